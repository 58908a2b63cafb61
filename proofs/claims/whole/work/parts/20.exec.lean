/-! ===== ClientGuarantees: execute ===== -/
def cg_cm (P : Nat → Int32) (l : Nat) (a b c d : Int32) : cg_O := if l = 103 then cg_oG P a b else if l = 114 then cg_oR P a b c else if l = 119 then cg_oW P a b c d else if l = 115 then cg_oY P a b else cg_oF P a
theorem cg_cm_I {P : Nat → Int32} {l : Nat} {a b c d : Int32} (h : cg_I P) : cg_I (cg_cm P l a b c d).2 := by
  unfold cg_cm
  split
  · exact cg_oG_I h
  split
  · exact cg_oR_I h
  split
  · exact cg_oW_I h
  split
  · exact cg_oY_I h
  · exact cg_oF_I h
theorem cg_cm_r {P : Nat → Int32} {l : Nat} {a b c d : Int32} (h : cg_I P) : cg_rs P (cg_cm P l a b c d) := by
  unfold cg_cm
  split
  · exact cg_oG_r h
  split
  · exact cg_oR_r h
  split
  · exact cg_oW_r h
  split
  · exact cg_oY_r h
  · exact cg_oF_r h
theorem cg_off2 : ∀ v : Nat, v < 128 → Op.lookupswitch.offset [(103, 41), (114, 55), (115, 92), (119, 72)] 106 (v : Int) = if v = 103 then 41 else if v = 114 then 55 else if v = 115 then 92 else if v = 119 then 72 else 106 := by decide +kernel
set_option maxRecDepth 100000 in
set_option maxHeartbeats 4000000 in
theorem sp_run {M : cg_M} {P : Nat → Int32} {i l : Nat} (hi : i < 34) (hl8 : l < 128) (hl : M 11 i = nI l) (hI : cg_I P) : cg_D yX3_runCommand wsX3_runCommand rmX3_runCommand [.inr (.inr (3, 0, 0, 0)), .inl (nI i)] (cg_sb M 0 P) (some (.inl ((cg_cm P l (M 12 (4 * i + 0)) (M 12 (4 * i + 1)) (M 12 (4 * i + 2)) (M 12 (4 * i + 3))).1))) (cg_sb M 0 (cg_cm P l (M 12 (4 * i + 0)) (M 12 (4 * i + 1)) (M 12 (4 * i + 2)) (M 12 (4 * i + 3))).2) := by
  rcases (show l = 103 ∨ l = 114 ∨ l = 119 ∨ l = 115 ∨ (¬ l = 103 ∧ ¬ l = 114 ∧ ¬ l = 115 ∧ ¬ l = 119) by omega) with rfl | rfl | rfl | rfl | ⟨h1, h2, h3, h4⟩
  · refine cg_S_of (cc := cX3_runCommand) (maxL := 3) (ret := (some .int)) (ls0 := [some (.inr (.inr (3, 0, 0, 0))), some (.inl (nI i)), none]) RX3 rfl (by decide) rfl rfl (Nat.le_of_ble_eq_true rfl) (fun E C X => ?_)
    refine cr_aload_n (pc := 0) C dX3_runCommand_0 rfl ?_
    refine cr_getr (pc := 1) (c := 3) (k := 2) C (by first | rfl | assumption | (simp [cg_ok]; omega)) rfl (by decide) rfl inX3_runCommand_X3 flX3_runCommand_26 dX3_runCommand_1 ?_
    refine cr_getr (pc := 4) (c := 1) (k := 3) C (by first | rfl | assumption | (simp [cg_ok]; omega)) rfl (by decide) rfl inX3_runCommand_X1 flX3_runCommand_168 dX3_runCommand_4 ?_
    refine cr_iload_n (pc := 7) C dX3_runCommand_7 rfl ?_
    refine cr_aaload (pc := 8) C rfl (by first | rfl | assumption | (simp [cg_ok]; omega)) (by omega) (by first | decide | omega) dX3_runCommand_8 ?_
    refine cr_astore_n2 (pc := 9) C dX3_runCommand_9 (by decide) rfl ?_
    refine cr_aload_n (pc := 10) C dX3_runCommand_10 rfl ?_
    refine cr_getr (pc := 11) (c := 3) (k := 2) C (by first | rfl | assumption | (simp [cg_ok]; omega)) rfl (by decide) rfl inX3_runCommand_X3 flX3_runCommand_26 dX3_runCommand_11 ?_
    refine cr_getr (pc := 14) (c := 1) (k := 2) C (by first | rfl | assumption | (simp [cg_ok]; omega)) rfl (by decide) rfl inX3_runCommand_X1 flX3_runCommand_171 dX3_runCommand_14 ?_
    refine cr_iload_n (pc := 17) C dX3_runCommand_17 rfl ?_
    refine cr_iaload (pc := 18) C rfl (by first | rfl | assumption | (simp [cg_ok]; omega)) (by omega) (by first | decide | omega) dX3_runCommand_18 ?_
    rw [cg_sb_n (by decide)]
    rw [hl]
    refine cr_lookup (pc := 19) (tgt := 60) (off := 41) C dX3_runCommand_19 (by decide +kernel) (by decide) (by decide) ?_
    refine cr_aload_n (pc := 60) C dX3_runCommand_60 rfl ?_
    refine cr_getr (pc := 61) (c := 3) (k := 0) C (by first | rfl | assumption | (simp [cg_ok]; omega)) rfl (by decide) rfl inX3_runCommand_X3 flX3_runCommand_12 dX3_runCommand_61 ?_
    refine cr_aload_n (pc := 64) C dX3_runCommand_64 rfl ?_
    refine cr_iconst (pc := 65) (v := nI 0) C dX3_runCommand_65 (by decide) ?_
    refine cr_iaload (pc := 66) C rfl (by first | rfl | assumption | (simp [cg_ok]; omega)) (by decide) (by first | decide | omega) dX3_runCommand_66 ?_
    rw [cg_sb_n (by decide)]
    refine cr_aload_n (pc := 67) C dX3_runCommand_67 rfl ?_
    refine cr_iconst (pc := 68) (v := nI 1) C dX3_runCommand_68 (by decide) ?_
    refine cr_iaload (pc := 69) C rfl (by first | rfl | assumption | (simp [cg_ok]; omega)) (by decide) (by first | decide | omega) dX3_runCommand_69 ?_
    rw [cg_sb_n (by decide)]
    refine cr_dV (pc := 70) C (sp_oG) rfl gX3_runCommand_X2_changeGuarantees rfl dX3_runCommand_70 (by first | rfl | assumption | (simp [cg_ok]; omega)) rfl hvX2_changeGuarantees rfl ⟨rfl, rfl, Nat.le_of_ble_eq_true rfl, Nat.le_of_ble_eq_true rfl⟩ (Nat.le_of_ble_eq_true rfl) rfl ?_
    refine cr_ireturn (pc := 73) C X dX3_runCommand_73 ?_
    exact ⟨rfl, rfl⟩
  · refine cg_S_of (cc := cX3_runCommand) (maxL := 3) (ret := (some .int)) (ls0 := [some (.inr (.inr (3, 0, 0, 0))), some (.inl (nI i)), none]) RX3 rfl (by decide) rfl rfl (Nat.le_of_ble_eq_true rfl) (fun E C X => ?_)
    refine cr_aload_n (pc := 0) C dX3_runCommand_0 rfl ?_
    refine cr_getr (pc := 1) (c := 3) (k := 2) C (by first | rfl | assumption | (simp [cg_ok]; omega)) rfl (by decide) rfl inX3_runCommand_X3 flX3_runCommand_26 dX3_runCommand_1 ?_
    refine cr_getr (pc := 4) (c := 1) (k := 3) C (by first | rfl | assumption | (simp [cg_ok]; omega)) rfl (by decide) rfl inX3_runCommand_X1 flX3_runCommand_168 dX3_runCommand_4 ?_
    refine cr_iload_n (pc := 7) C dX3_runCommand_7 rfl ?_
    refine cr_aaload (pc := 8) C rfl (by first | rfl | assumption | (simp [cg_ok]; omega)) (by omega) (by first | decide | omega) dX3_runCommand_8 ?_
    refine cr_astore_n2 (pc := 9) C dX3_runCommand_9 (by decide) rfl ?_
    refine cr_aload_n (pc := 10) C dX3_runCommand_10 rfl ?_
    refine cr_getr (pc := 11) (c := 3) (k := 2) C (by first | rfl | assumption | (simp [cg_ok]; omega)) rfl (by decide) rfl inX3_runCommand_X3 flX3_runCommand_26 dX3_runCommand_11 ?_
    refine cr_getr (pc := 14) (c := 1) (k := 2) C (by first | rfl | assumption | (simp [cg_ok]; omega)) rfl (by decide) rfl inX3_runCommand_X1 flX3_runCommand_171 dX3_runCommand_14 ?_
    refine cr_iload_n (pc := 17) C dX3_runCommand_17 rfl ?_
    refine cr_iaload (pc := 18) C rfl (by first | rfl | assumption | (simp [cg_ok]; omega)) (by omega) (by first | decide | omega) dX3_runCommand_18 ?_
    rw [cg_sb_n (by decide)]
    rw [hl]
    refine cr_lookup (pc := 19) (tgt := 74) (off := 55) C dX3_runCommand_19 (by decide +kernel) (by decide) (by decide) ?_
    refine cr_aload_n (pc := 74) C dX3_runCommand_74 rfl ?_
    refine cr_getr (pc := 75) (c := 3) (k := 0) C (by first | rfl | assumption | (simp [cg_ok]; omega)) rfl (by decide) rfl inX3_runCommand_X3 flX3_runCommand_12 dX3_runCommand_75 ?_
    refine cr_aload_n (pc := 78) C dX3_runCommand_78 rfl ?_
    refine cr_iconst (pc := 79) (v := nI 0) C dX3_runCommand_79 (by decide) ?_
    refine cr_iaload (pc := 80) C rfl (by first | rfl | assumption | (simp [cg_ok]; omega)) (by decide) (by first | decide | omega) dX3_runCommand_80 ?_
    rw [cg_sb_n (by decide)]
    refine cr_aload_n (pc := 81) C dX3_runCommand_81 rfl ?_
    refine cr_iconst (pc := 82) (v := nI 1) C dX3_runCommand_82 (by decide) ?_
    refine cr_iaload (pc := 83) C rfl (by first | rfl | assumption | (simp [cg_ok]; omega)) (by decide) (by first | decide | omega) dX3_runCommand_83 ?_
    rw [cg_sb_n (by decide)]
    refine cr_aload_n (pc := 84) C dX3_runCommand_84 rfl ?_
    refine cr_iconst (pc := 85) (v := nI 2) C dX3_runCommand_85 (by decide) ?_
    refine cr_iaload (pc := 86) C rfl (by first | rfl | assumption | (simp [cg_ok]; omega)) (by decide) (by first | decide | omega) dX3_runCommand_86 ?_
    rw [cg_sb_n (by decide)]
    refine cr_dV (pc := 87) C (sp_oR hI) rfl gX3_runCommand_X2_readKey rfl dX3_runCommand_87 (by first | rfl | assumption | (simp [cg_ok]; omega)) rfl hvX2_readKey rfl ⟨rfl, rfl, Nat.le_of_ble_eq_true rfl, Nat.le_of_ble_eq_true rfl⟩ (Nat.le_of_ble_eq_true rfl) rfl ?_
    refine cr_ireturn (pc := 90) C X dX3_runCommand_90 ?_
    exact ⟨rfl, rfl⟩
  · refine cg_S_of (cc := cX3_runCommand) (maxL := 3) (ret := (some .int)) (ls0 := [some (.inr (.inr (3, 0, 0, 0))), some (.inl (nI i)), none]) RX3 rfl (by decide) rfl rfl (Nat.le_of_ble_eq_true rfl) (fun E C X => ?_)
    refine cr_aload_n (pc := 0) C dX3_runCommand_0 rfl ?_
    refine cr_getr (pc := 1) (c := 3) (k := 2) C (by first | rfl | assumption | (simp [cg_ok]; omega)) rfl (by decide) rfl inX3_runCommand_X3 flX3_runCommand_26 dX3_runCommand_1 ?_
    refine cr_getr (pc := 4) (c := 1) (k := 3) C (by first | rfl | assumption | (simp [cg_ok]; omega)) rfl (by decide) rfl inX3_runCommand_X1 flX3_runCommand_168 dX3_runCommand_4 ?_
    refine cr_iload_n (pc := 7) C dX3_runCommand_7 rfl ?_
    refine cr_aaload (pc := 8) C rfl (by first | rfl | assumption | (simp [cg_ok]; omega)) (by omega) (by first | decide | omega) dX3_runCommand_8 ?_
    refine cr_astore_n2 (pc := 9) C dX3_runCommand_9 (by decide) rfl ?_
    refine cr_aload_n (pc := 10) C dX3_runCommand_10 rfl ?_
    refine cr_getr (pc := 11) (c := 3) (k := 2) C (by first | rfl | assumption | (simp [cg_ok]; omega)) rfl (by decide) rfl inX3_runCommand_X3 flX3_runCommand_26 dX3_runCommand_11 ?_
    refine cr_getr (pc := 14) (c := 1) (k := 2) C (by first | rfl | assumption | (simp [cg_ok]; omega)) rfl (by decide) rfl inX3_runCommand_X1 flX3_runCommand_171 dX3_runCommand_14 ?_
    refine cr_iload_n (pc := 17) C dX3_runCommand_17 rfl ?_
    refine cr_iaload (pc := 18) C rfl (by first | rfl | assumption | (simp [cg_ok]; omega)) (by omega) (by first | decide | omega) dX3_runCommand_18 ?_
    rw [cg_sb_n (by decide)]
    rw [hl]
    refine cr_lookup (pc := 19) (tgt := 91) (off := 72) C dX3_runCommand_19 (by decide +kernel) (by decide) (by decide) ?_
    refine cr_aload_n (pc := 91) C dX3_runCommand_91 rfl ?_
    refine cr_getr (pc := 92) (c := 3) (k := 0) C (by first | rfl | assumption | (simp [cg_ok]; omega)) rfl (by decide) rfl inX3_runCommand_X3 flX3_runCommand_12 dX3_runCommand_92 ?_
    refine cr_aload_n (pc := 95) C dX3_runCommand_95 rfl ?_
    refine cr_iconst (pc := 96) (v := nI 0) C dX3_runCommand_96 (by decide) ?_
    refine cr_iaload (pc := 97) C rfl (by first | rfl | assumption | (simp [cg_ok]; omega)) (by decide) (by first | decide | omega) dX3_runCommand_97 ?_
    rw [cg_sb_n (by decide)]
    refine cr_aload_n (pc := 98) C dX3_runCommand_98 rfl ?_
    refine cr_iconst (pc := 99) (v := nI 1) C dX3_runCommand_99 (by decide) ?_
    refine cr_iaload (pc := 100) C rfl (by first | rfl | assumption | (simp [cg_ok]; omega)) (by decide) (by first | decide | omega) dX3_runCommand_100 ?_
    rw [cg_sb_n (by decide)]
    refine cr_aload_n (pc := 101) C dX3_runCommand_101 rfl ?_
    refine cr_iconst (pc := 102) (v := nI 2) C dX3_runCommand_102 (by decide) ?_
    refine cr_iaload (pc := 103) C rfl (by first | rfl | assumption | (simp [cg_ok]; omega)) (by decide) (by first | decide | omega) dX3_runCommand_103 ?_
    rw [cg_sb_n (by decide)]
    refine cr_aload_n (pc := 104) C dX3_runCommand_104 rfl ?_
    refine cr_iconst (pc := 105) (v := nI 3) C dX3_runCommand_105 (by decide) ?_
    refine cr_iaload (pc := 106) C rfl (by first | rfl | assumption | (simp [cg_ok]; omega)) (by decide) (by first | decide | omega) dX3_runCommand_106 ?_
    rw [cg_sb_n (by decide)]
    refine cr_dV (pc := 107) C (sp_oW hI) rfl gX3_runCommand_X2_writeKey rfl dX3_runCommand_107 (by first | rfl | assumption | (simp [cg_ok]; omega)) rfl hvX2_writeKey rfl ⟨rfl, rfl, Nat.le_of_ble_eq_true rfl, Nat.le_of_ble_eq_true rfl⟩ (Nat.le_of_ble_eq_true rfl) rfl ?_
    refine cr_ireturn (pc := 110) C X dX3_runCommand_110 ?_
    exact ⟨rfl, rfl⟩
  · refine cg_S_of (cc := cX3_runCommand) (maxL := 3) (ret := (some .int)) (ls0 := [some (.inr (.inr (3, 0, 0, 0))), some (.inl (nI i)), none]) RX3 rfl (by decide) rfl rfl (Nat.le_of_ble_eq_true rfl) (fun E C X => ?_)
    refine cr_aload_n (pc := 0) C dX3_runCommand_0 rfl ?_
    refine cr_getr (pc := 1) (c := 3) (k := 2) C (by first | rfl | assumption | (simp [cg_ok]; omega)) rfl (by decide) rfl inX3_runCommand_X3 flX3_runCommand_26 dX3_runCommand_1 ?_
    refine cr_getr (pc := 4) (c := 1) (k := 3) C (by first | rfl | assumption | (simp [cg_ok]; omega)) rfl (by decide) rfl inX3_runCommand_X1 flX3_runCommand_168 dX3_runCommand_4 ?_
    refine cr_iload_n (pc := 7) C dX3_runCommand_7 rfl ?_
    refine cr_aaload (pc := 8) C rfl (by first | rfl | assumption | (simp [cg_ok]; omega)) (by omega) (by first | decide | omega) dX3_runCommand_8 ?_
    refine cr_astore_n2 (pc := 9) C dX3_runCommand_9 (by decide) rfl ?_
    refine cr_aload_n (pc := 10) C dX3_runCommand_10 rfl ?_
    refine cr_getr (pc := 11) (c := 3) (k := 2) C (by first | rfl | assumption | (simp [cg_ok]; omega)) rfl (by decide) rfl inX3_runCommand_X3 flX3_runCommand_26 dX3_runCommand_11 ?_
    refine cr_getr (pc := 14) (c := 1) (k := 2) C (by first | rfl | assumption | (simp [cg_ok]; omega)) rfl (by decide) rfl inX3_runCommand_X1 flX3_runCommand_171 dX3_runCommand_14 ?_
    refine cr_iload_n (pc := 17) C dX3_runCommand_17 rfl ?_
    refine cr_iaload (pc := 18) C rfl (by first | rfl | assumption | (simp [cg_ok]; omega)) (by omega) (by first | decide | omega) dX3_runCommand_18 ?_
    rw [cg_sb_n (by decide)]
    rw [hl]
    refine cr_lookup (pc := 19) (tgt := 111) (off := 92) C dX3_runCommand_19 (by decide +kernel) (by decide) (by decide) ?_
    refine cr_aload_n (pc := 111) C dX3_runCommand_111 rfl ?_
    refine cr_getr (pc := 112) (c := 3) (k := 0) C (by first | rfl | assumption | (simp [cg_ok]; omega)) rfl (by decide) rfl inX3_runCommand_X3 flX3_runCommand_12 dX3_runCommand_112 ?_
    refine cr_aload_n (pc := 115) C dX3_runCommand_115 rfl ?_
    refine cr_iconst (pc := 116) (v := nI 0) C dX3_runCommand_116 (by decide) ?_
    refine cr_iaload (pc := 117) C rfl (by first | rfl | assumption | (simp [cg_ok]; omega)) (by decide) (by first | decide | omega) dX3_runCommand_117 ?_
    rw [cg_sb_n (by decide)]
    refine cr_aload_n (pc := 118) C dX3_runCommand_118 rfl ?_
    refine cr_iconst (pc := 119) (v := nI 1) C dX3_runCommand_119 (by decide) ?_
    refine cr_iaload (pc := 120) C rfl (by first | rfl | assumption | (simp [cg_ok]; omega)) (by decide) (by first | decide | omega) dX3_runCommand_120 ?_
    rw [cg_sb_n (by decide)]
    refine cr_dV (pc := 121) C (sp_oY hI) rfl gX3_runCommand_X2_synchronize rfl dX3_runCommand_121 (by first | rfl | assumption | (simp [cg_ok]; omega)) rfl hvX2_synchronize rfl ⟨rfl, rfl, Nat.le_of_ble_eq_true rfl, Nat.le_of_ble_eq_true rfl⟩ (Nat.le_of_ble_eq_true rfl) rfl ?_
    refine cr_ireturn (pc := 124) C X dX3_runCommand_124 ?_
    exact ⟨rfl, rfl⟩
  · refine cg_S_of (cc := cX3_runCommand) (maxL := 3) (ret := (some .int)) (ls0 := [some (.inr (.inr (3, 0, 0, 0))), some (.inl (nI i)), none]) RX3 rfl (by decide) rfl rfl (Nat.le_of_ble_eq_true rfl) (fun E C X => ?_)
    refine cr_aload_n (pc := 0) C dX3_runCommand_0 rfl ?_
    refine cr_getr (pc := 1) (c := 3) (k := 2) C (by first | rfl | assumption | (simp [cg_ok]; omega)) rfl (by decide) rfl inX3_runCommand_X3 flX3_runCommand_26 dX3_runCommand_1 ?_
    refine cr_getr (pc := 4) (c := 1) (k := 3) C (by first | rfl | assumption | (simp [cg_ok]; omega)) rfl (by decide) rfl inX3_runCommand_X1 flX3_runCommand_168 dX3_runCommand_4 ?_
    refine cr_iload_n (pc := 7) C dX3_runCommand_7 rfl ?_
    refine cr_aaload (pc := 8) C rfl (by first | rfl | assumption | (simp [cg_ok]; omega)) (by omega) (by first | decide | omega) dX3_runCommand_8 ?_
    refine cr_astore_n2 (pc := 9) C dX3_runCommand_9 (by decide) rfl ?_
    refine cr_aload_n (pc := 10) C dX3_runCommand_10 rfl ?_
    refine cr_getr (pc := 11) (c := 3) (k := 2) C (by first | rfl | assumption | (simp [cg_ok]; omega)) rfl (by decide) rfl inX3_runCommand_X3 flX3_runCommand_26 dX3_runCommand_11 ?_
    refine cr_getr (pc := 14) (c := 1) (k := 2) C (by first | rfl | assumption | (simp [cg_ok]; omega)) rfl (by decide) rfl inX3_runCommand_X1 flX3_runCommand_171 dX3_runCommand_14 ?_
    refine cr_iload_n (pc := 17) C dX3_runCommand_17 rfl ?_
    refine cr_iaload (pc := 18) C rfl (by first | rfl | assumption | (simp [cg_ok]; omega)) (by omega) (by first | decide | omega) dX3_runCommand_18 ?_
    rw [cg_sb_n (by decide)]
    rw [hl]
    refine cr_lookup (pc := 19) (tgt := 125) (off := 106) C dX3_runCommand_19 (by decide +kernel) (by rw [nI_toInt (by omega)]; exact (cg_off2 l hl8).trans (by simp [h1, h2, h3, h4])) (by decide) ?_
    refine cr_aload_n (pc := 125) C dX3_runCommand_125 rfl ?_
    refine cr_getr (pc := 126) (c := 3) (k := 0) C (by first | rfl | assumption | (simp [cg_ok]; omega)) rfl (by decide) rfl inX3_runCommand_X3 flX3_runCommand_12 dX3_runCommand_126 ?_
    refine cr_aload_n (pc := 129) C dX3_runCommand_129 rfl ?_
    refine cr_iconst (pc := 130) (v := nI 0) C dX3_runCommand_130 (by decide) ?_
    refine cr_iaload (pc := 131) C rfl (by first | rfl | assumption | (simp [cg_ok]; omega)) (by decide) (by first | decide | omega) dX3_runCommand_131 ?_
    rw [cg_sb_n (by decide)]
    refine cr_dV (pc := 132) C (sp_oF) rfl gX3_runCommand_X2_clearVectors rfl dX3_runCommand_132 (by first | rfl | assumption | (simp [cg_ok]; omega)) rfl hvX2_clearVectors rfl ⟨rfl, rfl, Nat.le_of_ble_eq_true rfl, Nat.le_of_ble_eq_true rfl⟩ (Nat.le_of_ble_eq_true rfl) rfl ?_
    refine cr_ireturn (pc := 135) C X dX3_runCommand_135 ?_
    exact ⟨by simp [cg_cm, h1, h2, h3, h4], by simp [cg_cm, h1, h2, h3, h4]⟩
/-- the letters of complete commands are letters -/
def cg_Kl (q : cg_K) : Prop := (∀ j, j < q.1 → ∃ l, l < 128 ∧ q.2.2.2.2.1 j = nI l) ∧ (q.2.1 = true → ∃ l, l < 128 ∧ q.2.2.2.2.1 q.1 = nI l)
theorem cg_sq_L {v : Nat} {q q' : cg_K} (hv : v < 128) (h : cg_Kl q) (e : cg_sq v q = some q') : cg_Kl q' := by
  obtain ⟨k, c, nb, d, Lt, Nm⟩ := q
  obtain ⟨h1, h2⟩ := h
  unfold cg_sq cg_st at e
  dsimp only at e h1 h2
  split at e
  · obtain rfl := Option.some.inj e
    exact ⟨h1, h2⟩
  · split at e
    · split at e
      · cases e
      · obtain rfl := Option.some.inj e
        refine ⟨fun j hj => ?_, fun _ => ⟨v, hv, cg_us _ _ _⟩⟩
        dsimp only at hj ⊢
        rw [cg_un (by omega)]
        exact h1 j hj
    · rename_i hc
      have hc : c = true := by simpa using hc
      obtain ⟨l, hl, hL⟩ := h2 hc
      split at e
      · split at e
        · cases e
        · obtain rfl := Option.some.inj e
          refine ⟨fun j hj => ?_, fun z => by cases z⟩
          dsimp only at hj ⊢
          by_cases hj2 : j < k
          · exact h1 j hj2
          · have : j = k := by omega
            subst this
            exact ⟨l, hl, hL⟩
      · split at e
        · split at e
          · cases e
          · split at e
            · split at e
              · cases e
              · obtain rfl := Option.some.inj e
                exact ⟨h1, fun _ => ⟨l, hl, hL⟩⟩
            · obtain rfl := Option.some.inj e
              exact ⟨h1, fun _ => ⟨l, hl, hL⟩⟩
        · cases e
theorem cg_pr_K {B : Nat → Int32} {t : Nat → Nat} {L : Nat} (hT : cg_tx0 B t L) : ∀ (m p : Nat) (q : cg_K), p + m = L → cg_Kq p q → cg_Kl q → (∃ p2, p2 ≤ L ∧ cg_Kq p2 (cg_pr t m p q).2) ∧ cg_Kl (cg_pr t m p q).2
  | 0, p, q, hp, h1, h2 => ⟨⟨p, by omega, h1⟩, h2⟩
  | m + 1, p, q, hp, h1, h2 => by
    obtain ⟨g1, g2⟩ := hT.2 p (by omega)
    have := hT.1
    cases e : cg_sq (t p) q with
    | none => rw [cg_pr_n e]; exact ⟨⟨p, by omega, h1⟩, h2⟩
    | some q' => rw [cg_pr_s e]; exact cg_pr_K hT m (p + 1) q' (by omega) (cg_sq_K (by omega) g1 h1 e) (cg_sq_L g1 h2 e)
/-- commands i, i + 1 ..: where it stops, if so; how many were not skipped; the state -/
def cg_xs (Lt Nm : Nat → Int32) : Nat → Nat → Nat → (Nat → Int32) → Option Nat × Nat × (Nat → Int32)
  | 0, _, n, P => (none, n, P)
  | m + 1, i, n, P => if (cg_cm P (cg_ix (Lt i)) (Nm (4 * i + 0)) (Nm (4 * i + 1)) (Nm (4 * i + 2)) (Nm (4 * i + 3))).1 = -2 ∨ (cg_cm P (cg_ix (Lt i)) (Nm (4 * i + 0)) (Nm (4 * i + 1)) (Nm (4 * i + 2)) (Nm (4 * i + 3))).1 = -4 then (some i, n, (cg_cm P (cg_ix (Lt i)) (Nm (4 * i + 0)) (Nm (4 * i + 1)) (Nm (4 * i + 2)) (Nm (4 * i + 3))).2)
    else cg_xs Lt Nm m (i + 1) (if (cg_cm P (cg_ix (Lt i)) (Nm (4 * i + 0)) (Nm (4 * i + 1)) (Nm (4 * i + 2)) (Nm (4 * i + 3))).1 = -3 then n else n + 1) (cg_cm P (cg_ix (Lt i)) (Nm (4 * i + 0)) (Nm (4 * i + 1)) (Nm (4 * i + 2)) (Nm (4 * i + 3))).2
def cg_rst (P0 P : Nat → Int32) : Nat → Int32 := fun x => if x < 345 then P0 x else P x
/-- the memory behind an execution -/
def cg_xm (M : cg_M) (f z : Nat) (r : Option Nat × Nat × (Nat → Int32)) : cg_M := match r.1 with
  | some _ => cg_do M f (cg_rst (M 0) r.2.2)
  | none => cg_keep (cg_do M f r.2.2) f z
def cg_xr (r : Option Nat × Nat × (Nat → Int32)) : Int32 := match r.1 with
  | some i => -1000 - nI i
  | none => nI r.2.1
theorem cg_do_rst {M : cg_M} {f : Nat} {P : Nat → Int32} (hf : f < 5) : cg_cy (cg_do M f P) (f + 1) 0 = cg_do M f (cg_rst (M 0) P) := by
  funext b x
  unfold cg_cy
  by_cases hb : b = 0
  · subst hb
    unfold cg_do
    rw [cg_sb_s, cg_sb_s, cg_sb_n (by omega)]
    unfold cg_rst cg_cy
    by_cases hx : x < 345
    · simp [hx]
    · simp [hx]
  · rw [if_neg (fun q => hb q.1)]
    unfold cg_do
    rw [cg_sb_n hb, cg_sb_n hb]
set_option maxRecDepth 100000 in
set_option maxHeartbeats 4000000 in
theorem sp_exec1 {M N : cg_M} {nb d L f z k : Nat} {t : Nat → Nat} {R : Option Nat × cg_K} {xr : Option Nat × Nat × (Nat → Int32)} (hl : M 13 1 = nI L) (hT : cg_tx0 (M 10) t L) (h6 : M 13 6 = nI nb) (h7 : M 13 7 = nI d) (hR : cg_pr t L 0 (0, false, nb, d, M 11, M 12) = R) (hpe : cg_pe L R = -1) (hf5 : f < 5) (hf : M 14 1 = nI f) (hz5 : z < 5) (hz : M 14 2 = nI z) (hN : N = cg_pq M R.2) (hI : cg_I (N 0)) (hk : N 13 4 = nI k) (hk34 : k < 34) (hLt : ∀ i, i < k → ∃ l, l < 128 ∧ N 11 i = nI l) (hxr : cg_xs (N 11) (N 12) k 0 0 (N 0) = xr) : cg_D yX3_execute wsX3_execute rmX3_execute [.inr (.inr (3, 0, 0, 0))] M (some (.inl (cg_xr xr))) (cg_xm N f z xr) := by
  refine cg_S_of (cc := cX3_execute) (maxL := 5) (ret := (some .int)) (ls0 := [some (.inr (.inr (3, 0, 0, 0))), none, none, none, none]) RX3 rfl (by decide) rfl rfl (Nat.le_of_ble_eq_true rfl) (fun E C X => ?_)
  have e14 : ∀ A, cg_do N f A 14 = M 14 := fun A => by rw [cg_do_14 hf5, hN]; exact cg_pm_n _ _ _ _ _ _ _ (by decide) (by decide) (by decide)
  have e11 : ∀ A, cg_do N f A 11 = N 11 := fun A => by unfold cg_do; rw [cg_sb_n (by decide), cg_cy_n (by omega)]
  have e12 : ∀ A, cg_do N f A 12 = N 12 := fun A => by unfold cg_do; rw [cg_sb_n (by decide), cg_cy_n (by omega)]
  have e13 : ∀ A, cg_do N f A 13 = N 13 := fun A => by unfold cg_do; rw [cg_sb_n (by decide), cg_cy_n (by omega)]
  have loop : ∀ (m i n : Nat) (A : Nat → Int32) (z4 : Option cg_V), i + m = k → cg_I A → cg_xs (N 11) (N 12) m i n A = xr → cg_W E (cg_do N f A) 33 [some (.inr (.inr (3, 0, 0, 0))), some (.inl (-1)), some (.inl (nI n)), some (.inl (nI i)), z4] [] := by
    intro m
    induction m with
    | zero =>
      intro i n A z4 hi hA hx
      have hik : i = k := by omega
      subst hik
      have hx2 : xr = (none, n, A) := hx.symm
      refine cr_iload_n (pc := 33) C dX3_execute_33 rfl ?_
      refine cr_aload_n (pc := 34) C dX3_execute_34 rfl ?_
      refine cr_getr (pc := 35) (c := 3) (k := 2) C (by first | rfl | assumption | (simp [cg_ok]; omega)) rfl (by decide) rfl inX3_execute_X3 flX3_execute_26 dX3_execute_35 ?_
      refine cr_geti (pc := 38) (c := 1) (k := 4) C (by first | rfl | assumption | (simp [cg_ok]; omega)) rfl (by decide) rfl rfl inX3_execute_X1 flX3_execute_129 dX3_execute_38 ?_
      rw [e13, hk]
      refine cr_icmp_ge_t (pc := 41) (tgt := 98) C dX3_execute_41 (by decide) (Int32.le_refl _) ?_
      refine cr_aload_n (pc := 98) C dX3_execute_98 rfl ?_
      refine cr_getr (pc := 99) (c := 3) (k := 1) C (by first | rfl | assumption | (simp [cg_ok]; omega)) rfl (by decide) rfl inX3_execute_X3 flX3_execute_19 dX3_execute_99 ?_
      refine cr_dV (pc := 102) C (sp_keep hf5 (by rw [e14]; exact hf) hz5 (by rw [e14]; exact hz)) rfl gX3_execute_X0_keepPrepared rfl dX3_execute_102 (by first | rfl | assumption | (simp [cg_ok]; omega)) rfl hvX0_keepPrepared rfl ⟨rfl, rfl, Nat.le_of_ble_eq_true rfl, Nat.le_of_ble_eq_true rfl⟩ (Nat.le_of_ble_eq_true rfl) rfl ?_
      refine cr_iload_n (pc := 105) C dX3_execute_105 rfl ?_
      refine cr_ireturn (pc := 106) C X dX3_execute_106 ?_
      exact ⟨by rw [hx2]; rfl, by rw [hx2]; rfl⟩
    | succ m ih =>
      intro i n A z4 hi hA hx
      obtain ⟨l, hl8, hl⟩ := hLt i (by omega)
      have hix : cg_ix (N 11 i) = l := by rw [hl]; exact cg_ix_n (by omega)
      obtain ⟨o, ho⟩ : ∃ o, o = cg_cm A l (N 12 (4 * i + 0)) (N 12 (4 * i + 1)) (N 12 (4 * i + 2)) (N 12 (4 * i + 3)) := ⟨_, rfl⟩
      have hoI : cg_I o.2 := by rw [ho]; exact cg_cm_I hA
      unfold cg_xs at hx
      rw [hix, ← ho] at hx
      by_cases h2 : o.1 = -2
      · rw [if_pos (Or.inl h2)] at hx
        refine cr_iload_n (pc := 33) C dX3_execute_33 rfl ?_
        refine cr_aload_n (pc := 34) C dX3_execute_34 rfl ?_
        refine cr_getr (pc := 35) (c := 3) (k := 2) C (by first | rfl | assumption | (simp [cg_ok]; omega)) rfl (by decide) rfl inX3_execute_X3 flX3_execute_26 dX3_execute_35 ?_
        refine cr_geti (pc := 38) (c := 1) (k := 4) C (by first | rfl | assumption | (simp [cg_ok]; omega)) rfl (by decide) rfl rfl inX3_execute_X1 flX3_execute_129 dX3_execute_38 ?_
        rw [e13, hk]
        refine cr_icmp_ge_f (pc := 41) (tgt := 98) C dX3_execute_41 (by decide) (nI_ge (by omega) (by omega)) ?_
        refine cr_aload_n (pc := 44) C dX3_execute_44 rfl ?_
        refine cr_iload_n (pc := 45) C dX3_execute_45 rfl ?_
        refine cr_dV (pc := 46) C (sp_run (P := A) (i := i) (l := l) (by omega) hl8 (by rw [cg_cy_n (by omega)]; exact hl) hA) rfl gX3_execute_X3_runCommand rfl dX3_execute_46 (by first | rfl | assumption | (simp [cg_ok]; omega)) rfl hvX3_runCommand rfl ⟨rfl, rfl, Nat.le_of_ble_eq_true rfl, Nat.le_of_ble_eq_true rfl⟩ (Nat.le_of_ble_eq_true rfl) rfl ?_
        rw [cg_cy_n (by omega), ← ho]
        refine cr_istore4 (pc := 49) C dX3_execute_49 (by decide) rfl ?_
        refine cr_iload (pc := 51) C dX3_execute_51 rfl ?_
        refine cr_bipush (pc := 53) (v := (-2)) C dX3_execute_53 (by decide) ?_
        refine cr_icmp_eq_t (pc := 55) (tgt := 65) C dX3_execute_55 (by decide) h2 ?_
        refine cr_aload_n (pc := 65) C dX3_execute_65 rfl ?_
        refine cr_getr (pc := 66) (c := 3) (k := 1) C (by first | rfl | assumption | (simp [cg_ok]; omega)) rfl (by decide) rfl inX3_execute_X3 flX3_execute_19 dX3_execute_66 ?_
        refine cr_aload_n (pc := 69) C dX3_execute_69 rfl ?_
        refine cr_getr (pc := 70) (c := 3) (k := 0) C (by first | rfl | assumption | (simp [cg_ok]; omega)) rfl (by decide) rfl inX3_execute_X3 flX3_execute_12 dX3_execute_70 ?_
        refine cr_dV (pc := 73) C (sp_restoreP hf5 (by show cg_do N f o.2 14 1 = _; rw [e14]; exact hf)) rfl gX3_execute_X0_restorePrepared rfl dX3_execute_73 (by first | rfl | assumption | (simp [cg_ok]; omega)) rfl hvX0_restorePrepared rfl ⟨rfl, rfl, Nat.le_of_ble_eq_true rfl, Nat.le_of_ble_eq_true rfl⟩ (Nat.le_of_ble_eq_true rfl) rfl ?_
        refine cr_sipush (pc := 76) (v := (-1000)) C dX3_execute_76 (by decide) ?_
        refine cr_iload_n (pc := 79) C dX3_execute_79 rfl ?_
        refine cr_isub (pc := 80) C dX3_execute_80 ?_
        refine cr_ireturn (pc := 81) C X dX3_execute_81 ?_
        exact ⟨by rw [← hx]; rfl, by rw [← hx]; exact cg_do_rst hf5⟩
      · by_cases h4 : o.1 = -4
        · rw [if_pos (Or.inr h4)] at hx
          refine cr_iload_n (pc := 33) C dX3_execute_33 rfl ?_
          refine cr_aload_n (pc := 34) C dX3_execute_34 rfl ?_
          refine cr_getr (pc := 35) (c := 3) (k := 2) C (by first | rfl | assumption | (simp [cg_ok]; omega)) rfl (by decide) rfl inX3_execute_X3 flX3_execute_26 dX3_execute_35 ?_
          refine cr_geti (pc := 38) (c := 1) (k := 4) C (by first | rfl | assumption | (simp [cg_ok]; omega)) rfl (by decide) rfl rfl inX3_execute_X1 flX3_execute_129 dX3_execute_38 ?_
          rw [e13, hk]
          refine cr_icmp_ge_f (pc := 41) (tgt := 98) C dX3_execute_41 (by decide) (nI_ge (by omega) (by omega)) ?_
          refine cr_aload_n (pc := 44) C dX3_execute_44 rfl ?_
          refine cr_iload_n (pc := 45) C dX3_execute_45 rfl ?_
          refine cr_dV (pc := 46) C (sp_run (P := A) (i := i) (l := l) (by omega) hl8 (by rw [cg_cy_n (by omega)]; exact hl) hA) rfl gX3_execute_X3_runCommand rfl dX3_execute_46 (by first | rfl | assumption | (simp [cg_ok]; omega)) rfl hvX3_runCommand rfl ⟨rfl, rfl, Nat.le_of_ble_eq_true rfl, Nat.le_of_ble_eq_true rfl⟩ (Nat.le_of_ble_eq_true rfl) rfl ?_
          rw [cg_cy_n (by omega), ← ho]
          refine cr_istore4 (pc := 49) C dX3_execute_49 (by decide) rfl ?_
          refine cr_iload (pc := 51) C dX3_execute_51 rfl ?_
          refine cr_bipush (pc := 53) (v := (-2)) C dX3_execute_53 (by decide) ?_
          refine cr_icmp_eq_f (pc := 55) (tgt := 65) C dX3_execute_55 (by decide) h2 ?_
          refine cr_iload (pc := 58) C dX3_execute_58 rfl ?_
          refine cr_bipush (pc := 60) (v := (-4)) C dX3_execute_60 (by decide) ?_
          refine cr_icmp_ne_f (pc := 62) (tgt := 82) C dX3_execute_62 (by decide) h4 ?_
          refine cr_aload_n (pc := 65) C dX3_execute_65 rfl ?_
          refine cr_getr (pc := 66) (c := 3) (k := 1) C (by first | rfl | assumption | (simp [cg_ok]; omega)) rfl (by decide) rfl inX3_execute_X3 flX3_execute_19 dX3_execute_66 ?_
          refine cr_aload_n (pc := 69) C dX3_execute_69 rfl ?_
          refine cr_getr (pc := 70) (c := 3) (k := 0) C (by first | rfl | assumption | (simp [cg_ok]; omega)) rfl (by decide) rfl inX3_execute_X3 flX3_execute_12 dX3_execute_70 ?_
          refine cr_dV (pc := 73) C (sp_restoreP hf5 (by show cg_do N f o.2 14 1 = _; rw [e14]; exact hf)) rfl gX3_execute_X0_restorePrepared rfl dX3_execute_73 (by first | rfl | assumption | (simp [cg_ok]; omega)) rfl hvX0_restorePrepared rfl ⟨rfl, rfl, Nat.le_of_ble_eq_true rfl, Nat.le_of_ble_eq_true rfl⟩ (Nat.le_of_ble_eq_true rfl) rfl ?_
          refine cr_sipush (pc := 76) (v := (-1000)) C dX3_execute_76 (by decide) ?_
          refine cr_iload_n (pc := 79) C dX3_execute_79 rfl ?_
          refine cr_isub (pc := 80) C dX3_execute_80 ?_
          refine cr_ireturn (pc := 81) C X dX3_execute_81 ?_
          exact ⟨by rw [← hx]; rfl, by rw [← hx]; exact cg_do_rst hf5⟩
        · rw [if_neg (fun q => q.elim h2 h4)] at hx
          by_cases h3 : o.1 = -3
          · rw [if_pos h3] at hx
            refine cr_iload_n (pc := 33) C dX3_execute_33 rfl ?_
            refine cr_aload_n (pc := 34) C dX3_execute_34 rfl ?_
            refine cr_getr (pc := 35) (c := 3) (k := 2) C (by first | rfl | assumption | (simp [cg_ok]; omega)) rfl (by decide) rfl inX3_execute_X3 flX3_execute_26 dX3_execute_35 ?_
            refine cr_geti (pc := 38) (c := 1) (k := 4) C (by first | rfl | assumption | (simp [cg_ok]; omega)) rfl (by decide) rfl rfl inX3_execute_X1 flX3_execute_129 dX3_execute_38 ?_
            rw [e13, hk]
            refine cr_icmp_ge_f (pc := 41) (tgt := 98) C dX3_execute_41 (by decide) (nI_ge (by omega) (by omega)) ?_
            refine cr_aload_n (pc := 44) C dX3_execute_44 rfl ?_
            refine cr_iload_n (pc := 45) C dX3_execute_45 rfl ?_
            refine cr_dV (pc := 46) C (sp_run (P := A) (i := i) (l := l) (by omega) hl8 (by rw [cg_cy_n (by omega)]; exact hl) hA) rfl gX3_execute_X3_runCommand rfl dX3_execute_46 (by first | rfl | assumption | (simp [cg_ok]; omega)) rfl hvX3_runCommand rfl ⟨rfl, rfl, Nat.le_of_ble_eq_true rfl, Nat.le_of_ble_eq_true rfl⟩ (Nat.le_of_ble_eq_true rfl) rfl ?_
            rw [cg_cy_n (by omega), ← ho]
            refine cr_istore4 (pc := 49) C dX3_execute_49 (by decide) rfl ?_
            refine cr_iload (pc := 51) C dX3_execute_51 rfl ?_
            refine cr_bipush (pc := 53) (v := (-2)) C dX3_execute_53 (by decide) ?_
            refine cr_icmp_eq_f (pc := 55) (tgt := 65) C dX3_execute_55 (by decide) h2 ?_
            refine cr_iload (pc := 58) C dX3_execute_58 rfl ?_
            refine cr_bipush (pc := 60) (v := (-4)) C dX3_execute_60 (by decide) ?_
            refine cr_icmp_ne_t (pc := 62) (tgt := 82) C dX3_execute_62 (by decide) h4 ?_
            refine cr_iload (pc := 82) C dX3_execute_82 rfl ?_
            refine cr_bipush (pc := 84) (v := (-3)) C dX3_execute_84 (by decide) ?_
            refine cr_icmp_eq_t (pc := 86) (tgt := 92) C dX3_execute_86 (by decide) h3 ?_
            refine cr_iinc3 (pc := 92) C dX3_execute_92 (cg_inc1 _) (by decide) rfl ?_
            refine cr_goto (pc := 95) (tgt := 33) C dX3_execute_95 (by decide) ?_
            exact ih (i + 1) n o.2 _ (by omega) hoI hx
          · rw [if_neg h3] at hx
            refine cr_iload_n (pc := 33) C dX3_execute_33 rfl ?_
            refine cr_aload_n (pc := 34) C dX3_execute_34 rfl ?_
            refine cr_getr (pc := 35) (c := 3) (k := 2) C (by first | rfl | assumption | (simp [cg_ok]; omega)) rfl (by decide) rfl inX3_execute_X3 flX3_execute_26 dX3_execute_35 ?_
            refine cr_geti (pc := 38) (c := 1) (k := 4) C (by first | rfl | assumption | (simp [cg_ok]; omega)) rfl (by decide) rfl rfl inX3_execute_X1 flX3_execute_129 dX3_execute_38 ?_
            rw [e13, hk]
            refine cr_icmp_ge_f (pc := 41) (tgt := 98) C dX3_execute_41 (by decide) (nI_ge (by omega) (by omega)) ?_
            refine cr_aload_n (pc := 44) C dX3_execute_44 rfl ?_
            refine cr_iload_n (pc := 45) C dX3_execute_45 rfl ?_
            refine cr_dV (pc := 46) C (sp_run (P := A) (i := i) (l := l) (by omega) hl8 (by rw [cg_cy_n (by omega)]; exact hl) hA) rfl gX3_execute_X3_runCommand rfl dX3_execute_46 (by first | rfl | assumption | (simp [cg_ok]; omega)) rfl hvX3_runCommand rfl ⟨rfl, rfl, Nat.le_of_ble_eq_true rfl, Nat.le_of_ble_eq_true rfl⟩ (Nat.le_of_ble_eq_true rfl) rfl ?_
            rw [cg_cy_n (by omega), ← ho]
            refine cr_istore4 (pc := 49) C dX3_execute_49 (by decide) rfl ?_
            refine cr_iload (pc := 51) C dX3_execute_51 rfl ?_
            refine cr_bipush (pc := 53) (v := (-2)) C dX3_execute_53 (by decide) ?_
            refine cr_icmp_eq_f (pc := 55) (tgt := 65) C dX3_execute_55 (by decide) h2 ?_
            refine cr_iload (pc := 58) C dX3_execute_58 rfl ?_
            refine cr_bipush (pc := 60) (v := (-4)) C dX3_execute_60 (by decide) ?_
            refine cr_icmp_ne_t (pc := 62) (tgt := 82) C dX3_execute_62 (by decide) h4 ?_
            refine cr_iload (pc := 82) C dX3_execute_82 rfl ?_
            refine cr_bipush (pc := 84) (v := (-3)) C dX3_execute_84 (by decide) ?_
            refine cr_icmp_eq_f (pc := 86) (tgt := 92) C dX3_execute_86 (by decide) h3 ?_
            refine cr_iinc2 (pc := 89) C dX3_execute_89 (cg_inc1 _) (by decide) rfl ?_
            refine cr_iinc3 (pc := 92) C dX3_execute_92 (cg_inc1 _) (by decide) rfl ?_
            refine cr_goto (pc := 95) (tgt := 33) C dX3_execute_95 (by decide) ?_
            exact ih (i + 1) (n + 1) o.2 _ (by omega) hoI hx
  refine cr_aload_n (pc := 0) C dX3_execute_0 rfl ?_
  refine cr_getr (pc := 1) (c := 3) (k := 2) C (by first | rfl | assumption | (simp [cg_ok]; omega)) rfl (by decide) rfl inX3_execute_X3 flX3_execute_26 dX3_execute_1 ?_
  refine cr_dV (pc := 4) C (sp_parse hl hT h6 h7 hR) rfl gX3_execute_X1_parse rfl dX3_execute_4 (by first | rfl | assumption | (simp [cg_ok]; omega)) rfl hvX1_parse rfl ⟨rfl, rfl, Nat.le_of_ble_eq_true rfl, Nat.le_of_ble_eq_true rfl⟩ (Nat.le_of_ble_eq_true rfl) rfl ?_
  rw [hpe, ← hN]
  refine cr_istore_n1 (pc := 7) C dX3_execute_7 (by decide) rfl ?_
  refine cr_iload_n (pc := 8) C dX3_execute_8 rfl ?_
  refine cr_iconst (pc := 9) (v := (-1)) C dX3_execute_9 (by decide) ?_
  refine cr_icmp_eq_t (pc := 10) (tgt := 18) C dX3_execute_10 (by decide) rfl ?_
  refine cr_aload_n (pc := 18) C dX3_execute_18 rfl ?_
  refine cr_getr (pc := 19) (c := 3) (k := 1) C (by first | rfl | assumption | (simp [cg_ok]; omega)) rfl (by decide) rfl inX3_execute_X3 flX3_execute_19 dX3_execute_19 ?_
  refine cr_aload_n (pc := 22) C dX3_execute_22 rfl ?_
  refine cr_getr (pc := 23) (c := 3) (k := 0) C (by first | rfl | assumption | (simp [cg_ok]; omega)) rfl (by decide) rfl inX3_execute_X3 flX3_execute_12 dX3_execute_23 ?_
  refine cr_dV (pc := 26) C (sp_prepare hf5 (by rw [show N 14 = M 14 from by rw [hN]; exact cg_pm_n _ _ _ _ _ _ _ (by decide) (by decide) (by decide)]; exact hf)) rfl gX3_execute_X0_prepare rfl dX3_execute_26 (by first | rfl | assumption | (simp [cg_ok]; omega)) rfl hvX0_prepare rfl ⟨rfl, rfl, Nat.le_of_ble_eq_true rfl, Nat.le_of_ble_eq_true rfl⟩ (Nat.le_of_ble_eq_true rfl) rfl ?_
  rw [cg_do_id]
  refine cr_iconst (pc := 29) (v := nI 0) C dX3_execute_29 (by decide) ?_
  refine cr_istore_n2 (pc := 30) C dX3_execute_30 (by decide) rfl ?_
  refine cr_iconst (pc := 31) (v := nI 0) C dX3_execute_31 (by decide) ?_
  refine cr_istore_n3 (pc := 32) C dX3_execute_32 (by decide) rfl ?_
  exact loop k 0 0 _ _ (by omega) hI hxr
set_option maxRecDepth 100000 in
set_option maxHeartbeats 4000000 in
theorem sp_exec0 {M : cg_M} {nb d L : Nat} {t : Nat → Nat} {R : Option Nat × cg_K} (hl : M 13 1 = nI L) (hT : cg_tx0 (M 10) t L) (h6 : M 13 6 = nI nb) (h7 : M 13 7 = nI d) (hR : cg_pr t L 0 (0, false, nb, d, M 11, M 12) = R) (hpe : ¬ cg_pe L R = -1) : cg_D yX3_execute wsX3_execute rmX3_execute [.inr (.inr (3, 0, 0, 0))] M (some (.inl (-10 - cg_pe L R))) (cg_pq M R.2) := by
  refine cg_S_of (cc := cX3_execute) (maxL := 5) (ret := (some .int)) (ls0 := [some (.inr (.inr (3, 0, 0, 0))), none, none, none, none]) RX3 rfl (by decide) rfl rfl (Nat.le_of_ble_eq_true rfl) (fun E C X => ?_)
  refine cr_aload_n (pc := 0) C dX3_execute_0 rfl ?_
  refine cr_getr (pc := 1) (c := 3) (k := 2) C (by first | rfl | assumption | (simp [cg_ok]; omega)) rfl (by decide) rfl inX3_execute_X3 flX3_execute_26 dX3_execute_1 ?_
  refine cr_dV (pc := 4) C (sp_parse hl hT h6 h7 hR) rfl gX3_execute_X1_parse rfl dX3_execute_4 (by first | rfl | assumption | (simp [cg_ok]; omega)) rfl hvX1_parse rfl ⟨rfl, rfl, Nat.le_of_ble_eq_true rfl, Nat.le_of_ble_eq_true rfl⟩ (Nat.le_of_ble_eq_true rfl) rfl ?_
  refine cr_istore_n1 (pc := 7) C dX3_execute_7 (by decide) rfl ?_
  refine cr_iload_n (pc := 8) C dX3_execute_8 rfl ?_
  refine cr_iconst (pc := 9) (v := (-1)) C dX3_execute_9 (by decide) ?_
  refine cr_icmp_eq_f (pc := 10) (tgt := 18) C dX3_execute_10 (by decide) hpe ?_
  refine cr_bipush (pc := 13) (v := (-10)) C dX3_execute_13 (by decide) ?_
  refine cr_iload_n (pc := 15) C dX3_execute_15 rfl ?_
  refine cr_isub (pc := 16) C dX3_execute_16 ?_
  refine cr_ireturn (pc := 17) C X dX3_execute_17 ?_
  exact ⟨rfl, rfl⟩
