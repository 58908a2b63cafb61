/-! ===== the reference: the operations ===== -/
set_option maxRecDepth 100000 in
set_option maxHeartbeats 4000000 in
theorem sm_valueAt {M : cg_M} {P : Nat → Int32} {r k n : Nat} (hr : r < 3) (hI : cg_Iw P n) : cg_D yX4_valueAt wsX4_valueAt rmX4_valueAt [.inr (.inr (4, 0, 0, 0)), .inl (nI r), .inl (nI k)] (cg_sb M 20 P) (some (.inl (cg_vl P r k n))) (cg_sb M 20 P) := by
  refine cg_S_of (cc := cX4_valueAt) (maxL := 7) (ret := (some .int)) (ls0 := [some (.inr (.inr (4, 0, 0, 0))), some (.inl (nI r)), some (.inl (nI k)), none, none, none, none]) RX4 rfl (by decide) rfl rfl (Nat.le_of_ble_eq_true rfl) (fun E C X => ?_)
  have loop : ∀ (m w : Nat) (z5 z6 : Option cg_V), w + m = n → cg_W E (cg_sb M 20 P) 5 [some (.inr (.inr (4, 0, 0, 0))), some (.inl (nI r)), some (.inl (nI k)), some (.inl (cg_eo (cg_lt P r k w))), some (.inl (nI w)), z5, z6] [] := by
    intro m
    induction m with
    | zero =>
      intro w z5 z6 hw
      have hwn : w = n := by omega
      subst hwn
      cases hl : cg_lt P r k w with
      | none =>
        refine cr_iload (pc := 5) C dX4_valueAt_5 rfl ?_
        refine cr_aload_n (pc := 7) C dX4_valueAt_7 rfl ?_
        refine cr_getr (pc := 8) (c := 4) (k := 0) C (by first | rfl | assumption | (simp [cg_ok]; omega)) rfl (by decide) rfl inX4_valueAt_X4 flX4_valueAt_7 dX4_valueAt_8 ?_
        refine cr_bipush (pc := 11) (v := nI 12) C dX4_valueAt_11 (by decide) ?_
        refine cr_iaload (pc := 13) C rfl (by first | rfl | assumption | (simp [cg_ok]; omega)) (by decide) (by first | decide | omega) dX4_valueAt_13 ?_
        rw [cg_sb_s]
        rw [hI.2.1]
        refine cr_icmp_ge_t (pc := 14) (tgt := 103) C dX4_valueAt_14 (by decide) (Int32.le_refl _) ?_
        refine cr_iload_n (pc := 103) C dX4_valueAt_103 rfl ?_
        refine cr_iconst (pc := 104) (v := (-1)) C dX4_valueAt_104 (by decide) ?_
        refine cr_icmp_ne_f (pc := 105) (tgt := 113) C dX4_valueAt_105 (by decide) rfl ?_
        refine cr_bipush (pc := 108) (v := nI 100) C dX4_valueAt_108 (by decide) ?_
        refine cr_goto (pc := 110) (tgt := 126) C dX4_valueAt_110 (by decide) ?_
        refine cr_ireturn (pc := 126) C X dX4_valueAt_126 ?_
        exact ⟨by unfold cg_vl; rw [hl]; rfl, rfl⟩
      | some l =>
        have hl60 : l < 60 := by have := cg_lt_lt hl; have := hI.1; omega
        refine cr_iload (pc := 5) C dX4_valueAt_5 rfl ?_
        refine cr_aload_n (pc := 7) C dX4_valueAt_7 rfl ?_
        refine cr_getr (pc := 8) (c := 4) (k := 0) C (by first | rfl | assumption | (simp [cg_ok]; omega)) rfl (by decide) rfl inX4_valueAt_X4 flX4_valueAt_7 dX4_valueAt_8 ?_
        refine cr_bipush (pc := 11) (v := nI 12) C dX4_valueAt_11 (by decide) ?_
        refine cr_iaload (pc := 13) C rfl (by first | rfl | assumption | (simp [cg_ok]; omega)) (by decide) (by first | decide | omega) dX4_valueAt_13 ?_
        rw [cg_sb_s]
        rw [hI.2.1]
        refine cr_icmp_ge_t (pc := 14) (tgt := 103) C dX4_valueAt_14 (by decide) (Int32.le_refl _) ?_
        refine cr_iload_n (pc := 103) C dX4_valueAt_103 rfl ?_
        refine cr_iconst (pc := 104) (v := (-1)) C dX4_valueAt_104 (by decide) ?_
        refine cr_icmp_ne_t (pc := 105) (tgt := 113) C dX4_valueAt_105 (by decide) (cg_nm1 hl60) ?_
        refine cr_aload_n (pc := 113) C dX4_valueAt_113 rfl ?_
        refine cr_getr (pc := 114) (c := 4) (k := 0) C (by first | rfl | assumption | (simp [cg_ok]; omega)) rfl (by decide) rfl inX4_valueAt_X4 flX4_valueAt_7 dX4_valueAt_114 ?_
        refine cr_bipush (pc := 117) (v := nI 13) C dX4_valueAt_117 (by decide) ?_
        refine cr_iconst (pc := 119) (v := nI 5) C dX4_valueAt_119 (by decide) ?_
        refine cr_iload_n (pc := 120) C dX4_valueAt_120 rfl ?_
        show cg_W E _ _ _ (.inl (nI l) :: _)
        refine cr_imul_n (pc := 121) C dX4_valueAt_121 ?_
        refine cr_iadd_n (pc := 122) C dX4_valueAt_122 ?_
        refine cr_iconst (pc := 123) (v := nI 3) C dX4_valueAt_123 (by decide) ?_
        refine cr_iadd_n (pc := 124) C dX4_valueAt_124 ?_
        rw [show 13 + 5 * l + 3 = 16 + 5 * l by omega]
        refine cr_iaload (pc := 125) C rfl (by first | rfl | assumption | (simp [cg_ok]; omega)) (by omega) (by first | decide | omega) dX4_valueAt_125 ?_
        rw [cg_sb_s]
        refine cr_ireturn (pc := 126) C X dX4_valueAt_126 ?_
        exact ⟨by unfold cg_vl; rw [hl]; rfl, rfl⟩
    | succ m ih =>
      intro w z5 z6 hw
      have hlt : w < n := by omega
      have hn60 := hI.1
      obtain ⟨o, ho, ho2⟩ := hI.2.2 w hlt
      have hkq : cg_kn P r w = decide (P (14 + 5 * w) ≤ P (3 * r + o)) := by unfold cg_kn; rw [ho2, cg_clamp (by omega)]
      cases hkn : cg_kn P r w
      · have hkd : ¬ P (14 + 5 * w) ≤ P (3 * r + o) := by rw [hkq] at hkn; exact of_decide_eq_false hkn
        refine cr_iload (pc := 5) C dX4_valueAt_5 rfl ?_
        refine cr_aload_n (pc := 7) C dX4_valueAt_7 rfl ?_
        refine cr_getr (pc := 8) (c := 4) (k := 0) C (by first | rfl | assumption | (simp [cg_ok]; omega)) rfl (by decide) rfl inX4_valueAt_X4 flX4_valueAt_7 dX4_valueAt_8 ?_
        refine cr_bipush (pc := 11) (v := nI 12) C dX4_valueAt_11 (by decide) ?_
        refine cr_iaload (pc := 13) C rfl (by first | rfl | assumption | (simp [cg_ok]; omega)) (by decide) (by first | decide | omega) dX4_valueAt_13 ?_
        rw [cg_sb_s]
        rw [hI.2.1]
        refine cr_icmp_ge_f (pc := 14) (tgt := 103) C dX4_valueAt_14 (by decide) (nI_ge hlt (by omega)) ?_
        refine cr_bipush (pc := 17) (v := nI 13) C dX4_valueAt_17 (by decide) ?_
        refine cr_iconst (pc := 19) (v := nI 5) C dX4_valueAt_19 (by decide) ?_
        refine cr_iload (pc := 20) C dX4_valueAt_20 rfl ?_
        refine cr_imul_n (pc := 22) C dX4_valueAt_22 ?_
        refine cr_iadd_n (pc := 23) C dX4_valueAt_23 ?_
        refine cr_istore5 (pc := 24) C dX4_valueAt_24 (by decide) rfl ?_
        refine cr_aload_n (pc := 26) C dX4_valueAt_26 rfl ?_
        refine cr_getr (pc := 27) (c := 4) (k := 0) C (by first | rfl | assumption | (simp [cg_ok]; omega)) rfl (by decide) rfl inX4_valueAt_X4 flX4_valueAt_7 dX4_valueAt_27 ?_
        refine cr_iload (pc := 30) C dX4_valueAt_30 rfl ?_
        refine cr_iconst (pc := 32) (v := nI 1) C dX4_valueAt_32 (by decide) ?_
        refine cr_iadd_n (pc := 33) C dX4_valueAt_33 ?_
        rw [show 13 + 5 * w + 1 = 14 + 5 * w by omega]
        refine cr_iaload (pc := 34) C rfl (by first | rfl | assumption | (simp [cg_ok]; omega)) (by omega) (by first | decide | omega) dX4_valueAt_34 ?_
        rw [cg_sb_s]
        refine cr_aload_n (pc := 35) C dX4_valueAt_35 rfl ?_
        refine cr_getr (pc := 36) (c := 4) (k := 0) C (by first | rfl | assumption | (simp [cg_ok]; omega)) rfl (by decide) rfl inX4_valueAt_X4 flX4_valueAt_7 dX4_valueAt_36 ?_
        refine cr_iconst (pc := 39) (v := nI 3) C dX4_valueAt_39 (by decide) ?_
        refine cr_iload_n (pc := 40) C dX4_valueAt_40 rfl ?_
        refine cr_imul_n (pc := 41) C dX4_valueAt_41 ?_
        refine cr_aload_n (pc := 42) C dX4_valueAt_42 rfl ?_
        refine cr_getr (pc := 43) (c := 4) (k := 0) C (by first | rfl | assumption | (simp [cg_ok]; omega)) rfl (by decide) rfl inX4_valueAt_X4 flX4_valueAt_7 dX4_valueAt_43 ?_
        refine cr_iload (pc := 46) C dX4_valueAt_46 rfl ?_
        refine cr_iaload (pc := 48) C rfl (by first | rfl | assumption | (simp [cg_ok]; omega)) (by omega) (by first | decide | omega) dX4_valueAt_48 ?_
        rw [cg_sb_s]
        rw [ho2]
        refine cr_iadd_n (pc := 49) C dX4_valueAt_49 ?_
        refine cr_iaload (pc := 50) C rfl (by first | rfl | assumption | (simp [cg_ok]; omega)) (by omega) (by first | decide | omega) dX4_valueAt_50 ?_
        rw [cg_sb_s]
        refine cr_icmp_gt_t (pc := 51) (tgt := 58) C dX4_valueAt_51 (by decide) (Int32.not_le.mp hkd) ?_
        refine cr_iconst (pc := 58) (v := nI 0) C dX4_valueAt_58 (by decide) ?_
        refine cr_istore6 (pc := 59) C dX4_valueAt_59 (by decide) rfl ?_
        refine cr_iload (pc := 61) C dX4_valueAt_61 rfl ?_
        refine cr_if_eq_t (pc := 63) (tgt := 97) C dX4_valueAt_63 (by decide) (by decide) ?_
        refine cr_iinc4 (pc := 97) C dX4_valueAt_97 (cg_inc1 _) (by decide) rfl ?_
        refine cr_goto (pc := 100) (tgt := 5) C dX4_valueAt_100 (by decide) ?_
        have e1 : cg_lt P r k (w + 1) = cg_lt P r k w := by simp [cg_lt, hkn]
        rw [← e1]
        exact ih (w + 1) _ _ (by omega)
      · have hkd : P (14 + 5 * w) ≤ P (3 * r + o) := by rw [hkq] at hkn; exact of_decide_eq_true hkn
        cases hk : decide (P (15 + 5 * w) = nI k)
        · refine cr_iload (pc := 5) C dX4_valueAt_5 rfl ?_
          refine cr_aload_n (pc := 7) C dX4_valueAt_7 rfl ?_
          refine cr_getr (pc := 8) (c := 4) (k := 0) C (by first | rfl | assumption | (simp [cg_ok]; omega)) rfl (by decide) rfl inX4_valueAt_X4 flX4_valueAt_7 dX4_valueAt_8 ?_
          refine cr_bipush (pc := 11) (v := nI 12) C dX4_valueAt_11 (by decide) ?_
          refine cr_iaload (pc := 13) C rfl (by first | rfl | assumption | (simp [cg_ok]; omega)) (by decide) (by first | decide | omega) dX4_valueAt_13 ?_
          rw [cg_sb_s]
          rw [hI.2.1]
          refine cr_icmp_ge_f (pc := 14) (tgt := 103) C dX4_valueAt_14 (by decide) (nI_ge hlt (by omega)) ?_
          refine cr_bipush (pc := 17) (v := nI 13) C dX4_valueAt_17 (by decide) ?_
          refine cr_iconst (pc := 19) (v := nI 5) C dX4_valueAt_19 (by decide) ?_
          refine cr_iload (pc := 20) C dX4_valueAt_20 rfl ?_
          refine cr_imul_n (pc := 22) C dX4_valueAt_22 ?_
          refine cr_iadd_n (pc := 23) C dX4_valueAt_23 ?_
          refine cr_istore5 (pc := 24) C dX4_valueAt_24 (by decide) rfl ?_
          refine cr_aload_n (pc := 26) C dX4_valueAt_26 rfl ?_
          refine cr_getr (pc := 27) (c := 4) (k := 0) C (by first | rfl | assumption | (simp [cg_ok]; omega)) rfl (by decide) rfl inX4_valueAt_X4 flX4_valueAt_7 dX4_valueAt_27 ?_
          refine cr_iload (pc := 30) C dX4_valueAt_30 rfl ?_
          refine cr_iconst (pc := 32) (v := nI 1) C dX4_valueAt_32 (by decide) ?_
          refine cr_iadd_n (pc := 33) C dX4_valueAt_33 ?_
          rw [show 13 + 5 * w + 1 = 14 + 5 * w by omega]
          refine cr_iaload (pc := 34) C rfl (by first | rfl | assumption | (simp [cg_ok]; omega)) (by omega) (by first | decide | omega) dX4_valueAt_34 ?_
          rw [cg_sb_s]
          refine cr_aload_n (pc := 35) C dX4_valueAt_35 rfl ?_
          refine cr_getr (pc := 36) (c := 4) (k := 0) C (by first | rfl | assumption | (simp [cg_ok]; omega)) rfl (by decide) rfl inX4_valueAt_X4 flX4_valueAt_7 dX4_valueAt_36 ?_
          refine cr_iconst (pc := 39) (v := nI 3) C dX4_valueAt_39 (by decide) ?_
          refine cr_iload_n (pc := 40) C dX4_valueAt_40 rfl ?_
          refine cr_imul_n (pc := 41) C dX4_valueAt_41 ?_
          refine cr_aload_n (pc := 42) C dX4_valueAt_42 rfl ?_
          refine cr_getr (pc := 43) (c := 4) (k := 0) C (by first | rfl | assumption | (simp [cg_ok]; omega)) rfl (by decide) rfl inX4_valueAt_X4 flX4_valueAt_7 dX4_valueAt_43 ?_
          refine cr_iload (pc := 46) C dX4_valueAt_46 rfl ?_
          refine cr_iaload (pc := 48) C rfl (by first | rfl | assumption | (simp [cg_ok]; omega)) (by omega) (by first | decide | omega) dX4_valueAt_48 ?_
          rw [cg_sb_s]
          rw [ho2]
          refine cr_iadd_n (pc := 49) C dX4_valueAt_49 ?_
          refine cr_iaload (pc := 50) C rfl (by first | rfl | assumption | (simp [cg_ok]; omega)) (by omega) (by first | decide | omega) dX4_valueAt_50 ?_
          rw [cg_sb_s]
          refine cr_icmp_gt_f (pc := 51) (tgt := 58) C dX4_valueAt_51 (by decide) (Int32.not_lt.mpr hkd) ?_
          refine cr_iconst (pc := 54) (v := nI 1) C dX4_valueAt_54 (by decide) ?_
          refine cr_goto (pc := 55) (tgt := 59) C dX4_valueAt_55 (by decide) ?_
          refine cr_istore6 (pc := 59) C dX4_valueAt_59 (by decide) rfl ?_
          refine cr_iload (pc := 61) C dX4_valueAt_61 rfl ?_
          refine cr_if_eq_f (pc := 63) (tgt := 97) C dX4_valueAt_63 (by decide) (by decide) ?_
          refine cr_aload_n (pc := 66) C dX4_valueAt_66 rfl ?_
          refine cr_getr (pc := 67) (c := 4) (k := 0) C (by first | rfl | assumption | (simp [cg_ok]; omega)) rfl (by decide) rfl inX4_valueAt_X4 flX4_valueAt_7 dX4_valueAt_67 ?_
          refine cr_iload (pc := 70) C dX4_valueAt_70 rfl ?_
          refine cr_iconst (pc := 72) (v := nI 2) C dX4_valueAt_72 (by decide) ?_
          refine cr_iadd_n (pc := 73) C dX4_valueAt_73 ?_
          rw [show 13 + 5 * w + 2 = 15 + 5 * w by omega]
          refine cr_iaload (pc := 74) C rfl (by first | rfl | assumption | (simp [cg_ok]; omega)) (by omega) (by first | decide | omega) dX4_valueAt_74 ?_
          rw [cg_sb_s]
          refine cr_iload_n (pc := 75) C dX4_valueAt_75 rfl ?_
          refine cr_icmp_ne_t (pc := 76) (tgt := 97) C dX4_valueAt_76 (by decide) (of_decide_eq_false hk) ?_
          refine cr_iinc4 (pc := 97) C dX4_valueAt_97 (cg_inc1 _) (by decide) rfl ?_
          refine cr_goto (pc := 100) (tgt := 5) C dX4_valueAt_100 (by decide) ?_
          have e1 : cg_lt P r k (w + 1) = cg_lt P r k w := by simp [cg_lt, hkn, hk]
          rw [← e1]
          exact ih (w + 1) _ _ (by omega)
        · cases hl : cg_lt P r k w with
          | none =>
            refine cr_iload (pc := 5) C dX4_valueAt_5 rfl ?_
            refine cr_aload_n (pc := 7) C dX4_valueAt_7 rfl ?_
            refine cr_getr (pc := 8) (c := 4) (k := 0) C (by first | rfl | assumption | (simp [cg_ok]; omega)) rfl (by decide) rfl inX4_valueAt_X4 flX4_valueAt_7 dX4_valueAt_8 ?_
            refine cr_bipush (pc := 11) (v := nI 12) C dX4_valueAt_11 (by decide) ?_
            refine cr_iaload (pc := 13) C rfl (by first | rfl | assumption | (simp [cg_ok]; omega)) (by decide) (by first | decide | omega) dX4_valueAt_13 ?_
            rw [cg_sb_s]
            rw [hI.2.1]
            refine cr_icmp_ge_f (pc := 14) (tgt := 103) C dX4_valueAt_14 (by decide) (nI_ge hlt (by omega)) ?_
            refine cr_bipush (pc := 17) (v := nI 13) C dX4_valueAt_17 (by decide) ?_
            refine cr_iconst (pc := 19) (v := nI 5) C dX4_valueAt_19 (by decide) ?_
            refine cr_iload (pc := 20) C dX4_valueAt_20 rfl ?_
            refine cr_imul_n (pc := 22) C dX4_valueAt_22 ?_
            refine cr_iadd_n (pc := 23) C dX4_valueAt_23 ?_
            refine cr_istore5 (pc := 24) C dX4_valueAt_24 (by decide) rfl ?_
            refine cr_aload_n (pc := 26) C dX4_valueAt_26 rfl ?_
            refine cr_getr (pc := 27) (c := 4) (k := 0) C (by first | rfl | assumption | (simp [cg_ok]; omega)) rfl (by decide) rfl inX4_valueAt_X4 flX4_valueAt_7 dX4_valueAt_27 ?_
            refine cr_iload (pc := 30) C dX4_valueAt_30 rfl ?_
            refine cr_iconst (pc := 32) (v := nI 1) C dX4_valueAt_32 (by decide) ?_
            refine cr_iadd_n (pc := 33) C dX4_valueAt_33 ?_
            rw [show 13 + 5 * w + 1 = 14 + 5 * w by omega]
            refine cr_iaload (pc := 34) C rfl (by first | rfl | assumption | (simp [cg_ok]; omega)) (by omega) (by first | decide | omega) dX4_valueAt_34 ?_
            rw [cg_sb_s]
            refine cr_aload_n (pc := 35) C dX4_valueAt_35 rfl ?_
            refine cr_getr (pc := 36) (c := 4) (k := 0) C (by first | rfl | assumption | (simp [cg_ok]; omega)) rfl (by decide) rfl inX4_valueAt_X4 flX4_valueAt_7 dX4_valueAt_36 ?_
            refine cr_iconst (pc := 39) (v := nI 3) C dX4_valueAt_39 (by decide) ?_
            refine cr_iload_n (pc := 40) C dX4_valueAt_40 rfl ?_
            refine cr_imul_n (pc := 41) C dX4_valueAt_41 ?_
            refine cr_aload_n (pc := 42) C dX4_valueAt_42 rfl ?_
            refine cr_getr (pc := 43) (c := 4) (k := 0) C (by first | rfl | assumption | (simp [cg_ok]; omega)) rfl (by decide) rfl inX4_valueAt_X4 flX4_valueAt_7 dX4_valueAt_43 ?_
            refine cr_iload (pc := 46) C dX4_valueAt_46 rfl ?_
            refine cr_iaload (pc := 48) C rfl (by first | rfl | assumption | (simp [cg_ok]; omega)) (by omega) (by first | decide | omega) dX4_valueAt_48 ?_
            rw [cg_sb_s]
            rw [ho2]
            refine cr_iadd_n (pc := 49) C dX4_valueAt_49 ?_
            refine cr_iaload (pc := 50) C rfl (by first | rfl | assumption | (simp [cg_ok]; omega)) (by omega) (by first | decide | omega) dX4_valueAt_50 ?_
            rw [cg_sb_s]
            refine cr_icmp_gt_f (pc := 51) (tgt := 58) C dX4_valueAt_51 (by decide) (Int32.not_lt.mpr hkd) ?_
            refine cr_iconst (pc := 54) (v := nI 1) C dX4_valueAt_54 (by decide) ?_
            refine cr_goto (pc := 55) (tgt := 59) C dX4_valueAt_55 (by decide) ?_
            refine cr_istore6 (pc := 59) C dX4_valueAt_59 (by decide) rfl ?_
            refine cr_iload (pc := 61) C dX4_valueAt_61 rfl ?_
            refine cr_if_eq_f (pc := 63) (tgt := 97) C dX4_valueAt_63 (by decide) (by decide) ?_
            refine cr_aload_n (pc := 66) C dX4_valueAt_66 rfl ?_
            refine cr_getr (pc := 67) (c := 4) (k := 0) C (by first | rfl | assumption | (simp [cg_ok]; omega)) rfl (by decide) rfl inX4_valueAt_X4 flX4_valueAt_7 dX4_valueAt_67 ?_
            refine cr_iload (pc := 70) C dX4_valueAt_70 rfl ?_
            refine cr_iconst (pc := 72) (v := nI 2) C dX4_valueAt_72 (by decide) ?_
            refine cr_iadd_n (pc := 73) C dX4_valueAt_73 ?_
            rw [show 13 + 5 * w + 2 = 15 + 5 * w by omega]
            refine cr_iaload (pc := 74) C rfl (by first | rfl | assumption | (simp [cg_ok]; omega)) (by omega) (by first | decide | omega) dX4_valueAt_74 ?_
            rw [cg_sb_s]
            refine cr_iload_n (pc := 75) C dX4_valueAt_75 rfl ?_
            refine cr_icmp_ne_f (pc := 76) (tgt := 97) C dX4_valueAt_76 (by decide) (of_decide_eq_true hk) ?_
            refine cr_iload_n (pc := 79) C dX4_valueAt_79 rfl ?_
            refine cr_iconst (pc := 80) (v := (-1)) C dX4_valueAt_80 (by decide) ?_
            refine cr_icmp_eq_t (pc := 81) (tgt := 94) C dX4_valueAt_81 (by decide) rfl ?_
            refine cr_iload (pc := 94) C dX4_valueAt_94 rfl ?_
            refine cr_istore_n3 (pc := 96) C dX4_valueAt_96 (by decide) rfl ?_
            refine cr_iinc4 (pc := 97) C dX4_valueAt_97 (cg_inc1 _) (by decide) rfl ?_
            refine cr_goto (pc := 100) (tgt := 5) C dX4_valueAt_100 (by decide) ?_
            have e1 : cg_lt P r k (w + 1) = some w := by simp [cg_lt, hkn, hk, hl, cg_nl]
            have e2 := ih (w + 1) (some (.inl (nI (13 + 5 * w)))) (some (.inl (nI 1))) (by omega)
            rw [e1] at e2
            exact e2
          | some l =>
            have hl60 : l < 60 := by have := cg_lt_lt hl; omega
            cases hla : cg_la P w l
            · refine cr_iload (pc := 5) C dX4_valueAt_5 rfl ?_
              refine cr_aload_n (pc := 7) C dX4_valueAt_7 rfl ?_
              refine cr_getr (pc := 8) (c := 4) (k := 0) C (by first | rfl | assumption | (simp [cg_ok]; omega)) rfl (by decide) rfl inX4_valueAt_X4 flX4_valueAt_7 dX4_valueAt_8 ?_
              refine cr_bipush (pc := 11) (v := nI 12) C dX4_valueAt_11 (by decide) ?_
              refine cr_iaload (pc := 13) C rfl (by first | rfl | assumption | (simp [cg_ok]; omega)) (by decide) (by first | decide | omega) dX4_valueAt_13 ?_
              rw [cg_sb_s]
              rw [hI.2.1]
              refine cr_icmp_ge_f (pc := 14) (tgt := 103) C dX4_valueAt_14 (by decide) (nI_ge hlt (by omega)) ?_
              refine cr_bipush (pc := 17) (v := nI 13) C dX4_valueAt_17 (by decide) ?_
              refine cr_iconst (pc := 19) (v := nI 5) C dX4_valueAt_19 (by decide) ?_
              refine cr_iload (pc := 20) C dX4_valueAt_20 rfl ?_
              refine cr_imul_n (pc := 22) C dX4_valueAt_22 ?_
              refine cr_iadd_n (pc := 23) C dX4_valueAt_23 ?_
              refine cr_istore5 (pc := 24) C dX4_valueAt_24 (by decide) rfl ?_
              refine cr_aload_n (pc := 26) C dX4_valueAt_26 rfl ?_
              refine cr_getr (pc := 27) (c := 4) (k := 0) C (by first | rfl | assumption | (simp [cg_ok]; omega)) rfl (by decide) rfl inX4_valueAt_X4 flX4_valueAt_7 dX4_valueAt_27 ?_
              refine cr_iload (pc := 30) C dX4_valueAt_30 rfl ?_
              refine cr_iconst (pc := 32) (v := nI 1) C dX4_valueAt_32 (by decide) ?_
              refine cr_iadd_n (pc := 33) C dX4_valueAt_33 ?_
              rw [show 13 + 5 * w + 1 = 14 + 5 * w by omega]
              refine cr_iaload (pc := 34) C rfl (by first | rfl | assumption | (simp [cg_ok]; omega)) (by omega) (by first | decide | omega) dX4_valueAt_34 ?_
              rw [cg_sb_s]
              refine cr_aload_n (pc := 35) C dX4_valueAt_35 rfl ?_
              refine cr_getr (pc := 36) (c := 4) (k := 0) C (by first | rfl | assumption | (simp [cg_ok]; omega)) rfl (by decide) rfl inX4_valueAt_X4 flX4_valueAt_7 dX4_valueAt_36 ?_
              refine cr_iconst (pc := 39) (v := nI 3) C dX4_valueAt_39 (by decide) ?_
              refine cr_iload_n (pc := 40) C dX4_valueAt_40 rfl ?_
              refine cr_imul_n (pc := 41) C dX4_valueAt_41 ?_
              refine cr_aload_n (pc := 42) C dX4_valueAt_42 rfl ?_
              refine cr_getr (pc := 43) (c := 4) (k := 0) C (by first | rfl | assumption | (simp [cg_ok]; omega)) rfl (by decide) rfl inX4_valueAt_X4 flX4_valueAt_7 dX4_valueAt_43 ?_
              refine cr_iload (pc := 46) C dX4_valueAt_46 rfl ?_
              refine cr_iaload (pc := 48) C rfl (by first | rfl | assumption | (simp [cg_ok]; omega)) (by omega) (by first | decide | omega) dX4_valueAt_48 ?_
              rw [cg_sb_s]
              rw [ho2]
              refine cr_iadd_n (pc := 49) C dX4_valueAt_49 ?_
              refine cr_iaload (pc := 50) C rfl (by first | rfl | assumption | (simp [cg_ok]; omega)) (by omega) (by first | decide | omega) dX4_valueAt_50 ?_
              rw [cg_sb_s]
              refine cr_icmp_gt_f (pc := 51) (tgt := 58) C dX4_valueAt_51 (by decide) (Int32.not_lt.mpr hkd) ?_
              refine cr_iconst (pc := 54) (v := nI 1) C dX4_valueAt_54 (by decide) ?_
              refine cr_goto (pc := 55) (tgt := 59) C dX4_valueAt_55 (by decide) ?_
              refine cr_istore6 (pc := 59) C dX4_valueAt_59 (by decide) rfl ?_
              refine cr_iload (pc := 61) C dX4_valueAt_61 rfl ?_
              refine cr_if_eq_f (pc := 63) (tgt := 97) C dX4_valueAt_63 (by decide) (by decide) ?_
              refine cr_aload_n (pc := 66) C dX4_valueAt_66 rfl ?_
              refine cr_getr (pc := 67) (c := 4) (k := 0) C (by first | rfl | assumption | (simp [cg_ok]; omega)) rfl (by decide) rfl inX4_valueAt_X4 flX4_valueAt_7 dX4_valueAt_67 ?_
              refine cr_iload (pc := 70) C dX4_valueAt_70 rfl ?_
              refine cr_iconst (pc := 72) (v := nI 2) C dX4_valueAt_72 (by decide) ?_
              refine cr_iadd_n (pc := 73) C dX4_valueAt_73 ?_
              rw [show 13 + 5 * w + 2 = 15 + 5 * w by omega]
              refine cr_iaload (pc := 74) C rfl (by first | rfl | assumption | (simp [cg_ok]; omega)) (by omega) (by first | decide | omega) dX4_valueAt_74 ?_
              rw [cg_sb_s]
              refine cr_iload_n (pc := 75) C dX4_valueAt_75 rfl ?_
              refine cr_icmp_ne_f (pc := 76) (tgt := 97) C dX4_valueAt_76 (by decide) (of_decide_eq_true hk) ?_
              refine cr_iload_n (pc := 79) C dX4_valueAt_79 rfl ?_
              refine cr_iconst (pc := 80) (v := (-1)) C dX4_valueAt_80 (by decide) ?_
              refine cr_icmp_eq_f (pc := 81) (tgt := 94) C dX4_valueAt_81 (by decide) (cg_nm1 hl60) ?_
              refine cr_aload_n (pc := 84) C dX4_valueAt_84 rfl ?_
              refine cr_iload (pc := 85) C dX4_valueAt_85 rfl ?_
              refine cr_iload_n (pc := 87) C dX4_valueAt_87 rfl ?_
              refine cr_dV (pc := 88) C (sm_isLater (by omega) hl60) rfl gX4_valueAt_X4_isLater rfl dX4_valueAt_88 (by first | rfl | assumption | (simp [cg_ok]; omega)) rfl hvX4_isLater rfl ⟨rfl, rfl, Nat.le_of_ble_eq_true rfl, Nat.le_of_ble_eq_true rfl⟩ (Nat.le_of_ble_eq_true rfl) rfl ?_
              rw [hla]
              refine cr_if_eq_t (pc := 91) (tgt := 97) C dX4_valueAt_91 (by decide) (by decide) ?_
              refine cr_iinc4 (pc := 97) C dX4_valueAt_97 (cg_inc1 _) (by decide) rfl ?_
              refine cr_goto (pc := 100) (tgt := 5) C dX4_valueAt_100 (by decide) ?_
              have e1 : cg_lt P r k (w + 1) = cg_lt P r k w := by simp [cg_lt, hkn, hk, hl, cg_nl, hla]
              rw [← hl, ← e1]
              exact ih (w + 1) _ _ (by omega)
            · refine cr_iload (pc := 5) C dX4_valueAt_5 rfl ?_
              refine cr_aload_n (pc := 7) C dX4_valueAt_7 rfl ?_
              refine cr_getr (pc := 8) (c := 4) (k := 0) C (by first | rfl | assumption | (simp [cg_ok]; omega)) rfl (by decide) rfl inX4_valueAt_X4 flX4_valueAt_7 dX4_valueAt_8 ?_
              refine cr_bipush (pc := 11) (v := nI 12) C dX4_valueAt_11 (by decide) ?_
              refine cr_iaload (pc := 13) C rfl (by first | rfl | assumption | (simp [cg_ok]; omega)) (by decide) (by first | decide | omega) dX4_valueAt_13 ?_
              rw [cg_sb_s]
              rw [hI.2.1]
              refine cr_icmp_ge_f (pc := 14) (tgt := 103) C dX4_valueAt_14 (by decide) (nI_ge hlt (by omega)) ?_
              refine cr_bipush (pc := 17) (v := nI 13) C dX4_valueAt_17 (by decide) ?_
              refine cr_iconst (pc := 19) (v := nI 5) C dX4_valueAt_19 (by decide) ?_
              refine cr_iload (pc := 20) C dX4_valueAt_20 rfl ?_
              refine cr_imul_n (pc := 22) C dX4_valueAt_22 ?_
              refine cr_iadd_n (pc := 23) C dX4_valueAt_23 ?_
              refine cr_istore5 (pc := 24) C dX4_valueAt_24 (by decide) rfl ?_
              refine cr_aload_n (pc := 26) C dX4_valueAt_26 rfl ?_
              refine cr_getr (pc := 27) (c := 4) (k := 0) C (by first | rfl | assumption | (simp [cg_ok]; omega)) rfl (by decide) rfl inX4_valueAt_X4 flX4_valueAt_7 dX4_valueAt_27 ?_
              refine cr_iload (pc := 30) C dX4_valueAt_30 rfl ?_
              refine cr_iconst (pc := 32) (v := nI 1) C dX4_valueAt_32 (by decide) ?_
              refine cr_iadd_n (pc := 33) C dX4_valueAt_33 ?_
              rw [show 13 + 5 * w + 1 = 14 + 5 * w by omega]
              refine cr_iaload (pc := 34) C rfl (by first | rfl | assumption | (simp [cg_ok]; omega)) (by omega) (by first | decide | omega) dX4_valueAt_34 ?_
              rw [cg_sb_s]
              refine cr_aload_n (pc := 35) C dX4_valueAt_35 rfl ?_
              refine cr_getr (pc := 36) (c := 4) (k := 0) C (by first | rfl | assumption | (simp [cg_ok]; omega)) rfl (by decide) rfl inX4_valueAt_X4 flX4_valueAt_7 dX4_valueAt_36 ?_
              refine cr_iconst (pc := 39) (v := nI 3) C dX4_valueAt_39 (by decide) ?_
              refine cr_iload_n (pc := 40) C dX4_valueAt_40 rfl ?_
              refine cr_imul_n (pc := 41) C dX4_valueAt_41 ?_
              refine cr_aload_n (pc := 42) C dX4_valueAt_42 rfl ?_
              refine cr_getr (pc := 43) (c := 4) (k := 0) C (by first | rfl | assumption | (simp [cg_ok]; omega)) rfl (by decide) rfl inX4_valueAt_X4 flX4_valueAt_7 dX4_valueAt_43 ?_
              refine cr_iload (pc := 46) C dX4_valueAt_46 rfl ?_
              refine cr_iaload (pc := 48) C rfl (by first | rfl | assumption | (simp [cg_ok]; omega)) (by omega) (by first | decide | omega) dX4_valueAt_48 ?_
              rw [cg_sb_s]
              rw [ho2]
              refine cr_iadd_n (pc := 49) C dX4_valueAt_49 ?_
              refine cr_iaload (pc := 50) C rfl (by first | rfl | assumption | (simp [cg_ok]; omega)) (by omega) (by first | decide | omega) dX4_valueAt_50 ?_
              rw [cg_sb_s]
              refine cr_icmp_gt_f (pc := 51) (tgt := 58) C dX4_valueAt_51 (by decide) (Int32.not_lt.mpr hkd) ?_
              refine cr_iconst (pc := 54) (v := nI 1) C dX4_valueAt_54 (by decide) ?_
              refine cr_goto (pc := 55) (tgt := 59) C dX4_valueAt_55 (by decide) ?_
              refine cr_istore6 (pc := 59) C dX4_valueAt_59 (by decide) rfl ?_
              refine cr_iload (pc := 61) C dX4_valueAt_61 rfl ?_
              refine cr_if_eq_f (pc := 63) (tgt := 97) C dX4_valueAt_63 (by decide) (by decide) ?_
              refine cr_aload_n (pc := 66) C dX4_valueAt_66 rfl ?_
              refine cr_getr (pc := 67) (c := 4) (k := 0) C (by first | rfl | assumption | (simp [cg_ok]; omega)) rfl (by decide) rfl inX4_valueAt_X4 flX4_valueAt_7 dX4_valueAt_67 ?_
              refine cr_iload (pc := 70) C dX4_valueAt_70 rfl ?_
              refine cr_iconst (pc := 72) (v := nI 2) C dX4_valueAt_72 (by decide) ?_
              refine cr_iadd_n (pc := 73) C dX4_valueAt_73 ?_
              rw [show 13 + 5 * w + 2 = 15 + 5 * w by omega]
              refine cr_iaload (pc := 74) C rfl (by first | rfl | assumption | (simp [cg_ok]; omega)) (by omega) (by first | decide | omega) dX4_valueAt_74 ?_
              rw [cg_sb_s]
              refine cr_iload_n (pc := 75) C dX4_valueAt_75 rfl ?_
              refine cr_icmp_ne_f (pc := 76) (tgt := 97) C dX4_valueAt_76 (by decide) (of_decide_eq_true hk) ?_
              refine cr_iload_n (pc := 79) C dX4_valueAt_79 rfl ?_
              refine cr_iconst (pc := 80) (v := (-1)) C dX4_valueAt_80 (by decide) ?_
              refine cr_icmp_eq_f (pc := 81) (tgt := 94) C dX4_valueAt_81 (by decide) (cg_nm1 hl60) ?_
              refine cr_aload_n (pc := 84) C dX4_valueAt_84 rfl ?_
              refine cr_iload (pc := 85) C dX4_valueAt_85 rfl ?_
              refine cr_iload_n (pc := 87) C dX4_valueAt_87 rfl ?_
              refine cr_dV (pc := 88) C (sm_isLater (by omega) hl60) rfl gX4_valueAt_X4_isLater rfl dX4_valueAt_88 (by first | rfl | assumption | (simp [cg_ok]; omega)) rfl hvX4_isLater rfl ⟨rfl, rfl, Nat.le_of_ble_eq_true rfl, Nat.le_of_ble_eq_true rfl⟩ (Nat.le_of_ble_eq_true rfl) rfl ?_
              rw [hla]
              refine cr_if_eq_f (pc := 91) (tgt := 97) C dX4_valueAt_91 (by decide) (by decide) ?_
              refine cr_iload (pc := 94) C dX4_valueAt_94 rfl ?_
              refine cr_istore_n3 (pc := 96) C dX4_valueAt_96 (by decide) rfl ?_
              refine cr_iinc4 (pc := 97) C dX4_valueAt_97 (cg_inc1 _) (by decide) rfl ?_
              refine cr_goto (pc := 100) (tgt := 5) C dX4_valueAt_100 (by decide) ?_
              have e1 : cg_lt P r k (w + 1) = some w := by simp [cg_lt, hkn, hk, hl, cg_nl, hla]
              have e2 := ih (w + 1) (some (.inl (nI (13 + 5 * w)))) (some (.inl (nI 1))) (by omega)
              rw [e1] at e2
              exact e2
  refine cr_iconst (pc := 0) (v := (-1)) C dX4_valueAt_0 (by decide) ?_
  refine cr_istore_n3 (pc := 1) C dX4_valueAt_1 (by decide) rfl ?_
  refine cr_iconst (pc := 2) (v := nI 0) C dX4_valueAt_2 (by decide) ?_
  refine cr_istore4 (pc := 3) C dX4_valueAt_3 (by decide) rfl ?_
  exact loop n 0 _ _ (by omega)
set_option maxRecDepth 100000 in
set_option maxHeartbeats 4000000 in
theorem sm_cG1 {M : cg_M} {P : Nat → Int32} {c g : Nat} (hc : c < 4) (hg : g < 16) : cg_D yX4_doesSet wsX4_doesSet rmX4_doesSet [.inr (.inr (4, 0, 0, 0)), .inl (nI c), .inl (nI g)] (cg_sb M 20 P) (some (.inl (P (313 + 7 * c)))) (cg_sb M 20 (upd P (313 + 7 * c) (nI g))) := by
  refine cg_S_of (cc := cX4_doesSet) (maxL := 4) (ret := (some .int)) (ls0 := [some (.inr (.inr (4, 0, 0, 0))), some (.inl (nI c)), some (.inl (nI g)), none]) RX4 rfl (by decide) rfl rfl (Nat.le_of_ble_eq_true rfl) (fun E C X => ?_)
  refine cr_iload_n (pc := 0) C dX4_doesSet_0 rfl ?_
  refine cr_dS (pc := 1) C (sm_isClient1 hc) rfl gX4_doesSet_X4_isClient rfl dX4_doesSet_1 hsX4_isClient rfl ⟨rfl, rfl, Nat.le_of_ble_eq_true rfl, Nat.le_of_ble_eq_true rfl⟩ (Nat.le_of_ble_eq_true rfl) rfl ?_
  refine cr_if_eq_f (pc := 4) (tgt := 19) C dX4_doesSet_4 (by decide) (by decide) ?_
  refine cr_iload_n (pc := 7) C dX4_doesSet_7 rfl ?_
  refine cr_i2l (pc := 8) C dX4_doesSet_8 ?_
  refine cr_lconst (pc := 9) (v := 0) C dX4_doesSet_9 rfl ?_
  refine cr_ldc2 (pc := 10) C dX4_doesSet_10 klX4_doesSet_51 ?_
  refine cr_dS (pc := 13) C (sm_in1 ((cg_in64 (n := 15) (by decide)).mpr ⟨_, hg, rfl⟩).1 ((cg_in64 (n := 15) (by decide)).mpr ⟨_, hg, rfl⟩).2) rfl gX4_doesSet_X4_in rfl dX4_doesSet_13 hsX4_in rfl ⟨rfl, rfl, Nat.le_of_ble_eq_true rfl, Nat.le_of_ble_eq_true rfl⟩ (Nat.le_of_ble_eq_true rfl) rfl ?_
  refine cr_if_ne_t (pc := 16) (tgt := 22) C dX4_doesSet_16 (by decide) (by decide) ?_
  refine cr_aload_n (pc := 22) C dX4_doesSet_22 rfl ?_
  refine cr_iload_n (pc := 23) C dX4_doesSet_23 rfl ?_
  refine cr_dV (pc := 24) C (sm_gs hc) rfl gX4_doesSet_X4_guarantees rfl dX4_doesSet_24 (by first | rfl | assumption | (simp [cg_ok]; omega)) rfl hvX4_guarantees rfl ⟨rfl, rfl, Nat.le_of_ble_eq_true rfl, Nat.le_of_ble_eq_true rfl⟩ (Nat.le_of_ble_eq_true rfl) rfl ?_
  refine cr_istore_n3 (pc := 27) C dX4_doesSet_27 (by decide) rfl ?_
  refine cr_aload_n (pc := 28) C dX4_doesSet_28 rfl ?_
  refine cr_getr (pc := 29) (c := 4) (k := 0) C (by first | rfl | assumption | (simp [cg_ok]; omega)) rfl (by decide) rfl inX4_doesSet_X4 flX4_doesSet_7 dX4_doesSet_29 ?_
  refine cr_sipush (pc := 32) (v := nI 313) C dX4_doesSet_32 (by decide) ?_
  refine cr_bipush (pc := 35) (v := nI 7) C dX4_doesSet_35 (by decide) ?_
  refine cr_iload_n (pc := 37) C dX4_doesSet_37 rfl ?_
  refine cr_imul_n (pc := 38) C dX4_doesSet_38 ?_
  refine cr_iadd_n (pc := 39) C dX4_doesSet_39 ?_
  refine cr_iload_n (pc := 40) C dX4_doesSet_40 rfl ?_
  refine cr_iastore (pc := 41) C rfl (by first | rfl | assumption | (simp [cg_ok]; omega)) (by omega) (by first | decide | omega) dX4_doesSet_41 ?_
  rw [cg_up_sb]
  refine cr_iload_n (pc := 42) C dX4_doesSet_42 rfl ?_
  refine cr_ireturn (pc := 43) C X dX4_doesSet_43 ?_
  exact ⟨rfl, rfl⟩
set_option maxRecDepth 100000 in
set_option maxHeartbeats 4000000 in
theorem sm_cG0 {M : cg_M} {P : Nat → Int32} {x y : Int32} (h : ¬ (cg_in x 4 ∧ cg_in y 16)) : cg_D yX4_doesSet wsX4_doesSet rmX4_doesSet [.inr (.inr (4, 0, 0, 0)), .inl (x), .inl (y)] (cg_sb M 20 P) (some (.inl (-2))) ((cg_sb M 20 P)) := by
  rcases Classical.em (cg_in x 4) with ⟨c, hc, rfl⟩ | hx
  · refine cg_S_of (cc := cX4_doesSet) (maxL := 4) (ret := (some .int)) (ls0 := [some (.inr (.inr (4, 0, 0, 0))), some (.inl (nI c)), some (.inl (y)), none]) RX4 rfl (by decide) rfl rfl (Nat.le_of_ble_eq_true rfl) (fun E C X => ?_)
    refine cr_iload_n (pc := 0) C dX4_doesSet_0 rfl ?_
    refine cr_dS (pc := 1) C (sm_isClient1 hc) rfl gX4_doesSet_X4_isClient rfl dX4_doesSet_1 hsX4_isClient rfl ⟨rfl, rfl, Nat.le_of_ble_eq_true rfl, Nat.le_of_ble_eq_true rfl⟩ (Nat.le_of_ble_eq_true rfl) rfl ?_
    refine cr_if_eq_f (pc := 4) (tgt := 19) C dX4_doesSet_4 (by decide) (by decide) ?_
    refine cr_iload_n (pc := 7) C dX4_doesSet_7 rfl ?_
    refine cr_i2l (pc := 8) C dX4_doesSet_8 ?_
    refine cr_lconst (pc := 9) (v := 0) C dX4_doesSet_9 rfl ?_
    refine cr_ldc2 (pc := 10) C dX4_doesSet_10 klX4_doesSet_51 ?_
    refine cr_dS (pc := 13) C (sm_in0 (fun q => (fun z => h ⟨⟨_, hc, rfl⟩, z⟩) ((cg_in64 (n := 15) (by decide)).mp q))) rfl gX4_doesSet_X4_in rfl dX4_doesSet_13 hsX4_in rfl ⟨rfl, rfl, Nat.le_of_ble_eq_true rfl, Nat.le_of_ble_eq_true rfl⟩ (Nat.le_of_ble_eq_true rfl) rfl ?_
    refine cr_if_ne_f (pc := 16) (tgt := 22) C dX4_doesSet_16 (by decide) (by decide) ?_
    refine cr_bipush (pc := 19) (v := (-2)) C dX4_doesSet_19 (by decide) ?_
    refine cr_ireturn (pc := 21) C X dX4_doesSet_21 ?_
    exact ⟨rfl, rfl⟩
  · refine cg_S_of (cc := cX4_doesSet) (maxL := 4) (ret := (some .int)) (ls0 := [some (.inr (.inr (4, 0, 0, 0))), some (.inl (x)), some (.inl (y)), none]) RX4 rfl (by decide) rfl rfl (Nat.le_of_ble_eq_true rfl) (fun E C X => ?_)
    refine cr_iload_n (pc := 0) C dX4_doesSet_0 rfl ?_
    refine cr_dS (pc := 1) C (sm_isClient0 hx) rfl gX4_doesSet_X4_isClient rfl dX4_doesSet_1 hsX4_isClient rfl ⟨rfl, rfl, Nat.le_of_ble_eq_true rfl, Nat.le_of_ble_eq_true rfl⟩ (Nat.le_of_ble_eq_true rfl) rfl ?_
    refine cr_if_eq_t (pc := 4) (tgt := 19) C dX4_doesSet_4 (by decide) (by decide) ?_
    refine cr_bipush (pc := 19) (v := (-2)) C dX4_doesSet_19 (by decide) ?_
    refine cr_ireturn (pc := 21) C X dX4_doesSet_21 ?_
    exact ⟨rfl, rfl⟩
theorem cg_fgm (c : Nat) (P : Nat → Int32) : upd (upd (upd (upd (upd (upd P (313 + 7 * c + 1) (nI 0)) (313 + 7 * c + 2) (nI 0)) (313 + 7 * c + 3) (nI 0)) (313 + 7 * c + 4) (nI 0)) (313 + 7 * c + 5) (nI 0)) (313 + 7 * c + 6) (nI 0) = (cg_fg c P).2 := by
  funext j
  by_cases h : j < 314 + 7 * c ∨ 320 + 7 * c ≤ j
  · rw [cg_fg_out h, cg_un (by omega), cg_un (by omega), cg_un (by omega), cg_un (by omega), cg_un (by omega), cg_un (by omega)]
  · obtain ⟨i, hi, rfl⟩ : ∃ i, i < 6 ∧ j = 314 + 7 * c + i := ⟨j - (314 + 7 * c), by omega, by omega⟩
    rw [cg_fg_in hi]
    unfold upd
    rcases (show i = 0 ∨ i = 1 ∨ i = 2 ∨ i = 3 ∨ i = 4 ∨ i = 5 by omega) with rfl | rfl | rfl | rfl | rfl | rfl
    all_goals (repeat (first | (rw [if_pos (by omega)]; done) | (rw [if_neg (by omega)])))
    all_goals (first | rfl | (rw [if_pos (by omega)]))
theorem cg_fgs (c : Nat) (P : Nat → Int32) : nI 0 + P (313 + 7 * c + 1) + P (313 + 7 * c + 2) + P (313 + 7 * c + 3) + P (313 + 7 * c + 4) + P (313 + 7 * c + 5) + P (313 + 7 * c + 6) = (cg_fg c P).1 := by
  rw [cg_fg_1, show 313 + 7 * c + 1 = 314 + 7 * c + 0 by omega, show 313 + 7 * c + 2 = 314 + 7 * c + 1 by omega, show 313 + 7 * c + 3 = 314 + 7 * c + 2 by omega, show 313 + 7 * c + 4 = 317 + 7 * c + 0 by omega, show 313 + 7 * c + 5 = 317 + 7 * c + 1 by omega, show 313 + 7 * c + 6 = 317 + 7 * c + 2 by omega]
  ac_rfl
set_option maxRecDepth 100000 in
set_option maxHeartbeats 4000000 in
theorem sm_cV1 {M : cg_M} {P : Nat → Int32} {c : Nat} (hc : c < 4) : cg_D yX4_doesForget wsX4_doesForget rmX4_doesForget [.inr (.inr (4, 0, 0, 0)), .inl (nI c)] (cg_sb M 20 P) (some (.inl ((cg_fg c P).1))) (cg_sb M 20 (cg_fg c P).2) := by
  refine cg_S_of (cc := cX4_doesForget) (maxL := 4) (ret := (some .int)) (ls0 := [some (.inr (.inr (4, 0, 0, 0))), some (.inl (nI c)), none, none]) RX4 rfl (by decide) rfl rfl (Nat.le_of_ble_eq_true rfl) (fun E C X => ?_)
  refine cr_iload_n (pc := 0) C dX4_doesForget_0 rfl ?_
  refine cr_dS (pc := 1) C (sm_isClient1 hc) rfl gX4_doesForget_X4_isClient rfl dX4_doesForget_1 hsX4_isClient rfl ⟨rfl, rfl, Nat.le_of_ble_eq_true rfl, Nat.le_of_ble_eq_true rfl⟩ (Nat.le_of_ble_eq_true rfl) rfl ?_
  refine cr_if_ne_t (pc := 4) (tgt := 10) C dX4_doesForget_4 (by decide) (by decide) ?_
  refine cr_iconst (pc := 10) (v := nI 0) C dX4_doesForget_10 (by decide) ?_
  refine cr_istore_n2 (pc := 11) C dX4_doesForget_11 (by decide) rfl ?_
  refine cr_iconst (pc := 12) (v := nI 1) C dX4_doesForget_12 (by decide) ?_
  refine cr_istore_n3 (pc := 13) C dX4_doesForget_13 (by decide) rfl ?_
  refine cr_iload_n (pc := 14) C dX4_doesForget_14 rfl ?_
  refine cr_bipush (pc := 15) (v := nI 7) C dX4_doesForget_15 (by decide) ?_
  refine cr_icmp_ge_f (pc := 17) (tgt := 60) C dX4_doesForget_17 (by decide) (by decide) ?_
  refine cr_iload_n (pc := 20) C dX4_doesForget_20 rfl ?_
  refine cr_aload_n (pc := 21) C dX4_doesForget_21 rfl ?_
  refine cr_getr (pc := 22) (c := 4) (k := 0) C (by first | rfl | assumption | (simp [cg_ok]; omega)) rfl (by decide) rfl inX4_doesForget_X4 flX4_doesForget_7 dX4_doesForget_22 ?_
  refine cr_sipush (pc := 25) (v := nI 313) C dX4_doesForget_25 (by decide) ?_
  refine cr_bipush (pc := 28) (v := nI 7) C dX4_doesForget_28 (by decide) ?_
  refine cr_iload_n (pc := 30) C dX4_doesForget_30 rfl ?_
  refine cr_imul_n (pc := 31) C dX4_doesForget_31 ?_
  refine cr_iadd_n (pc := 32) C dX4_doesForget_32 ?_
  refine cr_iload_n (pc := 33) C dX4_doesForget_33 rfl ?_
  refine cr_iadd_n (pc := 34) C dX4_doesForget_34 ?_
  refine cr_iaload (pc := 35) C rfl (by first | rfl | assumption | (simp [cg_ok]; omega)) (by omega) (by first | decide | omega) dX4_doesForget_35 ?_
  rw [cg_sb_s]
  refine cr_iadd (pc := 36) C dX4_doesForget_36 ?_
  refine cr_istore_n2 (pc := 37) C dX4_doesForget_37 (by decide) rfl ?_
  refine cr_aload_n (pc := 38) C dX4_doesForget_38 rfl ?_
  refine cr_getr (pc := 39) (c := 4) (k := 0) C (by first | rfl | assumption | (simp [cg_ok]; omega)) rfl (by decide) rfl inX4_doesForget_X4 flX4_doesForget_7 dX4_doesForget_39 ?_
  refine cr_sipush (pc := 42) (v := nI 313) C dX4_doesForget_42 (by decide) ?_
  refine cr_bipush (pc := 45) (v := nI 7) C dX4_doesForget_45 (by decide) ?_
  refine cr_iload_n (pc := 47) C dX4_doesForget_47 rfl ?_
  refine cr_imul_n (pc := 48) C dX4_doesForget_48 ?_
  refine cr_iadd_n (pc := 49) C dX4_doesForget_49 ?_
  refine cr_iload_n (pc := 50) C dX4_doesForget_50 rfl ?_
  refine cr_iadd_n (pc := 51) C dX4_doesForget_51 ?_
  refine cr_iconst (pc := 52) (v := nI 0) C dX4_doesForget_52 (by decide) ?_
  refine cr_iastore (pc := 53) C rfl (by first | rfl | assumption | (simp [cg_ok]; omega)) (by omega) (by first | decide | omega) dX4_doesForget_53 ?_
  rw [cg_up_sb]
  refine cr_iinc3 (pc := 54) (v := nI 2) C dX4_doesForget_54 (by decide) (by decide) rfl ?_
  refine cr_goto (pc := 57) (tgt := 14) C dX4_doesForget_57 (by decide) ?_
  refine cr_iload_n (pc := 14) C dX4_doesForget_14 rfl ?_
  refine cr_bipush (pc := 15) (v := nI 7) C dX4_doesForget_15 (by decide) ?_
  refine cr_icmp_ge_f (pc := 17) (tgt := 60) C dX4_doesForget_17 (by decide) (by decide) ?_
  refine cr_iload_n (pc := 20) C dX4_doesForget_20 rfl ?_
  refine cr_aload_n (pc := 21) C dX4_doesForget_21 rfl ?_
  refine cr_getr (pc := 22) (c := 4) (k := 0) C (by first | rfl | assumption | (simp [cg_ok]; omega)) rfl (by decide) rfl inX4_doesForget_X4 flX4_doesForget_7 dX4_doesForget_22 ?_
  refine cr_sipush (pc := 25) (v := nI 313) C dX4_doesForget_25 (by decide) ?_
  refine cr_bipush (pc := 28) (v := nI 7) C dX4_doesForget_28 (by decide) ?_
  refine cr_iload_n (pc := 30) C dX4_doesForget_30 rfl ?_
  refine cr_imul_n (pc := 31) C dX4_doesForget_31 ?_
  refine cr_iadd_n (pc := 32) C dX4_doesForget_32 ?_
  refine cr_iload_n (pc := 33) C dX4_doesForget_33 rfl ?_
  refine cr_iadd_n (pc := 34) C dX4_doesForget_34 ?_
  refine cr_iaload (pc := 35) C rfl (by first | rfl | assumption | (simp [cg_ok]; omega)) (by omega) (by first | decide | omega) dX4_doesForget_35 ?_
  rw [cg_sb_s]
  rw [cg_un (by omega)]
  refine cr_iadd (pc := 36) C dX4_doesForget_36 ?_
  refine cr_istore_n2 (pc := 37) C dX4_doesForget_37 (by decide) rfl ?_
  refine cr_aload_n (pc := 38) C dX4_doesForget_38 rfl ?_
  refine cr_getr (pc := 39) (c := 4) (k := 0) C (by first | rfl | assumption | (simp [cg_ok]; omega)) rfl (by decide) rfl inX4_doesForget_X4 flX4_doesForget_7 dX4_doesForget_39 ?_
  refine cr_sipush (pc := 42) (v := nI 313) C dX4_doesForget_42 (by decide) ?_
  refine cr_bipush (pc := 45) (v := nI 7) C dX4_doesForget_45 (by decide) ?_
  refine cr_iload_n (pc := 47) C dX4_doesForget_47 rfl ?_
  refine cr_imul_n (pc := 48) C dX4_doesForget_48 ?_
  refine cr_iadd_n (pc := 49) C dX4_doesForget_49 ?_
  refine cr_iload_n (pc := 50) C dX4_doesForget_50 rfl ?_
  refine cr_iadd_n (pc := 51) C dX4_doesForget_51 ?_
  refine cr_iconst (pc := 52) (v := nI 0) C dX4_doesForget_52 (by decide) ?_
  refine cr_iastore (pc := 53) C rfl (by first | rfl | assumption | (simp [cg_ok]; omega)) (by omega) (by first | decide | omega) dX4_doesForget_53 ?_
  rw [cg_up_sb]
  refine cr_iinc3 (pc := 54) (v := nI 3) C dX4_doesForget_54 (by decide) (by decide) rfl ?_
  refine cr_goto (pc := 57) (tgt := 14) C dX4_doesForget_57 (by decide) ?_
  refine cr_iload_n (pc := 14) C dX4_doesForget_14 rfl ?_
  refine cr_bipush (pc := 15) (v := nI 7) C dX4_doesForget_15 (by decide) ?_
  refine cr_icmp_ge_f (pc := 17) (tgt := 60) C dX4_doesForget_17 (by decide) (by decide) ?_
  refine cr_iload_n (pc := 20) C dX4_doesForget_20 rfl ?_
  refine cr_aload_n (pc := 21) C dX4_doesForget_21 rfl ?_
  refine cr_getr (pc := 22) (c := 4) (k := 0) C (by first | rfl | assumption | (simp [cg_ok]; omega)) rfl (by decide) rfl inX4_doesForget_X4 flX4_doesForget_7 dX4_doesForget_22 ?_
  refine cr_sipush (pc := 25) (v := nI 313) C dX4_doesForget_25 (by decide) ?_
  refine cr_bipush (pc := 28) (v := nI 7) C dX4_doesForget_28 (by decide) ?_
  refine cr_iload_n (pc := 30) C dX4_doesForget_30 rfl ?_
  refine cr_imul_n (pc := 31) C dX4_doesForget_31 ?_
  refine cr_iadd_n (pc := 32) C dX4_doesForget_32 ?_
  refine cr_iload_n (pc := 33) C dX4_doesForget_33 rfl ?_
  refine cr_iadd_n (pc := 34) C dX4_doesForget_34 ?_
  refine cr_iaload (pc := 35) C rfl (by first | rfl | assumption | (simp [cg_ok]; omega)) (by omega) (by first | decide | omega) dX4_doesForget_35 ?_
  rw [cg_sb_s]
  rw [cg_un (by omega), cg_un (by omega)]
  refine cr_iadd (pc := 36) C dX4_doesForget_36 ?_
  refine cr_istore_n2 (pc := 37) C dX4_doesForget_37 (by decide) rfl ?_
  refine cr_aload_n (pc := 38) C dX4_doesForget_38 rfl ?_
  refine cr_getr (pc := 39) (c := 4) (k := 0) C (by first | rfl | assumption | (simp [cg_ok]; omega)) rfl (by decide) rfl inX4_doesForget_X4 flX4_doesForget_7 dX4_doesForget_39 ?_
  refine cr_sipush (pc := 42) (v := nI 313) C dX4_doesForget_42 (by decide) ?_
  refine cr_bipush (pc := 45) (v := nI 7) C dX4_doesForget_45 (by decide) ?_
  refine cr_iload_n (pc := 47) C dX4_doesForget_47 rfl ?_
  refine cr_imul_n (pc := 48) C dX4_doesForget_48 ?_
  refine cr_iadd_n (pc := 49) C dX4_doesForget_49 ?_
  refine cr_iload_n (pc := 50) C dX4_doesForget_50 rfl ?_
  refine cr_iadd_n (pc := 51) C dX4_doesForget_51 ?_
  refine cr_iconst (pc := 52) (v := nI 0) C dX4_doesForget_52 (by decide) ?_
  refine cr_iastore (pc := 53) C rfl (by first | rfl | assumption | (simp [cg_ok]; omega)) (by omega) (by first | decide | omega) dX4_doesForget_53 ?_
  rw [cg_up_sb]
  refine cr_iinc3 (pc := 54) (v := nI 4) C dX4_doesForget_54 (by decide) (by decide) rfl ?_
  refine cr_goto (pc := 57) (tgt := 14) C dX4_doesForget_57 (by decide) ?_
  refine cr_iload_n (pc := 14) C dX4_doesForget_14 rfl ?_
  refine cr_bipush (pc := 15) (v := nI 7) C dX4_doesForget_15 (by decide) ?_
  refine cr_icmp_ge_f (pc := 17) (tgt := 60) C dX4_doesForget_17 (by decide) (by decide) ?_
  refine cr_iload_n (pc := 20) C dX4_doesForget_20 rfl ?_
  refine cr_aload_n (pc := 21) C dX4_doesForget_21 rfl ?_
  refine cr_getr (pc := 22) (c := 4) (k := 0) C (by first | rfl | assumption | (simp [cg_ok]; omega)) rfl (by decide) rfl inX4_doesForget_X4 flX4_doesForget_7 dX4_doesForget_22 ?_
  refine cr_sipush (pc := 25) (v := nI 313) C dX4_doesForget_25 (by decide) ?_
  refine cr_bipush (pc := 28) (v := nI 7) C dX4_doesForget_28 (by decide) ?_
  refine cr_iload_n (pc := 30) C dX4_doesForget_30 rfl ?_
  refine cr_imul_n (pc := 31) C dX4_doesForget_31 ?_
  refine cr_iadd_n (pc := 32) C dX4_doesForget_32 ?_
  refine cr_iload_n (pc := 33) C dX4_doesForget_33 rfl ?_
  refine cr_iadd_n (pc := 34) C dX4_doesForget_34 ?_
  refine cr_iaload (pc := 35) C rfl (by first | rfl | assumption | (simp [cg_ok]; omega)) (by omega) (by first | decide | omega) dX4_doesForget_35 ?_
  rw [cg_sb_s]
  rw [cg_un (by omega), cg_un (by omega), cg_un (by omega)]
  refine cr_iadd (pc := 36) C dX4_doesForget_36 ?_
  refine cr_istore_n2 (pc := 37) C dX4_doesForget_37 (by decide) rfl ?_
  refine cr_aload_n (pc := 38) C dX4_doesForget_38 rfl ?_
  refine cr_getr (pc := 39) (c := 4) (k := 0) C (by first | rfl | assumption | (simp [cg_ok]; omega)) rfl (by decide) rfl inX4_doesForget_X4 flX4_doesForget_7 dX4_doesForget_39 ?_
  refine cr_sipush (pc := 42) (v := nI 313) C dX4_doesForget_42 (by decide) ?_
  refine cr_bipush (pc := 45) (v := nI 7) C dX4_doesForget_45 (by decide) ?_
  refine cr_iload_n (pc := 47) C dX4_doesForget_47 rfl ?_
  refine cr_imul_n (pc := 48) C dX4_doesForget_48 ?_
  refine cr_iadd_n (pc := 49) C dX4_doesForget_49 ?_
  refine cr_iload_n (pc := 50) C dX4_doesForget_50 rfl ?_
  refine cr_iadd_n (pc := 51) C dX4_doesForget_51 ?_
  refine cr_iconst (pc := 52) (v := nI 0) C dX4_doesForget_52 (by decide) ?_
  refine cr_iastore (pc := 53) C rfl (by first | rfl | assumption | (simp [cg_ok]; omega)) (by omega) (by first | decide | omega) dX4_doesForget_53 ?_
  rw [cg_up_sb]
  refine cr_iinc3 (pc := 54) (v := nI 5) C dX4_doesForget_54 (by decide) (by decide) rfl ?_
  refine cr_goto (pc := 57) (tgt := 14) C dX4_doesForget_57 (by decide) ?_
  refine cr_iload_n (pc := 14) C dX4_doesForget_14 rfl ?_
  refine cr_bipush (pc := 15) (v := nI 7) C dX4_doesForget_15 (by decide) ?_
  refine cr_icmp_ge_f (pc := 17) (tgt := 60) C dX4_doesForget_17 (by decide) (by decide) ?_
  refine cr_iload_n (pc := 20) C dX4_doesForget_20 rfl ?_
  refine cr_aload_n (pc := 21) C dX4_doesForget_21 rfl ?_
  refine cr_getr (pc := 22) (c := 4) (k := 0) C (by first | rfl | assumption | (simp [cg_ok]; omega)) rfl (by decide) rfl inX4_doesForget_X4 flX4_doesForget_7 dX4_doesForget_22 ?_
  refine cr_sipush (pc := 25) (v := nI 313) C dX4_doesForget_25 (by decide) ?_
  refine cr_bipush (pc := 28) (v := nI 7) C dX4_doesForget_28 (by decide) ?_
  refine cr_iload_n (pc := 30) C dX4_doesForget_30 rfl ?_
  refine cr_imul_n (pc := 31) C dX4_doesForget_31 ?_
  refine cr_iadd_n (pc := 32) C dX4_doesForget_32 ?_
  refine cr_iload_n (pc := 33) C dX4_doesForget_33 rfl ?_
  refine cr_iadd_n (pc := 34) C dX4_doesForget_34 ?_
  refine cr_iaload (pc := 35) C rfl (by first | rfl | assumption | (simp [cg_ok]; omega)) (by omega) (by first | decide | omega) dX4_doesForget_35 ?_
  rw [cg_sb_s]
  rw [cg_un (by omega), cg_un (by omega), cg_un (by omega), cg_un (by omega)]
  refine cr_iadd (pc := 36) C dX4_doesForget_36 ?_
  refine cr_istore_n2 (pc := 37) C dX4_doesForget_37 (by decide) rfl ?_
  refine cr_aload_n (pc := 38) C dX4_doesForget_38 rfl ?_
  refine cr_getr (pc := 39) (c := 4) (k := 0) C (by first | rfl | assumption | (simp [cg_ok]; omega)) rfl (by decide) rfl inX4_doesForget_X4 flX4_doesForget_7 dX4_doesForget_39 ?_
  refine cr_sipush (pc := 42) (v := nI 313) C dX4_doesForget_42 (by decide) ?_
  refine cr_bipush (pc := 45) (v := nI 7) C dX4_doesForget_45 (by decide) ?_
  refine cr_iload_n (pc := 47) C dX4_doesForget_47 rfl ?_
  refine cr_imul_n (pc := 48) C dX4_doesForget_48 ?_
  refine cr_iadd_n (pc := 49) C dX4_doesForget_49 ?_
  refine cr_iload_n (pc := 50) C dX4_doesForget_50 rfl ?_
  refine cr_iadd_n (pc := 51) C dX4_doesForget_51 ?_
  refine cr_iconst (pc := 52) (v := nI 0) C dX4_doesForget_52 (by decide) ?_
  refine cr_iastore (pc := 53) C rfl (by first | rfl | assumption | (simp [cg_ok]; omega)) (by omega) (by first | decide | omega) dX4_doesForget_53 ?_
  rw [cg_up_sb]
  refine cr_iinc3 (pc := 54) (v := nI 6) C dX4_doesForget_54 (by decide) (by decide) rfl ?_
  refine cr_goto (pc := 57) (tgt := 14) C dX4_doesForget_57 (by decide) ?_
  refine cr_iload_n (pc := 14) C dX4_doesForget_14 rfl ?_
  refine cr_bipush (pc := 15) (v := nI 7) C dX4_doesForget_15 (by decide) ?_
  refine cr_icmp_ge_f (pc := 17) (tgt := 60) C dX4_doesForget_17 (by decide) (by decide) ?_
  refine cr_iload_n (pc := 20) C dX4_doesForget_20 rfl ?_
  refine cr_aload_n (pc := 21) C dX4_doesForget_21 rfl ?_
  refine cr_getr (pc := 22) (c := 4) (k := 0) C (by first | rfl | assumption | (simp [cg_ok]; omega)) rfl (by decide) rfl inX4_doesForget_X4 flX4_doesForget_7 dX4_doesForget_22 ?_
  refine cr_sipush (pc := 25) (v := nI 313) C dX4_doesForget_25 (by decide) ?_
  refine cr_bipush (pc := 28) (v := nI 7) C dX4_doesForget_28 (by decide) ?_
  refine cr_iload_n (pc := 30) C dX4_doesForget_30 rfl ?_
  refine cr_imul_n (pc := 31) C dX4_doesForget_31 ?_
  refine cr_iadd_n (pc := 32) C dX4_doesForget_32 ?_
  refine cr_iload_n (pc := 33) C dX4_doesForget_33 rfl ?_
  refine cr_iadd_n (pc := 34) C dX4_doesForget_34 ?_
  refine cr_iaload (pc := 35) C rfl (by first | rfl | assumption | (simp [cg_ok]; omega)) (by omega) (by first | decide | omega) dX4_doesForget_35 ?_
  rw [cg_sb_s]
  rw [cg_un (by omega), cg_un (by omega), cg_un (by omega), cg_un (by omega), cg_un (by omega)]
  refine cr_iadd (pc := 36) C dX4_doesForget_36 ?_
  refine cr_istore_n2 (pc := 37) C dX4_doesForget_37 (by decide) rfl ?_
  refine cr_aload_n (pc := 38) C dX4_doesForget_38 rfl ?_
  refine cr_getr (pc := 39) (c := 4) (k := 0) C (by first | rfl | assumption | (simp [cg_ok]; omega)) rfl (by decide) rfl inX4_doesForget_X4 flX4_doesForget_7 dX4_doesForget_39 ?_
  refine cr_sipush (pc := 42) (v := nI 313) C dX4_doesForget_42 (by decide) ?_
  refine cr_bipush (pc := 45) (v := nI 7) C dX4_doesForget_45 (by decide) ?_
  refine cr_iload_n (pc := 47) C dX4_doesForget_47 rfl ?_
  refine cr_imul_n (pc := 48) C dX4_doesForget_48 ?_
  refine cr_iadd_n (pc := 49) C dX4_doesForget_49 ?_
  refine cr_iload_n (pc := 50) C dX4_doesForget_50 rfl ?_
  refine cr_iadd_n (pc := 51) C dX4_doesForget_51 ?_
  refine cr_iconst (pc := 52) (v := nI 0) C dX4_doesForget_52 (by decide) ?_
  refine cr_iastore (pc := 53) C rfl (by first | rfl | assumption | (simp [cg_ok]; omega)) (by omega) (by first | decide | omega) dX4_doesForget_53 ?_
  rw [cg_up_sb]
  refine cr_iinc3 (pc := 54) (v := nI 7) C dX4_doesForget_54 (by decide) (by decide) rfl ?_
  refine cr_goto (pc := 57) (tgt := 14) C dX4_doesForget_57 (by decide) ?_
  refine cr_iload_n (pc := 14) C dX4_doesForget_14 rfl ?_
  refine cr_bipush (pc := 15) (v := nI 7) C dX4_doesForget_15 (by decide) ?_
  refine cr_icmp_ge_t (pc := 17) (tgt := 60) C dX4_doesForget_17 (by decide) (by decide) ?_
  refine cr_iload_n (pc := 60) C dX4_doesForget_60 rfl ?_
  refine cr_ireturn (pc := 61) C X dX4_doesForget_61 ?_
  exact ⟨by rw [← cg_fgs], by rw [← cg_fgm]⟩
set_option maxRecDepth 100000 in
set_option maxHeartbeats 4000000 in
theorem sm_cV0 {M : cg_M} {P : Nat → Int32} {x : Int32} (h : ¬ cg_in x 4) : cg_D yX4_doesForget wsX4_doesForget rmX4_doesForget [.inr (.inr (4, 0, 0, 0)), .inl (x)] (cg_sb M 20 P) (some (.inl (-2))) ((cg_sb M 20 P)) := by
  refine cg_S_of (cc := cX4_doesForget) (maxL := 4) (ret := (some .int)) (ls0 := [some (.inr (.inr (4, 0, 0, 0))), some (.inl (x)), none, none]) RX4 rfl (by decide) rfl rfl (Nat.le_of_ble_eq_true rfl) (fun E C X => ?_)
  refine cr_iload_n (pc := 0) C dX4_doesForget_0 rfl ?_
  refine cr_dS (pc := 1) C (sm_isClient0 h) rfl gX4_doesForget_X4_isClient rfl dX4_doesForget_1 hsX4_isClient rfl ⟨rfl, rfl, Nat.le_of_ble_eq_true rfl, Nat.le_of_ble_eq_true rfl⟩ (Nat.le_of_ble_eq_true rfl) rfl ?_
  refine cr_if_ne_f (pc := 4) (tgt := 10) C dX4_doesForget_4 (by decide) (by decide) ?_
  refine cr_bipush (pc := 7) (v := (-2)) C dX4_doesForget_7 (by decide) ?_
  refine cr_ireturn (pc := 9) C X dX4_doesForget_9 ?_
  exact ⟨rfl, rfl⟩
set_option maxRecDepth 100000 in
set_option maxHeartbeats 4000000 in
theorem sm_rK3 {M : cg_M} {P : Nat → Int32} {c r k : Nat} (hc : c < 4) (hr : r < 3) (hk : k < 4) (hI : cg_I P) (h : cg_rA P c (2 ^ r) = false) : cg_D yX4_doesRead wsX4_doesRead rmX4_doesRead [.inr (.inr (4, 0, 0, 0)), .inl (nI c), .inl (nI r), .inl (nI k)] (cg_sb M 20 P) (some (.inl (-3))) ((cg_sb M 20 P)) := by
  refine cg_S_of (cc := cX4_doesRead) (maxL := 8) (ret := (some .int)) (ls0 := [some (.inr (.inr (4, 0, 0, 0))), some (.inl (nI c)), some (.inl (nI r)), some (.inl (nI k)), none, none, none, none]) RX4 rfl (by decide) rfl rfl (Nat.le_of_ble_eq_true rfl) (fun E C X => ?_)
  refine cr_iload_n (pc := 0) C dX4_doesRead_0 rfl ?_
  refine cr_dS (pc := 1) C (sm_isClient1 hc) rfl gX4_doesRead_X4_isClient rfl dX4_doesRead_1 hsX4_isClient rfl ⟨rfl, rfl, Nat.le_of_ble_eq_true rfl, Nat.le_of_ble_eq_true rfl⟩ (Nat.le_of_ble_eq_true rfl) rfl ?_
  refine cr_if_eq_f (pc := 4) (tgt := 21) C dX4_doesRead_4 (by decide) (by decide) ?_
  refine cr_iload_n (pc := 7) C dX4_doesRead_7 rfl ?_
  refine cr_dS (pc := 8) C (sm_isReplica1 hr) rfl gX4_doesRead_X4_isReplica rfl dX4_doesRead_8 hsX4_isReplica rfl ⟨rfl, rfl, Nat.le_of_ble_eq_true rfl, Nat.le_of_ble_eq_true rfl⟩ (Nat.le_of_ble_eq_true rfl) rfl ?_
  refine cr_if_eq_f (pc := 11) (tgt := 21) C dX4_doesRead_11 (by decide) (by decide) ?_
  refine cr_iload_n (pc := 14) C dX4_doesRead_14 rfl ?_
  refine cr_dS (pc := 15) C (sm_isKey1 hk) rfl gX4_doesRead_X4_isKey rfl dX4_doesRead_15 hsX4_isKey rfl ⟨rfl, rfl, Nat.le_of_ble_eq_true rfl, Nat.le_of_ble_eq_true rfl⟩ (Nat.le_of_ble_eq_true rfl) rfl ?_
  refine cr_if_ne_t (pc := 18) (tgt := 24) C dX4_doesRead_18 (by decide) (by decide) ?_
  refine cr_aload_n (pc := 24) C dX4_doesRead_24 rfl ?_
  refine cr_iload_n (pc := 25) C dX4_doesRead_25 rfl ?_
  refine cr_iload_n (pc := 26) C dX4_doesRead_26 rfl ?_
  refine cr_dV (pc := 27) C (sm_uR hc hr hI) rfl gX4_doesRead_X4_breachesOfRead rfl dX4_doesRead_27 (by first | rfl | assumption | (simp [cg_ok]; omega)) rfl hvX4_breachesOfRead rfl ⟨rfl, rfl, Nat.le_of_ble_eq_true rfl, Nat.le_of_ble_eq_true rfl⟩ (Nat.le_of_ble_eq_true rfl) rfl ?_
  refine cr_istore4 (pc := 30) C dX4_doesRead_30 (by decide) rfl ?_
  refine cr_iload (pc := 32) C dX4_doesRead_32 rfl ?_
  refine cr_aload_n (pc := 34) C dX4_doesRead_34 rfl ?_
  refine cr_iload_n (pc := 35) C dX4_doesRead_35 rfl ?_
  refine cr_dV (pc := 36) C (sm_gs hc) rfl gX4_doesRead_X4_guarantees rfl dX4_doesRead_36 (by first | rfl | assumption | (simp [cg_ok]; omega)) rfl hvX4_guarantees rfl ⟨rfl, rfl, Nat.le_of_ble_eq_true rfl, Nat.le_of_ble_eq_true rfl⟩ (Nat.le_of_ble_eq_true rfl) rfl ?_
  refine cr_iand (pc := 39) C dX4_doesRead_39 ?_
  refine cr_if_eq_f (pc := 40) (tgt := 46) C dX4_doesRead_40 (by decide) (of_decide_eq_false h) ?_
  refine cr_bipush (pc := 43) (v := (-3)) C dX4_doesRead_43 (by decide) ?_
  refine cr_ireturn (pc := 45) C X dX4_doesRead_45 ?_
  exact ⟨rfl, rfl⟩
theorem cg_mx_le {x y : Int32} (h : y ≤ x) : x = cg_mx x y := by unfold cg_mx; rw [if_neg (Int32.not_lt.mpr h)]
theorem cg_mx_gt {x y : Int32} (h : ¬ y ≤ x) : y = cg_mx x y := by unfold cg_mx; rw [if_pos (Int32.not_le.mp h)]
set_option maxRecDepth 100000 in
set_option maxHeartbeats 4000000 in
theorem sm_rK1 {M : cg_M} {P : Nat → Int32} {c r k : Nat} (hc : c < 4) (hr : r < 3) (hk : k < 4) (hI : cg_I P) (h : cg_rA P c (2 ^ r) = true) : cg_D yX4_doesRead wsX4_doesRead rmX4_doesRead [.inr (.inr (4, 0, 0, 0)), .inl (nI c), .inl (nI r), .inl (nI k)] (cg_sb M 20 P) (some (.inl (cg_vl (cg_rd P c r) r k (cg_ix (P 12))))) (cg_sb M 20 (cg_rd P c r)) := by
  obtain ⟨u, hu⟩ : ∃ u, u = cg_uR P c (2 ^ r) := ⟨_, rfl⟩
  refine cg_S_of (cc := cX4_doesRead) (maxL := 8) (ret := (some .int)) (ls0 := [some (.inr (.inr (4, 0, 0, 0))), some (.inl (nI c)), some (.inl (nI r)), some (.inl (nI k)), none, none, none, none]) RX4 rfl (by decide) rfl rfl (Nat.le_of_ble_eq_true rfl) (fun E C X => ?_)
  have hK3 : ∀ (A : Nat → Int32) (z7 : Option cg_V), A = cg_rd P c r → cg_W E (cg_sb M 20 A) 67 [some (.inr (.inr (4, 0, 0, 0))), some (.inl (nI c)), some (.inl (nI r)), some (.inl (nI k)), some (.inl (nI u)), some (.inl (nI (314 + 7 * c))), some (.inl (nI 3)), z7] [] := by
    intro A z7 ha
    have ha : A = cg_rd P c r := ha
    subst ha
    refine cr_iload (pc := 67) C dX4_doesRead_67 rfl ?_
    refine cr_iconst (pc := 69) (v := nI 3) C dX4_doesRead_69 (by decide) ?_
    refine cr_icmp_ge_t (pc := 70) (tgt := 132) C dX4_doesRead_70 (by decide) (by decide) ?_
    refine cr_aload_n (pc := 132) C dX4_doesRead_132 rfl ?_
    refine cr_iload_n (pc := 133) C dX4_doesRead_133 rfl ?_
    refine cr_iload_n (pc := 134) C dX4_doesRead_134 rfl ?_
    refine cr_dV (pc := 135) C (sm_valueAt hr (cg_Iw_of (cg_I_n hI) (fun j _ hj => cg_rd_lt hj))) rfl gX4_doesRead_X4_valueAt rfl dX4_doesRead_135 (by first | rfl | assumption | (simp [cg_ok]; omega)) rfl hvX4_valueAt rfl ⟨rfl, rfl, Nat.le_of_ble_eq_true rfl, Nat.le_of_ble_eq_true rfl⟩ (Nat.le_of_ble_eq_true rfl) rfl ?_
    refine cr_ireturn (pc := 138) C X dX4_doesRead_138 ?_
    exact ⟨rfl, rfl⟩
  have hK2 : ∀ (A : Nat → Int32) (z7 : Option cg_V), (cg_m1 (3 * r) (314 + 7 * c) 2 A) = cg_rd P c r → cg_W E (cg_sb M 20 A) 67 [some (.inr (.inr (4, 0, 0, 0))), some (.inl (nI c)), some (.inl (nI r)), some (.inl (nI k)), some (.inl (nI u)), some (.inl (nI (314 + 7 * c))), some (.inl (nI 2)), z7] [] := by
    intro A z7 ha
    by_cases hle : A (3 * r + 2) ≤ A (314 + 7 * c + 2)
    · have e1 : A (314 + 7 * c + 2) = cg_mx (A (314 + 7 * c + 2)) (A (3 * r + 2)) := cg_mx_le hle
      refine cr_iload (pc := 67) C dX4_doesRead_67 rfl ?_
      refine cr_iconst (pc := 69) (v := nI 3) C dX4_doesRead_69 (by decide) ?_
      refine cr_icmp_ge_f (pc := 70) (tgt := 132) C dX4_doesRead_70 (by decide) (by decide) ?_
      refine cr_aload_n (pc := 73) C dX4_doesRead_73 rfl ?_
      refine cr_getr (pc := 74) (c := 4) (k := 0) C (by first | rfl | assumption | (simp [cg_ok]; omega)) rfl (by decide) rfl inX4_doesRead_X4 flX4_doesRead_7 dX4_doesRead_74 ?_
      refine cr_iconst (pc := 77) (v := nI 3) C dX4_doesRead_77 (by decide) ?_
      refine cr_iload_n (pc := 78) C dX4_doesRead_78 rfl ?_
      refine cr_imul_n (pc := 79) C dX4_doesRead_79 ?_
      refine cr_iload (pc := 80) C dX4_doesRead_80 rfl ?_
      refine cr_iadd_n (pc := 82) C dX4_doesRead_82 ?_
      refine cr_iaload (pc := 83) C rfl (by first | rfl | assumption | (simp [cg_ok]; omega)) (by omega) (by first | decide | omega) dX4_doesRead_83 ?_
      rw [cg_sb_s]
      refine cr_istore7 (pc := 84) C dX4_doesRead_84 (by decide) rfl ?_
      refine cr_aload_n (pc := 86) C dX4_doesRead_86 rfl ?_
      refine cr_getr (pc := 87) (c := 4) (k := 0) C (by first | rfl | assumption | (simp [cg_ok]; omega)) rfl (by decide) rfl inX4_doesRead_X4 flX4_doesRead_7 dX4_doesRead_87 ?_
      refine cr_iload (pc := 90) C dX4_doesRead_90 rfl ?_
      refine cr_iload (pc := 92) C dX4_doesRead_92 rfl ?_
      refine cr_iadd_n (pc := 94) C dX4_doesRead_94 ?_
      refine cr_iload (pc := 95) C dX4_doesRead_95 rfl ?_
      refine cr_aload_n (pc := 97) C dX4_doesRead_97 rfl ?_
      refine cr_getr (pc := 98) (c := 4) (k := 0) C (by first | rfl | assumption | (simp [cg_ok]; omega)) rfl (by decide) rfl inX4_doesRead_X4 flX4_doesRead_7 dX4_doesRead_98 ?_
      refine cr_iload (pc := 101) C dX4_doesRead_101 rfl ?_
      refine cr_iload (pc := 103) C dX4_doesRead_103 rfl ?_
      refine cr_iadd_n (pc := 105) C dX4_doesRead_105 ?_
      refine cr_iaload (pc := 106) C rfl (by first | rfl | assumption | (simp [cg_ok]; omega)) (by omega) (by first | decide | omega) dX4_doesRead_106 ?_
      rw [cg_sb_s]
      refine cr_icmp_le_t (pc := 107) (tgt := 115) C dX4_doesRead_107 (by decide) hle ?_
      refine cr_aload_n (pc := 115) C dX4_doesRead_115 rfl ?_
      refine cr_getr (pc := 116) (c := 4) (k := 0) C (by first | rfl | assumption | (simp [cg_ok]; omega)) rfl (by decide) rfl inX4_doesRead_X4 flX4_doesRead_7 dX4_doesRead_116 ?_
      refine cr_iload (pc := 119) C dX4_doesRead_119 rfl ?_
      refine cr_iload (pc := 121) C dX4_doesRead_121 rfl ?_
      refine cr_iadd_n (pc := 123) C dX4_doesRead_123 ?_
      refine cr_iaload (pc := 124) C rfl (by first | rfl | assumption | (simp [cg_ok]; omega)) (by omega) (by first | decide | omega) dX4_doesRead_124 ?_
      rw [cg_sb_s]
      refine cr_top e1 ?_
      refine cr_iastore (pc := 125) C rfl (by first | rfl | assumption | (simp [cg_ok]; omega)) (by omega) (by first | decide | omega) dX4_doesRead_125 ?_
      rw [cg_up_sb]
      refine cr_iinc6 (pc := 126) (v := nI 3) C dX4_doesRead_126 (by decide) (by decide) rfl ?_
      refine cr_goto (pc := 129) (tgt := 67) C dX4_doesRead_129 (by decide) ?_
      exact hK3 _ _ ha
    · have e1 : A (3 * r + 2) = cg_mx (A (314 + 7 * c + 2)) (A (3 * r + 2)) := cg_mx_gt hle
      refine cr_iload (pc := 67) C dX4_doesRead_67 rfl ?_
      refine cr_iconst (pc := 69) (v := nI 3) C dX4_doesRead_69 (by decide) ?_
      refine cr_icmp_ge_f (pc := 70) (tgt := 132) C dX4_doesRead_70 (by decide) (by decide) ?_
      refine cr_aload_n (pc := 73) C dX4_doesRead_73 rfl ?_
      refine cr_getr (pc := 74) (c := 4) (k := 0) C (by first | rfl | assumption | (simp [cg_ok]; omega)) rfl (by decide) rfl inX4_doesRead_X4 flX4_doesRead_7 dX4_doesRead_74 ?_
      refine cr_iconst (pc := 77) (v := nI 3) C dX4_doesRead_77 (by decide) ?_
      refine cr_iload_n (pc := 78) C dX4_doesRead_78 rfl ?_
      refine cr_imul_n (pc := 79) C dX4_doesRead_79 ?_
      refine cr_iload (pc := 80) C dX4_doesRead_80 rfl ?_
      refine cr_iadd_n (pc := 82) C dX4_doesRead_82 ?_
      refine cr_iaload (pc := 83) C rfl (by first | rfl | assumption | (simp [cg_ok]; omega)) (by omega) (by first | decide | omega) dX4_doesRead_83 ?_
      rw [cg_sb_s]
      refine cr_istore7 (pc := 84) C dX4_doesRead_84 (by decide) rfl ?_
      refine cr_aload_n (pc := 86) C dX4_doesRead_86 rfl ?_
      refine cr_getr (pc := 87) (c := 4) (k := 0) C (by first | rfl | assumption | (simp [cg_ok]; omega)) rfl (by decide) rfl inX4_doesRead_X4 flX4_doesRead_7 dX4_doesRead_87 ?_
      refine cr_iload (pc := 90) C dX4_doesRead_90 rfl ?_
      refine cr_iload (pc := 92) C dX4_doesRead_92 rfl ?_
      refine cr_iadd_n (pc := 94) C dX4_doesRead_94 ?_
      refine cr_iload (pc := 95) C dX4_doesRead_95 rfl ?_
      refine cr_aload_n (pc := 97) C dX4_doesRead_97 rfl ?_
      refine cr_getr (pc := 98) (c := 4) (k := 0) C (by first | rfl | assumption | (simp [cg_ok]; omega)) rfl (by decide) rfl inX4_doesRead_X4 flX4_doesRead_7 dX4_doesRead_98 ?_
      refine cr_iload (pc := 101) C dX4_doesRead_101 rfl ?_
      refine cr_iload (pc := 103) C dX4_doesRead_103 rfl ?_
      refine cr_iadd_n (pc := 105) C dX4_doesRead_105 ?_
      refine cr_iaload (pc := 106) C rfl (by first | rfl | assumption | (simp [cg_ok]; omega)) (by omega) (by first | decide | omega) dX4_doesRead_106 ?_
      rw [cg_sb_s]
      refine cr_icmp_le_f (pc := 107) (tgt := 115) C dX4_doesRead_107 (by decide) hle ?_
      refine cr_iload (pc := 110) C dX4_doesRead_110 rfl ?_
      refine cr_goto (pc := 112) (tgt := 125) C dX4_doesRead_112 (by decide) ?_
      refine cr_top e1 ?_
      refine cr_iastore (pc := 125) C rfl (by first | rfl | assumption | (simp [cg_ok]; omega)) (by omega) (by first | decide | omega) dX4_doesRead_125 ?_
      rw [cg_up_sb]
      refine cr_iinc6 (pc := 126) (v := nI 3) C dX4_doesRead_126 (by decide) (by decide) rfl ?_
      refine cr_goto (pc := 129) (tgt := 67) C dX4_doesRead_129 (by decide) ?_
      exact hK3 _ _ ha
  have hK1 : ∀ (A : Nat → Int32) (z7 : Option cg_V), (cg_m1 (3 * r) (314 + 7 * c) 2 (cg_m1 (3 * r) (314 + 7 * c) 1 A)) = cg_rd P c r → cg_W E (cg_sb M 20 A) 67 [some (.inr (.inr (4, 0, 0, 0))), some (.inl (nI c)), some (.inl (nI r)), some (.inl (nI k)), some (.inl (nI u)), some (.inl (nI (314 + 7 * c))), some (.inl (nI 1)), z7] [] := by
    intro A z7 ha
    by_cases hle : A (3 * r + 1) ≤ A (314 + 7 * c + 1)
    · have e1 : A (314 + 7 * c + 1) = cg_mx (A (314 + 7 * c + 1)) (A (3 * r + 1)) := cg_mx_le hle
      refine cr_iload (pc := 67) C dX4_doesRead_67 rfl ?_
      refine cr_iconst (pc := 69) (v := nI 3) C dX4_doesRead_69 (by decide) ?_
      refine cr_icmp_ge_f (pc := 70) (tgt := 132) C dX4_doesRead_70 (by decide) (by decide) ?_
      refine cr_aload_n (pc := 73) C dX4_doesRead_73 rfl ?_
      refine cr_getr (pc := 74) (c := 4) (k := 0) C (by first | rfl | assumption | (simp [cg_ok]; omega)) rfl (by decide) rfl inX4_doesRead_X4 flX4_doesRead_7 dX4_doesRead_74 ?_
      refine cr_iconst (pc := 77) (v := nI 3) C dX4_doesRead_77 (by decide) ?_
      refine cr_iload_n (pc := 78) C dX4_doesRead_78 rfl ?_
      refine cr_imul_n (pc := 79) C dX4_doesRead_79 ?_
      refine cr_iload (pc := 80) C dX4_doesRead_80 rfl ?_
      refine cr_iadd_n (pc := 82) C dX4_doesRead_82 ?_
      refine cr_iaload (pc := 83) C rfl (by first | rfl | assumption | (simp [cg_ok]; omega)) (by omega) (by first | decide | omega) dX4_doesRead_83 ?_
      rw [cg_sb_s]
      refine cr_istore7 (pc := 84) C dX4_doesRead_84 (by decide) rfl ?_
      refine cr_aload_n (pc := 86) C dX4_doesRead_86 rfl ?_
      refine cr_getr (pc := 87) (c := 4) (k := 0) C (by first | rfl | assumption | (simp [cg_ok]; omega)) rfl (by decide) rfl inX4_doesRead_X4 flX4_doesRead_7 dX4_doesRead_87 ?_
      refine cr_iload (pc := 90) C dX4_doesRead_90 rfl ?_
      refine cr_iload (pc := 92) C dX4_doesRead_92 rfl ?_
      refine cr_iadd_n (pc := 94) C dX4_doesRead_94 ?_
      refine cr_iload (pc := 95) C dX4_doesRead_95 rfl ?_
      refine cr_aload_n (pc := 97) C dX4_doesRead_97 rfl ?_
      refine cr_getr (pc := 98) (c := 4) (k := 0) C (by first | rfl | assumption | (simp [cg_ok]; omega)) rfl (by decide) rfl inX4_doesRead_X4 flX4_doesRead_7 dX4_doesRead_98 ?_
      refine cr_iload (pc := 101) C dX4_doesRead_101 rfl ?_
      refine cr_iload (pc := 103) C dX4_doesRead_103 rfl ?_
      refine cr_iadd_n (pc := 105) C dX4_doesRead_105 ?_
      refine cr_iaload (pc := 106) C rfl (by first | rfl | assumption | (simp [cg_ok]; omega)) (by omega) (by first | decide | omega) dX4_doesRead_106 ?_
      rw [cg_sb_s]
      refine cr_icmp_le_t (pc := 107) (tgt := 115) C dX4_doesRead_107 (by decide) hle ?_
      refine cr_aload_n (pc := 115) C dX4_doesRead_115 rfl ?_
      refine cr_getr (pc := 116) (c := 4) (k := 0) C (by first | rfl | assumption | (simp [cg_ok]; omega)) rfl (by decide) rfl inX4_doesRead_X4 flX4_doesRead_7 dX4_doesRead_116 ?_
      refine cr_iload (pc := 119) C dX4_doesRead_119 rfl ?_
      refine cr_iload (pc := 121) C dX4_doesRead_121 rfl ?_
      refine cr_iadd_n (pc := 123) C dX4_doesRead_123 ?_
      refine cr_iaload (pc := 124) C rfl (by first | rfl | assumption | (simp [cg_ok]; omega)) (by omega) (by first | decide | omega) dX4_doesRead_124 ?_
      rw [cg_sb_s]
      refine cr_top e1 ?_
      refine cr_iastore (pc := 125) C rfl (by first | rfl | assumption | (simp [cg_ok]; omega)) (by omega) (by first | decide | omega) dX4_doesRead_125 ?_
      rw [cg_up_sb]
      refine cr_iinc6 (pc := 126) (v := nI 2) C dX4_doesRead_126 (by decide) (by decide) rfl ?_
      refine cr_goto (pc := 129) (tgt := 67) C dX4_doesRead_129 (by decide) ?_
      exact hK2 _ _ ha
    · have e1 : A (3 * r + 1) = cg_mx (A (314 + 7 * c + 1)) (A (3 * r + 1)) := cg_mx_gt hle
      refine cr_iload (pc := 67) C dX4_doesRead_67 rfl ?_
      refine cr_iconst (pc := 69) (v := nI 3) C dX4_doesRead_69 (by decide) ?_
      refine cr_icmp_ge_f (pc := 70) (tgt := 132) C dX4_doesRead_70 (by decide) (by decide) ?_
      refine cr_aload_n (pc := 73) C dX4_doesRead_73 rfl ?_
      refine cr_getr (pc := 74) (c := 4) (k := 0) C (by first | rfl | assumption | (simp [cg_ok]; omega)) rfl (by decide) rfl inX4_doesRead_X4 flX4_doesRead_7 dX4_doesRead_74 ?_
      refine cr_iconst (pc := 77) (v := nI 3) C dX4_doesRead_77 (by decide) ?_
      refine cr_iload_n (pc := 78) C dX4_doesRead_78 rfl ?_
      refine cr_imul_n (pc := 79) C dX4_doesRead_79 ?_
      refine cr_iload (pc := 80) C dX4_doesRead_80 rfl ?_
      refine cr_iadd_n (pc := 82) C dX4_doesRead_82 ?_
      refine cr_iaload (pc := 83) C rfl (by first | rfl | assumption | (simp [cg_ok]; omega)) (by omega) (by first | decide | omega) dX4_doesRead_83 ?_
      rw [cg_sb_s]
      refine cr_istore7 (pc := 84) C dX4_doesRead_84 (by decide) rfl ?_
      refine cr_aload_n (pc := 86) C dX4_doesRead_86 rfl ?_
      refine cr_getr (pc := 87) (c := 4) (k := 0) C (by first | rfl | assumption | (simp [cg_ok]; omega)) rfl (by decide) rfl inX4_doesRead_X4 flX4_doesRead_7 dX4_doesRead_87 ?_
      refine cr_iload (pc := 90) C dX4_doesRead_90 rfl ?_
      refine cr_iload (pc := 92) C dX4_doesRead_92 rfl ?_
      refine cr_iadd_n (pc := 94) C dX4_doesRead_94 ?_
      refine cr_iload (pc := 95) C dX4_doesRead_95 rfl ?_
      refine cr_aload_n (pc := 97) C dX4_doesRead_97 rfl ?_
      refine cr_getr (pc := 98) (c := 4) (k := 0) C (by first | rfl | assumption | (simp [cg_ok]; omega)) rfl (by decide) rfl inX4_doesRead_X4 flX4_doesRead_7 dX4_doesRead_98 ?_
      refine cr_iload (pc := 101) C dX4_doesRead_101 rfl ?_
      refine cr_iload (pc := 103) C dX4_doesRead_103 rfl ?_
      refine cr_iadd_n (pc := 105) C dX4_doesRead_105 ?_
      refine cr_iaload (pc := 106) C rfl (by first | rfl | assumption | (simp [cg_ok]; omega)) (by omega) (by first | decide | omega) dX4_doesRead_106 ?_
      rw [cg_sb_s]
      refine cr_icmp_le_f (pc := 107) (tgt := 115) C dX4_doesRead_107 (by decide) hle ?_
      refine cr_iload (pc := 110) C dX4_doesRead_110 rfl ?_
      refine cr_goto (pc := 112) (tgt := 125) C dX4_doesRead_112 (by decide) ?_
      refine cr_top e1 ?_
      refine cr_iastore (pc := 125) C rfl (by first | rfl | assumption | (simp [cg_ok]; omega)) (by omega) (by first | decide | omega) dX4_doesRead_125 ?_
      rw [cg_up_sb]
      refine cr_iinc6 (pc := 126) (v := nI 2) C dX4_doesRead_126 (by decide) (by decide) rfl ?_
      refine cr_goto (pc := 129) (tgt := 67) C dX4_doesRead_129 (by decide) ?_
      exact hK2 _ _ ha
  have hK0 : ∀ (A : Nat → Int32) (z7 : Option cg_V), (cg_m1 (3 * r) (314 + 7 * c) 2 (cg_m1 (3 * r) (314 + 7 * c) 1 (cg_m1 (3 * r) (314 + 7 * c) 0 A))) = cg_rd P c r → cg_W E (cg_sb M 20 A) 67 [some (.inr (.inr (4, 0, 0, 0))), some (.inl (nI c)), some (.inl (nI r)), some (.inl (nI k)), some (.inl (nI u)), some (.inl (nI (314 + 7 * c))), some (.inl (nI 0)), z7] [] := by
    intro A z7 ha
    by_cases hle : A (3 * r + 0) ≤ A (314 + 7 * c + 0)
    · have e1 : A (314 + 7 * c + 0) = cg_mx (A (314 + 7 * c + 0)) (A (3 * r + 0)) := cg_mx_le hle
      refine cr_iload (pc := 67) C dX4_doesRead_67 rfl ?_
      refine cr_iconst (pc := 69) (v := nI 3) C dX4_doesRead_69 (by decide) ?_
      refine cr_icmp_ge_f (pc := 70) (tgt := 132) C dX4_doesRead_70 (by decide) (by decide) ?_
      refine cr_aload_n (pc := 73) C dX4_doesRead_73 rfl ?_
      refine cr_getr (pc := 74) (c := 4) (k := 0) C (by first | rfl | assumption | (simp [cg_ok]; omega)) rfl (by decide) rfl inX4_doesRead_X4 flX4_doesRead_7 dX4_doesRead_74 ?_
      refine cr_iconst (pc := 77) (v := nI 3) C dX4_doesRead_77 (by decide) ?_
      refine cr_iload_n (pc := 78) C dX4_doesRead_78 rfl ?_
      refine cr_imul_n (pc := 79) C dX4_doesRead_79 ?_
      refine cr_iload (pc := 80) C dX4_doesRead_80 rfl ?_
      refine cr_iadd_n (pc := 82) C dX4_doesRead_82 ?_
      refine cr_iaload (pc := 83) C rfl (by first | rfl | assumption | (simp [cg_ok]; omega)) (by omega) (by first | decide | omega) dX4_doesRead_83 ?_
      rw [cg_sb_s]
      refine cr_istore7 (pc := 84) C dX4_doesRead_84 (by decide) rfl ?_
      refine cr_aload_n (pc := 86) C dX4_doesRead_86 rfl ?_
      refine cr_getr (pc := 87) (c := 4) (k := 0) C (by first | rfl | assumption | (simp [cg_ok]; omega)) rfl (by decide) rfl inX4_doesRead_X4 flX4_doesRead_7 dX4_doesRead_87 ?_
      refine cr_iload (pc := 90) C dX4_doesRead_90 rfl ?_
      refine cr_iload (pc := 92) C dX4_doesRead_92 rfl ?_
      refine cr_iadd_n (pc := 94) C dX4_doesRead_94 ?_
      refine cr_iload (pc := 95) C dX4_doesRead_95 rfl ?_
      refine cr_aload_n (pc := 97) C dX4_doesRead_97 rfl ?_
      refine cr_getr (pc := 98) (c := 4) (k := 0) C (by first | rfl | assumption | (simp [cg_ok]; omega)) rfl (by decide) rfl inX4_doesRead_X4 flX4_doesRead_7 dX4_doesRead_98 ?_
      refine cr_iload (pc := 101) C dX4_doesRead_101 rfl ?_
      refine cr_iload (pc := 103) C dX4_doesRead_103 rfl ?_
      refine cr_iadd_n (pc := 105) C dX4_doesRead_105 ?_
      refine cr_iaload (pc := 106) C rfl (by first | rfl | assumption | (simp [cg_ok]; omega)) (by omega) (by first | decide | omega) dX4_doesRead_106 ?_
      rw [cg_sb_s]
      refine cr_icmp_le_t (pc := 107) (tgt := 115) C dX4_doesRead_107 (by decide) hle ?_
      refine cr_aload_n (pc := 115) C dX4_doesRead_115 rfl ?_
      refine cr_getr (pc := 116) (c := 4) (k := 0) C (by first | rfl | assumption | (simp [cg_ok]; omega)) rfl (by decide) rfl inX4_doesRead_X4 flX4_doesRead_7 dX4_doesRead_116 ?_
      refine cr_iload (pc := 119) C dX4_doesRead_119 rfl ?_
      refine cr_iload (pc := 121) C dX4_doesRead_121 rfl ?_
      refine cr_iadd_n (pc := 123) C dX4_doesRead_123 ?_
      refine cr_iaload (pc := 124) C rfl (by first | rfl | assumption | (simp [cg_ok]; omega)) (by omega) (by first | decide | omega) dX4_doesRead_124 ?_
      rw [cg_sb_s]
      refine cr_top e1 ?_
      refine cr_iastore (pc := 125) C rfl (by first | rfl | assumption | (simp [cg_ok]; omega)) (by omega) (by first | decide | omega) dX4_doesRead_125 ?_
      rw [cg_up_sb]
      refine cr_iinc6 (pc := 126) (v := nI 1) C dX4_doesRead_126 (by decide) (by decide) rfl ?_
      refine cr_goto (pc := 129) (tgt := 67) C dX4_doesRead_129 (by decide) ?_
      exact hK1 _ _ ha
    · have e1 : A (3 * r + 0) = cg_mx (A (314 + 7 * c + 0)) (A (3 * r + 0)) := cg_mx_gt hle
      refine cr_iload (pc := 67) C dX4_doesRead_67 rfl ?_
      refine cr_iconst (pc := 69) (v := nI 3) C dX4_doesRead_69 (by decide) ?_
      refine cr_icmp_ge_f (pc := 70) (tgt := 132) C dX4_doesRead_70 (by decide) (by decide) ?_
      refine cr_aload_n (pc := 73) C dX4_doesRead_73 rfl ?_
      refine cr_getr (pc := 74) (c := 4) (k := 0) C (by first | rfl | assumption | (simp [cg_ok]; omega)) rfl (by decide) rfl inX4_doesRead_X4 flX4_doesRead_7 dX4_doesRead_74 ?_
      refine cr_iconst (pc := 77) (v := nI 3) C dX4_doesRead_77 (by decide) ?_
      refine cr_iload_n (pc := 78) C dX4_doesRead_78 rfl ?_
      refine cr_imul_n (pc := 79) C dX4_doesRead_79 ?_
      refine cr_iload (pc := 80) C dX4_doesRead_80 rfl ?_
      refine cr_iadd_n (pc := 82) C dX4_doesRead_82 ?_
      refine cr_iaload (pc := 83) C rfl (by first | rfl | assumption | (simp [cg_ok]; omega)) (by omega) (by first | decide | omega) dX4_doesRead_83 ?_
      rw [cg_sb_s]
      refine cr_istore7 (pc := 84) C dX4_doesRead_84 (by decide) rfl ?_
      refine cr_aload_n (pc := 86) C dX4_doesRead_86 rfl ?_
      refine cr_getr (pc := 87) (c := 4) (k := 0) C (by first | rfl | assumption | (simp [cg_ok]; omega)) rfl (by decide) rfl inX4_doesRead_X4 flX4_doesRead_7 dX4_doesRead_87 ?_
      refine cr_iload (pc := 90) C dX4_doesRead_90 rfl ?_
      refine cr_iload (pc := 92) C dX4_doesRead_92 rfl ?_
      refine cr_iadd_n (pc := 94) C dX4_doesRead_94 ?_
      refine cr_iload (pc := 95) C dX4_doesRead_95 rfl ?_
      refine cr_aload_n (pc := 97) C dX4_doesRead_97 rfl ?_
      refine cr_getr (pc := 98) (c := 4) (k := 0) C (by first | rfl | assumption | (simp [cg_ok]; omega)) rfl (by decide) rfl inX4_doesRead_X4 flX4_doesRead_7 dX4_doesRead_98 ?_
      refine cr_iload (pc := 101) C dX4_doesRead_101 rfl ?_
      refine cr_iload (pc := 103) C dX4_doesRead_103 rfl ?_
      refine cr_iadd_n (pc := 105) C dX4_doesRead_105 ?_
      refine cr_iaload (pc := 106) C rfl (by first | rfl | assumption | (simp [cg_ok]; omega)) (by omega) (by first | decide | omega) dX4_doesRead_106 ?_
      rw [cg_sb_s]
      refine cr_icmp_le_f (pc := 107) (tgt := 115) C dX4_doesRead_107 (by decide) hle ?_
      refine cr_iload (pc := 110) C dX4_doesRead_110 rfl ?_
      refine cr_goto (pc := 112) (tgt := 125) C dX4_doesRead_112 (by decide) ?_
      refine cr_top e1 ?_
      refine cr_iastore (pc := 125) C rfl (by first | rfl | assumption | (simp [cg_ok]; omega)) (by omega) (by first | decide | omega) dX4_doesRead_125 ?_
      rw [cg_up_sb]
      refine cr_iinc6 (pc := 126) (v := nI 1) C dX4_doesRead_126 (by decide) (by decide) rfl ?_
      refine cr_goto (pc := 129) (tgt := 67) C dX4_doesRead_129 (by decide) ?_
      exact hK1 _ _ ha
  refine cr_iload_n (pc := 0) C dX4_doesRead_0 rfl ?_
  refine cr_dS (pc := 1) C (sm_isClient1 hc) rfl gX4_doesRead_X4_isClient rfl dX4_doesRead_1 hsX4_isClient rfl ⟨rfl, rfl, Nat.le_of_ble_eq_true rfl, Nat.le_of_ble_eq_true rfl⟩ (Nat.le_of_ble_eq_true rfl) rfl ?_
  refine cr_if_eq_f (pc := 4) (tgt := 21) C dX4_doesRead_4 (by decide) (by decide) ?_
  refine cr_iload_n (pc := 7) C dX4_doesRead_7 rfl ?_
  refine cr_dS (pc := 8) C (sm_isReplica1 hr) rfl gX4_doesRead_X4_isReplica rfl dX4_doesRead_8 hsX4_isReplica rfl ⟨rfl, rfl, Nat.le_of_ble_eq_true rfl, Nat.le_of_ble_eq_true rfl⟩ (Nat.le_of_ble_eq_true rfl) rfl ?_
  refine cr_if_eq_f (pc := 11) (tgt := 21) C dX4_doesRead_11 (by decide) (by decide) ?_
  refine cr_iload_n (pc := 14) C dX4_doesRead_14 rfl ?_
  refine cr_dS (pc := 15) C (sm_isKey1 hk) rfl gX4_doesRead_X4_isKey rfl dX4_doesRead_15 hsX4_isKey rfl ⟨rfl, rfl, Nat.le_of_ble_eq_true rfl, Nat.le_of_ble_eq_true rfl⟩ (Nat.le_of_ble_eq_true rfl) rfl ?_
  refine cr_if_ne_t (pc := 18) (tgt := 24) C dX4_doesRead_18 (by decide) (by decide) ?_
  refine cr_aload_n (pc := 24) C dX4_doesRead_24 rfl ?_
  refine cr_iload_n (pc := 25) C dX4_doesRead_25 rfl ?_
  refine cr_iload_n (pc := 26) C dX4_doesRead_26 rfl ?_
  refine cr_dV (pc := 27) C (sm_uR hc hr hI) rfl gX4_doesRead_X4_breachesOfRead rfl dX4_doesRead_27 (by first | rfl | assumption | (simp [cg_ok]; omega)) rfl hvX4_breachesOfRead rfl ⟨rfl, rfl, Nat.le_of_ble_eq_true rfl, Nat.le_of_ble_eq_true rfl⟩ (Nat.le_of_ble_eq_true rfl) rfl ?_
  rw [← hu]
  refine cr_istore4 (pc := 30) C dX4_doesRead_30 (by decide) rfl ?_
  refine cr_iload (pc := 32) C dX4_doesRead_32 rfl ?_
  refine cr_aload_n (pc := 34) C dX4_doesRead_34 rfl ?_
  refine cr_iload_n (pc := 35) C dX4_doesRead_35 rfl ?_
  refine cr_dV (pc := 36) C (sm_gs hc) rfl gX4_doesRead_X4_guarantees rfl dX4_doesRead_36 (by first | rfl | assumption | (simp [cg_ok]; omega)) rfl hvX4_guarantees rfl ⟨rfl, rfl, Nat.le_of_ble_eq_true rfl, Nat.le_of_ble_eq_true rfl⟩ (Nat.le_of_ble_eq_true rfl) rfl ?_
  refine cr_iand (pc := 39) C dX4_doesRead_39 ?_
  refine cr_if_eq_t (pc := 40) (tgt := 46) C dX4_doesRead_40 (by decide) (by rw [hu]; exact of_decide_eq_true h) ?_
  refine cr_aload_n (pc := 46) C dX4_doesRead_46 rfl ?_
  refine cr_iload (pc := 47) C dX4_doesRead_47 rfl ?_
  refine cr_dV (pc := 49) C (sm_cb (by rw [hu]; exact cg_uR_lt _ _ _)) rfl gX4_doesRead_X4_countsBreaches rfl dX4_doesRead_49 (by first | rfl | assumption | (simp [cg_ok]; omega)) rfl hvX4_countsBreaches rfl ⟨rfl, rfl, Nat.le_of_ble_eq_true rfl, Nat.le_of_ble_eq_true rfl⟩ (Nat.le_of_ble_eq_true rfl) rfl ?_
  refine cr_sipush (pc := 52) (v := nI 313) C dX4_doesRead_52 (by decide) ?_
  refine cr_bipush (pc := 55) (v := nI 7) C dX4_doesRead_55 (by decide) ?_
  refine cr_iload_n (pc := 57) C dX4_doesRead_57 rfl ?_
  refine cr_imul_n (pc := 58) C dX4_doesRead_58 ?_
  refine cr_iadd_n (pc := 59) C dX4_doesRead_59 ?_
  refine cr_iconst (pc := 60) (v := nI 1) C dX4_doesRead_60 (by decide) ?_
  refine cr_iadd_n (pc := 61) C dX4_doesRead_61 ?_
  rw [show 313 + 7 * c + 1 = 314 + 7 * c by omega]
  refine cr_istore5 (pc := 62) C dX4_doesRead_62 (by decide) rfl ?_
  refine cr_iconst (pc := 64) (v := nI 0) C dX4_doesRead_64 (by decide) ?_
  refine cr_istore6 (pc := 65) C dX4_doesRead_65 (by decide) rfl ?_
  exact hK0 _ _ (by rw [hu]; rfl)
set_option maxRecDepth 100000 in
set_option maxHeartbeats 4000000 in
theorem sm_rK0 {M : cg_M} {P : Nat → Int32} {x y z : Int32} (h : ¬ (cg_in x 4 ∧ cg_in y 3 ∧ cg_in z 4)) : cg_D yX4_doesRead wsX4_doesRead rmX4_doesRead [.inr (.inr (4, 0, 0, 0)), .inl (x), .inl (y), .inl (z)] (cg_sb M 20 P) (some (.inl (-2))) ((cg_sb M 20 P)) := by
  rcases Classical.em (cg_in x 4) with ⟨c, hc, rfl⟩ | hx
  rcases Classical.em (cg_in y 3) with ⟨r, hr, rfl⟩ | hy
  · refine cg_S_of (cc := cX4_doesRead) (maxL := 8) (ret := (some .int)) (ls0 := [some (.inr (.inr (4, 0, 0, 0))), some (.inl (nI c)), some (.inl (nI r)), some (.inl (z)), none, none, none, none]) RX4 rfl (by decide) rfl rfl (Nat.le_of_ble_eq_true rfl) (fun E C X => ?_)
    refine cr_iload_n (pc := 0) C dX4_doesRead_0 rfl ?_
    refine cr_dS (pc := 1) C (sm_isClient1 hc) rfl gX4_doesRead_X4_isClient rfl dX4_doesRead_1 hsX4_isClient rfl ⟨rfl, rfl, Nat.le_of_ble_eq_true rfl, Nat.le_of_ble_eq_true rfl⟩ (Nat.le_of_ble_eq_true rfl) rfl ?_
    refine cr_if_eq_f (pc := 4) (tgt := 21) C dX4_doesRead_4 (by decide) (by decide) ?_
    refine cr_iload_n (pc := 7) C dX4_doesRead_7 rfl ?_
    refine cr_dS (pc := 8) C (sm_isReplica1 hr) rfl gX4_doesRead_X4_isReplica rfl dX4_doesRead_8 hsX4_isReplica rfl ⟨rfl, rfl, Nat.le_of_ble_eq_true rfl, Nat.le_of_ble_eq_true rfl⟩ (Nat.le_of_ble_eq_true rfl) rfl ?_
    refine cr_if_eq_f (pc := 11) (tgt := 21) C dX4_doesRead_11 (by decide) (by decide) ?_
    refine cr_iload_n (pc := 14) C dX4_doesRead_14 rfl ?_
    refine cr_dS (pc := 15) C (sm_isKey0 (fun q => h ⟨⟨_, hc, rfl⟩, ⟨_, hr, rfl⟩, q⟩)) rfl gX4_doesRead_X4_isKey rfl dX4_doesRead_15 hsX4_isKey rfl ⟨rfl, rfl, Nat.le_of_ble_eq_true rfl, Nat.le_of_ble_eq_true rfl⟩ (Nat.le_of_ble_eq_true rfl) rfl ?_
    refine cr_if_ne_f (pc := 18) (tgt := 24) C dX4_doesRead_18 (by decide) (by decide) ?_
    refine cr_bipush (pc := 21) (v := (-2)) C dX4_doesRead_21 (by decide) ?_
    refine cr_ireturn (pc := 23) C X dX4_doesRead_23 ?_
    exact ⟨rfl, rfl⟩
  · refine cg_S_of (cc := cX4_doesRead) (maxL := 8) (ret := (some .int)) (ls0 := [some (.inr (.inr (4, 0, 0, 0))), some (.inl (nI c)), some (.inl (y)), some (.inl (z)), none, none, none, none]) RX4 rfl (by decide) rfl rfl (Nat.le_of_ble_eq_true rfl) (fun E C X => ?_)
    refine cr_iload_n (pc := 0) C dX4_doesRead_0 rfl ?_
    refine cr_dS (pc := 1) C (sm_isClient1 hc) rfl gX4_doesRead_X4_isClient rfl dX4_doesRead_1 hsX4_isClient rfl ⟨rfl, rfl, Nat.le_of_ble_eq_true rfl, Nat.le_of_ble_eq_true rfl⟩ (Nat.le_of_ble_eq_true rfl) rfl ?_
    refine cr_if_eq_f (pc := 4) (tgt := 21) C dX4_doesRead_4 (by decide) (by decide) ?_
    refine cr_iload_n (pc := 7) C dX4_doesRead_7 rfl ?_
    refine cr_dS (pc := 8) C (sm_isReplica0 hy) rfl gX4_doesRead_X4_isReplica rfl dX4_doesRead_8 hsX4_isReplica rfl ⟨rfl, rfl, Nat.le_of_ble_eq_true rfl, Nat.le_of_ble_eq_true rfl⟩ (Nat.le_of_ble_eq_true rfl) rfl ?_
    refine cr_if_eq_t (pc := 11) (tgt := 21) C dX4_doesRead_11 (by decide) (by decide) ?_
    refine cr_bipush (pc := 21) (v := (-2)) C dX4_doesRead_21 (by decide) ?_
    refine cr_ireturn (pc := 23) C X dX4_doesRead_23 ?_
    exact ⟨rfl, rfl⟩
  · refine cg_S_of (cc := cX4_doesRead) (maxL := 8) (ret := (some .int)) (ls0 := [some (.inr (.inr (4, 0, 0, 0))), some (.inl (x)), some (.inl (y)), some (.inl (z)), none, none, none, none]) RX4 rfl (by decide) rfl rfl (Nat.le_of_ble_eq_true rfl) (fun E C X => ?_)
    refine cr_iload_n (pc := 0) C dX4_doesRead_0 rfl ?_
    refine cr_dS (pc := 1) C (sm_isClient0 hx) rfl gX4_doesRead_X4_isClient rfl dX4_doesRead_1 hsX4_isClient rfl ⟨rfl, rfl, Nat.le_of_ble_eq_true rfl, Nat.le_of_ble_eq_true rfl⟩ (Nat.le_of_ble_eq_true rfl) rfl ?_
    refine cr_if_eq_t (pc := 4) (tgt := 21) C dX4_doesRead_4 (by decide) (by decide) ?_
    refine cr_bipush (pc := 21) (v := (-2)) C dX4_doesRead_21 (by decide) ?_
    refine cr_ireturn (pc := 23) C X dX4_doesRead_23 ?_
    exact ⟨rfl, rfl⟩
