/-! ===== the reference: digest ===== -/
set_option maxRecDepth 100000 in
set_option maxHeartbeats 4000000 in
theorem sm_digest {M : cg_M} {n : Nat} (hI : cg_Iw (M 20) n) : cg_D yX4_digest wsX4_digest rmX4_digest [.inr (.inr (4, 0, 0, 0))] M (some (.inr (.inl (cg_h0 (cg_h0 (cg_hs (M 20) n (cg_mxh 2647 (fun j => M 23 j) 5)) (M 26 6)) (M 26 2))))) (M) := by
  refine cg_S_of (cc := cX4_digest) (maxL := 5) (ret := (some .long)) (ls0 := [some (.inr (.inr (4, 0, 0, 0))), none, none, none, none]) RX4 rfl (by decide) rfl rfl (Nat.le_of_ble_eq_true rfl) (fun E C X => ?_)
  refine cr_ldc2 (pc := 0) C dX4_digest_0 klX4_digest_156 ?_
  refine cr_lstore_n1 (pc := 3) C dX4_digest_3 (by decide) rfl ?_
  refine cr_iconst (pc := 4) (v := nI 0) C dX4_digest_4 (by decide) ?_
  refine cr_istore_n3 (pc := 5) C dX4_digest_5 (by decide) rfl ?_
  refine cr_iload_n (pc := 6) C dX4_digest_6 rfl ?_
  refine cr_iconst (pc := 7) (v := nI 5) C dX4_digest_7 (by decide) ?_
  refine cr_icmp_ge_f (pc := 8) (tgt := 31) C dX4_digest_8 (by decide) (by decide) ?_
  refine cr_ldc2 (pc := 11) C dX4_digest_11 klX4_digest_158 ?_
  refine cr_lload_n (pc := 14) C dX4_digest_14 rfl ?_
  refine cr_lmul (pc := 15) C dX4_digest_15 ?_
  refine cr_aload_n (pc := 16) C dX4_digest_16 rfl ?_
  refine cr_getr (pc := 17) (c := 4) (k := 4) C (by first | rfl | assumption | (simp [cg_ok]; omega)) rfl (by decide) rfl inX4_digest_X4 flX4_digest_19 dX4_digest_17 ?_
  refine cr_iload_n (pc := 20) C dX4_digest_20 rfl ?_
  refine cr_iaload (pc := 21) C rfl (by first | rfl | assumption | (simp [cg_ok]; omega)) (by decide) (by first | decide | omega) dX4_digest_21 ?_
  refine cr_i2l (pc := 22) C dX4_digest_22 ?_
  refine cr_ladd (pc := 23) C dX4_digest_23 ?_
  change cg_W E _ _ _ (.inr (.inl (cg_h0 _ _)) :: _)
  refine cr_lstore_n1 (pc := 24) C dX4_digest_24 (by decide) rfl ?_
  refine cr_iinc3 (pc := 25) (v := nI 1) C dX4_digest_25 (by decide) (by decide) rfl ?_
  refine cr_goto (pc := 28) (tgt := 6) C dX4_digest_28 (by decide) ?_
  refine cr_iload_n (pc := 6) C dX4_digest_6 rfl ?_
  refine cr_iconst (pc := 7) (v := nI 5) C dX4_digest_7 (by decide) ?_
  refine cr_icmp_ge_f (pc := 8) (tgt := 31) C dX4_digest_8 (by decide) (by decide) ?_
  refine cr_ldc2 (pc := 11) C dX4_digest_11 klX4_digest_158 ?_
  refine cr_lload_n (pc := 14) C dX4_digest_14 rfl ?_
  refine cr_lmul (pc := 15) C dX4_digest_15 ?_
  refine cr_aload_n (pc := 16) C dX4_digest_16 rfl ?_
  refine cr_getr (pc := 17) (c := 4) (k := 4) C (by first | rfl | assumption | (simp [cg_ok]; omega)) rfl (by decide) rfl inX4_digest_X4 flX4_digest_19 dX4_digest_17 ?_
  refine cr_iload_n (pc := 20) C dX4_digest_20 rfl ?_
  refine cr_iaload (pc := 21) C rfl (by first | rfl | assumption | (simp [cg_ok]; omega)) (by decide) (by first | decide | omega) dX4_digest_21 ?_
  refine cr_i2l (pc := 22) C dX4_digest_22 ?_
  refine cr_ladd (pc := 23) C dX4_digest_23 ?_
  change cg_W E _ _ _ (.inr (.inl (cg_h0 _ _)) :: _)
  refine cr_lstore_n1 (pc := 24) C dX4_digest_24 (by decide) rfl ?_
  refine cr_iinc3 (pc := 25) (v := nI 2) C dX4_digest_25 (by decide) (by decide) rfl ?_
  refine cr_goto (pc := 28) (tgt := 6) C dX4_digest_28 (by decide) ?_
  refine cr_iload_n (pc := 6) C dX4_digest_6 rfl ?_
  refine cr_iconst (pc := 7) (v := nI 5) C dX4_digest_7 (by decide) ?_
  refine cr_icmp_ge_f (pc := 8) (tgt := 31) C dX4_digest_8 (by decide) (by decide) ?_
  refine cr_ldc2 (pc := 11) C dX4_digest_11 klX4_digest_158 ?_
  refine cr_lload_n (pc := 14) C dX4_digest_14 rfl ?_
  refine cr_lmul (pc := 15) C dX4_digest_15 ?_
  refine cr_aload_n (pc := 16) C dX4_digest_16 rfl ?_
  refine cr_getr (pc := 17) (c := 4) (k := 4) C (by first | rfl | assumption | (simp [cg_ok]; omega)) rfl (by decide) rfl inX4_digest_X4 flX4_digest_19 dX4_digest_17 ?_
  refine cr_iload_n (pc := 20) C dX4_digest_20 rfl ?_
  refine cr_iaload (pc := 21) C rfl (by first | rfl | assumption | (simp [cg_ok]; omega)) (by decide) (by first | decide | omega) dX4_digest_21 ?_
  refine cr_i2l (pc := 22) C dX4_digest_22 ?_
  refine cr_ladd (pc := 23) C dX4_digest_23 ?_
  change cg_W E _ _ _ (.inr (.inl (cg_h0 _ _)) :: _)
  refine cr_lstore_n1 (pc := 24) C dX4_digest_24 (by decide) rfl ?_
  refine cr_iinc3 (pc := 25) (v := nI 3) C dX4_digest_25 (by decide) (by decide) rfl ?_
  refine cr_goto (pc := 28) (tgt := 6) C dX4_digest_28 (by decide) ?_
  refine cr_iload_n (pc := 6) C dX4_digest_6 rfl ?_
  refine cr_iconst (pc := 7) (v := nI 5) C dX4_digest_7 (by decide) ?_
  refine cr_icmp_ge_f (pc := 8) (tgt := 31) C dX4_digest_8 (by decide) (by decide) ?_
  refine cr_ldc2 (pc := 11) C dX4_digest_11 klX4_digest_158 ?_
  refine cr_lload_n (pc := 14) C dX4_digest_14 rfl ?_
  refine cr_lmul (pc := 15) C dX4_digest_15 ?_
  refine cr_aload_n (pc := 16) C dX4_digest_16 rfl ?_
  refine cr_getr (pc := 17) (c := 4) (k := 4) C (by first | rfl | assumption | (simp [cg_ok]; omega)) rfl (by decide) rfl inX4_digest_X4 flX4_digest_19 dX4_digest_17 ?_
  refine cr_iload_n (pc := 20) C dX4_digest_20 rfl ?_
  refine cr_iaload (pc := 21) C rfl (by first | rfl | assumption | (simp [cg_ok]; omega)) (by decide) (by first | decide | omega) dX4_digest_21 ?_
  refine cr_i2l (pc := 22) C dX4_digest_22 ?_
  refine cr_ladd (pc := 23) C dX4_digest_23 ?_
  change cg_W E _ _ _ (.inr (.inl (cg_h0 _ _)) :: _)
  refine cr_lstore_n1 (pc := 24) C dX4_digest_24 (by decide) rfl ?_
  refine cr_iinc3 (pc := 25) (v := nI 4) C dX4_digest_25 (by decide) (by decide) rfl ?_
  refine cr_goto (pc := 28) (tgt := 6) C dX4_digest_28 (by decide) ?_
  refine cr_iload_n (pc := 6) C dX4_digest_6 rfl ?_
  refine cr_iconst (pc := 7) (v := nI 5) C dX4_digest_7 (by decide) ?_
  refine cr_icmp_ge_f (pc := 8) (tgt := 31) C dX4_digest_8 (by decide) (by decide) ?_
  refine cr_ldc2 (pc := 11) C dX4_digest_11 klX4_digest_158 ?_
  refine cr_lload_n (pc := 14) C dX4_digest_14 rfl ?_
  refine cr_lmul (pc := 15) C dX4_digest_15 ?_
  refine cr_aload_n (pc := 16) C dX4_digest_16 rfl ?_
  refine cr_getr (pc := 17) (c := 4) (k := 4) C (by first | rfl | assumption | (simp [cg_ok]; omega)) rfl (by decide) rfl inX4_digest_X4 flX4_digest_19 dX4_digest_17 ?_
  refine cr_iload_n (pc := 20) C dX4_digest_20 rfl ?_
  refine cr_iaload (pc := 21) C rfl (by first | rfl | assumption | (simp [cg_ok]; omega)) (by decide) (by first | decide | omega) dX4_digest_21 ?_
  refine cr_i2l (pc := 22) C dX4_digest_22 ?_
  refine cr_ladd (pc := 23) C dX4_digest_23 ?_
  change cg_W E _ _ _ (.inr (.inl (cg_h0 _ _)) :: _)
  refine cr_lstore_n1 (pc := 24) C dX4_digest_24 (by decide) rfl ?_
  refine cr_iinc3 (pc := 25) (v := nI 5) C dX4_digest_25 (by decide) (by decide) rfl ?_
  refine cr_goto (pc := 28) (tgt := 6) C dX4_digest_28 (by decide) ?_
  refine cr_iload_n (pc := 6) C dX4_digest_6 rfl ?_
  refine cr_iconst (pc := 7) (v := nI 5) C dX4_digest_7 (by decide) ?_
  refine cr_icmp_ge_t (pc := 8) (tgt := 31) C dX4_digest_8 (by decide) (by decide) ?_
  refine cr_mem (cg_sb_id M 20).symm ?_
  refine cr_ldc2 (pc := 31) C dX4_digest_31 klX4_digest_158 ?_
  refine cr_lload_n (pc := 34) C dX4_digest_34 rfl ?_
  refine cr_lmul (pc := 35) C dX4_digest_35 ?_
  refine cr_aload_n (pc := 36) C dX4_digest_36 rfl ?_
  refine cr_getr (pc := 37) (c := 4) (k := 0) C (by first | rfl | assumption | (simp [cg_ok]; omega)) rfl (by decide) rfl inX4_digest_X4 flX4_digest_7 dX4_digest_37 ?_
  refine cr_bipush (pc := 40) (v := nI 12) C dX4_digest_40 (by decide) ?_
  refine cr_iaload (pc := 42) C rfl (by first | rfl | assumption | (simp [cg_ok]; omega)) (by decide) (by first | decide | omega) dX4_digest_42 ?_
  rw [cg_sb_s]
  refine cr_i2l (pc := 43) C dX4_digest_43 ?_
  refine cr_ladd (pc := 44) C dX4_digest_44 ?_
  change cg_W E _ _ _ (.inr (.inl (cg_h0 _ _)) :: _)
  refine cr_lstore_n1 (pc := 45) C dX4_digest_45 (by decide) rfl ?_
  refine cr_iconst (pc := 46) (v := nI 0) C dX4_digest_46 (by decide) ?_
  refine cr_istore_n3 (pc := 47) C dX4_digest_47 (by decide) rfl ?_
  refine cr_iload_n (pc := 48) C dX4_digest_48 rfl ?_
  refine cr_iconst (pc := 49) (v := nI 3) C dX4_digest_49 (by decide) ?_
  refine cr_icmp_ge_f (pc := 50) (tgt := 140) C dX4_digest_50 (by decide) (by decide) ?_
  refine cr_iconst (pc := 53) (v := nI 0) C dX4_digest_53 (by decide) ?_
  refine cr_istore4 (pc := 54) C dX4_digest_54 (by decide) rfl ?_
  refine cr_iload (pc := 56) C dX4_digest_56 rfl ?_
  refine cr_iconst (pc := 58) (v := nI 3) C dX4_digest_58 (by decide) ?_
  refine cr_icmp_ge_f (pc := 59) (tgt := 87) C dX4_digest_59 (by decide) (by decide) ?_
  refine cr_ldc2 (pc := 62) C dX4_digest_62 klX4_digest_158 ?_
  refine cr_lload_n (pc := 65) C dX4_digest_65 rfl ?_
  refine cr_lmul (pc := 66) C dX4_digest_66 ?_
  refine cr_aload_n (pc := 67) C dX4_digest_67 rfl ?_
  refine cr_getr (pc := 68) (c := 4) (k := 0) C (by first | rfl | assumption | (simp [cg_ok]; omega)) rfl (by decide) rfl inX4_digest_X4 flX4_digest_7 dX4_digest_68 ?_
  refine cr_iconst (pc := 71) (v := nI 3) C dX4_digest_71 (by decide) ?_
  refine cr_iload_n (pc := 72) C dX4_digest_72 rfl ?_
  refine cr_imul_n (pc := 73) C dX4_digest_73 ?_
  refine cr_iload (pc := 74) C dX4_digest_74 rfl ?_
  refine cr_iadd_n (pc := 76) C dX4_digest_76 ?_
  refine cr_iaload (pc := 77) C rfl (by first | rfl | assumption | (simp [cg_ok]; omega)) (by decide) (by first | decide | omega) dX4_digest_77 ?_
  rw [cg_sb_s]
  refine cr_i2l (pc := 78) C dX4_digest_78 ?_
  refine cr_ladd (pc := 79) C dX4_digest_79 ?_
  change cg_W E _ _ _ (.inr (.inl (cg_h0 _ _)) :: _)
  refine cr_lstore_n1 (pc := 80) C dX4_digest_80 (by decide) rfl ?_
  refine cr_iinc4 (pc := 81) (v := nI 1) C dX4_digest_81 (by decide) (by decide) rfl ?_
  refine cr_goto (pc := 84) (tgt := 56) C dX4_digest_84 (by decide) ?_
  refine cr_iload (pc := 56) C dX4_digest_56 rfl ?_
  refine cr_iconst (pc := 58) (v := nI 3) C dX4_digest_58 (by decide) ?_
  refine cr_icmp_ge_f (pc := 59) (tgt := 87) C dX4_digest_59 (by decide) (by decide) ?_
  refine cr_ldc2 (pc := 62) C dX4_digest_62 klX4_digest_158 ?_
  refine cr_lload_n (pc := 65) C dX4_digest_65 rfl ?_
  refine cr_lmul (pc := 66) C dX4_digest_66 ?_
  refine cr_aload_n (pc := 67) C dX4_digest_67 rfl ?_
  refine cr_getr (pc := 68) (c := 4) (k := 0) C (by first | rfl | assumption | (simp [cg_ok]; omega)) rfl (by decide) rfl inX4_digest_X4 flX4_digest_7 dX4_digest_68 ?_
  refine cr_iconst (pc := 71) (v := nI 3) C dX4_digest_71 (by decide) ?_
  refine cr_iload_n (pc := 72) C dX4_digest_72 rfl ?_
  refine cr_imul_n (pc := 73) C dX4_digest_73 ?_
  refine cr_iload (pc := 74) C dX4_digest_74 rfl ?_
  refine cr_iadd_n (pc := 76) C dX4_digest_76 ?_
  refine cr_iaload (pc := 77) C rfl (by first | rfl | assumption | (simp [cg_ok]; omega)) (by decide) (by first | decide | omega) dX4_digest_77 ?_
  rw [cg_sb_s]
  refine cr_i2l (pc := 78) C dX4_digest_78 ?_
  refine cr_ladd (pc := 79) C dX4_digest_79 ?_
  change cg_W E _ _ _ (.inr (.inl (cg_h0 _ _)) :: _)
  refine cr_lstore_n1 (pc := 80) C dX4_digest_80 (by decide) rfl ?_
  refine cr_iinc4 (pc := 81) (v := nI 2) C dX4_digest_81 (by decide) (by decide) rfl ?_
  refine cr_goto (pc := 84) (tgt := 56) C dX4_digest_84 (by decide) ?_
  refine cr_iload (pc := 56) C dX4_digest_56 rfl ?_
  refine cr_iconst (pc := 58) (v := nI 3) C dX4_digest_58 (by decide) ?_
  refine cr_icmp_ge_f (pc := 59) (tgt := 87) C dX4_digest_59 (by decide) (by decide) ?_
  refine cr_ldc2 (pc := 62) C dX4_digest_62 klX4_digest_158 ?_
  refine cr_lload_n (pc := 65) C dX4_digest_65 rfl ?_
  refine cr_lmul (pc := 66) C dX4_digest_66 ?_
  refine cr_aload_n (pc := 67) C dX4_digest_67 rfl ?_
  refine cr_getr (pc := 68) (c := 4) (k := 0) C (by first | rfl | assumption | (simp [cg_ok]; omega)) rfl (by decide) rfl inX4_digest_X4 flX4_digest_7 dX4_digest_68 ?_
  refine cr_iconst (pc := 71) (v := nI 3) C dX4_digest_71 (by decide) ?_
  refine cr_iload_n (pc := 72) C dX4_digest_72 rfl ?_
  refine cr_imul_n (pc := 73) C dX4_digest_73 ?_
  refine cr_iload (pc := 74) C dX4_digest_74 rfl ?_
  refine cr_iadd_n (pc := 76) C dX4_digest_76 ?_
  refine cr_iaload (pc := 77) C rfl (by first | rfl | assumption | (simp [cg_ok]; omega)) (by decide) (by first | decide | omega) dX4_digest_77 ?_
  rw [cg_sb_s]
  refine cr_i2l (pc := 78) C dX4_digest_78 ?_
  refine cr_ladd (pc := 79) C dX4_digest_79 ?_
  change cg_W E _ _ _ (.inr (.inl (cg_h0 _ _)) :: _)
  refine cr_lstore_n1 (pc := 80) C dX4_digest_80 (by decide) rfl ?_
  refine cr_iinc4 (pc := 81) (v := nI 3) C dX4_digest_81 (by decide) (by decide) rfl ?_
  refine cr_goto (pc := 84) (tgt := 56) C dX4_digest_84 (by decide) ?_
  refine cr_iload (pc := 56) C dX4_digest_56 rfl ?_
  refine cr_iconst (pc := 58) (v := nI 3) C dX4_digest_58 (by decide) ?_
  refine cr_icmp_ge_t (pc := 59) (tgt := 87) C dX4_digest_59 (by decide) (by decide) ?_
  refine cr_ldc2 (pc := 87) C dX4_digest_87 klX4_digest_158 ?_
  refine cr_lload_n (pc := 90) C dX4_digest_90 rfl ?_
  refine cr_lmul (pc := 91) C dX4_digest_91 ?_
  refine cr_aload_n (pc := 92) C dX4_digest_92 rfl ?_
  refine cr_getr (pc := 93) (c := 4) (k := 0) C (by first | rfl | assumption | (simp [cg_ok]; omega)) rfl (by decide) rfl inX4_digest_X4 flX4_digest_7 dX4_digest_93 ?_
  refine cr_bipush (pc := 96) (v := nI 9) C dX4_digest_96 (by decide) ?_
  refine cr_iload_n (pc := 98) C dX4_digest_98 rfl ?_
  refine cr_iadd_n (pc := 99) C dX4_digest_99 ?_
  refine cr_iaload (pc := 100) C rfl (by first | rfl | assumption | (simp [cg_ok]; omega)) (by decide) (by first | decide | omega) dX4_digest_100 ?_
  rw [cg_sb_s]
  refine cr_i2l (pc := 101) C dX4_digest_101 ?_
  refine cr_ladd (pc := 102) C dX4_digest_102 ?_
  change cg_W E _ _ _ (.inr (.inl (cg_h0 _ _)) :: _)
  refine cr_lstore_n1 (pc := 103) C dX4_digest_103 (by decide) rfl ?_
  refine cr_iconst (pc := 104) (v := nI 0) C dX4_digest_104 (by decide) ?_
  refine cr_istore4 (pc := 105) C dX4_digest_105 (by decide) rfl ?_
  refine cr_iload (pc := 107) C dX4_digest_107 rfl ?_
  refine cr_iconst (pc := 109) (v := nI 4) C dX4_digest_109 (by decide) ?_
  refine cr_icmp_ge_f (pc := 110) (tgt := 134) C dX4_digest_110 (by decide) (by decide) ?_
  refine cr_ldc2 (pc := 113) C dX4_digest_113 klX4_digest_158 ?_
  refine cr_lload_n (pc := 116) C dX4_digest_116 rfl ?_
  refine cr_lmul (pc := 117) C dX4_digest_117 ?_
  refine cr_aload_n (pc := 118) C dX4_digest_118 rfl ?_
  refine cr_iload_n (pc := 119) C dX4_digest_119 rfl ?_
  refine cr_iload (pc := 120) C dX4_digest_120 rfl ?_
  refine cr_dV (pc := 122) C (sm_valueAt (by decide) hI) rfl gX4_digest_X4_valueAt rfl dX4_digest_122 (by first | rfl | assumption | (simp [cg_ok]; omega)) rfl hvX4_valueAt rfl ⟨rfl, rfl, Nat.le_of_ble_eq_true rfl, Nat.le_of_ble_eq_true rfl⟩ (Nat.le_of_ble_eq_true rfl) rfl ?_
  refine cr_i2l (pc := 125) C dX4_digest_125 ?_
  refine cr_ladd (pc := 126) C dX4_digest_126 ?_
  change cg_W E _ _ _ (.inr (.inl (cg_h0 _ _)) :: _)
  refine cr_lstore_n1 (pc := 127) C dX4_digest_127 (by decide) rfl ?_
  refine cr_iinc4 (pc := 128) (v := nI 1) C dX4_digest_128 (by decide) (by decide) rfl ?_
  refine cr_goto (pc := 131) (tgt := 107) C dX4_digest_131 (by decide) ?_
  refine cr_iload (pc := 107) C dX4_digest_107 rfl ?_
  refine cr_iconst (pc := 109) (v := nI 4) C dX4_digest_109 (by decide) ?_
  refine cr_icmp_ge_f (pc := 110) (tgt := 134) C dX4_digest_110 (by decide) (by decide) ?_
  refine cr_ldc2 (pc := 113) C dX4_digest_113 klX4_digest_158 ?_
  refine cr_lload_n (pc := 116) C dX4_digest_116 rfl ?_
  refine cr_lmul (pc := 117) C dX4_digest_117 ?_
  refine cr_aload_n (pc := 118) C dX4_digest_118 rfl ?_
  refine cr_iload_n (pc := 119) C dX4_digest_119 rfl ?_
  refine cr_iload (pc := 120) C dX4_digest_120 rfl ?_
  refine cr_dV (pc := 122) C (sm_valueAt (by decide) hI) rfl gX4_digest_X4_valueAt rfl dX4_digest_122 (by first | rfl | assumption | (simp [cg_ok]; omega)) rfl hvX4_valueAt rfl ⟨rfl, rfl, Nat.le_of_ble_eq_true rfl, Nat.le_of_ble_eq_true rfl⟩ (Nat.le_of_ble_eq_true rfl) rfl ?_
  refine cr_i2l (pc := 125) C dX4_digest_125 ?_
  refine cr_ladd (pc := 126) C dX4_digest_126 ?_
  change cg_W E _ _ _ (.inr (.inl (cg_h0 _ _)) :: _)
  refine cr_lstore_n1 (pc := 127) C dX4_digest_127 (by decide) rfl ?_
  refine cr_iinc4 (pc := 128) (v := nI 2) C dX4_digest_128 (by decide) (by decide) rfl ?_
  refine cr_goto (pc := 131) (tgt := 107) C dX4_digest_131 (by decide) ?_
  refine cr_iload (pc := 107) C dX4_digest_107 rfl ?_
  refine cr_iconst (pc := 109) (v := nI 4) C dX4_digest_109 (by decide) ?_
  refine cr_icmp_ge_f (pc := 110) (tgt := 134) C dX4_digest_110 (by decide) (by decide) ?_
  refine cr_ldc2 (pc := 113) C dX4_digest_113 klX4_digest_158 ?_
  refine cr_lload_n (pc := 116) C dX4_digest_116 rfl ?_
  refine cr_lmul (pc := 117) C dX4_digest_117 ?_
  refine cr_aload_n (pc := 118) C dX4_digest_118 rfl ?_
  refine cr_iload_n (pc := 119) C dX4_digest_119 rfl ?_
  refine cr_iload (pc := 120) C dX4_digest_120 rfl ?_
  refine cr_dV (pc := 122) C (sm_valueAt (by decide) hI) rfl gX4_digest_X4_valueAt rfl dX4_digest_122 (by first | rfl | assumption | (simp [cg_ok]; omega)) rfl hvX4_valueAt rfl ⟨rfl, rfl, Nat.le_of_ble_eq_true rfl, Nat.le_of_ble_eq_true rfl⟩ (Nat.le_of_ble_eq_true rfl) rfl ?_
  refine cr_i2l (pc := 125) C dX4_digest_125 ?_
  refine cr_ladd (pc := 126) C dX4_digest_126 ?_
  change cg_W E _ _ _ (.inr (.inl (cg_h0 _ _)) :: _)
  refine cr_lstore_n1 (pc := 127) C dX4_digest_127 (by decide) rfl ?_
  refine cr_iinc4 (pc := 128) (v := nI 3) C dX4_digest_128 (by decide) (by decide) rfl ?_
  refine cr_goto (pc := 131) (tgt := 107) C dX4_digest_131 (by decide) ?_
  refine cr_iload (pc := 107) C dX4_digest_107 rfl ?_
  refine cr_iconst (pc := 109) (v := nI 4) C dX4_digest_109 (by decide) ?_
  refine cr_icmp_ge_f (pc := 110) (tgt := 134) C dX4_digest_110 (by decide) (by decide) ?_
  refine cr_ldc2 (pc := 113) C dX4_digest_113 klX4_digest_158 ?_
  refine cr_lload_n (pc := 116) C dX4_digest_116 rfl ?_
  refine cr_lmul (pc := 117) C dX4_digest_117 ?_
  refine cr_aload_n (pc := 118) C dX4_digest_118 rfl ?_
  refine cr_iload_n (pc := 119) C dX4_digest_119 rfl ?_
  refine cr_iload (pc := 120) C dX4_digest_120 rfl ?_
  refine cr_dV (pc := 122) C (sm_valueAt (by decide) hI) rfl gX4_digest_X4_valueAt rfl dX4_digest_122 (by first | rfl | assumption | (simp [cg_ok]; omega)) rfl hvX4_valueAt rfl ⟨rfl, rfl, Nat.le_of_ble_eq_true rfl, Nat.le_of_ble_eq_true rfl⟩ (Nat.le_of_ble_eq_true rfl) rfl ?_
  refine cr_i2l (pc := 125) C dX4_digest_125 ?_
  refine cr_ladd (pc := 126) C dX4_digest_126 ?_
  change cg_W E _ _ _ (.inr (.inl (cg_h0 _ _)) :: _)
  refine cr_lstore_n1 (pc := 127) C dX4_digest_127 (by decide) rfl ?_
  refine cr_iinc4 (pc := 128) (v := nI 4) C dX4_digest_128 (by decide) (by decide) rfl ?_
  refine cr_goto (pc := 131) (tgt := 107) C dX4_digest_131 (by decide) ?_
  refine cr_iload (pc := 107) C dX4_digest_107 rfl ?_
  refine cr_iconst (pc := 109) (v := nI 4) C dX4_digest_109 (by decide) ?_
  refine cr_icmp_ge_t (pc := 110) (tgt := 134) C dX4_digest_110 (by decide) (by decide) ?_
  refine cr_iinc3 (pc := 134) (v := nI 1) C dX4_digest_134 (by decide) (by decide) rfl ?_
  refine cr_goto (pc := 137) (tgt := 48) C dX4_digest_137 (by decide) ?_
  refine cr_iload_n (pc := 48) C dX4_digest_48 rfl ?_
  refine cr_iconst (pc := 49) (v := nI 3) C dX4_digest_49 (by decide) ?_
  refine cr_icmp_ge_f (pc := 50) (tgt := 140) C dX4_digest_50 (by decide) (by decide) ?_
  refine cr_iconst (pc := 53) (v := nI 0) C dX4_digest_53 (by decide) ?_
  refine cr_istore4 (pc := 54) C dX4_digest_54 (by decide) rfl ?_
  refine cr_iload (pc := 56) C dX4_digest_56 rfl ?_
  refine cr_iconst (pc := 58) (v := nI 3) C dX4_digest_58 (by decide) ?_
  refine cr_icmp_ge_f (pc := 59) (tgt := 87) C dX4_digest_59 (by decide) (by decide) ?_
  refine cr_ldc2 (pc := 62) C dX4_digest_62 klX4_digest_158 ?_
  refine cr_lload_n (pc := 65) C dX4_digest_65 rfl ?_
  refine cr_lmul (pc := 66) C dX4_digest_66 ?_
  refine cr_aload_n (pc := 67) C dX4_digest_67 rfl ?_
  refine cr_getr (pc := 68) (c := 4) (k := 0) C (by first | rfl | assumption | (simp [cg_ok]; omega)) rfl (by decide) rfl inX4_digest_X4 flX4_digest_7 dX4_digest_68 ?_
  refine cr_iconst (pc := 71) (v := nI 3) C dX4_digest_71 (by decide) ?_
  refine cr_iload_n (pc := 72) C dX4_digest_72 rfl ?_
  refine cr_imul_n (pc := 73) C dX4_digest_73 ?_
  refine cr_iload (pc := 74) C dX4_digest_74 rfl ?_
  refine cr_iadd_n (pc := 76) C dX4_digest_76 ?_
  refine cr_iaload (pc := 77) C rfl (by first | rfl | assumption | (simp [cg_ok]; omega)) (by decide) (by first | decide | omega) dX4_digest_77 ?_
  rw [cg_sb_s]
  refine cr_i2l (pc := 78) C dX4_digest_78 ?_
  refine cr_ladd (pc := 79) C dX4_digest_79 ?_
  change cg_W E _ _ _ (.inr (.inl (cg_h0 _ _)) :: _)
  refine cr_lstore_n1 (pc := 80) C dX4_digest_80 (by decide) rfl ?_
  refine cr_iinc4 (pc := 81) (v := nI 1) C dX4_digest_81 (by decide) (by decide) rfl ?_
  refine cr_goto (pc := 84) (tgt := 56) C dX4_digest_84 (by decide) ?_
  refine cr_iload (pc := 56) C dX4_digest_56 rfl ?_
  refine cr_iconst (pc := 58) (v := nI 3) C dX4_digest_58 (by decide) ?_
  refine cr_icmp_ge_f (pc := 59) (tgt := 87) C dX4_digest_59 (by decide) (by decide) ?_
  refine cr_ldc2 (pc := 62) C dX4_digest_62 klX4_digest_158 ?_
  refine cr_lload_n (pc := 65) C dX4_digest_65 rfl ?_
  refine cr_lmul (pc := 66) C dX4_digest_66 ?_
  refine cr_aload_n (pc := 67) C dX4_digest_67 rfl ?_
  refine cr_getr (pc := 68) (c := 4) (k := 0) C (by first | rfl | assumption | (simp [cg_ok]; omega)) rfl (by decide) rfl inX4_digest_X4 flX4_digest_7 dX4_digest_68 ?_
  refine cr_iconst (pc := 71) (v := nI 3) C dX4_digest_71 (by decide) ?_
  refine cr_iload_n (pc := 72) C dX4_digest_72 rfl ?_
  refine cr_imul_n (pc := 73) C dX4_digest_73 ?_
  refine cr_iload (pc := 74) C dX4_digest_74 rfl ?_
  refine cr_iadd_n (pc := 76) C dX4_digest_76 ?_
  refine cr_iaload (pc := 77) C rfl (by first | rfl | assumption | (simp [cg_ok]; omega)) (by decide) (by first | decide | omega) dX4_digest_77 ?_
  rw [cg_sb_s]
  refine cr_i2l (pc := 78) C dX4_digest_78 ?_
  refine cr_ladd (pc := 79) C dX4_digest_79 ?_
  change cg_W E _ _ _ (.inr (.inl (cg_h0 _ _)) :: _)
  refine cr_lstore_n1 (pc := 80) C dX4_digest_80 (by decide) rfl ?_
  refine cr_iinc4 (pc := 81) (v := nI 2) C dX4_digest_81 (by decide) (by decide) rfl ?_
  refine cr_goto (pc := 84) (tgt := 56) C dX4_digest_84 (by decide) ?_
  refine cr_iload (pc := 56) C dX4_digest_56 rfl ?_
  refine cr_iconst (pc := 58) (v := nI 3) C dX4_digest_58 (by decide) ?_
  refine cr_icmp_ge_f (pc := 59) (tgt := 87) C dX4_digest_59 (by decide) (by decide) ?_
  refine cr_ldc2 (pc := 62) C dX4_digest_62 klX4_digest_158 ?_
  refine cr_lload_n (pc := 65) C dX4_digest_65 rfl ?_
  refine cr_lmul (pc := 66) C dX4_digest_66 ?_
  refine cr_aload_n (pc := 67) C dX4_digest_67 rfl ?_
  refine cr_getr (pc := 68) (c := 4) (k := 0) C (by first | rfl | assumption | (simp [cg_ok]; omega)) rfl (by decide) rfl inX4_digest_X4 flX4_digest_7 dX4_digest_68 ?_
  refine cr_iconst (pc := 71) (v := nI 3) C dX4_digest_71 (by decide) ?_
  refine cr_iload_n (pc := 72) C dX4_digest_72 rfl ?_
  refine cr_imul_n (pc := 73) C dX4_digest_73 ?_
  refine cr_iload (pc := 74) C dX4_digest_74 rfl ?_
  refine cr_iadd_n (pc := 76) C dX4_digest_76 ?_
  refine cr_iaload (pc := 77) C rfl (by first | rfl | assumption | (simp [cg_ok]; omega)) (by decide) (by first | decide | omega) dX4_digest_77 ?_
  rw [cg_sb_s]
  refine cr_i2l (pc := 78) C dX4_digest_78 ?_
  refine cr_ladd (pc := 79) C dX4_digest_79 ?_
  change cg_W E _ _ _ (.inr (.inl (cg_h0 _ _)) :: _)
  refine cr_lstore_n1 (pc := 80) C dX4_digest_80 (by decide) rfl ?_
  refine cr_iinc4 (pc := 81) (v := nI 3) C dX4_digest_81 (by decide) (by decide) rfl ?_
  refine cr_goto (pc := 84) (tgt := 56) C dX4_digest_84 (by decide) ?_
  refine cr_iload (pc := 56) C dX4_digest_56 rfl ?_
  refine cr_iconst (pc := 58) (v := nI 3) C dX4_digest_58 (by decide) ?_
  refine cr_icmp_ge_t (pc := 59) (tgt := 87) C dX4_digest_59 (by decide) (by decide) ?_
  refine cr_ldc2 (pc := 87) C dX4_digest_87 klX4_digest_158 ?_
  refine cr_lload_n (pc := 90) C dX4_digest_90 rfl ?_
  refine cr_lmul (pc := 91) C dX4_digest_91 ?_
  refine cr_aload_n (pc := 92) C dX4_digest_92 rfl ?_
  refine cr_getr (pc := 93) (c := 4) (k := 0) C (by first | rfl | assumption | (simp [cg_ok]; omega)) rfl (by decide) rfl inX4_digest_X4 flX4_digest_7 dX4_digest_93 ?_
  refine cr_bipush (pc := 96) (v := nI 9) C dX4_digest_96 (by decide) ?_
  refine cr_iload_n (pc := 98) C dX4_digest_98 rfl ?_
  refine cr_iadd_n (pc := 99) C dX4_digest_99 ?_
  refine cr_iaload (pc := 100) C rfl (by first | rfl | assumption | (simp [cg_ok]; omega)) (by decide) (by first | decide | omega) dX4_digest_100 ?_
  rw [cg_sb_s]
  refine cr_i2l (pc := 101) C dX4_digest_101 ?_
  refine cr_ladd (pc := 102) C dX4_digest_102 ?_
  change cg_W E _ _ _ (.inr (.inl (cg_h0 _ _)) :: _)
  refine cr_lstore_n1 (pc := 103) C dX4_digest_103 (by decide) rfl ?_
  refine cr_iconst (pc := 104) (v := nI 0) C dX4_digest_104 (by decide) ?_
  refine cr_istore4 (pc := 105) C dX4_digest_105 (by decide) rfl ?_
  refine cr_iload (pc := 107) C dX4_digest_107 rfl ?_
  refine cr_iconst (pc := 109) (v := nI 4) C dX4_digest_109 (by decide) ?_
  refine cr_icmp_ge_f (pc := 110) (tgt := 134) C dX4_digest_110 (by decide) (by decide) ?_
  refine cr_ldc2 (pc := 113) C dX4_digest_113 klX4_digest_158 ?_
  refine cr_lload_n (pc := 116) C dX4_digest_116 rfl ?_
  refine cr_lmul (pc := 117) C dX4_digest_117 ?_
  refine cr_aload_n (pc := 118) C dX4_digest_118 rfl ?_
  refine cr_iload_n (pc := 119) C dX4_digest_119 rfl ?_
  refine cr_iload (pc := 120) C dX4_digest_120 rfl ?_
  refine cr_dV (pc := 122) C (sm_valueAt (by decide) hI) rfl gX4_digest_X4_valueAt rfl dX4_digest_122 (by first | rfl | assumption | (simp [cg_ok]; omega)) rfl hvX4_valueAt rfl ⟨rfl, rfl, Nat.le_of_ble_eq_true rfl, Nat.le_of_ble_eq_true rfl⟩ (Nat.le_of_ble_eq_true rfl) rfl ?_
  refine cr_i2l (pc := 125) C dX4_digest_125 ?_
  refine cr_ladd (pc := 126) C dX4_digest_126 ?_
  change cg_W E _ _ _ (.inr (.inl (cg_h0 _ _)) :: _)
  refine cr_lstore_n1 (pc := 127) C dX4_digest_127 (by decide) rfl ?_
  refine cr_iinc4 (pc := 128) (v := nI 1) C dX4_digest_128 (by decide) (by decide) rfl ?_
  refine cr_goto (pc := 131) (tgt := 107) C dX4_digest_131 (by decide) ?_
  refine cr_iload (pc := 107) C dX4_digest_107 rfl ?_
  refine cr_iconst (pc := 109) (v := nI 4) C dX4_digest_109 (by decide) ?_
  refine cr_icmp_ge_f (pc := 110) (tgt := 134) C dX4_digest_110 (by decide) (by decide) ?_
  refine cr_ldc2 (pc := 113) C dX4_digest_113 klX4_digest_158 ?_
  refine cr_lload_n (pc := 116) C dX4_digest_116 rfl ?_
  refine cr_lmul (pc := 117) C dX4_digest_117 ?_
  refine cr_aload_n (pc := 118) C dX4_digest_118 rfl ?_
  refine cr_iload_n (pc := 119) C dX4_digest_119 rfl ?_
  refine cr_iload (pc := 120) C dX4_digest_120 rfl ?_
  refine cr_dV (pc := 122) C (sm_valueAt (by decide) hI) rfl gX4_digest_X4_valueAt rfl dX4_digest_122 (by first | rfl | assumption | (simp [cg_ok]; omega)) rfl hvX4_valueAt rfl ⟨rfl, rfl, Nat.le_of_ble_eq_true rfl, Nat.le_of_ble_eq_true rfl⟩ (Nat.le_of_ble_eq_true rfl) rfl ?_
  refine cr_i2l (pc := 125) C dX4_digest_125 ?_
  refine cr_ladd (pc := 126) C dX4_digest_126 ?_
  change cg_W E _ _ _ (.inr (.inl (cg_h0 _ _)) :: _)
  refine cr_lstore_n1 (pc := 127) C dX4_digest_127 (by decide) rfl ?_
  refine cr_iinc4 (pc := 128) (v := nI 2) C dX4_digest_128 (by decide) (by decide) rfl ?_
  refine cr_goto (pc := 131) (tgt := 107) C dX4_digest_131 (by decide) ?_
  refine cr_iload (pc := 107) C dX4_digest_107 rfl ?_
  refine cr_iconst (pc := 109) (v := nI 4) C dX4_digest_109 (by decide) ?_
  refine cr_icmp_ge_f (pc := 110) (tgt := 134) C dX4_digest_110 (by decide) (by decide) ?_
  refine cr_ldc2 (pc := 113) C dX4_digest_113 klX4_digest_158 ?_
  refine cr_lload_n (pc := 116) C dX4_digest_116 rfl ?_
  refine cr_lmul (pc := 117) C dX4_digest_117 ?_
  refine cr_aload_n (pc := 118) C dX4_digest_118 rfl ?_
  refine cr_iload_n (pc := 119) C dX4_digest_119 rfl ?_
  refine cr_iload (pc := 120) C dX4_digest_120 rfl ?_
  refine cr_dV (pc := 122) C (sm_valueAt (by decide) hI) rfl gX4_digest_X4_valueAt rfl dX4_digest_122 (by first | rfl | assumption | (simp [cg_ok]; omega)) rfl hvX4_valueAt rfl ⟨rfl, rfl, Nat.le_of_ble_eq_true rfl, Nat.le_of_ble_eq_true rfl⟩ (Nat.le_of_ble_eq_true rfl) rfl ?_
  refine cr_i2l (pc := 125) C dX4_digest_125 ?_
  refine cr_ladd (pc := 126) C dX4_digest_126 ?_
  change cg_W E _ _ _ (.inr (.inl (cg_h0 _ _)) :: _)
  refine cr_lstore_n1 (pc := 127) C dX4_digest_127 (by decide) rfl ?_
  refine cr_iinc4 (pc := 128) (v := nI 3) C dX4_digest_128 (by decide) (by decide) rfl ?_
  refine cr_goto (pc := 131) (tgt := 107) C dX4_digest_131 (by decide) ?_
  refine cr_iload (pc := 107) C dX4_digest_107 rfl ?_
  refine cr_iconst (pc := 109) (v := nI 4) C dX4_digest_109 (by decide) ?_
  refine cr_icmp_ge_f (pc := 110) (tgt := 134) C dX4_digest_110 (by decide) (by decide) ?_
  refine cr_ldc2 (pc := 113) C dX4_digest_113 klX4_digest_158 ?_
  refine cr_lload_n (pc := 116) C dX4_digest_116 rfl ?_
  refine cr_lmul (pc := 117) C dX4_digest_117 ?_
  refine cr_aload_n (pc := 118) C dX4_digest_118 rfl ?_
  refine cr_iload_n (pc := 119) C dX4_digest_119 rfl ?_
  refine cr_iload (pc := 120) C dX4_digest_120 rfl ?_
  refine cr_dV (pc := 122) C (sm_valueAt (by decide) hI) rfl gX4_digest_X4_valueAt rfl dX4_digest_122 (by first | rfl | assumption | (simp [cg_ok]; omega)) rfl hvX4_valueAt rfl ⟨rfl, rfl, Nat.le_of_ble_eq_true rfl, Nat.le_of_ble_eq_true rfl⟩ (Nat.le_of_ble_eq_true rfl) rfl ?_
  refine cr_i2l (pc := 125) C dX4_digest_125 ?_
  refine cr_ladd (pc := 126) C dX4_digest_126 ?_
  change cg_W E _ _ _ (.inr (.inl (cg_h0 _ _)) :: _)
  refine cr_lstore_n1 (pc := 127) C dX4_digest_127 (by decide) rfl ?_
  refine cr_iinc4 (pc := 128) (v := nI 4) C dX4_digest_128 (by decide) (by decide) rfl ?_
  refine cr_goto (pc := 131) (tgt := 107) C dX4_digest_131 (by decide) ?_
  refine cr_iload (pc := 107) C dX4_digest_107 rfl ?_
  refine cr_iconst (pc := 109) (v := nI 4) C dX4_digest_109 (by decide) ?_
  refine cr_icmp_ge_t (pc := 110) (tgt := 134) C dX4_digest_110 (by decide) (by decide) ?_
  refine cr_iinc3 (pc := 134) (v := nI 2) C dX4_digest_134 (by decide) (by decide) rfl ?_
  refine cr_goto (pc := 137) (tgt := 48) C dX4_digest_137 (by decide) ?_
  refine cr_iload_n (pc := 48) C dX4_digest_48 rfl ?_
  refine cr_iconst (pc := 49) (v := nI 3) C dX4_digest_49 (by decide) ?_
  refine cr_icmp_ge_f (pc := 50) (tgt := 140) C dX4_digest_50 (by decide) (by decide) ?_
  refine cr_iconst (pc := 53) (v := nI 0) C dX4_digest_53 (by decide) ?_
  refine cr_istore4 (pc := 54) C dX4_digest_54 (by decide) rfl ?_
  refine cr_iload (pc := 56) C dX4_digest_56 rfl ?_
  refine cr_iconst (pc := 58) (v := nI 3) C dX4_digest_58 (by decide) ?_
  refine cr_icmp_ge_f (pc := 59) (tgt := 87) C dX4_digest_59 (by decide) (by decide) ?_
  refine cr_ldc2 (pc := 62) C dX4_digest_62 klX4_digest_158 ?_
  refine cr_lload_n (pc := 65) C dX4_digest_65 rfl ?_
  refine cr_lmul (pc := 66) C dX4_digest_66 ?_
  refine cr_aload_n (pc := 67) C dX4_digest_67 rfl ?_
  refine cr_getr (pc := 68) (c := 4) (k := 0) C (by first | rfl | assumption | (simp [cg_ok]; omega)) rfl (by decide) rfl inX4_digest_X4 flX4_digest_7 dX4_digest_68 ?_
  refine cr_iconst (pc := 71) (v := nI 3) C dX4_digest_71 (by decide) ?_
  refine cr_iload_n (pc := 72) C dX4_digest_72 rfl ?_
  refine cr_imul_n (pc := 73) C dX4_digest_73 ?_
  refine cr_iload (pc := 74) C dX4_digest_74 rfl ?_
  refine cr_iadd_n (pc := 76) C dX4_digest_76 ?_
  refine cr_iaload (pc := 77) C rfl (by first | rfl | assumption | (simp [cg_ok]; omega)) (by decide) (by first | decide | omega) dX4_digest_77 ?_
  rw [cg_sb_s]
  refine cr_i2l (pc := 78) C dX4_digest_78 ?_
  refine cr_ladd (pc := 79) C dX4_digest_79 ?_
  change cg_W E _ _ _ (.inr (.inl (cg_h0 _ _)) :: _)
  refine cr_lstore_n1 (pc := 80) C dX4_digest_80 (by decide) rfl ?_
  refine cr_iinc4 (pc := 81) (v := nI 1) C dX4_digest_81 (by decide) (by decide) rfl ?_
  refine cr_goto (pc := 84) (tgt := 56) C dX4_digest_84 (by decide) ?_
  refine cr_iload (pc := 56) C dX4_digest_56 rfl ?_
  refine cr_iconst (pc := 58) (v := nI 3) C dX4_digest_58 (by decide) ?_
  refine cr_icmp_ge_f (pc := 59) (tgt := 87) C dX4_digest_59 (by decide) (by decide) ?_
  refine cr_ldc2 (pc := 62) C dX4_digest_62 klX4_digest_158 ?_
  refine cr_lload_n (pc := 65) C dX4_digest_65 rfl ?_
  refine cr_lmul (pc := 66) C dX4_digest_66 ?_
  refine cr_aload_n (pc := 67) C dX4_digest_67 rfl ?_
  refine cr_getr (pc := 68) (c := 4) (k := 0) C (by first | rfl | assumption | (simp [cg_ok]; omega)) rfl (by decide) rfl inX4_digest_X4 flX4_digest_7 dX4_digest_68 ?_
  refine cr_iconst (pc := 71) (v := nI 3) C dX4_digest_71 (by decide) ?_
  refine cr_iload_n (pc := 72) C dX4_digest_72 rfl ?_
  refine cr_imul_n (pc := 73) C dX4_digest_73 ?_
  refine cr_iload (pc := 74) C dX4_digest_74 rfl ?_
  refine cr_iadd_n (pc := 76) C dX4_digest_76 ?_
  refine cr_iaload (pc := 77) C rfl (by first | rfl | assumption | (simp [cg_ok]; omega)) (by decide) (by first | decide | omega) dX4_digest_77 ?_
  rw [cg_sb_s]
  refine cr_i2l (pc := 78) C dX4_digest_78 ?_
  refine cr_ladd (pc := 79) C dX4_digest_79 ?_
  change cg_W E _ _ _ (.inr (.inl (cg_h0 _ _)) :: _)
  refine cr_lstore_n1 (pc := 80) C dX4_digest_80 (by decide) rfl ?_
  refine cr_iinc4 (pc := 81) (v := nI 2) C dX4_digest_81 (by decide) (by decide) rfl ?_
  refine cr_goto (pc := 84) (tgt := 56) C dX4_digest_84 (by decide) ?_
  refine cr_iload (pc := 56) C dX4_digest_56 rfl ?_
  refine cr_iconst (pc := 58) (v := nI 3) C dX4_digest_58 (by decide) ?_
  refine cr_icmp_ge_f (pc := 59) (tgt := 87) C dX4_digest_59 (by decide) (by decide) ?_
  refine cr_ldc2 (pc := 62) C dX4_digest_62 klX4_digest_158 ?_
  refine cr_lload_n (pc := 65) C dX4_digest_65 rfl ?_
  refine cr_lmul (pc := 66) C dX4_digest_66 ?_
  refine cr_aload_n (pc := 67) C dX4_digest_67 rfl ?_
  refine cr_getr (pc := 68) (c := 4) (k := 0) C (by first | rfl | assumption | (simp [cg_ok]; omega)) rfl (by decide) rfl inX4_digest_X4 flX4_digest_7 dX4_digest_68 ?_
  refine cr_iconst (pc := 71) (v := nI 3) C dX4_digest_71 (by decide) ?_
  refine cr_iload_n (pc := 72) C dX4_digest_72 rfl ?_
  refine cr_imul_n (pc := 73) C dX4_digest_73 ?_
  refine cr_iload (pc := 74) C dX4_digest_74 rfl ?_
  refine cr_iadd_n (pc := 76) C dX4_digest_76 ?_
  refine cr_iaload (pc := 77) C rfl (by first | rfl | assumption | (simp [cg_ok]; omega)) (by decide) (by first | decide | omega) dX4_digest_77 ?_
  rw [cg_sb_s]
  refine cr_i2l (pc := 78) C dX4_digest_78 ?_
  refine cr_ladd (pc := 79) C dX4_digest_79 ?_
  change cg_W E _ _ _ (.inr (.inl (cg_h0 _ _)) :: _)
  refine cr_lstore_n1 (pc := 80) C dX4_digest_80 (by decide) rfl ?_
  refine cr_iinc4 (pc := 81) (v := nI 3) C dX4_digest_81 (by decide) (by decide) rfl ?_
  refine cr_goto (pc := 84) (tgt := 56) C dX4_digest_84 (by decide) ?_
  refine cr_iload (pc := 56) C dX4_digest_56 rfl ?_
  refine cr_iconst (pc := 58) (v := nI 3) C dX4_digest_58 (by decide) ?_
  refine cr_icmp_ge_t (pc := 59) (tgt := 87) C dX4_digest_59 (by decide) (by decide) ?_
  refine cr_ldc2 (pc := 87) C dX4_digest_87 klX4_digest_158 ?_
  refine cr_lload_n (pc := 90) C dX4_digest_90 rfl ?_
  refine cr_lmul (pc := 91) C dX4_digest_91 ?_
  refine cr_aload_n (pc := 92) C dX4_digest_92 rfl ?_
  refine cr_getr (pc := 93) (c := 4) (k := 0) C (by first | rfl | assumption | (simp [cg_ok]; omega)) rfl (by decide) rfl inX4_digest_X4 flX4_digest_7 dX4_digest_93 ?_
  refine cr_bipush (pc := 96) (v := nI 9) C dX4_digest_96 (by decide) ?_
  refine cr_iload_n (pc := 98) C dX4_digest_98 rfl ?_
  refine cr_iadd_n (pc := 99) C dX4_digest_99 ?_
  refine cr_iaload (pc := 100) C rfl (by first | rfl | assumption | (simp [cg_ok]; omega)) (by decide) (by first | decide | omega) dX4_digest_100 ?_
  rw [cg_sb_s]
  refine cr_i2l (pc := 101) C dX4_digest_101 ?_
  refine cr_ladd (pc := 102) C dX4_digest_102 ?_
  change cg_W E _ _ _ (.inr (.inl (cg_h0 _ _)) :: _)
  refine cr_lstore_n1 (pc := 103) C dX4_digest_103 (by decide) rfl ?_
  refine cr_iconst (pc := 104) (v := nI 0) C dX4_digest_104 (by decide) ?_
  refine cr_istore4 (pc := 105) C dX4_digest_105 (by decide) rfl ?_
  refine cr_iload (pc := 107) C dX4_digest_107 rfl ?_
  refine cr_iconst (pc := 109) (v := nI 4) C dX4_digest_109 (by decide) ?_
  refine cr_icmp_ge_f (pc := 110) (tgt := 134) C dX4_digest_110 (by decide) (by decide) ?_
  refine cr_ldc2 (pc := 113) C dX4_digest_113 klX4_digest_158 ?_
  refine cr_lload_n (pc := 116) C dX4_digest_116 rfl ?_
  refine cr_lmul (pc := 117) C dX4_digest_117 ?_
  refine cr_aload_n (pc := 118) C dX4_digest_118 rfl ?_
  refine cr_iload_n (pc := 119) C dX4_digest_119 rfl ?_
  refine cr_iload (pc := 120) C dX4_digest_120 rfl ?_
  refine cr_dV (pc := 122) C (sm_valueAt (by decide) hI) rfl gX4_digest_X4_valueAt rfl dX4_digest_122 (by first | rfl | assumption | (simp [cg_ok]; omega)) rfl hvX4_valueAt rfl ⟨rfl, rfl, Nat.le_of_ble_eq_true rfl, Nat.le_of_ble_eq_true rfl⟩ (Nat.le_of_ble_eq_true rfl) rfl ?_
  refine cr_i2l (pc := 125) C dX4_digest_125 ?_
  refine cr_ladd (pc := 126) C dX4_digest_126 ?_
  change cg_W E _ _ _ (.inr (.inl (cg_h0 _ _)) :: _)
  refine cr_lstore_n1 (pc := 127) C dX4_digest_127 (by decide) rfl ?_
  refine cr_iinc4 (pc := 128) (v := nI 1) C dX4_digest_128 (by decide) (by decide) rfl ?_
  refine cr_goto (pc := 131) (tgt := 107) C dX4_digest_131 (by decide) ?_
  refine cr_iload (pc := 107) C dX4_digest_107 rfl ?_
  refine cr_iconst (pc := 109) (v := nI 4) C dX4_digest_109 (by decide) ?_
  refine cr_icmp_ge_f (pc := 110) (tgt := 134) C dX4_digest_110 (by decide) (by decide) ?_
  refine cr_ldc2 (pc := 113) C dX4_digest_113 klX4_digest_158 ?_
  refine cr_lload_n (pc := 116) C dX4_digest_116 rfl ?_
  refine cr_lmul (pc := 117) C dX4_digest_117 ?_
  refine cr_aload_n (pc := 118) C dX4_digest_118 rfl ?_
  refine cr_iload_n (pc := 119) C dX4_digest_119 rfl ?_
  refine cr_iload (pc := 120) C dX4_digest_120 rfl ?_
  refine cr_dV (pc := 122) C (sm_valueAt (by decide) hI) rfl gX4_digest_X4_valueAt rfl dX4_digest_122 (by first | rfl | assumption | (simp [cg_ok]; omega)) rfl hvX4_valueAt rfl ⟨rfl, rfl, Nat.le_of_ble_eq_true rfl, Nat.le_of_ble_eq_true rfl⟩ (Nat.le_of_ble_eq_true rfl) rfl ?_
  refine cr_i2l (pc := 125) C dX4_digest_125 ?_
  refine cr_ladd (pc := 126) C dX4_digest_126 ?_
  change cg_W E _ _ _ (.inr (.inl (cg_h0 _ _)) :: _)
  refine cr_lstore_n1 (pc := 127) C dX4_digest_127 (by decide) rfl ?_
  refine cr_iinc4 (pc := 128) (v := nI 2) C dX4_digest_128 (by decide) (by decide) rfl ?_
  refine cr_goto (pc := 131) (tgt := 107) C dX4_digest_131 (by decide) ?_
  refine cr_iload (pc := 107) C dX4_digest_107 rfl ?_
  refine cr_iconst (pc := 109) (v := nI 4) C dX4_digest_109 (by decide) ?_
  refine cr_icmp_ge_f (pc := 110) (tgt := 134) C dX4_digest_110 (by decide) (by decide) ?_
  refine cr_ldc2 (pc := 113) C dX4_digest_113 klX4_digest_158 ?_
  refine cr_lload_n (pc := 116) C dX4_digest_116 rfl ?_
  refine cr_lmul (pc := 117) C dX4_digest_117 ?_
  refine cr_aload_n (pc := 118) C dX4_digest_118 rfl ?_
  refine cr_iload_n (pc := 119) C dX4_digest_119 rfl ?_
  refine cr_iload (pc := 120) C dX4_digest_120 rfl ?_
  refine cr_dV (pc := 122) C (sm_valueAt (by decide) hI) rfl gX4_digest_X4_valueAt rfl dX4_digest_122 (by first | rfl | assumption | (simp [cg_ok]; omega)) rfl hvX4_valueAt rfl ⟨rfl, rfl, Nat.le_of_ble_eq_true rfl, Nat.le_of_ble_eq_true rfl⟩ (Nat.le_of_ble_eq_true rfl) rfl ?_
  refine cr_i2l (pc := 125) C dX4_digest_125 ?_
  refine cr_ladd (pc := 126) C dX4_digest_126 ?_
  change cg_W E _ _ _ (.inr (.inl (cg_h0 _ _)) :: _)
  refine cr_lstore_n1 (pc := 127) C dX4_digest_127 (by decide) rfl ?_
  refine cr_iinc4 (pc := 128) (v := nI 3) C dX4_digest_128 (by decide) (by decide) rfl ?_
  refine cr_goto (pc := 131) (tgt := 107) C dX4_digest_131 (by decide) ?_
  refine cr_iload (pc := 107) C dX4_digest_107 rfl ?_
  refine cr_iconst (pc := 109) (v := nI 4) C dX4_digest_109 (by decide) ?_
  refine cr_icmp_ge_f (pc := 110) (tgt := 134) C dX4_digest_110 (by decide) (by decide) ?_
  refine cr_ldc2 (pc := 113) C dX4_digest_113 klX4_digest_158 ?_
  refine cr_lload_n (pc := 116) C dX4_digest_116 rfl ?_
  refine cr_lmul (pc := 117) C dX4_digest_117 ?_
  refine cr_aload_n (pc := 118) C dX4_digest_118 rfl ?_
  refine cr_iload_n (pc := 119) C dX4_digest_119 rfl ?_
  refine cr_iload (pc := 120) C dX4_digest_120 rfl ?_
  refine cr_dV (pc := 122) C (sm_valueAt (by decide) hI) rfl gX4_digest_X4_valueAt rfl dX4_digest_122 (by first | rfl | assumption | (simp [cg_ok]; omega)) rfl hvX4_valueAt rfl ⟨rfl, rfl, Nat.le_of_ble_eq_true rfl, Nat.le_of_ble_eq_true rfl⟩ (Nat.le_of_ble_eq_true rfl) rfl ?_
  refine cr_i2l (pc := 125) C dX4_digest_125 ?_
  refine cr_ladd (pc := 126) C dX4_digest_126 ?_
  change cg_W E _ _ _ (.inr (.inl (cg_h0 _ _)) :: _)
  refine cr_lstore_n1 (pc := 127) C dX4_digest_127 (by decide) rfl ?_
  refine cr_iinc4 (pc := 128) (v := nI 4) C dX4_digest_128 (by decide) (by decide) rfl ?_
  refine cr_goto (pc := 131) (tgt := 107) C dX4_digest_131 (by decide) ?_
  refine cr_iload (pc := 107) C dX4_digest_107 rfl ?_
  refine cr_iconst (pc := 109) (v := nI 4) C dX4_digest_109 (by decide) ?_
  refine cr_icmp_ge_t (pc := 110) (tgt := 134) C dX4_digest_110 (by decide) (by decide) ?_
  refine cr_iinc3 (pc := 134) (v := nI 3) C dX4_digest_134 (by decide) (by decide) rfl ?_
  refine cr_goto (pc := 137) (tgt := 48) C dX4_digest_137 (by decide) ?_
  refine cr_iload_n (pc := 48) C dX4_digest_48 rfl ?_
  refine cr_iconst (pc := 49) (v := nI 3) C dX4_digest_49 (by decide) ?_
  refine cr_icmp_ge_t (pc := 50) (tgt := 140) C dX4_digest_50 (by decide) (by decide) ?_
  refine cr_sipush (pc := 140) (v := nI 313) C dX4_digest_140 (by decide) ?_
  refine cr_istore_n3 (pc := 143) C dX4_digest_143 (by decide) rfl ?_
  refine cr_iload_n (pc := 144) C dX4_digest_144 rfl ?_
  refine cr_sipush (pc := 145) (v := nI 345) C dX4_digest_145 (by decide) ?_
  refine cr_icmp_ge_f (pc := 148) (tgt := 171) C dX4_digest_148 (by decide) (by decide) ?_
  refine cr_ldc2 (pc := 151) C dX4_digest_151 klX4_digest_158 ?_
  refine cr_lload_n (pc := 154) C dX4_digest_154 rfl ?_
  refine cr_lmul (pc := 155) C dX4_digest_155 ?_
  refine cr_aload_n (pc := 156) C dX4_digest_156 rfl ?_
  refine cr_getr (pc := 157) (c := 4) (k := 0) C (by first | rfl | assumption | (simp [cg_ok]; omega)) rfl (by decide) rfl inX4_digest_X4 flX4_digest_7 dX4_digest_157 ?_
  refine cr_iload_n (pc := 160) C dX4_digest_160 rfl ?_
  refine cr_iaload (pc := 161) C rfl (by first | rfl | assumption | (simp [cg_ok]; omega)) (by decide) (by first | decide | omega) dX4_digest_161 ?_
  rw [cg_sb_s]
  refine cr_i2l (pc := 162) C dX4_digest_162 ?_
  refine cr_ladd (pc := 163) C dX4_digest_163 ?_
  change cg_W E _ _ _ (.inr (.inl (cg_h0 _ _)) :: _)
  refine cr_lstore_n1 (pc := 164) C dX4_digest_164 (by decide) rfl ?_
  refine cr_iinc3 (pc := 165) (v := nI 314) C dX4_digest_165 (by decide) (by decide) rfl ?_
  refine cr_goto (pc := 168) (tgt := 144) C dX4_digest_168 (by decide) ?_
  refine cr_iload_n (pc := 144) C dX4_digest_144 rfl ?_
  refine cr_sipush (pc := 145) (v := nI 345) C dX4_digest_145 (by decide) ?_
  refine cr_icmp_ge_f (pc := 148) (tgt := 171) C dX4_digest_148 (by decide) (by decide) ?_
  refine cr_ldc2 (pc := 151) C dX4_digest_151 klX4_digest_158 ?_
  refine cr_lload_n (pc := 154) C dX4_digest_154 rfl ?_
  refine cr_lmul (pc := 155) C dX4_digest_155 ?_
  refine cr_aload_n (pc := 156) C dX4_digest_156 rfl ?_
  refine cr_getr (pc := 157) (c := 4) (k := 0) C (by first | rfl | assumption | (simp [cg_ok]; omega)) rfl (by decide) rfl inX4_digest_X4 flX4_digest_7 dX4_digest_157 ?_
  refine cr_iload_n (pc := 160) C dX4_digest_160 rfl ?_
  refine cr_iaload (pc := 161) C rfl (by first | rfl | assumption | (simp [cg_ok]; omega)) (by decide) (by first | decide | omega) dX4_digest_161 ?_
  rw [cg_sb_s]
  refine cr_i2l (pc := 162) C dX4_digest_162 ?_
  refine cr_ladd (pc := 163) C dX4_digest_163 ?_
  change cg_W E _ _ _ (.inr (.inl (cg_h0 _ _)) :: _)
  refine cr_lstore_n1 (pc := 164) C dX4_digest_164 (by decide) rfl ?_
  refine cr_iinc3 (pc := 165) (v := nI 315) C dX4_digest_165 (by decide) (by decide) rfl ?_
  refine cr_goto (pc := 168) (tgt := 144) C dX4_digest_168 (by decide) ?_
  refine cr_iload_n (pc := 144) C dX4_digest_144 rfl ?_
  refine cr_sipush (pc := 145) (v := nI 345) C dX4_digest_145 (by decide) ?_
  refine cr_icmp_ge_f (pc := 148) (tgt := 171) C dX4_digest_148 (by decide) (by decide) ?_
  refine cr_ldc2 (pc := 151) C dX4_digest_151 klX4_digest_158 ?_
  refine cr_lload_n (pc := 154) C dX4_digest_154 rfl ?_
  refine cr_lmul (pc := 155) C dX4_digest_155 ?_
  refine cr_aload_n (pc := 156) C dX4_digest_156 rfl ?_
  refine cr_getr (pc := 157) (c := 4) (k := 0) C (by first | rfl | assumption | (simp [cg_ok]; omega)) rfl (by decide) rfl inX4_digest_X4 flX4_digest_7 dX4_digest_157 ?_
  refine cr_iload_n (pc := 160) C dX4_digest_160 rfl ?_
  refine cr_iaload (pc := 161) C rfl (by first | rfl | assumption | (simp [cg_ok]; omega)) (by decide) (by first | decide | omega) dX4_digest_161 ?_
  rw [cg_sb_s]
  refine cr_i2l (pc := 162) C dX4_digest_162 ?_
  refine cr_ladd (pc := 163) C dX4_digest_163 ?_
  change cg_W E _ _ _ (.inr (.inl (cg_h0 _ _)) :: _)
  refine cr_lstore_n1 (pc := 164) C dX4_digest_164 (by decide) rfl ?_
  refine cr_iinc3 (pc := 165) (v := nI 316) C dX4_digest_165 (by decide) (by decide) rfl ?_
  refine cr_goto (pc := 168) (tgt := 144) C dX4_digest_168 (by decide) ?_
  refine cr_iload_n (pc := 144) C dX4_digest_144 rfl ?_
  refine cr_sipush (pc := 145) (v := nI 345) C dX4_digest_145 (by decide) ?_
  refine cr_icmp_ge_f (pc := 148) (tgt := 171) C dX4_digest_148 (by decide) (by decide) ?_
  refine cr_ldc2 (pc := 151) C dX4_digest_151 klX4_digest_158 ?_
  refine cr_lload_n (pc := 154) C dX4_digest_154 rfl ?_
  refine cr_lmul (pc := 155) C dX4_digest_155 ?_
  refine cr_aload_n (pc := 156) C dX4_digest_156 rfl ?_
  refine cr_getr (pc := 157) (c := 4) (k := 0) C (by first | rfl | assumption | (simp [cg_ok]; omega)) rfl (by decide) rfl inX4_digest_X4 flX4_digest_7 dX4_digest_157 ?_
  refine cr_iload_n (pc := 160) C dX4_digest_160 rfl ?_
  refine cr_iaload (pc := 161) C rfl (by first | rfl | assumption | (simp [cg_ok]; omega)) (by decide) (by first | decide | omega) dX4_digest_161 ?_
  rw [cg_sb_s]
  refine cr_i2l (pc := 162) C dX4_digest_162 ?_
  refine cr_ladd (pc := 163) C dX4_digest_163 ?_
  change cg_W E _ _ _ (.inr (.inl (cg_h0 _ _)) :: _)
  refine cr_lstore_n1 (pc := 164) C dX4_digest_164 (by decide) rfl ?_
  refine cr_iinc3 (pc := 165) (v := nI 317) C dX4_digest_165 (by decide) (by decide) rfl ?_
  refine cr_goto (pc := 168) (tgt := 144) C dX4_digest_168 (by decide) ?_
  refine cr_iload_n (pc := 144) C dX4_digest_144 rfl ?_
  refine cr_sipush (pc := 145) (v := nI 345) C dX4_digest_145 (by decide) ?_
  refine cr_icmp_ge_f (pc := 148) (tgt := 171) C dX4_digest_148 (by decide) (by decide) ?_
  refine cr_ldc2 (pc := 151) C dX4_digest_151 klX4_digest_158 ?_
  refine cr_lload_n (pc := 154) C dX4_digest_154 rfl ?_
  refine cr_lmul (pc := 155) C dX4_digest_155 ?_
  refine cr_aload_n (pc := 156) C dX4_digest_156 rfl ?_
  refine cr_getr (pc := 157) (c := 4) (k := 0) C (by first | rfl | assumption | (simp [cg_ok]; omega)) rfl (by decide) rfl inX4_digest_X4 flX4_digest_7 dX4_digest_157 ?_
  refine cr_iload_n (pc := 160) C dX4_digest_160 rfl ?_
  refine cr_iaload (pc := 161) C rfl (by first | rfl | assumption | (simp [cg_ok]; omega)) (by decide) (by first | decide | omega) dX4_digest_161 ?_
  rw [cg_sb_s]
  refine cr_i2l (pc := 162) C dX4_digest_162 ?_
  refine cr_ladd (pc := 163) C dX4_digest_163 ?_
  change cg_W E _ _ _ (.inr (.inl (cg_h0 _ _)) :: _)
  refine cr_lstore_n1 (pc := 164) C dX4_digest_164 (by decide) rfl ?_
  refine cr_iinc3 (pc := 165) (v := nI 318) C dX4_digest_165 (by decide) (by decide) rfl ?_
  refine cr_goto (pc := 168) (tgt := 144) C dX4_digest_168 (by decide) ?_
  refine cr_iload_n (pc := 144) C dX4_digest_144 rfl ?_
  refine cr_sipush (pc := 145) (v := nI 345) C dX4_digest_145 (by decide) ?_
  refine cr_icmp_ge_f (pc := 148) (tgt := 171) C dX4_digest_148 (by decide) (by decide) ?_
  refine cr_ldc2 (pc := 151) C dX4_digest_151 klX4_digest_158 ?_
  refine cr_lload_n (pc := 154) C dX4_digest_154 rfl ?_
  refine cr_lmul (pc := 155) C dX4_digest_155 ?_
  refine cr_aload_n (pc := 156) C dX4_digest_156 rfl ?_
  refine cr_getr (pc := 157) (c := 4) (k := 0) C (by first | rfl | assumption | (simp [cg_ok]; omega)) rfl (by decide) rfl inX4_digest_X4 flX4_digest_7 dX4_digest_157 ?_
  refine cr_iload_n (pc := 160) C dX4_digest_160 rfl ?_
  refine cr_iaload (pc := 161) C rfl (by first | rfl | assumption | (simp [cg_ok]; omega)) (by decide) (by first | decide | omega) dX4_digest_161 ?_
  rw [cg_sb_s]
  refine cr_i2l (pc := 162) C dX4_digest_162 ?_
  refine cr_ladd (pc := 163) C dX4_digest_163 ?_
  change cg_W E _ _ _ (.inr (.inl (cg_h0 _ _)) :: _)
  refine cr_lstore_n1 (pc := 164) C dX4_digest_164 (by decide) rfl ?_
  refine cr_iinc3 (pc := 165) (v := nI 319) C dX4_digest_165 (by decide) (by decide) rfl ?_
  refine cr_goto (pc := 168) (tgt := 144) C dX4_digest_168 (by decide) ?_
  refine cr_iload_n (pc := 144) C dX4_digest_144 rfl ?_
  refine cr_sipush (pc := 145) (v := nI 345) C dX4_digest_145 (by decide) ?_
  refine cr_icmp_ge_f (pc := 148) (tgt := 171) C dX4_digest_148 (by decide) (by decide) ?_
  refine cr_ldc2 (pc := 151) C dX4_digest_151 klX4_digest_158 ?_
  refine cr_lload_n (pc := 154) C dX4_digest_154 rfl ?_
  refine cr_lmul (pc := 155) C dX4_digest_155 ?_
  refine cr_aload_n (pc := 156) C dX4_digest_156 rfl ?_
  refine cr_getr (pc := 157) (c := 4) (k := 0) C (by first | rfl | assumption | (simp [cg_ok]; omega)) rfl (by decide) rfl inX4_digest_X4 flX4_digest_7 dX4_digest_157 ?_
  refine cr_iload_n (pc := 160) C dX4_digest_160 rfl ?_
  refine cr_iaload (pc := 161) C rfl (by first | rfl | assumption | (simp [cg_ok]; omega)) (by decide) (by first | decide | omega) dX4_digest_161 ?_
  rw [cg_sb_s]
  refine cr_i2l (pc := 162) C dX4_digest_162 ?_
  refine cr_ladd (pc := 163) C dX4_digest_163 ?_
  change cg_W E _ _ _ (.inr (.inl (cg_h0 _ _)) :: _)
  refine cr_lstore_n1 (pc := 164) C dX4_digest_164 (by decide) rfl ?_
  refine cr_iinc3 (pc := 165) (v := nI 320) C dX4_digest_165 (by decide) (by decide) rfl ?_
  refine cr_goto (pc := 168) (tgt := 144) C dX4_digest_168 (by decide) ?_
  refine cr_iload_n (pc := 144) C dX4_digest_144 rfl ?_
  refine cr_sipush (pc := 145) (v := nI 345) C dX4_digest_145 (by decide) ?_
  refine cr_icmp_ge_f (pc := 148) (tgt := 171) C dX4_digest_148 (by decide) (by decide) ?_
  refine cr_ldc2 (pc := 151) C dX4_digest_151 klX4_digest_158 ?_
  refine cr_lload_n (pc := 154) C dX4_digest_154 rfl ?_
  refine cr_lmul (pc := 155) C dX4_digest_155 ?_
  refine cr_aload_n (pc := 156) C dX4_digest_156 rfl ?_
  refine cr_getr (pc := 157) (c := 4) (k := 0) C (by first | rfl | assumption | (simp [cg_ok]; omega)) rfl (by decide) rfl inX4_digest_X4 flX4_digest_7 dX4_digest_157 ?_
  refine cr_iload_n (pc := 160) C dX4_digest_160 rfl ?_
  refine cr_iaload (pc := 161) C rfl (by first | rfl | assumption | (simp [cg_ok]; omega)) (by decide) (by first | decide | omega) dX4_digest_161 ?_
  rw [cg_sb_s]
  refine cr_i2l (pc := 162) C dX4_digest_162 ?_
  refine cr_ladd (pc := 163) C dX4_digest_163 ?_
  change cg_W E _ _ _ (.inr (.inl (cg_h0 _ _)) :: _)
  refine cr_lstore_n1 (pc := 164) C dX4_digest_164 (by decide) rfl ?_
  refine cr_iinc3 (pc := 165) (v := nI 321) C dX4_digest_165 (by decide) (by decide) rfl ?_
  refine cr_goto (pc := 168) (tgt := 144) C dX4_digest_168 (by decide) ?_
  refine cr_iload_n (pc := 144) C dX4_digest_144 rfl ?_
  refine cr_sipush (pc := 145) (v := nI 345) C dX4_digest_145 (by decide) ?_
  refine cr_icmp_ge_f (pc := 148) (tgt := 171) C dX4_digest_148 (by decide) (by decide) ?_
  refine cr_ldc2 (pc := 151) C dX4_digest_151 klX4_digest_158 ?_
  refine cr_lload_n (pc := 154) C dX4_digest_154 rfl ?_
  refine cr_lmul (pc := 155) C dX4_digest_155 ?_
  refine cr_aload_n (pc := 156) C dX4_digest_156 rfl ?_
  refine cr_getr (pc := 157) (c := 4) (k := 0) C (by first | rfl | assumption | (simp [cg_ok]; omega)) rfl (by decide) rfl inX4_digest_X4 flX4_digest_7 dX4_digest_157 ?_
  refine cr_iload_n (pc := 160) C dX4_digest_160 rfl ?_
  refine cr_iaload (pc := 161) C rfl (by first | rfl | assumption | (simp [cg_ok]; omega)) (by decide) (by first | decide | omega) dX4_digest_161 ?_
  rw [cg_sb_s]
  refine cr_i2l (pc := 162) C dX4_digest_162 ?_
  refine cr_ladd (pc := 163) C dX4_digest_163 ?_
  change cg_W E _ _ _ (.inr (.inl (cg_h0 _ _)) :: _)
  refine cr_lstore_n1 (pc := 164) C dX4_digest_164 (by decide) rfl ?_
  refine cr_iinc3 (pc := 165) (v := nI 322) C dX4_digest_165 (by decide) (by decide) rfl ?_
  refine cr_goto (pc := 168) (tgt := 144) C dX4_digest_168 (by decide) ?_
  refine cr_iload_n (pc := 144) C dX4_digest_144 rfl ?_
  refine cr_sipush (pc := 145) (v := nI 345) C dX4_digest_145 (by decide) ?_
  refine cr_icmp_ge_f (pc := 148) (tgt := 171) C dX4_digest_148 (by decide) (by decide) ?_
  refine cr_ldc2 (pc := 151) C dX4_digest_151 klX4_digest_158 ?_
  refine cr_lload_n (pc := 154) C dX4_digest_154 rfl ?_
  refine cr_lmul (pc := 155) C dX4_digest_155 ?_
  refine cr_aload_n (pc := 156) C dX4_digest_156 rfl ?_
  refine cr_getr (pc := 157) (c := 4) (k := 0) C (by first | rfl | assumption | (simp [cg_ok]; omega)) rfl (by decide) rfl inX4_digest_X4 flX4_digest_7 dX4_digest_157 ?_
  refine cr_iload_n (pc := 160) C dX4_digest_160 rfl ?_
  refine cr_iaload (pc := 161) C rfl (by first | rfl | assumption | (simp [cg_ok]; omega)) (by decide) (by first | decide | omega) dX4_digest_161 ?_
  rw [cg_sb_s]
  refine cr_i2l (pc := 162) C dX4_digest_162 ?_
  refine cr_ladd (pc := 163) C dX4_digest_163 ?_
  change cg_W E _ _ _ (.inr (.inl (cg_h0 _ _)) :: _)
  refine cr_lstore_n1 (pc := 164) C dX4_digest_164 (by decide) rfl ?_
  refine cr_iinc3 (pc := 165) (v := nI 323) C dX4_digest_165 (by decide) (by decide) rfl ?_
  refine cr_goto (pc := 168) (tgt := 144) C dX4_digest_168 (by decide) ?_
  refine cr_iload_n (pc := 144) C dX4_digest_144 rfl ?_
  refine cr_sipush (pc := 145) (v := nI 345) C dX4_digest_145 (by decide) ?_
  refine cr_icmp_ge_f (pc := 148) (tgt := 171) C dX4_digest_148 (by decide) (by decide) ?_
  refine cr_ldc2 (pc := 151) C dX4_digest_151 klX4_digest_158 ?_
  refine cr_lload_n (pc := 154) C dX4_digest_154 rfl ?_
  refine cr_lmul (pc := 155) C dX4_digest_155 ?_
  refine cr_aload_n (pc := 156) C dX4_digest_156 rfl ?_
  refine cr_getr (pc := 157) (c := 4) (k := 0) C (by first | rfl | assumption | (simp [cg_ok]; omega)) rfl (by decide) rfl inX4_digest_X4 flX4_digest_7 dX4_digest_157 ?_
  refine cr_iload_n (pc := 160) C dX4_digest_160 rfl ?_
  refine cr_iaload (pc := 161) C rfl (by first | rfl | assumption | (simp [cg_ok]; omega)) (by decide) (by first | decide | omega) dX4_digest_161 ?_
  rw [cg_sb_s]
  refine cr_i2l (pc := 162) C dX4_digest_162 ?_
  refine cr_ladd (pc := 163) C dX4_digest_163 ?_
  change cg_W E _ _ _ (.inr (.inl (cg_h0 _ _)) :: _)
  refine cr_lstore_n1 (pc := 164) C dX4_digest_164 (by decide) rfl ?_
  refine cr_iinc3 (pc := 165) (v := nI 324) C dX4_digest_165 (by decide) (by decide) rfl ?_
  refine cr_goto (pc := 168) (tgt := 144) C dX4_digest_168 (by decide) ?_
  refine cr_iload_n (pc := 144) C dX4_digest_144 rfl ?_
  refine cr_sipush (pc := 145) (v := nI 345) C dX4_digest_145 (by decide) ?_
  refine cr_icmp_ge_f (pc := 148) (tgt := 171) C dX4_digest_148 (by decide) (by decide) ?_
  refine cr_ldc2 (pc := 151) C dX4_digest_151 klX4_digest_158 ?_
  refine cr_lload_n (pc := 154) C dX4_digest_154 rfl ?_
  refine cr_lmul (pc := 155) C dX4_digest_155 ?_
  refine cr_aload_n (pc := 156) C dX4_digest_156 rfl ?_
  refine cr_getr (pc := 157) (c := 4) (k := 0) C (by first | rfl | assumption | (simp [cg_ok]; omega)) rfl (by decide) rfl inX4_digest_X4 flX4_digest_7 dX4_digest_157 ?_
  refine cr_iload_n (pc := 160) C dX4_digest_160 rfl ?_
  refine cr_iaload (pc := 161) C rfl (by first | rfl | assumption | (simp [cg_ok]; omega)) (by decide) (by first | decide | omega) dX4_digest_161 ?_
  rw [cg_sb_s]
  refine cr_i2l (pc := 162) C dX4_digest_162 ?_
  refine cr_ladd (pc := 163) C dX4_digest_163 ?_
  change cg_W E _ _ _ (.inr (.inl (cg_h0 _ _)) :: _)
  refine cr_lstore_n1 (pc := 164) C dX4_digest_164 (by decide) rfl ?_
  refine cr_iinc3 (pc := 165) (v := nI 325) C dX4_digest_165 (by decide) (by decide) rfl ?_
  refine cr_goto (pc := 168) (tgt := 144) C dX4_digest_168 (by decide) ?_
  refine cr_iload_n (pc := 144) C dX4_digest_144 rfl ?_
  refine cr_sipush (pc := 145) (v := nI 345) C dX4_digest_145 (by decide) ?_
  refine cr_icmp_ge_f (pc := 148) (tgt := 171) C dX4_digest_148 (by decide) (by decide) ?_
  refine cr_ldc2 (pc := 151) C dX4_digest_151 klX4_digest_158 ?_
  refine cr_lload_n (pc := 154) C dX4_digest_154 rfl ?_
  refine cr_lmul (pc := 155) C dX4_digest_155 ?_
  refine cr_aload_n (pc := 156) C dX4_digest_156 rfl ?_
  refine cr_getr (pc := 157) (c := 4) (k := 0) C (by first | rfl | assumption | (simp [cg_ok]; omega)) rfl (by decide) rfl inX4_digest_X4 flX4_digest_7 dX4_digest_157 ?_
  refine cr_iload_n (pc := 160) C dX4_digest_160 rfl ?_
  refine cr_iaload (pc := 161) C rfl (by first | rfl | assumption | (simp [cg_ok]; omega)) (by decide) (by first | decide | omega) dX4_digest_161 ?_
  rw [cg_sb_s]
  refine cr_i2l (pc := 162) C dX4_digest_162 ?_
  refine cr_ladd (pc := 163) C dX4_digest_163 ?_
  change cg_W E _ _ _ (.inr (.inl (cg_h0 _ _)) :: _)
  refine cr_lstore_n1 (pc := 164) C dX4_digest_164 (by decide) rfl ?_
  refine cr_iinc3 (pc := 165) (v := nI 326) C dX4_digest_165 (by decide) (by decide) rfl ?_
  refine cr_goto (pc := 168) (tgt := 144) C dX4_digest_168 (by decide) ?_
  refine cr_iload_n (pc := 144) C dX4_digest_144 rfl ?_
  refine cr_sipush (pc := 145) (v := nI 345) C dX4_digest_145 (by decide) ?_
  refine cr_icmp_ge_f (pc := 148) (tgt := 171) C dX4_digest_148 (by decide) (by decide) ?_
  refine cr_ldc2 (pc := 151) C dX4_digest_151 klX4_digest_158 ?_
  refine cr_lload_n (pc := 154) C dX4_digest_154 rfl ?_
  refine cr_lmul (pc := 155) C dX4_digest_155 ?_
  refine cr_aload_n (pc := 156) C dX4_digest_156 rfl ?_
  refine cr_getr (pc := 157) (c := 4) (k := 0) C (by first | rfl | assumption | (simp [cg_ok]; omega)) rfl (by decide) rfl inX4_digest_X4 flX4_digest_7 dX4_digest_157 ?_
  refine cr_iload_n (pc := 160) C dX4_digest_160 rfl ?_
  refine cr_iaload (pc := 161) C rfl (by first | rfl | assumption | (simp [cg_ok]; omega)) (by decide) (by first | decide | omega) dX4_digest_161 ?_
  rw [cg_sb_s]
  refine cr_i2l (pc := 162) C dX4_digest_162 ?_
  refine cr_ladd (pc := 163) C dX4_digest_163 ?_
  change cg_W E _ _ _ (.inr (.inl (cg_h0 _ _)) :: _)
  refine cr_lstore_n1 (pc := 164) C dX4_digest_164 (by decide) rfl ?_
  refine cr_iinc3 (pc := 165) (v := nI 327) C dX4_digest_165 (by decide) (by decide) rfl ?_
  refine cr_goto (pc := 168) (tgt := 144) C dX4_digest_168 (by decide) ?_
  refine cr_iload_n (pc := 144) C dX4_digest_144 rfl ?_
  refine cr_sipush (pc := 145) (v := nI 345) C dX4_digest_145 (by decide) ?_
  refine cr_icmp_ge_f (pc := 148) (tgt := 171) C dX4_digest_148 (by decide) (by decide) ?_
  refine cr_ldc2 (pc := 151) C dX4_digest_151 klX4_digest_158 ?_
  refine cr_lload_n (pc := 154) C dX4_digest_154 rfl ?_
  refine cr_lmul (pc := 155) C dX4_digest_155 ?_
  refine cr_aload_n (pc := 156) C dX4_digest_156 rfl ?_
  refine cr_getr (pc := 157) (c := 4) (k := 0) C (by first | rfl | assumption | (simp [cg_ok]; omega)) rfl (by decide) rfl inX4_digest_X4 flX4_digest_7 dX4_digest_157 ?_
  refine cr_iload_n (pc := 160) C dX4_digest_160 rfl ?_
  refine cr_iaload (pc := 161) C rfl (by first | rfl | assumption | (simp [cg_ok]; omega)) (by decide) (by first | decide | omega) dX4_digest_161 ?_
  rw [cg_sb_s]
  refine cr_i2l (pc := 162) C dX4_digest_162 ?_
  refine cr_ladd (pc := 163) C dX4_digest_163 ?_
  change cg_W E _ _ _ (.inr (.inl (cg_h0 _ _)) :: _)
  refine cr_lstore_n1 (pc := 164) C dX4_digest_164 (by decide) rfl ?_
  refine cr_iinc3 (pc := 165) (v := nI 328) C dX4_digest_165 (by decide) (by decide) rfl ?_
  refine cr_goto (pc := 168) (tgt := 144) C dX4_digest_168 (by decide) ?_
  refine cr_iload_n (pc := 144) C dX4_digest_144 rfl ?_
  refine cr_sipush (pc := 145) (v := nI 345) C dX4_digest_145 (by decide) ?_
  refine cr_icmp_ge_f (pc := 148) (tgt := 171) C dX4_digest_148 (by decide) (by decide) ?_
  refine cr_ldc2 (pc := 151) C dX4_digest_151 klX4_digest_158 ?_
  refine cr_lload_n (pc := 154) C dX4_digest_154 rfl ?_
  refine cr_lmul (pc := 155) C dX4_digest_155 ?_
  refine cr_aload_n (pc := 156) C dX4_digest_156 rfl ?_
  refine cr_getr (pc := 157) (c := 4) (k := 0) C (by first | rfl | assumption | (simp [cg_ok]; omega)) rfl (by decide) rfl inX4_digest_X4 flX4_digest_7 dX4_digest_157 ?_
  refine cr_iload_n (pc := 160) C dX4_digest_160 rfl ?_
  refine cr_iaload (pc := 161) C rfl (by first | rfl | assumption | (simp [cg_ok]; omega)) (by decide) (by first | decide | omega) dX4_digest_161 ?_
  rw [cg_sb_s]
  refine cr_i2l (pc := 162) C dX4_digest_162 ?_
  refine cr_ladd (pc := 163) C dX4_digest_163 ?_
  change cg_W E _ _ _ (.inr (.inl (cg_h0 _ _)) :: _)
  refine cr_lstore_n1 (pc := 164) C dX4_digest_164 (by decide) rfl ?_
  refine cr_iinc3 (pc := 165) (v := nI 329) C dX4_digest_165 (by decide) (by decide) rfl ?_
  refine cr_goto (pc := 168) (tgt := 144) C dX4_digest_168 (by decide) ?_
  refine cr_iload_n (pc := 144) C dX4_digest_144 rfl ?_
  refine cr_sipush (pc := 145) (v := nI 345) C dX4_digest_145 (by decide) ?_
  refine cr_icmp_ge_f (pc := 148) (tgt := 171) C dX4_digest_148 (by decide) (by decide) ?_
  refine cr_ldc2 (pc := 151) C dX4_digest_151 klX4_digest_158 ?_
  refine cr_lload_n (pc := 154) C dX4_digest_154 rfl ?_
  refine cr_lmul (pc := 155) C dX4_digest_155 ?_
  refine cr_aload_n (pc := 156) C dX4_digest_156 rfl ?_
  refine cr_getr (pc := 157) (c := 4) (k := 0) C (by first | rfl | assumption | (simp [cg_ok]; omega)) rfl (by decide) rfl inX4_digest_X4 flX4_digest_7 dX4_digest_157 ?_
  refine cr_iload_n (pc := 160) C dX4_digest_160 rfl ?_
  refine cr_iaload (pc := 161) C rfl (by first | rfl | assumption | (simp [cg_ok]; omega)) (by decide) (by first | decide | omega) dX4_digest_161 ?_
  rw [cg_sb_s]
  refine cr_i2l (pc := 162) C dX4_digest_162 ?_
  refine cr_ladd (pc := 163) C dX4_digest_163 ?_
  change cg_W E _ _ _ (.inr (.inl (cg_h0 _ _)) :: _)
  refine cr_lstore_n1 (pc := 164) C dX4_digest_164 (by decide) rfl ?_
  refine cr_iinc3 (pc := 165) (v := nI 330) C dX4_digest_165 (by decide) (by decide) rfl ?_
  refine cr_goto (pc := 168) (tgt := 144) C dX4_digest_168 (by decide) ?_
  refine cr_iload_n (pc := 144) C dX4_digest_144 rfl ?_
  refine cr_sipush (pc := 145) (v := nI 345) C dX4_digest_145 (by decide) ?_
  refine cr_icmp_ge_f (pc := 148) (tgt := 171) C dX4_digest_148 (by decide) (by decide) ?_
  refine cr_ldc2 (pc := 151) C dX4_digest_151 klX4_digest_158 ?_
  refine cr_lload_n (pc := 154) C dX4_digest_154 rfl ?_
  refine cr_lmul (pc := 155) C dX4_digest_155 ?_
  refine cr_aload_n (pc := 156) C dX4_digest_156 rfl ?_
  refine cr_getr (pc := 157) (c := 4) (k := 0) C (by first | rfl | assumption | (simp [cg_ok]; omega)) rfl (by decide) rfl inX4_digest_X4 flX4_digest_7 dX4_digest_157 ?_
  refine cr_iload_n (pc := 160) C dX4_digest_160 rfl ?_
  refine cr_iaload (pc := 161) C rfl (by first | rfl | assumption | (simp [cg_ok]; omega)) (by decide) (by first | decide | omega) dX4_digest_161 ?_
  rw [cg_sb_s]
  refine cr_i2l (pc := 162) C dX4_digest_162 ?_
  refine cr_ladd (pc := 163) C dX4_digest_163 ?_
  change cg_W E _ _ _ (.inr (.inl (cg_h0 _ _)) :: _)
  refine cr_lstore_n1 (pc := 164) C dX4_digest_164 (by decide) rfl ?_
  refine cr_iinc3 (pc := 165) (v := nI 331) C dX4_digest_165 (by decide) (by decide) rfl ?_
  refine cr_goto (pc := 168) (tgt := 144) C dX4_digest_168 (by decide) ?_
  refine cr_iload_n (pc := 144) C dX4_digest_144 rfl ?_
  refine cr_sipush (pc := 145) (v := nI 345) C dX4_digest_145 (by decide) ?_
  refine cr_icmp_ge_f (pc := 148) (tgt := 171) C dX4_digest_148 (by decide) (by decide) ?_
  refine cr_ldc2 (pc := 151) C dX4_digest_151 klX4_digest_158 ?_
  refine cr_lload_n (pc := 154) C dX4_digest_154 rfl ?_
  refine cr_lmul (pc := 155) C dX4_digest_155 ?_
  refine cr_aload_n (pc := 156) C dX4_digest_156 rfl ?_
  refine cr_getr (pc := 157) (c := 4) (k := 0) C (by first | rfl | assumption | (simp [cg_ok]; omega)) rfl (by decide) rfl inX4_digest_X4 flX4_digest_7 dX4_digest_157 ?_
  refine cr_iload_n (pc := 160) C dX4_digest_160 rfl ?_
  refine cr_iaload (pc := 161) C rfl (by first | rfl | assumption | (simp [cg_ok]; omega)) (by decide) (by first | decide | omega) dX4_digest_161 ?_
  rw [cg_sb_s]
  refine cr_i2l (pc := 162) C dX4_digest_162 ?_
  refine cr_ladd (pc := 163) C dX4_digest_163 ?_
  change cg_W E _ _ _ (.inr (.inl (cg_h0 _ _)) :: _)
  refine cr_lstore_n1 (pc := 164) C dX4_digest_164 (by decide) rfl ?_
  refine cr_iinc3 (pc := 165) (v := nI 332) C dX4_digest_165 (by decide) (by decide) rfl ?_
  refine cr_goto (pc := 168) (tgt := 144) C dX4_digest_168 (by decide) ?_
  refine cr_iload_n (pc := 144) C dX4_digest_144 rfl ?_
  refine cr_sipush (pc := 145) (v := nI 345) C dX4_digest_145 (by decide) ?_
  refine cr_icmp_ge_f (pc := 148) (tgt := 171) C dX4_digest_148 (by decide) (by decide) ?_
  refine cr_ldc2 (pc := 151) C dX4_digest_151 klX4_digest_158 ?_
  refine cr_lload_n (pc := 154) C dX4_digest_154 rfl ?_
  refine cr_lmul (pc := 155) C dX4_digest_155 ?_
  refine cr_aload_n (pc := 156) C dX4_digest_156 rfl ?_
  refine cr_getr (pc := 157) (c := 4) (k := 0) C (by first | rfl | assumption | (simp [cg_ok]; omega)) rfl (by decide) rfl inX4_digest_X4 flX4_digest_7 dX4_digest_157 ?_
  refine cr_iload_n (pc := 160) C dX4_digest_160 rfl ?_
  refine cr_iaload (pc := 161) C rfl (by first | rfl | assumption | (simp [cg_ok]; omega)) (by decide) (by first | decide | omega) dX4_digest_161 ?_
  rw [cg_sb_s]
  refine cr_i2l (pc := 162) C dX4_digest_162 ?_
  refine cr_ladd (pc := 163) C dX4_digest_163 ?_
  change cg_W E _ _ _ (.inr (.inl (cg_h0 _ _)) :: _)
  refine cr_lstore_n1 (pc := 164) C dX4_digest_164 (by decide) rfl ?_
  refine cr_iinc3 (pc := 165) (v := nI 333) C dX4_digest_165 (by decide) (by decide) rfl ?_
  refine cr_goto (pc := 168) (tgt := 144) C dX4_digest_168 (by decide) ?_
  refine cr_iload_n (pc := 144) C dX4_digest_144 rfl ?_
  refine cr_sipush (pc := 145) (v := nI 345) C dX4_digest_145 (by decide) ?_
  refine cr_icmp_ge_f (pc := 148) (tgt := 171) C dX4_digest_148 (by decide) (by decide) ?_
  refine cr_ldc2 (pc := 151) C dX4_digest_151 klX4_digest_158 ?_
  refine cr_lload_n (pc := 154) C dX4_digest_154 rfl ?_
  refine cr_lmul (pc := 155) C dX4_digest_155 ?_
  refine cr_aload_n (pc := 156) C dX4_digest_156 rfl ?_
  refine cr_getr (pc := 157) (c := 4) (k := 0) C (by first | rfl | assumption | (simp [cg_ok]; omega)) rfl (by decide) rfl inX4_digest_X4 flX4_digest_7 dX4_digest_157 ?_
  refine cr_iload_n (pc := 160) C dX4_digest_160 rfl ?_
  refine cr_iaload (pc := 161) C rfl (by first | rfl | assumption | (simp [cg_ok]; omega)) (by decide) (by first | decide | omega) dX4_digest_161 ?_
  rw [cg_sb_s]
  refine cr_i2l (pc := 162) C dX4_digest_162 ?_
  refine cr_ladd (pc := 163) C dX4_digest_163 ?_
  change cg_W E _ _ _ (.inr (.inl (cg_h0 _ _)) :: _)
  refine cr_lstore_n1 (pc := 164) C dX4_digest_164 (by decide) rfl ?_
  refine cr_iinc3 (pc := 165) (v := nI 334) C dX4_digest_165 (by decide) (by decide) rfl ?_
  refine cr_goto (pc := 168) (tgt := 144) C dX4_digest_168 (by decide) ?_
  refine cr_iload_n (pc := 144) C dX4_digest_144 rfl ?_
  refine cr_sipush (pc := 145) (v := nI 345) C dX4_digest_145 (by decide) ?_
  refine cr_icmp_ge_f (pc := 148) (tgt := 171) C dX4_digest_148 (by decide) (by decide) ?_
  refine cr_ldc2 (pc := 151) C dX4_digest_151 klX4_digest_158 ?_
  refine cr_lload_n (pc := 154) C dX4_digest_154 rfl ?_
  refine cr_lmul (pc := 155) C dX4_digest_155 ?_
  refine cr_aload_n (pc := 156) C dX4_digest_156 rfl ?_
  refine cr_getr (pc := 157) (c := 4) (k := 0) C (by first | rfl | assumption | (simp [cg_ok]; omega)) rfl (by decide) rfl inX4_digest_X4 flX4_digest_7 dX4_digest_157 ?_
  refine cr_iload_n (pc := 160) C dX4_digest_160 rfl ?_
  refine cr_iaload (pc := 161) C rfl (by first | rfl | assumption | (simp [cg_ok]; omega)) (by decide) (by first | decide | omega) dX4_digest_161 ?_
  rw [cg_sb_s]
  refine cr_i2l (pc := 162) C dX4_digest_162 ?_
  refine cr_ladd (pc := 163) C dX4_digest_163 ?_
  change cg_W E _ _ _ (.inr (.inl (cg_h0 _ _)) :: _)
  refine cr_lstore_n1 (pc := 164) C dX4_digest_164 (by decide) rfl ?_
  refine cr_iinc3 (pc := 165) (v := nI 335) C dX4_digest_165 (by decide) (by decide) rfl ?_
  refine cr_goto (pc := 168) (tgt := 144) C dX4_digest_168 (by decide) ?_
  refine cr_iload_n (pc := 144) C dX4_digest_144 rfl ?_
  refine cr_sipush (pc := 145) (v := nI 345) C dX4_digest_145 (by decide) ?_
  refine cr_icmp_ge_f (pc := 148) (tgt := 171) C dX4_digest_148 (by decide) (by decide) ?_
  refine cr_ldc2 (pc := 151) C dX4_digest_151 klX4_digest_158 ?_
  refine cr_lload_n (pc := 154) C dX4_digest_154 rfl ?_
  refine cr_lmul (pc := 155) C dX4_digest_155 ?_
  refine cr_aload_n (pc := 156) C dX4_digest_156 rfl ?_
  refine cr_getr (pc := 157) (c := 4) (k := 0) C (by first | rfl | assumption | (simp [cg_ok]; omega)) rfl (by decide) rfl inX4_digest_X4 flX4_digest_7 dX4_digest_157 ?_
  refine cr_iload_n (pc := 160) C dX4_digest_160 rfl ?_
  refine cr_iaload (pc := 161) C rfl (by first | rfl | assumption | (simp [cg_ok]; omega)) (by decide) (by first | decide | omega) dX4_digest_161 ?_
  rw [cg_sb_s]
  refine cr_i2l (pc := 162) C dX4_digest_162 ?_
  refine cr_ladd (pc := 163) C dX4_digest_163 ?_
  change cg_W E _ _ _ (.inr (.inl (cg_h0 _ _)) :: _)
  refine cr_lstore_n1 (pc := 164) C dX4_digest_164 (by decide) rfl ?_
  refine cr_iinc3 (pc := 165) (v := nI 336) C dX4_digest_165 (by decide) (by decide) rfl ?_
  refine cr_goto (pc := 168) (tgt := 144) C dX4_digest_168 (by decide) ?_
  refine cr_iload_n (pc := 144) C dX4_digest_144 rfl ?_
  refine cr_sipush (pc := 145) (v := nI 345) C dX4_digest_145 (by decide) ?_
  refine cr_icmp_ge_f (pc := 148) (tgt := 171) C dX4_digest_148 (by decide) (by decide) ?_
  refine cr_ldc2 (pc := 151) C dX4_digest_151 klX4_digest_158 ?_
  refine cr_lload_n (pc := 154) C dX4_digest_154 rfl ?_
  refine cr_lmul (pc := 155) C dX4_digest_155 ?_
  refine cr_aload_n (pc := 156) C dX4_digest_156 rfl ?_
  refine cr_getr (pc := 157) (c := 4) (k := 0) C (by first | rfl | assumption | (simp [cg_ok]; omega)) rfl (by decide) rfl inX4_digest_X4 flX4_digest_7 dX4_digest_157 ?_
  refine cr_iload_n (pc := 160) C dX4_digest_160 rfl ?_
  refine cr_iaload (pc := 161) C rfl (by first | rfl | assumption | (simp [cg_ok]; omega)) (by decide) (by first | decide | omega) dX4_digest_161 ?_
  rw [cg_sb_s]
  refine cr_i2l (pc := 162) C dX4_digest_162 ?_
  refine cr_ladd (pc := 163) C dX4_digest_163 ?_
  change cg_W E _ _ _ (.inr (.inl (cg_h0 _ _)) :: _)
  refine cr_lstore_n1 (pc := 164) C dX4_digest_164 (by decide) rfl ?_
  refine cr_iinc3 (pc := 165) (v := nI 337) C dX4_digest_165 (by decide) (by decide) rfl ?_
  refine cr_goto (pc := 168) (tgt := 144) C dX4_digest_168 (by decide) ?_
  refine cr_iload_n (pc := 144) C dX4_digest_144 rfl ?_
  refine cr_sipush (pc := 145) (v := nI 345) C dX4_digest_145 (by decide) ?_
  refine cr_icmp_ge_f (pc := 148) (tgt := 171) C dX4_digest_148 (by decide) (by decide) ?_
  refine cr_ldc2 (pc := 151) C dX4_digest_151 klX4_digest_158 ?_
  refine cr_lload_n (pc := 154) C dX4_digest_154 rfl ?_
  refine cr_lmul (pc := 155) C dX4_digest_155 ?_
  refine cr_aload_n (pc := 156) C dX4_digest_156 rfl ?_
  refine cr_getr (pc := 157) (c := 4) (k := 0) C (by first | rfl | assumption | (simp [cg_ok]; omega)) rfl (by decide) rfl inX4_digest_X4 flX4_digest_7 dX4_digest_157 ?_
  refine cr_iload_n (pc := 160) C dX4_digest_160 rfl ?_
  refine cr_iaload (pc := 161) C rfl (by first | rfl | assumption | (simp [cg_ok]; omega)) (by decide) (by first | decide | omega) dX4_digest_161 ?_
  rw [cg_sb_s]
  refine cr_i2l (pc := 162) C dX4_digest_162 ?_
  refine cr_ladd (pc := 163) C dX4_digest_163 ?_
  change cg_W E _ _ _ (.inr (.inl (cg_h0 _ _)) :: _)
  refine cr_lstore_n1 (pc := 164) C dX4_digest_164 (by decide) rfl ?_
  refine cr_iinc3 (pc := 165) (v := nI 338) C dX4_digest_165 (by decide) (by decide) rfl ?_
  refine cr_goto (pc := 168) (tgt := 144) C dX4_digest_168 (by decide) ?_
  refine cr_iload_n (pc := 144) C dX4_digest_144 rfl ?_
  refine cr_sipush (pc := 145) (v := nI 345) C dX4_digest_145 (by decide) ?_
  refine cr_icmp_ge_f (pc := 148) (tgt := 171) C dX4_digest_148 (by decide) (by decide) ?_
  refine cr_ldc2 (pc := 151) C dX4_digest_151 klX4_digest_158 ?_
  refine cr_lload_n (pc := 154) C dX4_digest_154 rfl ?_
  refine cr_lmul (pc := 155) C dX4_digest_155 ?_
  refine cr_aload_n (pc := 156) C dX4_digest_156 rfl ?_
  refine cr_getr (pc := 157) (c := 4) (k := 0) C (by first | rfl | assumption | (simp [cg_ok]; omega)) rfl (by decide) rfl inX4_digest_X4 flX4_digest_7 dX4_digest_157 ?_
  refine cr_iload_n (pc := 160) C dX4_digest_160 rfl ?_
  refine cr_iaload (pc := 161) C rfl (by first | rfl | assumption | (simp [cg_ok]; omega)) (by decide) (by first | decide | omega) dX4_digest_161 ?_
  rw [cg_sb_s]
  refine cr_i2l (pc := 162) C dX4_digest_162 ?_
  refine cr_ladd (pc := 163) C dX4_digest_163 ?_
  change cg_W E _ _ _ (.inr (.inl (cg_h0 _ _)) :: _)
  refine cr_lstore_n1 (pc := 164) C dX4_digest_164 (by decide) rfl ?_
  refine cr_iinc3 (pc := 165) (v := nI 339) C dX4_digest_165 (by decide) (by decide) rfl ?_
  refine cr_goto (pc := 168) (tgt := 144) C dX4_digest_168 (by decide) ?_
  refine cr_iload_n (pc := 144) C dX4_digest_144 rfl ?_
  refine cr_sipush (pc := 145) (v := nI 345) C dX4_digest_145 (by decide) ?_
  refine cr_icmp_ge_f (pc := 148) (tgt := 171) C dX4_digest_148 (by decide) (by decide) ?_
  refine cr_ldc2 (pc := 151) C dX4_digest_151 klX4_digest_158 ?_
  refine cr_lload_n (pc := 154) C dX4_digest_154 rfl ?_
  refine cr_lmul (pc := 155) C dX4_digest_155 ?_
  refine cr_aload_n (pc := 156) C dX4_digest_156 rfl ?_
  refine cr_getr (pc := 157) (c := 4) (k := 0) C (by first | rfl | assumption | (simp [cg_ok]; omega)) rfl (by decide) rfl inX4_digest_X4 flX4_digest_7 dX4_digest_157 ?_
  refine cr_iload_n (pc := 160) C dX4_digest_160 rfl ?_
  refine cr_iaload (pc := 161) C rfl (by first | rfl | assumption | (simp [cg_ok]; omega)) (by decide) (by first | decide | omega) dX4_digest_161 ?_
  rw [cg_sb_s]
  refine cr_i2l (pc := 162) C dX4_digest_162 ?_
  refine cr_ladd (pc := 163) C dX4_digest_163 ?_
  change cg_W E _ _ _ (.inr (.inl (cg_h0 _ _)) :: _)
  refine cr_lstore_n1 (pc := 164) C dX4_digest_164 (by decide) rfl ?_
  refine cr_iinc3 (pc := 165) (v := nI 340) C dX4_digest_165 (by decide) (by decide) rfl ?_
  refine cr_goto (pc := 168) (tgt := 144) C dX4_digest_168 (by decide) ?_
  refine cr_iload_n (pc := 144) C dX4_digest_144 rfl ?_
  refine cr_sipush (pc := 145) (v := nI 345) C dX4_digest_145 (by decide) ?_
  refine cr_icmp_ge_f (pc := 148) (tgt := 171) C dX4_digest_148 (by decide) (by decide) ?_
  refine cr_ldc2 (pc := 151) C dX4_digest_151 klX4_digest_158 ?_
  refine cr_lload_n (pc := 154) C dX4_digest_154 rfl ?_
  refine cr_lmul (pc := 155) C dX4_digest_155 ?_
  refine cr_aload_n (pc := 156) C dX4_digest_156 rfl ?_
  refine cr_getr (pc := 157) (c := 4) (k := 0) C (by first | rfl | assumption | (simp [cg_ok]; omega)) rfl (by decide) rfl inX4_digest_X4 flX4_digest_7 dX4_digest_157 ?_
  refine cr_iload_n (pc := 160) C dX4_digest_160 rfl ?_
  refine cr_iaload (pc := 161) C rfl (by first | rfl | assumption | (simp [cg_ok]; omega)) (by decide) (by first | decide | omega) dX4_digest_161 ?_
  rw [cg_sb_s]
  refine cr_i2l (pc := 162) C dX4_digest_162 ?_
  refine cr_ladd (pc := 163) C dX4_digest_163 ?_
  change cg_W E _ _ _ (.inr (.inl (cg_h0 _ _)) :: _)
  refine cr_lstore_n1 (pc := 164) C dX4_digest_164 (by decide) rfl ?_
  refine cr_iinc3 (pc := 165) (v := nI 341) C dX4_digest_165 (by decide) (by decide) rfl ?_
  refine cr_goto (pc := 168) (tgt := 144) C dX4_digest_168 (by decide) ?_
  refine cr_iload_n (pc := 144) C dX4_digest_144 rfl ?_
  refine cr_sipush (pc := 145) (v := nI 345) C dX4_digest_145 (by decide) ?_
  refine cr_icmp_ge_f (pc := 148) (tgt := 171) C dX4_digest_148 (by decide) (by decide) ?_
  refine cr_ldc2 (pc := 151) C dX4_digest_151 klX4_digest_158 ?_
  refine cr_lload_n (pc := 154) C dX4_digest_154 rfl ?_
  refine cr_lmul (pc := 155) C dX4_digest_155 ?_
  refine cr_aload_n (pc := 156) C dX4_digest_156 rfl ?_
  refine cr_getr (pc := 157) (c := 4) (k := 0) C (by first | rfl | assumption | (simp [cg_ok]; omega)) rfl (by decide) rfl inX4_digest_X4 flX4_digest_7 dX4_digest_157 ?_
  refine cr_iload_n (pc := 160) C dX4_digest_160 rfl ?_
  refine cr_iaload (pc := 161) C rfl (by first | rfl | assumption | (simp [cg_ok]; omega)) (by decide) (by first | decide | omega) dX4_digest_161 ?_
  rw [cg_sb_s]
  refine cr_i2l (pc := 162) C dX4_digest_162 ?_
  refine cr_ladd (pc := 163) C dX4_digest_163 ?_
  change cg_W E _ _ _ (.inr (.inl (cg_h0 _ _)) :: _)
  refine cr_lstore_n1 (pc := 164) C dX4_digest_164 (by decide) rfl ?_
  refine cr_iinc3 (pc := 165) (v := nI 342) C dX4_digest_165 (by decide) (by decide) rfl ?_
  refine cr_goto (pc := 168) (tgt := 144) C dX4_digest_168 (by decide) ?_
  refine cr_iload_n (pc := 144) C dX4_digest_144 rfl ?_
  refine cr_sipush (pc := 145) (v := nI 345) C dX4_digest_145 (by decide) ?_
  refine cr_icmp_ge_f (pc := 148) (tgt := 171) C dX4_digest_148 (by decide) (by decide) ?_
  refine cr_ldc2 (pc := 151) C dX4_digest_151 klX4_digest_158 ?_
  refine cr_lload_n (pc := 154) C dX4_digest_154 rfl ?_
  refine cr_lmul (pc := 155) C dX4_digest_155 ?_
  refine cr_aload_n (pc := 156) C dX4_digest_156 rfl ?_
  refine cr_getr (pc := 157) (c := 4) (k := 0) C (by first | rfl | assumption | (simp [cg_ok]; omega)) rfl (by decide) rfl inX4_digest_X4 flX4_digest_7 dX4_digest_157 ?_
  refine cr_iload_n (pc := 160) C dX4_digest_160 rfl ?_
  refine cr_iaload (pc := 161) C rfl (by first | rfl | assumption | (simp [cg_ok]; omega)) (by decide) (by first | decide | omega) dX4_digest_161 ?_
  rw [cg_sb_s]
  refine cr_i2l (pc := 162) C dX4_digest_162 ?_
  refine cr_ladd (pc := 163) C dX4_digest_163 ?_
  change cg_W E _ _ _ (.inr (.inl (cg_h0 _ _)) :: _)
  refine cr_lstore_n1 (pc := 164) C dX4_digest_164 (by decide) rfl ?_
  refine cr_iinc3 (pc := 165) (v := nI 343) C dX4_digest_165 (by decide) (by decide) rfl ?_
  refine cr_goto (pc := 168) (tgt := 144) C dX4_digest_168 (by decide) ?_
  refine cr_iload_n (pc := 144) C dX4_digest_144 rfl ?_
  refine cr_sipush (pc := 145) (v := nI 345) C dX4_digest_145 (by decide) ?_
  refine cr_icmp_ge_f (pc := 148) (tgt := 171) C dX4_digest_148 (by decide) (by decide) ?_
  refine cr_ldc2 (pc := 151) C dX4_digest_151 klX4_digest_158 ?_
  refine cr_lload_n (pc := 154) C dX4_digest_154 rfl ?_
  refine cr_lmul (pc := 155) C dX4_digest_155 ?_
  refine cr_aload_n (pc := 156) C dX4_digest_156 rfl ?_
  refine cr_getr (pc := 157) (c := 4) (k := 0) C (by first | rfl | assumption | (simp [cg_ok]; omega)) rfl (by decide) rfl inX4_digest_X4 flX4_digest_7 dX4_digest_157 ?_
  refine cr_iload_n (pc := 160) C dX4_digest_160 rfl ?_
  refine cr_iaload (pc := 161) C rfl (by first | rfl | assumption | (simp [cg_ok]; omega)) (by decide) (by first | decide | omega) dX4_digest_161 ?_
  rw [cg_sb_s]
  refine cr_i2l (pc := 162) C dX4_digest_162 ?_
  refine cr_ladd (pc := 163) C dX4_digest_163 ?_
  change cg_W E _ _ _ (.inr (.inl (cg_h0 _ _)) :: _)
  refine cr_lstore_n1 (pc := 164) C dX4_digest_164 (by decide) rfl ?_
  refine cr_iinc3 (pc := 165) (v := nI 344) C dX4_digest_165 (by decide) (by decide) rfl ?_
  refine cr_goto (pc := 168) (tgt := 144) C dX4_digest_168 (by decide) ?_
  refine cr_iload_n (pc := 144) C dX4_digest_144 rfl ?_
  refine cr_sipush (pc := 145) (v := nI 345) C dX4_digest_145 (by decide) ?_
  refine cr_icmp_ge_f (pc := 148) (tgt := 171) C dX4_digest_148 (by decide) (by decide) ?_
  refine cr_ldc2 (pc := 151) C dX4_digest_151 klX4_digest_158 ?_
  refine cr_lload_n (pc := 154) C dX4_digest_154 rfl ?_
  refine cr_lmul (pc := 155) C dX4_digest_155 ?_
  refine cr_aload_n (pc := 156) C dX4_digest_156 rfl ?_
  refine cr_getr (pc := 157) (c := 4) (k := 0) C (by first | rfl | assumption | (simp [cg_ok]; omega)) rfl (by decide) rfl inX4_digest_X4 flX4_digest_7 dX4_digest_157 ?_
  refine cr_iload_n (pc := 160) C dX4_digest_160 rfl ?_
  refine cr_iaload (pc := 161) C rfl (by first | rfl | assumption | (simp [cg_ok]; omega)) (by decide) (by first | decide | omega) dX4_digest_161 ?_
  rw [cg_sb_s]
  refine cr_i2l (pc := 162) C dX4_digest_162 ?_
  refine cr_ladd (pc := 163) C dX4_digest_163 ?_
  change cg_W E _ _ _ (.inr (.inl (cg_h0 _ _)) :: _)
  refine cr_lstore_n1 (pc := 164) C dX4_digest_164 (by decide) rfl ?_
  refine cr_iinc3 (pc := 165) (v := nI 345) C dX4_digest_165 (by decide) (by decide) rfl ?_
  refine cr_goto (pc := 168) (tgt := 144) C dX4_digest_168 (by decide) ?_
  refine cr_iload_n (pc := 144) C dX4_digest_144 rfl ?_
  refine cr_sipush (pc := 145) (v := nI 345) C dX4_digest_145 (by decide) ?_
  refine cr_icmp_ge_t (pc := 148) (tgt := 171) C dX4_digest_148 (by decide) (by decide) ?_
  refine cr_ldc2 (pc := 171) C dX4_digest_171 klX4_digest_158 ?_
  refine cr_lload_n (pc := 174) C dX4_digest_174 rfl ?_
  refine cr_lmul (pc := 175) C dX4_digest_175 ?_
  refine cr_aload_n (pc := 176) C dX4_digest_176 rfl ?_
  refine cr_geti (pc := 177) (c := 4) (k := 6) C (by first | rfl | assumption | (simp [cg_ok]; omega)) rfl (by decide) rfl rfl inX4_digest_X4 flX4_digest_119 dX4_digest_177 ?_
  rw [cg_sb_n (by decide)]
  refine cr_i2l (pc := 180) C dX4_digest_180 ?_
  refine cr_ladd (pc := 181) C dX4_digest_181 ?_
  change cg_W E _ _ _ (.inr (.inl (cg_h0 _ _)) :: _)
  refine cr_lstore_n1 (pc := 182) C dX4_digest_182 (by decide) rfl ?_
  refine cr_ldc2 (pc := 183) C dX4_digest_183 klX4_digest_158 ?_
  refine cr_lload_n (pc := 186) C dX4_digest_186 rfl ?_
  refine cr_lmul (pc := 187) C dX4_digest_187 ?_
  refine cr_aload_n (pc := 188) C dX4_digest_188 rfl ?_
  refine cr_geti (pc := 189) (c := 4) (k := 2) C (by first | rfl | assumption | (simp [cg_ok]; omega)) rfl (by decide) rfl rfl inX4_digest_X4 flX4_digest_35 dX4_digest_189 ?_
  rw [cg_sb_n (by decide)]
  refine cr_i2l (pc := 192) C dX4_digest_192 ?_
  refine cr_ladd (pc := 193) C dX4_digest_193 ?_
  change cg_W E _ _ _ (.inr (.inl (cg_h0 _ _)) :: _)
  refine cr_lreturn (pc := 194) C X dX4_digest_194 ?_
  refine ⟨?_, cg_sb_id M 20⟩
  unfold cg_hs cg_hr cg_hc
  simp only [cg_mxh]
