/-! ===== State: hashes, copies ===== -/
set_option maxRecDepth 100000 in
set_option maxHeartbeats 4000000 in
theorem sp_mixAll {M : cg_M} {h : Int64} {q : cg_L} {b n : Nat} {f : Nat → Nat} (hq : cg_ok q = true) (ha : cg_ai q = some (b, n, f)) (hn : n < 1000) : cg_D yX3_mixAll wsX3_mixAll rmX3_mixAll [.inr (.inl (h)), .inr (.inr (q))] M (some (.inr (.inl (cg_mxh h (fun j => M b (f j)) n)))) M := by
  refine cg_S_of (cc := cX3_mixAll) (maxL := 7) (ret := (some .long)) (ls0 := [some (.inr (.inl (h))), none, some (.inr (.inr (q))), none, none, none, none]) RX3 rfl (by decide) rfl rfl (Nat.le_of_ble_eq_true rfl) (fun E C X => ?_)
  have loop : ∀ (m j : Nat) (z : Option cg_V), j + m = n → cg_W E M 9 [some (.inr (.inl (cg_mxh h (fun j => M b (f j)) j))), none, some (.inr (.inr (q))), some (.inr (.inr (q))), some (.inl (nI n)), some (.inl (nI j)), z] [] := by
    intro m
    induction m with
    | zero =>
      intro j z hj
      have hjn : j = n := by omega
      subst hjn
      refine cr_iload (pc := 9) C dX3_mixAll_9 rfl ?_
      refine cr_iload (pc := 11) C dX3_mixAll_11 rfl ?_
      refine cr_icmp_ge_t (pc := 13) (tgt := 35) C dX3_mixAll_13 (by decide) (Int32.le_refl _) ?_
      refine cr_lload_n (pc := 35) C dX3_mixAll_35 rfl ?_
      refine cr_lreturn (pc := 36) C X dX3_mixAll_36 ?_
      exact ⟨rfl, rfl⟩
    | succ m ih =>
      intro j z hj
      refine cr_iload (pc := 9) C dX3_mixAll_9 rfl ?_
      refine cr_iload (pc := 11) C dX3_mixAll_11 rfl ?_
      refine cr_icmp_ge_f (pc := 13) (tgt := 35) C dX3_mixAll_13 (by decide) (nI_ge (by omega) (by omega)) ?_
      refine cr_aload_n (pc := 16) C dX3_mixAll_16 rfl ?_
      refine cr_iload (pc := 17) C dX3_mixAll_17 rfl ?_
      refine cr_iaload (pc := 19) C (by first | exact ha | rfl) (by first | rfl | assumption | (simp [cg_ok]; omega)) (by omega) (by first | decide | omega) dX3_mixAll_19 ?_
      refine cr_istore6 (pc := 20) C dX3_mixAll_20 (by decide) rfl ?_
      refine cr_lload_n (pc := 22) C dX3_mixAll_22 rfl ?_
      refine cr_iload (pc := 23) C dX3_mixAll_23 rfl ?_
      refine cr_dS (pc := 25) C (sp_mix) rfl gX3_mixAll_X3_mix rfl dX3_mixAll_25 hsX3_mix rfl ⟨rfl, rfl, Nat.le_of_ble_eq_true rfl, Nat.le_of_ble_eq_true rfl⟩ (Nat.le_of_ble_eq_true rfl) rfl ?_
      refine cr_lstore_n0 (pc := 28) C dX3_mixAll_28 (by decide) rfl ?_
      refine cr_iinc5 (pc := 29) C dX3_mixAll_29 (cg_inc1 _) (by decide) rfl ?_
      refine cr_goto (pc := 32) (tgt := 9) C dX3_mixAll_32 (by decide) ?_
      exact ih (j + 1) _ (by omega)
  refine cr_aload_n (pc := 0) C dX3_mixAll_0 rfl ?_
  refine cr_astore_n3 (pc := 1) C dX3_mixAll_1 (by decide) rfl ?_
  refine cr_aload_n (pc := 2) C dX3_mixAll_2 rfl ?_
  first | refine cr_alen (pc := 3) C (by first | exact ha | rfl) (by first | rfl | assumption | (simp [cg_ok]; omega)) dX3_mixAll_3 ?_ | refine cr_alenr (pc := 3) C rfl (by first | rfl | assumption | (simp [cg_ok]; omega)) (by simp) dX3_mixAll_3 ?_
  refine cr_istore4 (pc := 4) C dX3_mixAll_4 (by decide) rfl ?_
  refine cr_iconst (pc := 6) (v := nI 0) C dX3_mixAll_6 (by decide) ?_
  refine cr_istore5 (pc := 7) C dX3_mixAll_7 (by decide) rfl ?_
  exact loop n 0 none (by omega)
def cg_hr (P : Nat → Int32) (n r : Nat) (h : Int64) : Int64 := cg_h0 (cg_h0 (cg_h0 (cg_h0 (cg_h0 (cg_mxh h (fun j => P (3 * r + j)) 3) (P (9 + r))) (cg_vl P r 0 n)) (cg_vl P r 1 n)) (cg_vl P r 2 n)) (cg_vl P r 3 n)
def cg_hc (P : Nat → Int32) (c : Nat) (h : Int64) : Int64 := cg_mxh (cg_mxh (cg_h0 h (P (313 + 7 * c))) (fun j => P (314 + 7 * c + j)) 3) (fun j => P (317 + 7 * c + j)) 3
def cg_hs (P : Nat → Int32) (n : Nat) (h : Int64) : Int64 := cg_mxh (cg_hc P 3 (cg_hc P 2 (cg_hc P 1 (cg_hc P 0 (cg_hr P n 2 (cg_hr P n 1 (cg_hr P n 0 (cg_h0 h (P 12))))))))) (fun j => P (341 + j)) 4
set_option maxRecDepth 100000 in
set_option maxHeartbeats 4000000 in
theorem sp_mixInto {M : cg_M} {P : Nat → Int32} {h : Int64} {n : Nat} (hI : cg_Iw P n) : cg_D yX2_mixInto wsX2_mixInto rmX2_mixInto [.inr (.inr (0, 0, 0, 0)), .inr (.inl (h))] (cg_sb M 0 P) (some (.inr (.inl (cg_hs P n h)))) ((cg_sb M 0 P)) := by
  refine cg_S_of (cc := cX2_mixInto) (maxL := 5) (ret := (some .long)) (ls0 := [some (.inr (.inr (0, 0, 0, 0))), some (.inr (.inl (h))), none, none, none]) RX2 rfl (by decide) rfl rfl (Nat.le_of_ble_eq_true rfl) (fun E C X => ?_)
  refine cr_lload_n (pc := 0) C dX2_mixInto_0 rfl ?_
  refine cr_aload_n (pc := 1) C dX2_mixInto_1 rfl ?_
  refine cr_geti (pc := 2) (c := 2) (k := 0) C (by first | rfl | assumption | (simp [cg_ok]; omega)) rfl (by decide) rfl rfl inX2_mixInto_X2 flX2_mixInto_9 dX2_mixInto_2 ?_
  rw [cg_sb_s]
  refine cr_dN (pc := 5) C (sp_mix) rfl gX2_mixInto_X3_mix_n115 rfl dX2_mixInto_5 neX3_mix isX2_mixInto_X3_mix hsX3_mix rfl ⟨rfl, rfl, Nat.le_of_ble_eq_true rfl, Nat.le_of_ble_eq_true rfl⟩ (Nat.le_of_ble_eq_true rfl) rfl ?_
  refine cr_lstore_n1 (pc := 8) C dX2_mixInto_8 (by decide) rfl ?_
  refine cr_iconst (pc := 9) (v := nI 0) C dX2_mixInto_9 (by decide) ?_
  refine cr_istore_n3 (pc := 10) C dX2_mixInto_10 (by decide) rfl ?_
  refine cr_iload_n (pc := 11) C dX2_mixInto_11 rfl ?_
  refine cr_iconst (pc := 12) (v := nI 3) C dX2_mixInto_12 (by decide) ?_
  refine cr_icmp_ge_f (pc := 13) (tgt := 71) C dX2_mixInto_13 (by decide) (by decide) ?_
  refine cr_lload_n (pc := 16) C dX2_mixInto_16 rfl ?_
  refine cr_aload_n (pc := 17) C dX2_mixInto_17 rfl ?_
  refine cr_getr (pc := 18) (c := 2) (k := 6) C (by first | rfl | assumption | (simp [cg_ok]; omega)) rfl (by decide) rfl inX2_mixInto_X2 flX2_mixInto_33 dX2_mixInto_18 ?_
  refine cr_iload_n (pc := 21) C dX2_mixInto_21 rfl ?_
  refine cr_aaload (pc := 22) C rfl (by first | rfl | assumption | (simp [cg_ok]; omega)) (by decide) (by first | decide | omega) dX2_mixInto_22 ?_
  refine cr_dN (pc := 23) C (sp_mixAll (by rfl) rfl (by decide)) rfl gX2_mixInto_X3_mixAll_n119 rfl dX2_mixInto_23 neX3_mixAll isX2_mixInto_X3_mixAll hsX3_mixAll rfl ⟨rfl, rfl, Nat.le_of_ble_eq_true rfl, Nat.le_of_ble_eq_true rfl⟩ (Nat.le_of_ble_eq_true rfl) rfl ?_
  simp only [cg_sb_s]
  refine cr_lstore_n1 (pc := 26) C dX2_mixInto_26 (by decide) rfl ?_
  refine cr_lload_n (pc := 27) C dX2_mixInto_27 rfl ?_
  refine cr_aload_n (pc := 28) C dX2_mixInto_28 rfl ?_
  refine cr_getr (pc := 29) (c := 2) (k := 7) C (by first | rfl | assumption | (simp [cg_ok]; omega)) rfl (by decide) rfl inX2_mixInto_X2 flX2_mixInto_36 dX2_mixInto_29 ?_
  refine cr_iload_n (pc := 32) C dX2_mixInto_32 rfl ?_
  refine cr_iaload (pc := 33) C rfl (by first | rfl | assumption | (simp [cg_ok]; omega)) (by decide) (by first | decide | omega) dX2_mixInto_33 ?_
  rw [cg_sb_s]
  refine cr_dN (pc := 34) C (sp_mix) rfl gX2_mixInto_X3_mix_n115 rfl dX2_mixInto_34 neX3_mix isX2_mixInto_X3_mix hsX3_mix rfl ⟨rfl, rfl, Nat.le_of_ble_eq_true rfl, Nat.le_of_ble_eq_true rfl⟩ (Nat.le_of_ble_eq_true rfl) rfl ?_
  refine cr_lstore_n1 (pc := 37) C dX2_mixInto_37 (by decide) rfl ?_
  refine cr_iconst (pc := 38) (v := nI 0) C dX2_mixInto_38 (by decide) ?_
  refine cr_istore4 (pc := 39) C dX2_mixInto_39 (by decide) rfl ?_
  refine cr_iload (pc := 41) C dX2_mixInto_41 rfl ?_
  refine cr_iconst (pc := 43) (v := nI 4) C dX2_mixInto_43 (by decide) ?_
  refine cr_icmp_ge_f (pc := 44) (tgt := 65) C dX2_mixInto_44 (by decide) (by decide) ?_
  refine cr_lload_n (pc := 47) C dX2_mixInto_47 rfl ?_
  refine cr_aload_n (pc := 48) C dX2_mixInto_48 rfl ?_
  refine cr_iload_n (pc := 49) C dX2_mixInto_49 rfl ?_
  refine cr_iload (pc := 50) C dX2_mixInto_50 rfl ?_
  refine cr_dV (pc := 52) C (sp_valueAt (by decide) hI) rfl gX2_mixInto_X2_valueAt rfl dX2_mixInto_52 (by first | rfl | assumption | (simp [cg_ok]; omega)) rfl hvX2_valueAt rfl ⟨rfl, rfl, Nat.le_of_ble_eq_true rfl, Nat.le_of_ble_eq_true rfl⟩ (Nat.le_of_ble_eq_true rfl) rfl ?_
  refine cr_dN (pc := 55) C (sp_mix) rfl gX2_mixInto_X3_mix_n115 rfl dX2_mixInto_55 neX3_mix isX2_mixInto_X3_mix hsX3_mix rfl ⟨rfl, rfl, Nat.le_of_ble_eq_true rfl, Nat.le_of_ble_eq_true rfl⟩ (Nat.le_of_ble_eq_true rfl) rfl ?_
  refine cr_lstore_n1 (pc := 58) C dX2_mixInto_58 (by decide) rfl ?_
  refine cr_iinc4 (pc := 59) (v := nI 1) C dX2_mixInto_59 (by decide) (by decide) rfl ?_
  refine cr_goto (pc := 62) (tgt := 41) C dX2_mixInto_62 (by decide) ?_
  refine cr_iload (pc := 41) C dX2_mixInto_41 rfl ?_
  refine cr_iconst (pc := 43) (v := nI 4) C dX2_mixInto_43 (by decide) ?_
  refine cr_icmp_ge_f (pc := 44) (tgt := 65) C dX2_mixInto_44 (by decide) (by decide) ?_
  refine cr_lload_n (pc := 47) C dX2_mixInto_47 rfl ?_
  refine cr_aload_n (pc := 48) C dX2_mixInto_48 rfl ?_
  refine cr_iload_n (pc := 49) C dX2_mixInto_49 rfl ?_
  refine cr_iload (pc := 50) C dX2_mixInto_50 rfl ?_
  refine cr_dV (pc := 52) C (sp_valueAt (by decide) hI) rfl gX2_mixInto_X2_valueAt rfl dX2_mixInto_52 (by first | rfl | assumption | (simp [cg_ok]; omega)) rfl hvX2_valueAt rfl ⟨rfl, rfl, Nat.le_of_ble_eq_true rfl, Nat.le_of_ble_eq_true rfl⟩ (Nat.le_of_ble_eq_true rfl) rfl ?_
  refine cr_dN (pc := 55) C (sp_mix) rfl gX2_mixInto_X3_mix_n115 rfl dX2_mixInto_55 neX3_mix isX2_mixInto_X3_mix hsX3_mix rfl ⟨rfl, rfl, Nat.le_of_ble_eq_true rfl, Nat.le_of_ble_eq_true rfl⟩ (Nat.le_of_ble_eq_true rfl) rfl ?_
  refine cr_lstore_n1 (pc := 58) C dX2_mixInto_58 (by decide) rfl ?_
  refine cr_iinc4 (pc := 59) (v := nI 2) C dX2_mixInto_59 (by decide) (by decide) rfl ?_
  refine cr_goto (pc := 62) (tgt := 41) C dX2_mixInto_62 (by decide) ?_
  refine cr_iload (pc := 41) C dX2_mixInto_41 rfl ?_
  refine cr_iconst (pc := 43) (v := nI 4) C dX2_mixInto_43 (by decide) ?_
  refine cr_icmp_ge_f (pc := 44) (tgt := 65) C dX2_mixInto_44 (by decide) (by decide) ?_
  refine cr_lload_n (pc := 47) C dX2_mixInto_47 rfl ?_
  refine cr_aload_n (pc := 48) C dX2_mixInto_48 rfl ?_
  refine cr_iload_n (pc := 49) C dX2_mixInto_49 rfl ?_
  refine cr_iload (pc := 50) C dX2_mixInto_50 rfl ?_
  refine cr_dV (pc := 52) C (sp_valueAt (by decide) hI) rfl gX2_mixInto_X2_valueAt rfl dX2_mixInto_52 (by first | rfl | assumption | (simp [cg_ok]; omega)) rfl hvX2_valueAt rfl ⟨rfl, rfl, Nat.le_of_ble_eq_true rfl, Nat.le_of_ble_eq_true rfl⟩ (Nat.le_of_ble_eq_true rfl) rfl ?_
  refine cr_dN (pc := 55) C (sp_mix) rfl gX2_mixInto_X3_mix_n115 rfl dX2_mixInto_55 neX3_mix isX2_mixInto_X3_mix hsX3_mix rfl ⟨rfl, rfl, Nat.le_of_ble_eq_true rfl, Nat.le_of_ble_eq_true rfl⟩ (Nat.le_of_ble_eq_true rfl) rfl ?_
  refine cr_lstore_n1 (pc := 58) C dX2_mixInto_58 (by decide) rfl ?_
  refine cr_iinc4 (pc := 59) (v := nI 3) C dX2_mixInto_59 (by decide) (by decide) rfl ?_
  refine cr_goto (pc := 62) (tgt := 41) C dX2_mixInto_62 (by decide) ?_
  refine cr_iload (pc := 41) C dX2_mixInto_41 rfl ?_
  refine cr_iconst (pc := 43) (v := nI 4) C dX2_mixInto_43 (by decide) ?_
  refine cr_icmp_ge_f (pc := 44) (tgt := 65) C dX2_mixInto_44 (by decide) (by decide) ?_
  refine cr_lload_n (pc := 47) C dX2_mixInto_47 rfl ?_
  refine cr_aload_n (pc := 48) C dX2_mixInto_48 rfl ?_
  refine cr_iload_n (pc := 49) C dX2_mixInto_49 rfl ?_
  refine cr_iload (pc := 50) C dX2_mixInto_50 rfl ?_
  refine cr_dV (pc := 52) C (sp_valueAt (by decide) hI) rfl gX2_mixInto_X2_valueAt rfl dX2_mixInto_52 (by first | rfl | assumption | (simp [cg_ok]; omega)) rfl hvX2_valueAt rfl ⟨rfl, rfl, Nat.le_of_ble_eq_true rfl, Nat.le_of_ble_eq_true rfl⟩ (Nat.le_of_ble_eq_true rfl) rfl ?_
  refine cr_dN (pc := 55) C (sp_mix) rfl gX2_mixInto_X3_mix_n115 rfl dX2_mixInto_55 neX3_mix isX2_mixInto_X3_mix hsX3_mix rfl ⟨rfl, rfl, Nat.le_of_ble_eq_true rfl, Nat.le_of_ble_eq_true rfl⟩ (Nat.le_of_ble_eq_true rfl) rfl ?_
  refine cr_lstore_n1 (pc := 58) C dX2_mixInto_58 (by decide) rfl ?_
  refine cr_iinc4 (pc := 59) (v := nI 4) C dX2_mixInto_59 (by decide) (by decide) rfl ?_
  refine cr_goto (pc := 62) (tgt := 41) C dX2_mixInto_62 (by decide) ?_
  refine cr_iload (pc := 41) C dX2_mixInto_41 rfl ?_
  refine cr_iconst (pc := 43) (v := nI 4) C dX2_mixInto_43 (by decide) ?_
  refine cr_icmp_ge_t (pc := 44) (tgt := 65) C dX2_mixInto_44 (by decide) (by decide) ?_
  refine cr_iinc3 (pc := 65) (v := nI 1) C dX2_mixInto_65 (by decide) (by decide) rfl ?_
  refine cr_goto (pc := 68) (tgt := 11) C dX2_mixInto_68 (by decide) ?_
  refine cr_iload_n (pc := 11) C dX2_mixInto_11 rfl ?_
  refine cr_iconst (pc := 12) (v := nI 3) C dX2_mixInto_12 (by decide) ?_
  refine cr_icmp_ge_f (pc := 13) (tgt := 71) C dX2_mixInto_13 (by decide) (by decide) ?_
  refine cr_lload_n (pc := 16) C dX2_mixInto_16 rfl ?_
  refine cr_aload_n (pc := 17) C dX2_mixInto_17 rfl ?_
  refine cr_getr (pc := 18) (c := 2) (k := 6) C (by first | rfl | assumption | (simp [cg_ok]; omega)) rfl (by decide) rfl inX2_mixInto_X2 flX2_mixInto_33 dX2_mixInto_18 ?_
  refine cr_iload_n (pc := 21) C dX2_mixInto_21 rfl ?_
  refine cr_aaload (pc := 22) C rfl (by first | rfl | assumption | (simp [cg_ok]; omega)) (by decide) (by first | decide | omega) dX2_mixInto_22 ?_
  refine cr_dN (pc := 23) C (sp_mixAll (by rfl) rfl (by decide)) rfl gX2_mixInto_X3_mixAll_n119 rfl dX2_mixInto_23 neX3_mixAll isX2_mixInto_X3_mixAll hsX3_mixAll rfl ⟨rfl, rfl, Nat.le_of_ble_eq_true rfl, Nat.le_of_ble_eq_true rfl⟩ (Nat.le_of_ble_eq_true rfl) rfl ?_
  simp only [cg_sb_s]
  refine cr_lstore_n1 (pc := 26) C dX2_mixInto_26 (by decide) rfl ?_
  refine cr_lload_n (pc := 27) C dX2_mixInto_27 rfl ?_
  refine cr_aload_n (pc := 28) C dX2_mixInto_28 rfl ?_
  refine cr_getr (pc := 29) (c := 2) (k := 7) C (by first | rfl | assumption | (simp [cg_ok]; omega)) rfl (by decide) rfl inX2_mixInto_X2 flX2_mixInto_36 dX2_mixInto_29 ?_
  refine cr_iload_n (pc := 32) C dX2_mixInto_32 rfl ?_
  refine cr_iaload (pc := 33) C rfl (by first | rfl | assumption | (simp [cg_ok]; omega)) (by decide) (by first | decide | omega) dX2_mixInto_33 ?_
  rw [cg_sb_s]
  refine cr_dN (pc := 34) C (sp_mix) rfl gX2_mixInto_X3_mix_n115 rfl dX2_mixInto_34 neX3_mix isX2_mixInto_X3_mix hsX3_mix rfl ⟨rfl, rfl, Nat.le_of_ble_eq_true rfl, Nat.le_of_ble_eq_true rfl⟩ (Nat.le_of_ble_eq_true rfl) rfl ?_
  refine cr_lstore_n1 (pc := 37) C dX2_mixInto_37 (by decide) rfl ?_
  refine cr_iconst (pc := 38) (v := nI 0) C dX2_mixInto_38 (by decide) ?_
  refine cr_istore4 (pc := 39) C dX2_mixInto_39 (by decide) rfl ?_
  refine cr_iload (pc := 41) C dX2_mixInto_41 rfl ?_
  refine cr_iconst (pc := 43) (v := nI 4) C dX2_mixInto_43 (by decide) ?_
  refine cr_icmp_ge_f (pc := 44) (tgt := 65) C dX2_mixInto_44 (by decide) (by decide) ?_
  refine cr_lload_n (pc := 47) C dX2_mixInto_47 rfl ?_
  refine cr_aload_n (pc := 48) C dX2_mixInto_48 rfl ?_
  refine cr_iload_n (pc := 49) C dX2_mixInto_49 rfl ?_
  refine cr_iload (pc := 50) C dX2_mixInto_50 rfl ?_
  refine cr_dV (pc := 52) C (sp_valueAt (by decide) hI) rfl gX2_mixInto_X2_valueAt rfl dX2_mixInto_52 (by first | rfl | assumption | (simp [cg_ok]; omega)) rfl hvX2_valueAt rfl ⟨rfl, rfl, Nat.le_of_ble_eq_true rfl, Nat.le_of_ble_eq_true rfl⟩ (Nat.le_of_ble_eq_true rfl) rfl ?_
  refine cr_dN (pc := 55) C (sp_mix) rfl gX2_mixInto_X3_mix_n115 rfl dX2_mixInto_55 neX3_mix isX2_mixInto_X3_mix hsX3_mix rfl ⟨rfl, rfl, Nat.le_of_ble_eq_true rfl, Nat.le_of_ble_eq_true rfl⟩ (Nat.le_of_ble_eq_true rfl) rfl ?_
  refine cr_lstore_n1 (pc := 58) C dX2_mixInto_58 (by decide) rfl ?_
  refine cr_iinc4 (pc := 59) (v := nI 1) C dX2_mixInto_59 (by decide) (by decide) rfl ?_
  refine cr_goto (pc := 62) (tgt := 41) C dX2_mixInto_62 (by decide) ?_
  refine cr_iload (pc := 41) C dX2_mixInto_41 rfl ?_
  refine cr_iconst (pc := 43) (v := nI 4) C dX2_mixInto_43 (by decide) ?_
  refine cr_icmp_ge_f (pc := 44) (tgt := 65) C dX2_mixInto_44 (by decide) (by decide) ?_
  refine cr_lload_n (pc := 47) C dX2_mixInto_47 rfl ?_
  refine cr_aload_n (pc := 48) C dX2_mixInto_48 rfl ?_
  refine cr_iload_n (pc := 49) C dX2_mixInto_49 rfl ?_
  refine cr_iload (pc := 50) C dX2_mixInto_50 rfl ?_
  refine cr_dV (pc := 52) C (sp_valueAt (by decide) hI) rfl gX2_mixInto_X2_valueAt rfl dX2_mixInto_52 (by first | rfl | assumption | (simp [cg_ok]; omega)) rfl hvX2_valueAt rfl ⟨rfl, rfl, Nat.le_of_ble_eq_true rfl, Nat.le_of_ble_eq_true rfl⟩ (Nat.le_of_ble_eq_true rfl) rfl ?_
  refine cr_dN (pc := 55) C (sp_mix) rfl gX2_mixInto_X3_mix_n115 rfl dX2_mixInto_55 neX3_mix isX2_mixInto_X3_mix hsX3_mix rfl ⟨rfl, rfl, Nat.le_of_ble_eq_true rfl, Nat.le_of_ble_eq_true rfl⟩ (Nat.le_of_ble_eq_true rfl) rfl ?_
  refine cr_lstore_n1 (pc := 58) C dX2_mixInto_58 (by decide) rfl ?_
  refine cr_iinc4 (pc := 59) (v := nI 2) C dX2_mixInto_59 (by decide) (by decide) rfl ?_
  refine cr_goto (pc := 62) (tgt := 41) C dX2_mixInto_62 (by decide) ?_
  refine cr_iload (pc := 41) C dX2_mixInto_41 rfl ?_
  refine cr_iconst (pc := 43) (v := nI 4) C dX2_mixInto_43 (by decide) ?_
  refine cr_icmp_ge_f (pc := 44) (tgt := 65) C dX2_mixInto_44 (by decide) (by decide) ?_
  refine cr_lload_n (pc := 47) C dX2_mixInto_47 rfl ?_
  refine cr_aload_n (pc := 48) C dX2_mixInto_48 rfl ?_
  refine cr_iload_n (pc := 49) C dX2_mixInto_49 rfl ?_
  refine cr_iload (pc := 50) C dX2_mixInto_50 rfl ?_
  refine cr_dV (pc := 52) C (sp_valueAt (by decide) hI) rfl gX2_mixInto_X2_valueAt rfl dX2_mixInto_52 (by first | rfl | assumption | (simp [cg_ok]; omega)) rfl hvX2_valueAt rfl ⟨rfl, rfl, Nat.le_of_ble_eq_true rfl, Nat.le_of_ble_eq_true rfl⟩ (Nat.le_of_ble_eq_true rfl) rfl ?_
  refine cr_dN (pc := 55) C (sp_mix) rfl gX2_mixInto_X3_mix_n115 rfl dX2_mixInto_55 neX3_mix isX2_mixInto_X3_mix hsX3_mix rfl ⟨rfl, rfl, Nat.le_of_ble_eq_true rfl, Nat.le_of_ble_eq_true rfl⟩ (Nat.le_of_ble_eq_true rfl) rfl ?_
  refine cr_lstore_n1 (pc := 58) C dX2_mixInto_58 (by decide) rfl ?_
  refine cr_iinc4 (pc := 59) (v := nI 3) C dX2_mixInto_59 (by decide) (by decide) rfl ?_
  refine cr_goto (pc := 62) (tgt := 41) C dX2_mixInto_62 (by decide) ?_
  refine cr_iload (pc := 41) C dX2_mixInto_41 rfl ?_
  refine cr_iconst (pc := 43) (v := nI 4) C dX2_mixInto_43 (by decide) ?_
  refine cr_icmp_ge_f (pc := 44) (tgt := 65) C dX2_mixInto_44 (by decide) (by decide) ?_
  refine cr_lload_n (pc := 47) C dX2_mixInto_47 rfl ?_
  refine cr_aload_n (pc := 48) C dX2_mixInto_48 rfl ?_
  refine cr_iload_n (pc := 49) C dX2_mixInto_49 rfl ?_
  refine cr_iload (pc := 50) C dX2_mixInto_50 rfl ?_
  refine cr_dV (pc := 52) C (sp_valueAt (by decide) hI) rfl gX2_mixInto_X2_valueAt rfl dX2_mixInto_52 (by first | rfl | assumption | (simp [cg_ok]; omega)) rfl hvX2_valueAt rfl ⟨rfl, rfl, Nat.le_of_ble_eq_true rfl, Nat.le_of_ble_eq_true rfl⟩ (Nat.le_of_ble_eq_true rfl) rfl ?_
  refine cr_dN (pc := 55) C (sp_mix) rfl gX2_mixInto_X3_mix_n115 rfl dX2_mixInto_55 neX3_mix isX2_mixInto_X3_mix hsX3_mix rfl ⟨rfl, rfl, Nat.le_of_ble_eq_true rfl, Nat.le_of_ble_eq_true rfl⟩ (Nat.le_of_ble_eq_true rfl) rfl ?_
  refine cr_lstore_n1 (pc := 58) C dX2_mixInto_58 (by decide) rfl ?_
  refine cr_iinc4 (pc := 59) (v := nI 4) C dX2_mixInto_59 (by decide) (by decide) rfl ?_
  refine cr_goto (pc := 62) (tgt := 41) C dX2_mixInto_62 (by decide) ?_
  refine cr_iload (pc := 41) C dX2_mixInto_41 rfl ?_
  refine cr_iconst (pc := 43) (v := nI 4) C dX2_mixInto_43 (by decide) ?_
  refine cr_icmp_ge_t (pc := 44) (tgt := 65) C dX2_mixInto_44 (by decide) (by decide) ?_
  refine cr_iinc3 (pc := 65) (v := nI 2) C dX2_mixInto_65 (by decide) (by decide) rfl ?_
  refine cr_goto (pc := 68) (tgt := 11) C dX2_mixInto_68 (by decide) ?_
  refine cr_iload_n (pc := 11) C dX2_mixInto_11 rfl ?_
  refine cr_iconst (pc := 12) (v := nI 3) C dX2_mixInto_12 (by decide) ?_
  refine cr_icmp_ge_f (pc := 13) (tgt := 71) C dX2_mixInto_13 (by decide) (by decide) ?_
  refine cr_lload_n (pc := 16) C dX2_mixInto_16 rfl ?_
  refine cr_aload_n (pc := 17) C dX2_mixInto_17 rfl ?_
  refine cr_getr (pc := 18) (c := 2) (k := 6) C (by first | rfl | assumption | (simp [cg_ok]; omega)) rfl (by decide) rfl inX2_mixInto_X2 flX2_mixInto_33 dX2_mixInto_18 ?_
  refine cr_iload_n (pc := 21) C dX2_mixInto_21 rfl ?_
  refine cr_aaload (pc := 22) C rfl (by first | rfl | assumption | (simp [cg_ok]; omega)) (by decide) (by first | decide | omega) dX2_mixInto_22 ?_
  refine cr_dN (pc := 23) C (sp_mixAll (by rfl) rfl (by decide)) rfl gX2_mixInto_X3_mixAll_n119 rfl dX2_mixInto_23 neX3_mixAll isX2_mixInto_X3_mixAll hsX3_mixAll rfl ⟨rfl, rfl, Nat.le_of_ble_eq_true rfl, Nat.le_of_ble_eq_true rfl⟩ (Nat.le_of_ble_eq_true rfl) rfl ?_
  simp only [cg_sb_s]
  refine cr_lstore_n1 (pc := 26) C dX2_mixInto_26 (by decide) rfl ?_
  refine cr_lload_n (pc := 27) C dX2_mixInto_27 rfl ?_
  refine cr_aload_n (pc := 28) C dX2_mixInto_28 rfl ?_
  refine cr_getr (pc := 29) (c := 2) (k := 7) C (by first | rfl | assumption | (simp [cg_ok]; omega)) rfl (by decide) rfl inX2_mixInto_X2 flX2_mixInto_36 dX2_mixInto_29 ?_
  refine cr_iload_n (pc := 32) C dX2_mixInto_32 rfl ?_
  refine cr_iaload (pc := 33) C rfl (by first | rfl | assumption | (simp [cg_ok]; omega)) (by decide) (by first | decide | omega) dX2_mixInto_33 ?_
  rw [cg_sb_s]
  refine cr_dN (pc := 34) C (sp_mix) rfl gX2_mixInto_X3_mix_n115 rfl dX2_mixInto_34 neX3_mix isX2_mixInto_X3_mix hsX3_mix rfl ⟨rfl, rfl, Nat.le_of_ble_eq_true rfl, Nat.le_of_ble_eq_true rfl⟩ (Nat.le_of_ble_eq_true rfl) rfl ?_
  refine cr_lstore_n1 (pc := 37) C dX2_mixInto_37 (by decide) rfl ?_
  refine cr_iconst (pc := 38) (v := nI 0) C dX2_mixInto_38 (by decide) ?_
  refine cr_istore4 (pc := 39) C dX2_mixInto_39 (by decide) rfl ?_
  refine cr_iload (pc := 41) C dX2_mixInto_41 rfl ?_
  refine cr_iconst (pc := 43) (v := nI 4) C dX2_mixInto_43 (by decide) ?_
  refine cr_icmp_ge_f (pc := 44) (tgt := 65) C dX2_mixInto_44 (by decide) (by decide) ?_
  refine cr_lload_n (pc := 47) C dX2_mixInto_47 rfl ?_
  refine cr_aload_n (pc := 48) C dX2_mixInto_48 rfl ?_
  refine cr_iload_n (pc := 49) C dX2_mixInto_49 rfl ?_
  refine cr_iload (pc := 50) C dX2_mixInto_50 rfl ?_
  refine cr_dV (pc := 52) C (sp_valueAt (by decide) hI) rfl gX2_mixInto_X2_valueAt rfl dX2_mixInto_52 (by first | rfl | assumption | (simp [cg_ok]; omega)) rfl hvX2_valueAt rfl ⟨rfl, rfl, Nat.le_of_ble_eq_true rfl, Nat.le_of_ble_eq_true rfl⟩ (Nat.le_of_ble_eq_true rfl) rfl ?_
  refine cr_dN (pc := 55) C (sp_mix) rfl gX2_mixInto_X3_mix_n115 rfl dX2_mixInto_55 neX3_mix isX2_mixInto_X3_mix hsX3_mix rfl ⟨rfl, rfl, Nat.le_of_ble_eq_true rfl, Nat.le_of_ble_eq_true rfl⟩ (Nat.le_of_ble_eq_true rfl) rfl ?_
  refine cr_lstore_n1 (pc := 58) C dX2_mixInto_58 (by decide) rfl ?_
  refine cr_iinc4 (pc := 59) (v := nI 1) C dX2_mixInto_59 (by decide) (by decide) rfl ?_
  refine cr_goto (pc := 62) (tgt := 41) C dX2_mixInto_62 (by decide) ?_
  refine cr_iload (pc := 41) C dX2_mixInto_41 rfl ?_
  refine cr_iconst (pc := 43) (v := nI 4) C dX2_mixInto_43 (by decide) ?_
  refine cr_icmp_ge_f (pc := 44) (tgt := 65) C dX2_mixInto_44 (by decide) (by decide) ?_
  refine cr_lload_n (pc := 47) C dX2_mixInto_47 rfl ?_
  refine cr_aload_n (pc := 48) C dX2_mixInto_48 rfl ?_
  refine cr_iload_n (pc := 49) C dX2_mixInto_49 rfl ?_
  refine cr_iload (pc := 50) C dX2_mixInto_50 rfl ?_
  refine cr_dV (pc := 52) C (sp_valueAt (by decide) hI) rfl gX2_mixInto_X2_valueAt rfl dX2_mixInto_52 (by first | rfl | assumption | (simp [cg_ok]; omega)) rfl hvX2_valueAt rfl ⟨rfl, rfl, Nat.le_of_ble_eq_true rfl, Nat.le_of_ble_eq_true rfl⟩ (Nat.le_of_ble_eq_true rfl) rfl ?_
  refine cr_dN (pc := 55) C (sp_mix) rfl gX2_mixInto_X3_mix_n115 rfl dX2_mixInto_55 neX3_mix isX2_mixInto_X3_mix hsX3_mix rfl ⟨rfl, rfl, Nat.le_of_ble_eq_true rfl, Nat.le_of_ble_eq_true rfl⟩ (Nat.le_of_ble_eq_true rfl) rfl ?_
  refine cr_lstore_n1 (pc := 58) C dX2_mixInto_58 (by decide) rfl ?_
  refine cr_iinc4 (pc := 59) (v := nI 2) C dX2_mixInto_59 (by decide) (by decide) rfl ?_
  refine cr_goto (pc := 62) (tgt := 41) C dX2_mixInto_62 (by decide) ?_
  refine cr_iload (pc := 41) C dX2_mixInto_41 rfl ?_
  refine cr_iconst (pc := 43) (v := nI 4) C dX2_mixInto_43 (by decide) ?_
  refine cr_icmp_ge_f (pc := 44) (tgt := 65) C dX2_mixInto_44 (by decide) (by decide) ?_
  refine cr_lload_n (pc := 47) C dX2_mixInto_47 rfl ?_
  refine cr_aload_n (pc := 48) C dX2_mixInto_48 rfl ?_
  refine cr_iload_n (pc := 49) C dX2_mixInto_49 rfl ?_
  refine cr_iload (pc := 50) C dX2_mixInto_50 rfl ?_
  refine cr_dV (pc := 52) C (sp_valueAt (by decide) hI) rfl gX2_mixInto_X2_valueAt rfl dX2_mixInto_52 (by first | rfl | assumption | (simp [cg_ok]; omega)) rfl hvX2_valueAt rfl ⟨rfl, rfl, Nat.le_of_ble_eq_true rfl, Nat.le_of_ble_eq_true rfl⟩ (Nat.le_of_ble_eq_true rfl) rfl ?_
  refine cr_dN (pc := 55) C (sp_mix) rfl gX2_mixInto_X3_mix_n115 rfl dX2_mixInto_55 neX3_mix isX2_mixInto_X3_mix hsX3_mix rfl ⟨rfl, rfl, Nat.le_of_ble_eq_true rfl, Nat.le_of_ble_eq_true rfl⟩ (Nat.le_of_ble_eq_true rfl) rfl ?_
  refine cr_lstore_n1 (pc := 58) C dX2_mixInto_58 (by decide) rfl ?_
  refine cr_iinc4 (pc := 59) (v := nI 3) C dX2_mixInto_59 (by decide) (by decide) rfl ?_
  refine cr_goto (pc := 62) (tgt := 41) C dX2_mixInto_62 (by decide) ?_
  refine cr_iload (pc := 41) C dX2_mixInto_41 rfl ?_
  refine cr_iconst (pc := 43) (v := nI 4) C dX2_mixInto_43 (by decide) ?_
  refine cr_icmp_ge_f (pc := 44) (tgt := 65) C dX2_mixInto_44 (by decide) (by decide) ?_
  refine cr_lload_n (pc := 47) C dX2_mixInto_47 rfl ?_
  refine cr_aload_n (pc := 48) C dX2_mixInto_48 rfl ?_
  refine cr_iload_n (pc := 49) C dX2_mixInto_49 rfl ?_
  refine cr_iload (pc := 50) C dX2_mixInto_50 rfl ?_
  refine cr_dV (pc := 52) C (sp_valueAt (by decide) hI) rfl gX2_mixInto_X2_valueAt rfl dX2_mixInto_52 (by first | rfl | assumption | (simp [cg_ok]; omega)) rfl hvX2_valueAt rfl ⟨rfl, rfl, Nat.le_of_ble_eq_true rfl, Nat.le_of_ble_eq_true rfl⟩ (Nat.le_of_ble_eq_true rfl) rfl ?_
  refine cr_dN (pc := 55) C (sp_mix) rfl gX2_mixInto_X3_mix_n115 rfl dX2_mixInto_55 neX3_mix isX2_mixInto_X3_mix hsX3_mix rfl ⟨rfl, rfl, Nat.le_of_ble_eq_true rfl, Nat.le_of_ble_eq_true rfl⟩ (Nat.le_of_ble_eq_true rfl) rfl ?_
  refine cr_lstore_n1 (pc := 58) C dX2_mixInto_58 (by decide) rfl ?_
  refine cr_iinc4 (pc := 59) (v := nI 4) C dX2_mixInto_59 (by decide) (by decide) rfl ?_
  refine cr_goto (pc := 62) (tgt := 41) C dX2_mixInto_62 (by decide) ?_
  refine cr_iload (pc := 41) C dX2_mixInto_41 rfl ?_
  refine cr_iconst (pc := 43) (v := nI 4) C dX2_mixInto_43 (by decide) ?_
  refine cr_icmp_ge_t (pc := 44) (tgt := 65) C dX2_mixInto_44 (by decide) (by decide) ?_
  refine cr_iinc3 (pc := 65) (v := nI 3) C dX2_mixInto_65 (by decide) (by decide) rfl ?_
  refine cr_goto (pc := 68) (tgt := 11) C dX2_mixInto_68 (by decide) ?_
  refine cr_iload_n (pc := 11) C dX2_mixInto_11 rfl ?_
  refine cr_iconst (pc := 12) (v := nI 3) C dX2_mixInto_12 (by decide) ?_
  refine cr_icmp_ge_t (pc := 13) (tgt := 71) C dX2_mixInto_13 (by decide) (by decide) ?_
  refine cr_iconst (pc := 71) (v := nI 0) C dX2_mixInto_71 (by decide) ?_
  refine cr_istore_n3 (pc := 72) C dX2_mixInto_72 (by decide) rfl ?_
  refine cr_iload_n (pc := 73) C dX2_mixInto_73 rfl ?_
  refine cr_iconst (pc := 74) (v := nI 4) C dX2_mixInto_74 (by decide) ?_
  refine cr_icmp_ge_f (pc := 75) (tgt := 117) C dX2_mixInto_75 (by decide) (by decide) ?_
  refine cr_lload_n (pc := 78) C dX2_mixInto_78 rfl ?_
  refine cr_aload_n (pc := 79) C dX2_mixInto_79 rfl ?_
  refine cr_getr (pc := 80) (c := 2) (k := 8) C (by first | rfl | assumption | (simp [cg_ok]; omega)) rfl (by decide) rfl inX2_mixInto_X2 flX2_mixInto_39 dX2_mixInto_80 ?_
  refine cr_iload_n (pc := 83) C dX2_mixInto_83 rfl ?_
  refine cr_iaload (pc := 84) C rfl (by first | rfl | assumption | (simp [cg_ok]; omega)) (by decide) (by first | decide | omega) dX2_mixInto_84 ?_
  rw [cg_sb_s]
  refine cr_dN (pc := 85) C (sp_mix) rfl gX2_mixInto_X3_mix_n115 rfl dX2_mixInto_85 neX3_mix isX2_mixInto_X3_mix hsX3_mix rfl ⟨rfl, rfl, Nat.le_of_ble_eq_true rfl, Nat.le_of_ble_eq_true rfl⟩ (Nat.le_of_ble_eq_true rfl) rfl ?_
  refine cr_lstore_n1 (pc := 88) C dX2_mixInto_88 (by decide) rfl ?_
  refine cr_lload_n (pc := 89) C dX2_mixInto_89 rfl ?_
  refine cr_aload_n (pc := 90) C dX2_mixInto_90 rfl ?_
  refine cr_getr (pc := 91) (c := 2) (k := 9) C (by first | rfl | assumption | (simp [cg_ok]; omega)) rfl (by decide) rfl inX2_mixInto_X2 flX2_mixInto_42 dX2_mixInto_91 ?_
  refine cr_iload_n (pc := 94) C dX2_mixInto_94 rfl ?_
  refine cr_aaload (pc := 95) C rfl (by first | rfl | assumption | (simp [cg_ok]; omega)) (by decide) (by first | decide | omega) dX2_mixInto_95 ?_
  refine cr_dN (pc := 96) C (sp_mixAll (by rfl) rfl (by decide)) rfl gX2_mixInto_X3_mixAll_n119 rfl dX2_mixInto_96 neX3_mixAll isX2_mixInto_X3_mixAll hsX3_mixAll rfl ⟨rfl, rfl, Nat.le_of_ble_eq_true rfl, Nat.le_of_ble_eq_true rfl⟩ (Nat.le_of_ble_eq_true rfl) rfl ?_
  simp only [cg_sb_s]
  refine cr_lstore_n1 (pc := 99) C dX2_mixInto_99 (by decide) rfl ?_
  refine cr_lload_n (pc := 100) C dX2_mixInto_100 rfl ?_
  refine cr_aload_n (pc := 101) C dX2_mixInto_101 rfl ?_
  refine cr_getr (pc := 102) (c := 2) (k := 10) C (by first | rfl | assumption | (simp [cg_ok]; omega)) rfl (by decide) rfl inX2_mixInto_X2 flX2_mixInto_45 dX2_mixInto_102 ?_
  refine cr_iload_n (pc := 105) C dX2_mixInto_105 rfl ?_
  refine cr_aaload (pc := 106) C rfl (by first | rfl | assumption | (simp [cg_ok]; omega)) (by decide) (by first | decide | omega) dX2_mixInto_106 ?_
  refine cr_dN (pc := 107) C (sp_mixAll (by rfl) rfl (by decide)) rfl gX2_mixInto_X3_mixAll_n119 rfl dX2_mixInto_107 neX3_mixAll isX2_mixInto_X3_mixAll hsX3_mixAll rfl ⟨rfl, rfl, Nat.le_of_ble_eq_true rfl, Nat.le_of_ble_eq_true rfl⟩ (Nat.le_of_ble_eq_true rfl) rfl ?_
  simp only [cg_sb_s]
  refine cr_lstore_n1 (pc := 110) C dX2_mixInto_110 (by decide) rfl ?_
  refine cr_iinc3 (pc := 111) (v := nI 1) C dX2_mixInto_111 (by decide) (by decide) rfl ?_
  refine cr_goto (pc := 114) (tgt := 73) C dX2_mixInto_114 (by decide) ?_
  refine cr_iload_n (pc := 73) C dX2_mixInto_73 rfl ?_
  refine cr_iconst (pc := 74) (v := nI 4) C dX2_mixInto_74 (by decide) ?_
  refine cr_icmp_ge_f (pc := 75) (tgt := 117) C dX2_mixInto_75 (by decide) (by decide) ?_
  refine cr_lload_n (pc := 78) C dX2_mixInto_78 rfl ?_
  refine cr_aload_n (pc := 79) C dX2_mixInto_79 rfl ?_
  refine cr_getr (pc := 80) (c := 2) (k := 8) C (by first | rfl | assumption | (simp [cg_ok]; omega)) rfl (by decide) rfl inX2_mixInto_X2 flX2_mixInto_39 dX2_mixInto_80 ?_
  refine cr_iload_n (pc := 83) C dX2_mixInto_83 rfl ?_
  refine cr_iaload (pc := 84) C rfl (by first | rfl | assumption | (simp [cg_ok]; omega)) (by decide) (by first | decide | omega) dX2_mixInto_84 ?_
  rw [cg_sb_s]
  refine cr_dN (pc := 85) C (sp_mix) rfl gX2_mixInto_X3_mix_n115 rfl dX2_mixInto_85 neX3_mix isX2_mixInto_X3_mix hsX3_mix rfl ⟨rfl, rfl, Nat.le_of_ble_eq_true rfl, Nat.le_of_ble_eq_true rfl⟩ (Nat.le_of_ble_eq_true rfl) rfl ?_
  refine cr_lstore_n1 (pc := 88) C dX2_mixInto_88 (by decide) rfl ?_
  refine cr_lload_n (pc := 89) C dX2_mixInto_89 rfl ?_
  refine cr_aload_n (pc := 90) C dX2_mixInto_90 rfl ?_
  refine cr_getr (pc := 91) (c := 2) (k := 9) C (by first | rfl | assumption | (simp [cg_ok]; omega)) rfl (by decide) rfl inX2_mixInto_X2 flX2_mixInto_42 dX2_mixInto_91 ?_
  refine cr_iload_n (pc := 94) C dX2_mixInto_94 rfl ?_
  refine cr_aaload (pc := 95) C rfl (by first | rfl | assumption | (simp [cg_ok]; omega)) (by decide) (by first | decide | omega) dX2_mixInto_95 ?_
  refine cr_dN (pc := 96) C (sp_mixAll (by rfl) rfl (by decide)) rfl gX2_mixInto_X3_mixAll_n119 rfl dX2_mixInto_96 neX3_mixAll isX2_mixInto_X3_mixAll hsX3_mixAll rfl ⟨rfl, rfl, Nat.le_of_ble_eq_true rfl, Nat.le_of_ble_eq_true rfl⟩ (Nat.le_of_ble_eq_true rfl) rfl ?_
  simp only [cg_sb_s]
  refine cr_lstore_n1 (pc := 99) C dX2_mixInto_99 (by decide) rfl ?_
  refine cr_lload_n (pc := 100) C dX2_mixInto_100 rfl ?_
  refine cr_aload_n (pc := 101) C dX2_mixInto_101 rfl ?_
  refine cr_getr (pc := 102) (c := 2) (k := 10) C (by first | rfl | assumption | (simp [cg_ok]; omega)) rfl (by decide) rfl inX2_mixInto_X2 flX2_mixInto_45 dX2_mixInto_102 ?_
  refine cr_iload_n (pc := 105) C dX2_mixInto_105 rfl ?_
  refine cr_aaload (pc := 106) C rfl (by first | rfl | assumption | (simp [cg_ok]; omega)) (by decide) (by first | decide | omega) dX2_mixInto_106 ?_
  refine cr_dN (pc := 107) C (sp_mixAll (by rfl) rfl (by decide)) rfl gX2_mixInto_X3_mixAll_n119 rfl dX2_mixInto_107 neX3_mixAll isX2_mixInto_X3_mixAll hsX3_mixAll rfl ⟨rfl, rfl, Nat.le_of_ble_eq_true rfl, Nat.le_of_ble_eq_true rfl⟩ (Nat.le_of_ble_eq_true rfl) rfl ?_
  simp only [cg_sb_s]
  refine cr_lstore_n1 (pc := 110) C dX2_mixInto_110 (by decide) rfl ?_
  refine cr_iinc3 (pc := 111) (v := nI 2) C dX2_mixInto_111 (by decide) (by decide) rfl ?_
  refine cr_goto (pc := 114) (tgt := 73) C dX2_mixInto_114 (by decide) ?_
  refine cr_iload_n (pc := 73) C dX2_mixInto_73 rfl ?_
  refine cr_iconst (pc := 74) (v := nI 4) C dX2_mixInto_74 (by decide) ?_
  refine cr_icmp_ge_f (pc := 75) (tgt := 117) C dX2_mixInto_75 (by decide) (by decide) ?_
  refine cr_lload_n (pc := 78) C dX2_mixInto_78 rfl ?_
  refine cr_aload_n (pc := 79) C dX2_mixInto_79 rfl ?_
  refine cr_getr (pc := 80) (c := 2) (k := 8) C (by first | rfl | assumption | (simp [cg_ok]; omega)) rfl (by decide) rfl inX2_mixInto_X2 flX2_mixInto_39 dX2_mixInto_80 ?_
  refine cr_iload_n (pc := 83) C dX2_mixInto_83 rfl ?_
  refine cr_iaload (pc := 84) C rfl (by first | rfl | assumption | (simp [cg_ok]; omega)) (by decide) (by first | decide | omega) dX2_mixInto_84 ?_
  rw [cg_sb_s]
  refine cr_dN (pc := 85) C (sp_mix) rfl gX2_mixInto_X3_mix_n115 rfl dX2_mixInto_85 neX3_mix isX2_mixInto_X3_mix hsX3_mix rfl ⟨rfl, rfl, Nat.le_of_ble_eq_true rfl, Nat.le_of_ble_eq_true rfl⟩ (Nat.le_of_ble_eq_true rfl) rfl ?_
  refine cr_lstore_n1 (pc := 88) C dX2_mixInto_88 (by decide) rfl ?_
  refine cr_lload_n (pc := 89) C dX2_mixInto_89 rfl ?_
  refine cr_aload_n (pc := 90) C dX2_mixInto_90 rfl ?_
  refine cr_getr (pc := 91) (c := 2) (k := 9) C (by first | rfl | assumption | (simp [cg_ok]; omega)) rfl (by decide) rfl inX2_mixInto_X2 flX2_mixInto_42 dX2_mixInto_91 ?_
  refine cr_iload_n (pc := 94) C dX2_mixInto_94 rfl ?_
  refine cr_aaload (pc := 95) C rfl (by first | rfl | assumption | (simp [cg_ok]; omega)) (by decide) (by first | decide | omega) dX2_mixInto_95 ?_
  refine cr_dN (pc := 96) C (sp_mixAll (by rfl) rfl (by decide)) rfl gX2_mixInto_X3_mixAll_n119 rfl dX2_mixInto_96 neX3_mixAll isX2_mixInto_X3_mixAll hsX3_mixAll rfl ⟨rfl, rfl, Nat.le_of_ble_eq_true rfl, Nat.le_of_ble_eq_true rfl⟩ (Nat.le_of_ble_eq_true rfl) rfl ?_
  simp only [cg_sb_s]
  refine cr_lstore_n1 (pc := 99) C dX2_mixInto_99 (by decide) rfl ?_
  refine cr_lload_n (pc := 100) C dX2_mixInto_100 rfl ?_
  refine cr_aload_n (pc := 101) C dX2_mixInto_101 rfl ?_
  refine cr_getr (pc := 102) (c := 2) (k := 10) C (by first | rfl | assumption | (simp [cg_ok]; omega)) rfl (by decide) rfl inX2_mixInto_X2 flX2_mixInto_45 dX2_mixInto_102 ?_
  refine cr_iload_n (pc := 105) C dX2_mixInto_105 rfl ?_
  refine cr_aaload (pc := 106) C rfl (by first | rfl | assumption | (simp [cg_ok]; omega)) (by decide) (by first | decide | omega) dX2_mixInto_106 ?_
  refine cr_dN (pc := 107) C (sp_mixAll (by rfl) rfl (by decide)) rfl gX2_mixInto_X3_mixAll_n119 rfl dX2_mixInto_107 neX3_mixAll isX2_mixInto_X3_mixAll hsX3_mixAll rfl ⟨rfl, rfl, Nat.le_of_ble_eq_true rfl, Nat.le_of_ble_eq_true rfl⟩ (Nat.le_of_ble_eq_true rfl) rfl ?_
  simp only [cg_sb_s]
  refine cr_lstore_n1 (pc := 110) C dX2_mixInto_110 (by decide) rfl ?_
  refine cr_iinc3 (pc := 111) (v := nI 3) C dX2_mixInto_111 (by decide) (by decide) rfl ?_
  refine cr_goto (pc := 114) (tgt := 73) C dX2_mixInto_114 (by decide) ?_
  refine cr_iload_n (pc := 73) C dX2_mixInto_73 rfl ?_
  refine cr_iconst (pc := 74) (v := nI 4) C dX2_mixInto_74 (by decide) ?_
  refine cr_icmp_ge_f (pc := 75) (tgt := 117) C dX2_mixInto_75 (by decide) (by decide) ?_
  refine cr_lload_n (pc := 78) C dX2_mixInto_78 rfl ?_
  refine cr_aload_n (pc := 79) C dX2_mixInto_79 rfl ?_
  refine cr_getr (pc := 80) (c := 2) (k := 8) C (by first | rfl | assumption | (simp [cg_ok]; omega)) rfl (by decide) rfl inX2_mixInto_X2 flX2_mixInto_39 dX2_mixInto_80 ?_
  refine cr_iload_n (pc := 83) C dX2_mixInto_83 rfl ?_
  refine cr_iaload (pc := 84) C rfl (by first | rfl | assumption | (simp [cg_ok]; omega)) (by decide) (by first | decide | omega) dX2_mixInto_84 ?_
  rw [cg_sb_s]
  refine cr_dN (pc := 85) C (sp_mix) rfl gX2_mixInto_X3_mix_n115 rfl dX2_mixInto_85 neX3_mix isX2_mixInto_X3_mix hsX3_mix rfl ⟨rfl, rfl, Nat.le_of_ble_eq_true rfl, Nat.le_of_ble_eq_true rfl⟩ (Nat.le_of_ble_eq_true rfl) rfl ?_
  refine cr_lstore_n1 (pc := 88) C dX2_mixInto_88 (by decide) rfl ?_
  refine cr_lload_n (pc := 89) C dX2_mixInto_89 rfl ?_
  refine cr_aload_n (pc := 90) C dX2_mixInto_90 rfl ?_
  refine cr_getr (pc := 91) (c := 2) (k := 9) C (by first | rfl | assumption | (simp [cg_ok]; omega)) rfl (by decide) rfl inX2_mixInto_X2 flX2_mixInto_42 dX2_mixInto_91 ?_
  refine cr_iload_n (pc := 94) C dX2_mixInto_94 rfl ?_
  refine cr_aaload (pc := 95) C rfl (by first | rfl | assumption | (simp [cg_ok]; omega)) (by decide) (by first | decide | omega) dX2_mixInto_95 ?_
  refine cr_dN (pc := 96) C (sp_mixAll (by rfl) rfl (by decide)) rfl gX2_mixInto_X3_mixAll_n119 rfl dX2_mixInto_96 neX3_mixAll isX2_mixInto_X3_mixAll hsX3_mixAll rfl ⟨rfl, rfl, Nat.le_of_ble_eq_true rfl, Nat.le_of_ble_eq_true rfl⟩ (Nat.le_of_ble_eq_true rfl) rfl ?_
  simp only [cg_sb_s]
  refine cr_lstore_n1 (pc := 99) C dX2_mixInto_99 (by decide) rfl ?_
  refine cr_lload_n (pc := 100) C dX2_mixInto_100 rfl ?_
  refine cr_aload_n (pc := 101) C dX2_mixInto_101 rfl ?_
  refine cr_getr (pc := 102) (c := 2) (k := 10) C (by first | rfl | assumption | (simp [cg_ok]; omega)) rfl (by decide) rfl inX2_mixInto_X2 flX2_mixInto_45 dX2_mixInto_102 ?_
  refine cr_iload_n (pc := 105) C dX2_mixInto_105 rfl ?_
  refine cr_aaload (pc := 106) C rfl (by first | rfl | assumption | (simp [cg_ok]; omega)) (by decide) (by first | decide | omega) dX2_mixInto_106 ?_
  refine cr_dN (pc := 107) C (sp_mixAll (by rfl) rfl (by decide)) rfl gX2_mixInto_X3_mixAll_n119 rfl dX2_mixInto_107 neX3_mixAll isX2_mixInto_X3_mixAll hsX3_mixAll rfl ⟨rfl, rfl, Nat.le_of_ble_eq_true rfl, Nat.le_of_ble_eq_true rfl⟩ (Nat.le_of_ble_eq_true rfl) rfl ?_
  simp only [cg_sb_s]
  refine cr_lstore_n1 (pc := 110) C dX2_mixInto_110 (by decide) rfl ?_
  refine cr_iinc3 (pc := 111) (v := nI 4) C dX2_mixInto_111 (by decide) (by decide) rfl ?_
  refine cr_goto (pc := 114) (tgt := 73) C dX2_mixInto_114 (by decide) ?_
  refine cr_iload_n (pc := 73) C dX2_mixInto_73 rfl ?_
  refine cr_iconst (pc := 74) (v := nI 4) C dX2_mixInto_74 (by decide) ?_
  refine cr_icmp_ge_t (pc := 75) (tgt := 117) C dX2_mixInto_75 (by decide) (by decide) ?_
  refine cr_lload_n (pc := 117) C dX2_mixInto_117 rfl ?_
  refine cr_aload_n (pc := 118) C dX2_mixInto_118 rfl ?_
  refine cr_getr (pc := 119) (c := 2) (k := 11) C (by first | rfl | assumption | (simp [cg_ok]; omega)) rfl (by decide) rfl inX2_mixInto_X2 flX2_mixInto_48 dX2_mixInto_119 ?_
  refine cr_dN (pc := 122) C (sp_mixAll (by rfl) rfl (by decide)) rfl gX2_mixInto_X3_mixAll_n119 rfl dX2_mixInto_122 neX3_mixAll isX2_mixInto_X3_mixAll hsX3_mixAll rfl ⟨rfl, rfl, Nat.le_of_ble_eq_true rfl, Nat.le_of_ble_eq_true rfl⟩ (Nat.le_of_ble_eq_true rfl) rfl ?_
  simp only [cg_sb_s]
  refine cr_lreturn (pc := 125) C X dX2_mixInto_125 ?_
  refine ⟨?_, rfl⟩
  unfold cg_hs cg_hr cg_hc
  rfl
set_option maxRecDepth 100000 in
set_option maxHeartbeats 4000000 in
theorem sp_copyRow {M : cg_M} {q r : cg_L} {b1 b2 n : Nat} {f1 f2 : Nat → Nat} (hq : cg_ok q = true) (hr : cg_ok r = true) (h1 : cg_ai q = some (b1, n, f1)) (h2 : cg_ai r = some (b2, n, f2)) (hn : n < 1000) : cg_D yX2_copyRow wsX2_copyRow rmX2_copyRow [.inr (.inr (q)), .inr (.inr (r))] M (none) (cg_cp M r n b1 f1) := by
  refine cg_S_of (cc := cX2_copyRow) (maxL := 2) (ret := none) (ls0 := [some (.inr (.inr (q))), some (.inr (.inr (r)))]) RX2 rfl (by decide) rfl rfl (Nat.le_of_ble_eq_true rfl) (fun E C X => ?_)
  refine cr_aload_n (pc := 0) C dX2_copyRow_0 rfl ?_
  refine cr_iconst (pc := 1) (v := nI 0) C dX2_copyRow_1 (by decide) ?_
  refine cr_aload_n (pc := 2) C dX2_copyRow_2 rfl ?_
  refine cr_iconst (pc := 3) (v := nI 0) C dX2_copyRow_3 (by decide) ?_
  refine cr_aload_n (pc := 4) C dX2_copyRow_4 rfl ?_
  first | refine cr_alen (pc := 5) C (by assumption) (by first | rfl | assumption | (simp [cg_ok]; omega)) dX2_copyRow_5 ?_ | refine cr_alenr (pc := 5) C rfl (by first | rfl | assumption | (simp [cg_ok]; omega)) (by simp) dX2_copyRow_5 ?_
  refine cr_aload_n (pc := 6) C dX2_copyRow_6 rfl ?_
  first | refine cr_alen (pc := 7) C (by assumption) (by first | rfl | assumption | (simp [cg_ok]; omega)) dX2_copyRow_7 ?_ | refine cr_alenr (pc := 7) C rfl (by first | rfl | assumption | (simp [cg_ok]; omega)) (by simp) dX2_copyRow_7 ?_
  refine cr_min (pc := 8) C dX2_copyRow_8 mmX2_copyRow_min ⟨Nat.le_of_ble_eq_true rfl, Nat.le_of_ble_eq_true rfl⟩ (Nat.le_of_ble_eq_true rfl) ?_
  rw [ite_self]
  refine cr_copy (pc := 11) C h1 h2 hq hr (Nat.le_refl _) (Nat.le_refl _) (by omega) acX2_copyRow ⟨Nat.le_of_ble_eq_true rfl, Nat.le_of_ble_eq_true rfl⟩ dX2_copyRow_11 ?_
  refine cr_return (pc := 14) C X dX2_copyRow_14 ?_
  exact ⟨rfl, rfl⟩
theorem cg_oS_k (k x : Nat) : cg_oS k x = ((0, k, (cg_oS 0 x).1.2.2), (cg_oS 0 x).2) := by
  unfold cg_oS
  split
  · rfl
  split
  · rfl
  split
  · rfl
  split
  · rfl
  split
  · split
    · rfl
    split <;> rfl
  · rfl
def cg_pl (q : cg_L × Nat) : Nat := match cg_ai q.1 with
  | some t => t.2.2 q.2
  | none => 12
theorem cg_pl_oS (x : Nat) : cg_pl (cg_oS 0 x) = x := by
  unfold cg_oS
  split
  · show 3 * (x / 3) + x % 3 = x
    omega
  split
  · show 9 + (x - 9) = x
    omega
  split
  · show 12 = x
    omega
  split
  · have h5 : (x - 13) % 5 = 0 ∨ (x - 13) % 5 = 1 ∨ (x - 13) % 5 = 2 ∨ (x - 13) % 5 = 3 ∨ (x - 13) % 5 = 4 := by omega
    rcases h5 with h | h | h | h | h <;> rw [h]
    · show 13 + 5 * ((x - 13) / 5) = x
      omega
    · show 14 + 5 * ((x - 13) / 5) = x
      omega
    · show 15 + 5 * ((x - 13) / 5) = x
      omega
    · show 16 + 5 * ((x - 13) / 5) = x
      omega
    · show 17 + 5 * ((x - 13) / 5) = x
      omega
  split
  · split
    · show 313 + 7 * ((x - 313) / 7) = x
      omega
    split
    · show 314 + 7 * ((x - 313) / 7) + ((x - 313) % 7 - 1) = x
      omega
    · show 317 + 7 * ((x - 313) / 7) + ((x - 313) % 7 - 4) = x
      omega
  · show 341 + (x - 341) = x
    omega
/-- places x of which T says so are those of block s -/
def cg_pt (M : cg_M) (s t : Nat) (T : Nat → Bool) : cg_M := fun b x => if b = t ∧ T x = true then M s x else M b x
def cg_tx (f r n x : Nat) : Bool := decide ((cg_oS 0 x).1 = (0, 0, f, r)) && decide ((cg_oS 0 x).2 < n)
theorem cg_ow_t {b x t f r j : Nat} (ht : t < 6) (h : cg_ow b x = ((0, t, f, r), j)) : b = t := by
  by_cases hb : b < 6
  · rw [cg_ow_S hb, cg_oS_k] at h
    simp only [Prod.mk.injEq, true_and] at h
    exact h.1.1
  · unfold cg_ow at h
    split at h <;> try (simp at h; done)
    rw [cg_oS_k] at h
    simp only [Prod.mk.injEq, true_and] at h
    exact h.1.1
theorem cg_cp_pt {M : cg_M} {s t f r n : Nat} {φ : Nat → Nat} {T : Nat → Bool} (hs : s < 6) (ht : t < 6) (hne : s ≠ t) (ha : cg_ai (0, 0, f, r) = some (0, n, φ)) : cg_cp (cg_pt M s t T) (0, t, f, r) n s φ = cg_pt M s t (fun x => T x || cg_tx f r n x) := by
  funext b x
  unfold cg_cp
  by_cases h : (cg_ow b x).1 = (0, t, f, r) ∧ (cg_ow b x).2 < n
  · rw [if_pos h]
    have hb : b = t := cg_ow_t ht (j := (cg_ow b x).2) (by rw [← h.1])
    subst hb
    rw [cg_ow_S ht, cg_oS_k] at h
    have e1 : (cg_oS 0 x).1 = (0, 0, f, r) := by
      have h1 := h.1
      have h0 : (cg_oS 0 x).1 = (0, 0, (cg_oS 0 x).1.2.2) := congrArg Prod.fst (cg_oS_k 0 x)
      simp only [Prod.mk.injEq, true_and] at h1
      rw [h0, h1]
    have e2 : (cg_oS 0 x).2 < n := h.2
    have e3 : (cg_ow b x).2 = (cg_oS 0 x).2 := by rw [cg_ow_S ht, cg_oS_k]
    have e4 : φ (cg_oS 0 x).2 = x := by
      have := cg_pl_oS x
      unfold cg_pl at this
      rw [e1, ha] at this
      exact this
    rw [e3, e4]
    unfold cg_pt
    rw [if_neg (fun z => hne z.1), if_pos ⟨rfl, by simp [cg_tx, e1, e2]⟩]
  · rw [if_neg h]
    unfold cg_pt
    by_cases hb : b = t
    · subst hb
      have e : cg_tx f r n x = false := by
        rw [cg_ow_S ht, cg_oS_k] at h
        unfold cg_tx
        by_cases e1 : (cg_oS 0 x).1 = (0, 0, f, r)
        · by_cases e2 : (cg_oS 0 x).2 < n
          · exact absurd ⟨by rw [e1], e2⟩ h
          · simp [e2]
        · simp [e1]
      simp [e]
    · simp [hb]
theorem cg_up_pt {M : cg_M} {s t : Nat} (hne : s ≠ t) : cg_up M t 12 (M s 12) = cg_pt M s t (fun x => decide (x = 12)) := by
  funext b x
  rw [cg_up_at]
  unfold cg_pt
  by_cases h : b = t
  · subst h
    by_cases h2 : x = 12
    · subst h2; simp
    · simp [h2]
  · simp [h]
/-- block t as block s -/
def cg_cy (M : cg_M) (s t : Nat) : cg_M := fun b x => if b = t ∧ x < 345 then M s x else M b x
def cg_Tx (x : Nat) : Bool := (((((((((((((((((((decide (x = 12) || cg_tx 2 0 60 x) || cg_tx 3 0 60 x) || cg_tx 4 0 60 x) || cg_tx 5 0 60 x) || cg_tx 6 0 60 x) || cg_tx 7 1 3 x) || cg_tx 7 2 3 x) || cg_tx 7 3 3 x) || cg_tx 8 0 3 x) || cg_tx 9 0 4 x) || cg_tx 10 1 3 x) || cg_tx 10 2 3 x) || cg_tx 10 3 3 x) || cg_tx 10 4 3 x) || cg_tx 11 1 3 x) || cg_tx 11 2 3 x) || cg_tx 11 3 3 x) || cg_tx 11 4 3 x) || cg_tx 12 0 4 x)
theorem cg_Tx_lt : ∀ x, x < 345 → cg_Tx x = true := by decide +kernel
theorem cg_Tx_ge {x : Nat} (h : ¬ x < 345) : cg_Tx x = false := by
  have e : cg_oS 0 x = ((0, 0, 12, 0), x - 341) := by
    unfold cg_oS
    rw [if_neg (by omega), if_neg (by omega), if_neg (by omega), if_neg (by omega), if_neg (by omega)]
  have h12 : ¬ x = 12 := by omega
  have h4 : ¬ x - 341 < 4 := by omega
  simp [cg_Tx, cg_tx, e, h12, h4]
theorem cg_pt_all {M : cg_M} {s t : Nat} : cg_pt M s t cg_Tx = cg_cy M s t := by
  funext b x
  unfold cg_pt cg_cy
  by_cases h : x < 345
  · simp [cg_Tx_lt x h, h]
  · simp [cg_Tx_ge h, h]
set_option maxRecDepth 100000 in
set_option maxHeartbeats 4000000 in
theorem sp_copyRows7 {M : cg_M} {s t : Nat} {T : Nat → Bool} (hs : s < 6) (ht : t < 6) (hne : s ≠ t) : cg_D yX2_copyRows wsX2_copyRows rmX2_copyRows [.inr (.inr (0, s, 7, 0)), .inr (.inr (0, t, 7, 0))] (cg_pt M s t T) (none) (cg_pt M s t (fun x => (fun x => (fun x => T x || cg_tx 7 1 3 x) x || cg_tx 7 2 3 x) x || cg_tx 7 3 3 x)) := by
  refine cg_S_of (cc := cX2_copyRows) (maxL := 3) (ret := none) (ls0 := [some (.inr (.inr (0, s, 7, 0))), some (.inr (.inr (0, t, 7, 0))), none]) RX2 rfl (by decide) rfl rfl (Nat.le_of_ble_eq_true rfl) (fun E C X => ?_)
  refine cr_iconst (pc := 0) (v := nI 0) C dX2_copyRows_0 (by decide) ?_
  refine cr_istore_n2 (pc := 1) C dX2_copyRows_1 (by decide) rfl ?_
  refine cr_iload_n (pc := 2) C dX2_copyRows_2 rfl ?_
  refine cr_aload_n (pc := 3) C dX2_copyRows_3 rfl ?_
  first | refine cr_alen (pc := 4) C rfl (by first | rfl | assumption | (simp [cg_ok]; omega)) dX2_copyRows_4 ?_ | refine cr_alenr (pc := 4) C rfl (by first | rfl | assumption | (simp [cg_ok]; omega)) (by simp) dX2_copyRows_4 ?_
  refine cr_icmp_ge_f (pc := 5) (tgt := 29) C dX2_copyRows_5 (by decide) (by decide) ?_
  refine cr_iload_n (pc := 8) C dX2_copyRows_8 rfl ?_
  refine cr_aload_n (pc := 9) C dX2_copyRows_9 rfl ?_
  first | refine cr_alen (pc := 10) C rfl (by first | rfl | assumption | (simp [cg_ok]; omega)) dX2_copyRows_10 ?_ | refine cr_alenr (pc := 10) C rfl (by first | rfl | assumption | (simp [cg_ok]; omega)) (by simp) dX2_copyRows_10 ?_
  refine cr_icmp_ge_f (pc := 11) (tgt := 29) C dX2_copyRows_11 (by decide) (by decide) ?_
  refine cr_aload_n (pc := 14) C dX2_copyRows_14 rfl ?_
  refine cr_iload_n (pc := 15) C dX2_copyRows_15 rfl ?_
  refine cr_aaload (pc := 16) C rfl (by first | rfl | assumption | (simp [cg_ok]; omega)) (by decide) (by first | decide | omega) dX2_copyRows_16 ?_
  refine cr_aload_n (pc := 17) C dX2_copyRows_17 rfl ?_
  refine cr_iload_n (pc := 18) C dX2_copyRows_18 rfl ?_
  refine cr_aaload (pc := 19) C rfl (by first | rfl | assumption | (simp [cg_ok]; omega)) (by decide) (by first | decide | omega) dX2_copyRows_19 ?_
  refine cr_dS (pc := 20) C (sp_copyRow (by simp [cg_ok]; omega) (by simp [cg_ok]; omega) rfl rfl (by decide)) rfl gX2_copyRows_X2_copyRow rfl dX2_copyRows_20 hsX2_copyRow rfl ⟨rfl, rfl, Nat.le_of_ble_eq_true rfl, Nat.le_of_ble_eq_true rfl⟩ (Nat.le_of_ble_eq_true rfl) rfl ?_
  rw [cg_cp_pt hs ht hne rfl]
  refine cr_iinc2 (pc := 23) (v := nI 1) C dX2_copyRows_23 (by decide) (by decide) rfl ?_
  refine cr_goto (pc := 26) (tgt := 2) C dX2_copyRows_26 (by decide) ?_
  refine cr_iload_n (pc := 2) C dX2_copyRows_2 rfl ?_
  refine cr_aload_n (pc := 3) C dX2_copyRows_3 rfl ?_
  first | refine cr_alen (pc := 4) C rfl (by first | rfl | assumption | (simp [cg_ok]; omega)) dX2_copyRows_4 ?_ | refine cr_alenr (pc := 4) C rfl (by first | rfl | assumption | (simp [cg_ok]; omega)) (by simp) dX2_copyRows_4 ?_
  refine cr_icmp_ge_f (pc := 5) (tgt := 29) C dX2_copyRows_5 (by decide) (by decide) ?_
  refine cr_iload_n (pc := 8) C dX2_copyRows_8 rfl ?_
  refine cr_aload_n (pc := 9) C dX2_copyRows_9 rfl ?_
  first | refine cr_alen (pc := 10) C rfl (by first | rfl | assumption | (simp [cg_ok]; omega)) dX2_copyRows_10 ?_ | refine cr_alenr (pc := 10) C rfl (by first | rfl | assumption | (simp [cg_ok]; omega)) (by simp) dX2_copyRows_10 ?_
  refine cr_icmp_ge_f (pc := 11) (tgt := 29) C dX2_copyRows_11 (by decide) (by decide) ?_
  refine cr_aload_n (pc := 14) C dX2_copyRows_14 rfl ?_
  refine cr_iload_n (pc := 15) C dX2_copyRows_15 rfl ?_
  refine cr_aaload (pc := 16) C rfl (by first | rfl | assumption | (simp [cg_ok]; omega)) (by decide) (by first | decide | omega) dX2_copyRows_16 ?_
  refine cr_aload_n (pc := 17) C dX2_copyRows_17 rfl ?_
  refine cr_iload_n (pc := 18) C dX2_copyRows_18 rfl ?_
  refine cr_aaload (pc := 19) C rfl (by first | rfl | assumption | (simp [cg_ok]; omega)) (by decide) (by first | decide | omega) dX2_copyRows_19 ?_
  refine cr_dS (pc := 20) C (sp_copyRow (by simp [cg_ok]; omega) (by simp [cg_ok]; omega) rfl rfl (by decide)) rfl gX2_copyRows_X2_copyRow rfl dX2_copyRows_20 hsX2_copyRow rfl ⟨rfl, rfl, Nat.le_of_ble_eq_true rfl, Nat.le_of_ble_eq_true rfl⟩ (Nat.le_of_ble_eq_true rfl) rfl ?_
  rw [cg_cp_pt hs ht hne rfl]
  refine cr_iinc2 (pc := 23) (v := nI 2) C dX2_copyRows_23 (by decide) (by decide) rfl ?_
  refine cr_goto (pc := 26) (tgt := 2) C dX2_copyRows_26 (by decide) ?_
  refine cr_iload_n (pc := 2) C dX2_copyRows_2 rfl ?_
  refine cr_aload_n (pc := 3) C dX2_copyRows_3 rfl ?_
  first | refine cr_alen (pc := 4) C rfl (by first | rfl | assumption | (simp [cg_ok]; omega)) dX2_copyRows_4 ?_ | refine cr_alenr (pc := 4) C rfl (by first | rfl | assumption | (simp [cg_ok]; omega)) (by simp) dX2_copyRows_4 ?_
  refine cr_icmp_ge_f (pc := 5) (tgt := 29) C dX2_copyRows_5 (by decide) (by decide) ?_
  refine cr_iload_n (pc := 8) C dX2_copyRows_8 rfl ?_
  refine cr_aload_n (pc := 9) C dX2_copyRows_9 rfl ?_
  first | refine cr_alen (pc := 10) C rfl (by first | rfl | assumption | (simp [cg_ok]; omega)) dX2_copyRows_10 ?_ | refine cr_alenr (pc := 10) C rfl (by first | rfl | assumption | (simp [cg_ok]; omega)) (by simp) dX2_copyRows_10 ?_
  refine cr_icmp_ge_f (pc := 11) (tgt := 29) C dX2_copyRows_11 (by decide) (by decide) ?_
  refine cr_aload_n (pc := 14) C dX2_copyRows_14 rfl ?_
  refine cr_iload_n (pc := 15) C dX2_copyRows_15 rfl ?_
  refine cr_aaload (pc := 16) C rfl (by first | rfl | assumption | (simp [cg_ok]; omega)) (by decide) (by first | decide | omega) dX2_copyRows_16 ?_
  refine cr_aload_n (pc := 17) C dX2_copyRows_17 rfl ?_
  refine cr_iload_n (pc := 18) C dX2_copyRows_18 rfl ?_
  refine cr_aaload (pc := 19) C rfl (by first | rfl | assumption | (simp [cg_ok]; omega)) (by decide) (by first | decide | omega) dX2_copyRows_19 ?_
  refine cr_dS (pc := 20) C (sp_copyRow (by simp [cg_ok]; omega) (by simp [cg_ok]; omega) rfl rfl (by decide)) rfl gX2_copyRows_X2_copyRow rfl dX2_copyRows_20 hsX2_copyRow rfl ⟨rfl, rfl, Nat.le_of_ble_eq_true rfl, Nat.le_of_ble_eq_true rfl⟩ (Nat.le_of_ble_eq_true rfl) rfl ?_
  rw [cg_cp_pt hs ht hne rfl]
  refine cr_iinc2 (pc := 23) (v := nI 3) C dX2_copyRows_23 (by decide) (by decide) rfl ?_
  refine cr_goto (pc := 26) (tgt := 2) C dX2_copyRows_26 (by decide) ?_
  refine cr_iload_n (pc := 2) C dX2_copyRows_2 rfl ?_
  refine cr_aload_n (pc := 3) C dX2_copyRows_3 rfl ?_
  first | refine cr_alen (pc := 4) C rfl (by first | rfl | assumption | (simp [cg_ok]; omega)) dX2_copyRows_4 ?_ | refine cr_alenr (pc := 4) C rfl (by first | rfl | assumption | (simp [cg_ok]; omega)) (by simp) dX2_copyRows_4 ?_
  refine cr_icmp_ge_t (pc := 5) (tgt := 29) C dX2_copyRows_5 (by decide) (by decide) ?_
  refine cr_return (pc := 29) C X dX2_copyRows_29 ?_
  exact ⟨rfl, rfl⟩
set_option maxRecDepth 100000 in
set_option maxHeartbeats 4000000 in
theorem sp_copyRows10 {M : cg_M} {s t : Nat} {T : Nat → Bool} (hs : s < 6) (ht : t < 6) (hne : s ≠ t) : cg_D yX2_copyRows wsX2_copyRows rmX2_copyRows [.inr (.inr (0, s, 10, 0)), .inr (.inr (0, t, 10, 0))] (cg_pt M s t T) (none) (cg_pt M s t (fun x => (fun x => (fun x => (fun x => T x || cg_tx 10 1 3 x) x || cg_tx 10 2 3 x) x || cg_tx 10 3 3 x) x || cg_tx 10 4 3 x)) := by
  refine cg_S_of (cc := cX2_copyRows) (maxL := 3) (ret := none) (ls0 := [some (.inr (.inr (0, s, 10, 0))), some (.inr (.inr (0, t, 10, 0))), none]) RX2 rfl (by decide) rfl rfl (Nat.le_of_ble_eq_true rfl) (fun E C X => ?_)
  refine cr_iconst (pc := 0) (v := nI 0) C dX2_copyRows_0 (by decide) ?_
  refine cr_istore_n2 (pc := 1) C dX2_copyRows_1 (by decide) rfl ?_
  refine cr_iload_n (pc := 2) C dX2_copyRows_2 rfl ?_
  refine cr_aload_n (pc := 3) C dX2_copyRows_3 rfl ?_
  first | refine cr_alen (pc := 4) C rfl (by first | rfl | assumption | (simp [cg_ok]; omega)) dX2_copyRows_4 ?_ | refine cr_alenr (pc := 4) C rfl (by first | rfl | assumption | (simp [cg_ok]; omega)) (by simp) dX2_copyRows_4 ?_
  refine cr_icmp_ge_f (pc := 5) (tgt := 29) C dX2_copyRows_5 (by decide) (by decide) ?_
  refine cr_iload_n (pc := 8) C dX2_copyRows_8 rfl ?_
  refine cr_aload_n (pc := 9) C dX2_copyRows_9 rfl ?_
  first | refine cr_alen (pc := 10) C rfl (by first | rfl | assumption | (simp [cg_ok]; omega)) dX2_copyRows_10 ?_ | refine cr_alenr (pc := 10) C rfl (by first | rfl | assumption | (simp [cg_ok]; omega)) (by simp) dX2_copyRows_10 ?_
  refine cr_icmp_ge_f (pc := 11) (tgt := 29) C dX2_copyRows_11 (by decide) (by decide) ?_
  refine cr_aload_n (pc := 14) C dX2_copyRows_14 rfl ?_
  refine cr_iload_n (pc := 15) C dX2_copyRows_15 rfl ?_
  refine cr_aaload (pc := 16) C rfl (by first | rfl | assumption | (simp [cg_ok]; omega)) (by decide) (by first | decide | omega) dX2_copyRows_16 ?_
  refine cr_aload_n (pc := 17) C dX2_copyRows_17 rfl ?_
  refine cr_iload_n (pc := 18) C dX2_copyRows_18 rfl ?_
  refine cr_aaload (pc := 19) C rfl (by first | rfl | assumption | (simp [cg_ok]; omega)) (by decide) (by first | decide | omega) dX2_copyRows_19 ?_
  refine cr_dS (pc := 20) C (sp_copyRow (by simp [cg_ok]; omega) (by simp [cg_ok]; omega) rfl rfl (by decide)) rfl gX2_copyRows_X2_copyRow rfl dX2_copyRows_20 hsX2_copyRow rfl ⟨rfl, rfl, Nat.le_of_ble_eq_true rfl, Nat.le_of_ble_eq_true rfl⟩ (Nat.le_of_ble_eq_true rfl) rfl ?_
  rw [cg_cp_pt hs ht hne rfl]
  refine cr_iinc2 (pc := 23) (v := nI 1) C dX2_copyRows_23 (by decide) (by decide) rfl ?_
  refine cr_goto (pc := 26) (tgt := 2) C dX2_copyRows_26 (by decide) ?_
  refine cr_iload_n (pc := 2) C dX2_copyRows_2 rfl ?_
  refine cr_aload_n (pc := 3) C dX2_copyRows_3 rfl ?_
  first | refine cr_alen (pc := 4) C rfl (by first | rfl | assumption | (simp [cg_ok]; omega)) dX2_copyRows_4 ?_ | refine cr_alenr (pc := 4) C rfl (by first | rfl | assumption | (simp [cg_ok]; omega)) (by simp) dX2_copyRows_4 ?_
  refine cr_icmp_ge_f (pc := 5) (tgt := 29) C dX2_copyRows_5 (by decide) (by decide) ?_
  refine cr_iload_n (pc := 8) C dX2_copyRows_8 rfl ?_
  refine cr_aload_n (pc := 9) C dX2_copyRows_9 rfl ?_
  first | refine cr_alen (pc := 10) C rfl (by first | rfl | assumption | (simp [cg_ok]; omega)) dX2_copyRows_10 ?_ | refine cr_alenr (pc := 10) C rfl (by first | rfl | assumption | (simp [cg_ok]; omega)) (by simp) dX2_copyRows_10 ?_
  refine cr_icmp_ge_f (pc := 11) (tgt := 29) C dX2_copyRows_11 (by decide) (by decide) ?_
  refine cr_aload_n (pc := 14) C dX2_copyRows_14 rfl ?_
  refine cr_iload_n (pc := 15) C dX2_copyRows_15 rfl ?_
  refine cr_aaload (pc := 16) C rfl (by first | rfl | assumption | (simp [cg_ok]; omega)) (by decide) (by first | decide | omega) dX2_copyRows_16 ?_
  refine cr_aload_n (pc := 17) C dX2_copyRows_17 rfl ?_
  refine cr_iload_n (pc := 18) C dX2_copyRows_18 rfl ?_
  refine cr_aaload (pc := 19) C rfl (by first | rfl | assumption | (simp [cg_ok]; omega)) (by decide) (by first | decide | omega) dX2_copyRows_19 ?_
  refine cr_dS (pc := 20) C (sp_copyRow (by simp [cg_ok]; omega) (by simp [cg_ok]; omega) rfl rfl (by decide)) rfl gX2_copyRows_X2_copyRow rfl dX2_copyRows_20 hsX2_copyRow rfl ⟨rfl, rfl, Nat.le_of_ble_eq_true rfl, Nat.le_of_ble_eq_true rfl⟩ (Nat.le_of_ble_eq_true rfl) rfl ?_
  rw [cg_cp_pt hs ht hne rfl]
  refine cr_iinc2 (pc := 23) (v := nI 2) C dX2_copyRows_23 (by decide) (by decide) rfl ?_
  refine cr_goto (pc := 26) (tgt := 2) C dX2_copyRows_26 (by decide) ?_
  refine cr_iload_n (pc := 2) C dX2_copyRows_2 rfl ?_
  refine cr_aload_n (pc := 3) C dX2_copyRows_3 rfl ?_
  first | refine cr_alen (pc := 4) C rfl (by first | rfl | assumption | (simp [cg_ok]; omega)) dX2_copyRows_4 ?_ | refine cr_alenr (pc := 4) C rfl (by first | rfl | assumption | (simp [cg_ok]; omega)) (by simp) dX2_copyRows_4 ?_
  refine cr_icmp_ge_f (pc := 5) (tgt := 29) C dX2_copyRows_5 (by decide) (by decide) ?_
  refine cr_iload_n (pc := 8) C dX2_copyRows_8 rfl ?_
  refine cr_aload_n (pc := 9) C dX2_copyRows_9 rfl ?_
  first | refine cr_alen (pc := 10) C rfl (by first | rfl | assumption | (simp [cg_ok]; omega)) dX2_copyRows_10 ?_ | refine cr_alenr (pc := 10) C rfl (by first | rfl | assumption | (simp [cg_ok]; omega)) (by simp) dX2_copyRows_10 ?_
  refine cr_icmp_ge_f (pc := 11) (tgt := 29) C dX2_copyRows_11 (by decide) (by decide) ?_
  refine cr_aload_n (pc := 14) C dX2_copyRows_14 rfl ?_
  refine cr_iload_n (pc := 15) C dX2_copyRows_15 rfl ?_
  refine cr_aaload (pc := 16) C rfl (by first | rfl | assumption | (simp [cg_ok]; omega)) (by decide) (by first | decide | omega) dX2_copyRows_16 ?_
  refine cr_aload_n (pc := 17) C dX2_copyRows_17 rfl ?_
  refine cr_iload_n (pc := 18) C dX2_copyRows_18 rfl ?_
  refine cr_aaload (pc := 19) C rfl (by first | rfl | assumption | (simp [cg_ok]; omega)) (by decide) (by first | decide | omega) dX2_copyRows_19 ?_
  refine cr_dS (pc := 20) C (sp_copyRow (by simp [cg_ok]; omega) (by simp [cg_ok]; omega) rfl rfl (by decide)) rfl gX2_copyRows_X2_copyRow rfl dX2_copyRows_20 hsX2_copyRow rfl ⟨rfl, rfl, Nat.le_of_ble_eq_true rfl, Nat.le_of_ble_eq_true rfl⟩ (Nat.le_of_ble_eq_true rfl) rfl ?_
  rw [cg_cp_pt hs ht hne rfl]
  refine cr_iinc2 (pc := 23) (v := nI 3) C dX2_copyRows_23 (by decide) (by decide) rfl ?_
  refine cr_goto (pc := 26) (tgt := 2) C dX2_copyRows_26 (by decide) ?_
  refine cr_iload_n (pc := 2) C dX2_copyRows_2 rfl ?_
  refine cr_aload_n (pc := 3) C dX2_copyRows_3 rfl ?_
  first | refine cr_alen (pc := 4) C rfl (by first | rfl | assumption | (simp [cg_ok]; omega)) dX2_copyRows_4 ?_ | refine cr_alenr (pc := 4) C rfl (by first | rfl | assumption | (simp [cg_ok]; omega)) (by simp) dX2_copyRows_4 ?_
  refine cr_icmp_ge_f (pc := 5) (tgt := 29) C dX2_copyRows_5 (by decide) (by decide) ?_
  refine cr_iload_n (pc := 8) C dX2_copyRows_8 rfl ?_
  refine cr_aload_n (pc := 9) C dX2_copyRows_9 rfl ?_
  first | refine cr_alen (pc := 10) C rfl (by first | rfl | assumption | (simp [cg_ok]; omega)) dX2_copyRows_10 ?_ | refine cr_alenr (pc := 10) C rfl (by first | rfl | assumption | (simp [cg_ok]; omega)) (by simp) dX2_copyRows_10 ?_
  refine cr_icmp_ge_f (pc := 11) (tgt := 29) C dX2_copyRows_11 (by decide) (by decide) ?_
  refine cr_aload_n (pc := 14) C dX2_copyRows_14 rfl ?_
  refine cr_iload_n (pc := 15) C dX2_copyRows_15 rfl ?_
  refine cr_aaload (pc := 16) C rfl (by first | rfl | assumption | (simp [cg_ok]; omega)) (by decide) (by first | decide | omega) dX2_copyRows_16 ?_
  refine cr_aload_n (pc := 17) C dX2_copyRows_17 rfl ?_
  refine cr_iload_n (pc := 18) C dX2_copyRows_18 rfl ?_
  refine cr_aaload (pc := 19) C rfl (by first | rfl | assumption | (simp [cg_ok]; omega)) (by decide) (by first | decide | omega) dX2_copyRows_19 ?_
  refine cr_dS (pc := 20) C (sp_copyRow (by simp [cg_ok]; omega) (by simp [cg_ok]; omega) rfl rfl (by decide)) rfl gX2_copyRows_X2_copyRow rfl dX2_copyRows_20 hsX2_copyRow rfl ⟨rfl, rfl, Nat.le_of_ble_eq_true rfl, Nat.le_of_ble_eq_true rfl⟩ (Nat.le_of_ble_eq_true rfl) rfl ?_
  rw [cg_cp_pt hs ht hne rfl]
  refine cr_iinc2 (pc := 23) (v := nI 4) C dX2_copyRows_23 (by decide) (by decide) rfl ?_
  refine cr_goto (pc := 26) (tgt := 2) C dX2_copyRows_26 (by decide) ?_
  refine cr_iload_n (pc := 2) C dX2_copyRows_2 rfl ?_
  refine cr_aload_n (pc := 3) C dX2_copyRows_3 rfl ?_
  first | refine cr_alen (pc := 4) C rfl (by first | rfl | assumption | (simp [cg_ok]; omega)) dX2_copyRows_4 ?_ | refine cr_alenr (pc := 4) C rfl (by first | rfl | assumption | (simp [cg_ok]; omega)) (by simp) dX2_copyRows_4 ?_
  refine cr_icmp_ge_t (pc := 5) (tgt := 29) C dX2_copyRows_5 (by decide) (by decide) ?_
  refine cr_return (pc := 29) C X dX2_copyRows_29 ?_
  exact ⟨rfl, rfl⟩
set_option maxRecDepth 100000 in
set_option maxHeartbeats 4000000 in
theorem sp_copyRows11 {M : cg_M} {s t : Nat} {T : Nat → Bool} (hs : s < 6) (ht : t < 6) (hne : s ≠ t) : cg_D yX2_copyRows wsX2_copyRows rmX2_copyRows [.inr (.inr (0, s, 11, 0)), .inr (.inr (0, t, 11, 0))] (cg_pt M s t T) (none) (cg_pt M s t (fun x => (fun x => (fun x => (fun x => T x || cg_tx 11 1 3 x) x || cg_tx 11 2 3 x) x || cg_tx 11 3 3 x) x || cg_tx 11 4 3 x)) := by
  refine cg_S_of (cc := cX2_copyRows) (maxL := 3) (ret := none) (ls0 := [some (.inr (.inr (0, s, 11, 0))), some (.inr (.inr (0, t, 11, 0))), none]) RX2 rfl (by decide) rfl rfl (Nat.le_of_ble_eq_true rfl) (fun E C X => ?_)
  refine cr_iconst (pc := 0) (v := nI 0) C dX2_copyRows_0 (by decide) ?_
  refine cr_istore_n2 (pc := 1) C dX2_copyRows_1 (by decide) rfl ?_
  refine cr_iload_n (pc := 2) C dX2_copyRows_2 rfl ?_
  refine cr_aload_n (pc := 3) C dX2_copyRows_3 rfl ?_
  first | refine cr_alen (pc := 4) C rfl (by first | rfl | assumption | (simp [cg_ok]; omega)) dX2_copyRows_4 ?_ | refine cr_alenr (pc := 4) C rfl (by first | rfl | assumption | (simp [cg_ok]; omega)) (by simp) dX2_copyRows_4 ?_
  refine cr_icmp_ge_f (pc := 5) (tgt := 29) C dX2_copyRows_5 (by decide) (by decide) ?_
  refine cr_iload_n (pc := 8) C dX2_copyRows_8 rfl ?_
  refine cr_aload_n (pc := 9) C dX2_copyRows_9 rfl ?_
  first | refine cr_alen (pc := 10) C rfl (by first | rfl | assumption | (simp [cg_ok]; omega)) dX2_copyRows_10 ?_ | refine cr_alenr (pc := 10) C rfl (by first | rfl | assumption | (simp [cg_ok]; omega)) (by simp) dX2_copyRows_10 ?_
  refine cr_icmp_ge_f (pc := 11) (tgt := 29) C dX2_copyRows_11 (by decide) (by decide) ?_
  refine cr_aload_n (pc := 14) C dX2_copyRows_14 rfl ?_
  refine cr_iload_n (pc := 15) C dX2_copyRows_15 rfl ?_
  refine cr_aaload (pc := 16) C rfl (by first | rfl | assumption | (simp [cg_ok]; omega)) (by decide) (by first | decide | omega) dX2_copyRows_16 ?_
  refine cr_aload_n (pc := 17) C dX2_copyRows_17 rfl ?_
  refine cr_iload_n (pc := 18) C dX2_copyRows_18 rfl ?_
  refine cr_aaload (pc := 19) C rfl (by first | rfl | assumption | (simp [cg_ok]; omega)) (by decide) (by first | decide | omega) dX2_copyRows_19 ?_
  refine cr_dS (pc := 20) C (sp_copyRow (by simp [cg_ok]; omega) (by simp [cg_ok]; omega) rfl rfl (by decide)) rfl gX2_copyRows_X2_copyRow rfl dX2_copyRows_20 hsX2_copyRow rfl ⟨rfl, rfl, Nat.le_of_ble_eq_true rfl, Nat.le_of_ble_eq_true rfl⟩ (Nat.le_of_ble_eq_true rfl) rfl ?_
  rw [cg_cp_pt hs ht hne rfl]
  refine cr_iinc2 (pc := 23) (v := nI 1) C dX2_copyRows_23 (by decide) (by decide) rfl ?_
  refine cr_goto (pc := 26) (tgt := 2) C dX2_copyRows_26 (by decide) ?_
  refine cr_iload_n (pc := 2) C dX2_copyRows_2 rfl ?_
  refine cr_aload_n (pc := 3) C dX2_copyRows_3 rfl ?_
  first | refine cr_alen (pc := 4) C rfl (by first | rfl | assumption | (simp [cg_ok]; omega)) dX2_copyRows_4 ?_ | refine cr_alenr (pc := 4) C rfl (by first | rfl | assumption | (simp [cg_ok]; omega)) (by simp) dX2_copyRows_4 ?_
  refine cr_icmp_ge_f (pc := 5) (tgt := 29) C dX2_copyRows_5 (by decide) (by decide) ?_
  refine cr_iload_n (pc := 8) C dX2_copyRows_8 rfl ?_
  refine cr_aload_n (pc := 9) C dX2_copyRows_9 rfl ?_
  first | refine cr_alen (pc := 10) C rfl (by first | rfl | assumption | (simp [cg_ok]; omega)) dX2_copyRows_10 ?_ | refine cr_alenr (pc := 10) C rfl (by first | rfl | assumption | (simp [cg_ok]; omega)) (by simp) dX2_copyRows_10 ?_
  refine cr_icmp_ge_f (pc := 11) (tgt := 29) C dX2_copyRows_11 (by decide) (by decide) ?_
  refine cr_aload_n (pc := 14) C dX2_copyRows_14 rfl ?_
  refine cr_iload_n (pc := 15) C dX2_copyRows_15 rfl ?_
  refine cr_aaload (pc := 16) C rfl (by first | rfl | assumption | (simp [cg_ok]; omega)) (by decide) (by first | decide | omega) dX2_copyRows_16 ?_
  refine cr_aload_n (pc := 17) C dX2_copyRows_17 rfl ?_
  refine cr_iload_n (pc := 18) C dX2_copyRows_18 rfl ?_
  refine cr_aaload (pc := 19) C rfl (by first | rfl | assumption | (simp [cg_ok]; omega)) (by decide) (by first | decide | omega) dX2_copyRows_19 ?_
  refine cr_dS (pc := 20) C (sp_copyRow (by simp [cg_ok]; omega) (by simp [cg_ok]; omega) rfl rfl (by decide)) rfl gX2_copyRows_X2_copyRow rfl dX2_copyRows_20 hsX2_copyRow rfl ⟨rfl, rfl, Nat.le_of_ble_eq_true rfl, Nat.le_of_ble_eq_true rfl⟩ (Nat.le_of_ble_eq_true rfl) rfl ?_
  rw [cg_cp_pt hs ht hne rfl]
  refine cr_iinc2 (pc := 23) (v := nI 2) C dX2_copyRows_23 (by decide) (by decide) rfl ?_
  refine cr_goto (pc := 26) (tgt := 2) C dX2_copyRows_26 (by decide) ?_
  refine cr_iload_n (pc := 2) C dX2_copyRows_2 rfl ?_
  refine cr_aload_n (pc := 3) C dX2_copyRows_3 rfl ?_
  first | refine cr_alen (pc := 4) C rfl (by first | rfl | assumption | (simp [cg_ok]; omega)) dX2_copyRows_4 ?_ | refine cr_alenr (pc := 4) C rfl (by first | rfl | assumption | (simp [cg_ok]; omega)) (by simp) dX2_copyRows_4 ?_
  refine cr_icmp_ge_f (pc := 5) (tgt := 29) C dX2_copyRows_5 (by decide) (by decide) ?_
  refine cr_iload_n (pc := 8) C dX2_copyRows_8 rfl ?_
  refine cr_aload_n (pc := 9) C dX2_copyRows_9 rfl ?_
  first | refine cr_alen (pc := 10) C rfl (by first | rfl | assumption | (simp [cg_ok]; omega)) dX2_copyRows_10 ?_ | refine cr_alenr (pc := 10) C rfl (by first | rfl | assumption | (simp [cg_ok]; omega)) (by simp) dX2_copyRows_10 ?_
  refine cr_icmp_ge_f (pc := 11) (tgt := 29) C dX2_copyRows_11 (by decide) (by decide) ?_
  refine cr_aload_n (pc := 14) C dX2_copyRows_14 rfl ?_
  refine cr_iload_n (pc := 15) C dX2_copyRows_15 rfl ?_
  refine cr_aaload (pc := 16) C rfl (by first | rfl | assumption | (simp [cg_ok]; omega)) (by decide) (by first | decide | omega) dX2_copyRows_16 ?_
  refine cr_aload_n (pc := 17) C dX2_copyRows_17 rfl ?_
  refine cr_iload_n (pc := 18) C dX2_copyRows_18 rfl ?_
  refine cr_aaload (pc := 19) C rfl (by first | rfl | assumption | (simp [cg_ok]; omega)) (by decide) (by first | decide | omega) dX2_copyRows_19 ?_
  refine cr_dS (pc := 20) C (sp_copyRow (by simp [cg_ok]; omega) (by simp [cg_ok]; omega) rfl rfl (by decide)) rfl gX2_copyRows_X2_copyRow rfl dX2_copyRows_20 hsX2_copyRow rfl ⟨rfl, rfl, Nat.le_of_ble_eq_true rfl, Nat.le_of_ble_eq_true rfl⟩ (Nat.le_of_ble_eq_true rfl) rfl ?_
  rw [cg_cp_pt hs ht hne rfl]
  refine cr_iinc2 (pc := 23) (v := nI 3) C dX2_copyRows_23 (by decide) (by decide) rfl ?_
  refine cr_goto (pc := 26) (tgt := 2) C dX2_copyRows_26 (by decide) ?_
  refine cr_iload_n (pc := 2) C dX2_copyRows_2 rfl ?_
  refine cr_aload_n (pc := 3) C dX2_copyRows_3 rfl ?_
  first | refine cr_alen (pc := 4) C rfl (by first | rfl | assumption | (simp [cg_ok]; omega)) dX2_copyRows_4 ?_ | refine cr_alenr (pc := 4) C rfl (by first | rfl | assumption | (simp [cg_ok]; omega)) (by simp) dX2_copyRows_4 ?_
  refine cr_icmp_ge_f (pc := 5) (tgt := 29) C dX2_copyRows_5 (by decide) (by decide) ?_
  refine cr_iload_n (pc := 8) C dX2_copyRows_8 rfl ?_
  refine cr_aload_n (pc := 9) C dX2_copyRows_9 rfl ?_
  first | refine cr_alen (pc := 10) C rfl (by first | rfl | assumption | (simp [cg_ok]; omega)) dX2_copyRows_10 ?_ | refine cr_alenr (pc := 10) C rfl (by first | rfl | assumption | (simp [cg_ok]; omega)) (by simp) dX2_copyRows_10 ?_
  refine cr_icmp_ge_f (pc := 11) (tgt := 29) C dX2_copyRows_11 (by decide) (by decide) ?_
  refine cr_aload_n (pc := 14) C dX2_copyRows_14 rfl ?_
  refine cr_iload_n (pc := 15) C dX2_copyRows_15 rfl ?_
  refine cr_aaload (pc := 16) C rfl (by first | rfl | assumption | (simp [cg_ok]; omega)) (by decide) (by first | decide | omega) dX2_copyRows_16 ?_
  refine cr_aload_n (pc := 17) C dX2_copyRows_17 rfl ?_
  refine cr_iload_n (pc := 18) C dX2_copyRows_18 rfl ?_
  refine cr_aaload (pc := 19) C rfl (by first | rfl | assumption | (simp [cg_ok]; omega)) (by decide) (by first | decide | omega) dX2_copyRows_19 ?_
  refine cr_dS (pc := 20) C (sp_copyRow (by simp [cg_ok]; omega) (by simp [cg_ok]; omega) rfl rfl (by decide)) rfl gX2_copyRows_X2_copyRow rfl dX2_copyRows_20 hsX2_copyRow rfl ⟨rfl, rfl, Nat.le_of_ble_eq_true rfl, Nat.le_of_ble_eq_true rfl⟩ (Nat.le_of_ble_eq_true rfl) rfl ?_
  rw [cg_cp_pt hs ht hne rfl]
  refine cr_iinc2 (pc := 23) (v := nI 4) C dX2_copyRows_23 (by decide) (by decide) rfl ?_
  refine cr_goto (pc := 26) (tgt := 2) C dX2_copyRows_26 (by decide) ?_
  refine cr_iload_n (pc := 2) C dX2_copyRows_2 rfl ?_
  refine cr_aload_n (pc := 3) C dX2_copyRows_3 rfl ?_
  first | refine cr_alen (pc := 4) C rfl (by first | rfl | assumption | (simp [cg_ok]; omega)) dX2_copyRows_4 ?_ | refine cr_alenr (pc := 4) C rfl (by first | rfl | assumption | (simp [cg_ok]; omega)) (by simp) dX2_copyRows_4 ?_
  refine cr_icmp_ge_t (pc := 5) (tgt := 29) C dX2_copyRows_5 (by decide) (by decide) ?_
  refine cr_return (pc := 29) C X dX2_copyRows_29 ?_
  exact ⟨rfl, rfl⟩
set_option maxRecDepth 100000 in
set_option maxHeartbeats 4000000 in
theorem sp_copyFrom {M : cg_M} {s t : Nat} (hs : s < 6) (ht : t < 6) (hne : s ≠ t) : cg_D yX2_copyFrom wsX2_copyFrom rmX2_copyFrom [.inr (.inr (0, t, 0, 0)), .inr (.inr (0, s, 0, 0))] M (none) (cg_cy M s t) := by
  refine cg_S_of (cc := cX2_copyFrom) (maxL := 2) (ret := none) (ls0 := [some (.inr (.inr (0, t, 0, 0))), some (.inr (.inr (0, s, 0, 0)))]) RX2 rfl (by decide) rfl rfl (Nat.le_of_ble_eq_true rfl) (fun E C X => ?_)
  refine cr_aload_n (pc := 0) C dX2_copyFrom_0 rfl ?_
  refine cr_aload_n (pc := 1) C dX2_copyFrom_1 rfl ?_
  refine cr_geti (pc := 2) (c := 2) (k := 0) C (by simp [cg_ok]; omega) rfl (by decide) rfl rfl inX2_copyFrom_X2 flX2_copyFrom_9 dX2_copyFrom_2 ?_
  refine cr_puti (pc := 5) (c := 2) (k := 0) C (by simp [cg_ok]; omega) rfl (by decide) rfl rfl inX2_copyFrom_X2 flX2_copyFrom_9 rfl (by first | rfl | decide) rfl dX2_copyFrom_5 ?_
  rw [cg_up_pt hne]
  refine cr_aload_n (pc := 8) C dX2_copyFrom_8 rfl ?_
  refine cr_getr (pc := 9) (c := 2) (k := 1) C (by simp [cg_ok]; omega) rfl (by decide) rfl inX2_copyFrom_X2 flX2_copyFrom_15 dX2_copyFrom_9 ?_
  refine cr_aload_n (pc := 12) C dX2_copyFrom_12 rfl ?_
  refine cr_getr (pc := 13) (c := 2) (k := 1) C (by simp [cg_ok]; omega) rfl (by decide) rfl inX2_copyFrom_X2 flX2_copyFrom_15 dX2_copyFrom_13 ?_
  refine cr_dS (pc := 16) C (sp_copyRow (by simp [cg_ok]; omega) (by simp [cg_ok]; omega) rfl rfl (by decide)) rfl gX2_copyFrom_X2_copyRow rfl dX2_copyFrom_16 hsX2_copyRow rfl ⟨rfl, rfl, Nat.le_of_ble_eq_true rfl, Nat.le_of_ble_eq_true rfl⟩ (Nat.le_of_ble_eq_true rfl) rfl ?_
  rw [cg_cp_pt hs ht hne rfl]
  refine cr_aload_n (pc := 19) C dX2_copyFrom_19 rfl ?_
  refine cr_getr (pc := 20) (c := 2) (k := 2) C (by simp [cg_ok]; omega) rfl (by decide) rfl inX2_copyFrom_X2 flX2_copyFrom_19 dX2_copyFrom_20 ?_
  refine cr_aload_n (pc := 23) C dX2_copyFrom_23 rfl ?_
  refine cr_getr (pc := 24) (c := 2) (k := 2) C (by simp [cg_ok]; omega) rfl (by decide) rfl inX2_copyFrom_X2 flX2_copyFrom_19 dX2_copyFrom_24 ?_
  refine cr_dS (pc := 27) C (sp_copyRow (by simp [cg_ok]; omega) (by simp [cg_ok]; omega) rfl rfl (by decide)) rfl gX2_copyFrom_X2_copyRow rfl dX2_copyFrom_27 hsX2_copyRow rfl ⟨rfl, rfl, Nat.le_of_ble_eq_true rfl, Nat.le_of_ble_eq_true rfl⟩ (Nat.le_of_ble_eq_true rfl) rfl ?_
  rw [cg_cp_pt hs ht hne rfl]
  refine cr_aload_n (pc := 30) C dX2_copyFrom_30 rfl ?_
  refine cr_getr (pc := 31) (c := 2) (k := 3) C (by simp [cg_ok]; omega) rfl (by decide) rfl inX2_copyFrom_X2 flX2_copyFrom_22 dX2_copyFrom_31 ?_
  refine cr_aload_n (pc := 34) C dX2_copyFrom_34 rfl ?_
  refine cr_getr (pc := 35) (c := 2) (k := 3) C (by simp [cg_ok]; omega) rfl (by decide) rfl inX2_copyFrom_X2 flX2_copyFrom_22 dX2_copyFrom_35 ?_
  refine cr_dS (pc := 38) C (sp_copyRow (by simp [cg_ok]; omega) (by simp [cg_ok]; omega) rfl rfl (by decide)) rfl gX2_copyFrom_X2_copyRow rfl dX2_copyFrom_38 hsX2_copyRow rfl ⟨rfl, rfl, Nat.le_of_ble_eq_true rfl, Nat.le_of_ble_eq_true rfl⟩ (Nat.le_of_ble_eq_true rfl) rfl ?_
  rw [cg_cp_pt hs ht hne rfl]
  refine cr_aload_n (pc := 41) C dX2_copyFrom_41 rfl ?_
  refine cr_getr (pc := 42) (c := 2) (k := 4) C (by simp [cg_ok]; omega) rfl (by decide) rfl inX2_copyFrom_X2 flX2_copyFrom_25 dX2_copyFrom_42 ?_
  refine cr_aload_n (pc := 45) C dX2_copyFrom_45 rfl ?_
  refine cr_getr (pc := 46) (c := 2) (k := 4) C (by simp [cg_ok]; omega) rfl (by decide) rfl inX2_copyFrom_X2 flX2_copyFrom_25 dX2_copyFrom_46 ?_
  refine cr_dS (pc := 49) C (sp_copyRow (by simp [cg_ok]; omega) (by simp [cg_ok]; omega) rfl rfl (by decide)) rfl gX2_copyFrom_X2_copyRow rfl dX2_copyFrom_49 hsX2_copyRow rfl ⟨rfl, rfl, Nat.le_of_ble_eq_true rfl, Nat.le_of_ble_eq_true rfl⟩ (Nat.le_of_ble_eq_true rfl) rfl ?_
  rw [cg_cp_pt hs ht hne rfl]
  refine cr_aload_n (pc := 52) C dX2_copyFrom_52 rfl ?_
  refine cr_getr (pc := 53) (c := 2) (k := 5) C (by simp [cg_ok]; omega) rfl (by decide) rfl inX2_copyFrom_X2 flX2_copyFrom_28 dX2_copyFrom_53 ?_
  refine cr_aload_n (pc := 56) C dX2_copyFrom_56 rfl ?_
  refine cr_getr (pc := 57) (c := 2) (k := 5) C (by simp [cg_ok]; omega) rfl (by decide) rfl inX2_copyFrom_X2 flX2_copyFrom_28 dX2_copyFrom_57 ?_
  refine cr_dS (pc := 60) C (sp_copyRow (by simp [cg_ok]; omega) (by simp [cg_ok]; omega) rfl rfl (by decide)) rfl gX2_copyFrom_X2_copyRow rfl dX2_copyFrom_60 hsX2_copyRow rfl ⟨rfl, rfl, Nat.le_of_ble_eq_true rfl, Nat.le_of_ble_eq_true rfl⟩ (Nat.le_of_ble_eq_true rfl) rfl ?_
  rw [cg_cp_pt hs ht hne rfl]
  refine cr_aload_n (pc := 63) C dX2_copyFrom_63 rfl ?_
  refine cr_getr (pc := 64) (c := 2) (k := 6) C (by simp [cg_ok]; omega) rfl (by decide) rfl inX2_copyFrom_X2 flX2_copyFrom_33 dX2_copyFrom_64 ?_
  refine cr_aload_n (pc := 67) C dX2_copyFrom_67 rfl ?_
  refine cr_getr (pc := 68) (c := 2) (k := 6) C (by simp [cg_ok]; omega) rfl (by decide) rfl inX2_copyFrom_X2 flX2_copyFrom_33 dX2_copyFrom_68 ?_
  refine cr_dS (pc := 71) C (sp_copyRows7 hs ht hne) rfl gX2_copyFrom_X2_copyRows rfl dX2_copyFrom_71 hsX2_copyRows rfl ⟨rfl, rfl, Nat.le_of_ble_eq_true rfl, Nat.le_of_ble_eq_true rfl⟩ (Nat.le_of_ble_eq_true rfl) rfl ?_
  refine cr_aload_n (pc := 74) C dX2_copyFrom_74 rfl ?_
  refine cr_getr (pc := 75) (c := 2) (k := 7) C (by simp [cg_ok]; omega) rfl (by decide) rfl inX2_copyFrom_X2 flX2_copyFrom_36 dX2_copyFrom_75 ?_
  refine cr_aload_n (pc := 78) C dX2_copyFrom_78 rfl ?_
  refine cr_getr (pc := 79) (c := 2) (k := 7) C (by simp [cg_ok]; omega) rfl (by decide) rfl inX2_copyFrom_X2 flX2_copyFrom_36 dX2_copyFrom_79 ?_
  refine cr_dS (pc := 82) C (sp_copyRow (by simp [cg_ok]; omega) (by simp [cg_ok]; omega) rfl rfl (by decide)) rfl gX2_copyFrom_X2_copyRow rfl dX2_copyFrom_82 hsX2_copyRow rfl ⟨rfl, rfl, Nat.le_of_ble_eq_true rfl, Nat.le_of_ble_eq_true rfl⟩ (Nat.le_of_ble_eq_true rfl) rfl ?_
  rw [cg_cp_pt hs ht hne rfl]
  refine cr_aload_n (pc := 85) C dX2_copyFrom_85 rfl ?_
  refine cr_getr (pc := 86) (c := 2) (k := 8) C (by simp [cg_ok]; omega) rfl (by decide) rfl inX2_copyFrom_X2 flX2_copyFrom_39 dX2_copyFrom_86 ?_
  refine cr_aload_n (pc := 89) C dX2_copyFrom_89 rfl ?_
  refine cr_getr (pc := 90) (c := 2) (k := 8) C (by simp [cg_ok]; omega) rfl (by decide) rfl inX2_copyFrom_X2 flX2_copyFrom_39 dX2_copyFrom_90 ?_
  refine cr_dS (pc := 93) C (sp_copyRow (by simp [cg_ok]; omega) (by simp [cg_ok]; omega) rfl rfl (by decide)) rfl gX2_copyFrom_X2_copyRow rfl dX2_copyFrom_93 hsX2_copyRow rfl ⟨rfl, rfl, Nat.le_of_ble_eq_true rfl, Nat.le_of_ble_eq_true rfl⟩ (Nat.le_of_ble_eq_true rfl) rfl ?_
  rw [cg_cp_pt hs ht hne rfl]
  refine cr_aload_n (pc := 96) C dX2_copyFrom_96 rfl ?_
  refine cr_getr (pc := 97) (c := 2) (k := 9) C (by simp [cg_ok]; omega) rfl (by decide) rfl inX2_copyFrom_X2 flX2_copyFrom_42 dX2_copyFrom_97 ?_
  refine cr_aload_n (pc := 100) C dX2_copyFrom_100 rfl ?_
  refine cr_getr (pc := 101) (c := 2) (k := 9) C (by simp [cg_ok]; omega) rfl (by decide) rfl inX2_copyFrom_X2 flX2_copyFrom_42 dX2_copyFrom_101 ?_
  refine cr_dS (pc := 104) C (sp_copyRows10 hs ht hne) rfl gX2_copyFrom_X2_copyRows rfl dX2_copyFrom_104 hsX2_copyRows rfl ⟨rfl, rfl, Nat.le_of_ble_eq_true rfl, Nat.le_of_ble_eq_true rfl⟩ (Nat.le_of_ble_eq_true rfl) rfl ?_
  refine cr_aload_n (pc := 107) C dX2_copyFrom_107 rfl ?_
  refine cr_getr (pc := 108) (c := 2) (k := 10) C (by simp [cg_ok]; omega) rfl (by decide) rfl inX2_copyFrom_X2 flX2_copyFrom_45 dX2_copyFrom_108 ?_
  refine cr_aload_n (pc := 111) C dX2_copyFrom_111 rfl ?_
  refine cr_getr (pc := 112) (c := 2) (k := 10) C (by simp [cg_ok]; omega) rfl (by decide) rfl inX2_copyFrom_X2 flX2_copyFrom_45 dX2_copyFrom_112 ?_
  refine cr_dS (pc := 115) C (sp_copyRows11 hs ht hne) rfl gX2_copyFrom_X2_copyRows rfl dX2_copyFrom_115 hsX2_copyRows rfl ⟨rfl, rfl, Nat.le_of_ble_eq_true rfl, Nat.le_of_ble_eq_true rfl⟩ (Nat.le_of_ble_eq_true rfl) rfl ?_
  refine cr_aload_n (pc := 118) C dX2_copyFrom_118 rfl ?_
  refine cr_getr (pc := 119) (c := 2) (k := 11) C (by simp [cg_ok]; omega) rfl (by decide) rfl inX2_copyFrom_X2 flX2_copyFrom_48 dX2_copyFrom_119 ?_
  refine cr_aload_n (pc := 122) C dX2_copyFrom_122 rfl ?_
  refine cr_getr (pc := 123) (c := 2) (k := 11) C (by simp [cg_ok]; omega) rfl (by decide) rfl inX2_copyFrom_X2 flX2_copyFrom_48 dX2_copyFrom_123 ?_
  refine cr_dS (pc := 126) C (sp_copyRow (by simp [cg_ok]; omega) (by simp [cg_ok]; omega) rfl rfl (by decide)) rfl gX2_copyFrom_X2_copyRow rfl dX2_copyFrom_126 hsX2_copyRow rfl ⟨rfl, rfl, Nat.le_of_ble_eq_true rfl, Nat.le_of_ble_eq_true rfl⟩ (Nat.le_of_ble_eq_true rfl) rfl ?_
  rw [cg_cp_pt hs ht hne rfl]
  refine cr_return (pc := 129) C X dX2_copyFrom_129 ?_
  exact ⟨rfl, cg_pt_all⟩
