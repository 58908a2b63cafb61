/-! ===== the reference: saved states, public calls ===== -/
theorem sm_oG {M : cg_M} {P : Nat → Int32} {x y : Int32} : cg_D yX4_doesSet wsX4_doesSet rmX4_doesSet [.inr (.inr (4, 0, 0, 0)), .inl x, .inl y] (cg_sb M 20 P) (some (.inl (cg_oG P x y).1)) (cg_sb M 20 (cg_oG P x y).2) := by
  unfold cg_oG
  by_cases h : (cg_iv x 4 && cg_iv y 16) = true
  · rw [if_pos h]
    simp only [Bool.and_eq_true] at h
    obtain ⟨c, hc, rfl⟩ := (cg_iv_in (by decide)).mp h.1
    obtain ⟨g, hg, rfl⟩ := (cg_iv_in (by decide)).mp h.2
    rw [cg_ix_n (by omega)]
    exact sm_cG1 hc hg
  · rw [if_neg h]
    exact sm_cG0 (fun q => h (by rw [(cg_iv_in (by decide)).mpr q.1, (cg_iv_in (by decide)).mpr q.2]; rfl))
theorem sm_oF {M : cg_M} {P : Nat → Int32} {x : Int32} : cg_D yX4_doesForget wsX4_doesForget rmX4_doesForget [.inr (.inr (4, 0, 0, 0)), .inl x] (cg_sb M 20 P) (some (.inl (cg_oF P x).1)) (cg_sb M 20 (cg_oF P x).2) := by
  unfold cg_oF
  by_cases h : cg_iv x 4 = true
  · rw [if_pos h]
    obtain ⟨c, hc, rfl⟩ := (cg_iv_in (by decide)).mp h
    rw [cg_ix_n (by omega)]
    exact sm_cV1 hc
  · rw [if_neg h]
    exact sm_cV0 (fun q => h ((cg_iv_in (by decide)).mpr q))
theorem sm_oR {M : cg_M} {P : Nat → Int32} {x y z : Int32} (hI : cg_I P) : cg_D yX4_doesRead wsX4_doesRead rmX4_doesRead [.inr (.inr (4, 0, 0, 0)), .inl x, .inl y, .inl z] (cg_sb M 20 P) (some (.inl (cg_oR P x y z).1)) (cg_sb M 20 (cg_oR P x y z).2) := by
  unfold cg_oR
  by_cases h : (cg_iv x 4 && (cg_iv y 3 && cg_iv z 4)) = true
  · rw [if_pos h]
    simp only [Bool.and_eq_true] at h
    obtain ⟨c, hc, rfl⟩ := (cg_iv_in (by decide)).mp h.1
    obtain ⟨r, hr, rfl⟩ := (cg_iv_in (by decide)).mp h.2.1
    obtain ⟨k, hk, rfl⟩ := (cg_iv_in (by decide)).mp h.2.2
    rw [cg_ix_n (by omega), cg_ix_n (by omega), cg_ix_n (by omega)]
    by_cases h2 : cg_rA P c (2 ^ r) = true
    · rw [if_pos h2]
      exact sm_rK1 hc hr hk hI h2
    · rw [if_neg h2]
      exact sm_rK3 hc hr hk hI (by simpa using h2)
  · rw [if_neg h]
    exact sm_rK0 (fun q => h (by rw [(cg_iv_in (by decide)).mpr q.1, (cg_iv_in (by decide)).mpr q.2.1, (cg_iv_in (by decide)).mpr q.2.2]; rfl))
theorem sm_oW {M : cg_M} {P : Nat → Int32} {x y z t : Int32} (hI : cg_I P) : cg_D yX4_doesWrite wsX4_doesWrite rmX4_doesWrite [.inr (.inr (4, 0, 0, 0)), .inl x, .inl y, .inl z, .inl t] (cg_sb M 20 P) (some (.inl (cg_oW P x y z t).1)) (cg_sb M 20 (cg_oW P x y z t).2) := by
  unfold cg_oW
  by_cases h : (cg_iv x 4 && (cg_iv y 3 && (cg_iv z 4 && cg_iv t 100))) = true
  · rw [if_pos h]
    simp only [Bool.and_eq_true] at h
    obtain ⟨c, hc, rfl⟩ := (cg_iv_in (by decide)).mp h.1
    obtain ⟨r, hr, rfl⟩ := (cg_iv_in (by decide)).mp h.2.1
    obtain ⟨k, hk, rfl⟩ := (cg_iv_in (by decide)).mp h.2.2.1
    obtain ⟨v, hv, rfl⟩ := (cg_iv_in (by decide)).mp h.2.2.2
    rw [cg_ix_n (by omega), cg_ix_n (by omega), cg_ix_n (by omega), cg_ix_n (by omega)]
    by_cases h2 : cg_wA P c r = true
    · rw [if_pos h2]
      have hn := cg_I_n hI
      by_cases h3 : cg_ix (P 12) < 60
      · rw [if_pos h3]
        exact sm_wK1 hc hr hk hv hI h2 hn.2.1 h3
      · rw [if_neg h3]
        have e : cg_ix (P 12) = 60 := by have := hn.1; omega
        exact sm_wK4 hc hr hk hv hI h2 (by rw [hn.2.1, e])
    · rw [if_neg h2]
      exact sm_wK3 hc hr hk hv hI (by simpa using h2)
  · rw [if_neg h]
    exact sm_wK0 (fun q => h (by rw [(cg_iv_in (by decide)).mpr q.1, (cg_iv_in (by decide)).mpr q.2.1, (cg_iv_in (by decide)).mpr q.2.2.1, (cg_iv_in (by decide)).mpr q.2.2.2]; rfl))
theorem sm_oY {M : cg_M} {P : Nat → Int32} {x y : Int32} (hI : cg_I P) : cg_D yX4_doesSync wsX4_doesSync rmX4_doesSync [.inr (.inr (4, 0, 0, 0)), .inl x, .inl y] (cg_sb M 20 P) (some (.inl (cg_oY P x y).1)) (cg_sb M 20 (cg_oY P x y).2) := by
  unfold cg_oY
  by_cases h : (cg_iv x 3 && (cg_iv y 3 && decide (¬ x = y))) = true
  · rw [if_pos h]
    simp only [Bool.and_eq_true, decide_eq_true_eq] at h
    obtain ⟨f, hf, rfl⟩ := (cg_iv_in (by decide)).mp h.1
    obtain ⟨t, ht, rfl⟩ := (cg_iv_in (by decide)).mp h.2.1
    rw [cg_ix_n (by omega), cg_ix_n (by omega)]
    exact sm_sync1 hf ht (fun e => h.2.2 (by rw [e])) (cg_I_n hI)
  · rw [if_neg h]
    exact sm_sync0 (fun q => h (by rw [(cg_iv_in (by decide)).mpr q.1, (cg_iv_in (by decide)).mpr q.2.1, decide_eq_true q.2.2]; rfl))
/-- the first k places from A, the others from B -/
def cg_cpk (A B : Nat → Int32) (k : Nat) : Nat → Int32 := fun x => if x < k then A x else B x
theorem cg_cpk_0 (A B : Nat → Int32) : cg_cpk A B 0 = B := by funext x; unfold cg_cpk; rw [if_neg (by omega)]
theorem cg_cpk_s (A B : Nat → Int32) (k : Nat) : upd (cg_cpk A B k) k (A k) = cg_cpk A B (k + 1) := by
  funext x
  by_cases h : x = k
  · subst h; rw [cg_us]; unfold cg_cpk; rw [if_pos (by omega)]
  · rw [cg_un h]; unfold cg_cpk
    by_cases h2 : x < k
    · rw [if_pos h2, if_pos (by omega)]
    · rw [if_neg h2, if_neg (by omega)]
theorem cg_cpk_n {A B : Nat → Int32} {k x : Nat} (h : k ≤ x) : cg_cpk A B k x = B x := by unfold cg_cpk; rw [if_neg (by omega)]
theorem cg_cpk_l {A B : Nat → Int32} {k x : Nat} (h : x < k) : cg_cpk A B k x = A x := by unfold cg_cpk; rw [if_pos h]
/-- k places from a on from A -/
def cg_cpo (A B : Nat → Int32) (a k : Nat) : Nat → Int32 := fun x => if a ≤ x ∧ x < a + k then A (x - a) else B x
theorem cg_cpo_0 (A B : Nat → Int32) (a : Nat) : cg_cpo A B a 0 = B := by funext x; unfold cg_cpo; rw [if_neg (by omega)]
theorem cg_cpo_s (A B : Nat → Int32) (a k : Nat) : upd (cg_cpo A B a k) (a + k) (A k) = cg_cpo A B a (k + 1) := by
  funext x
  by_cases h : x = a + k
  · subst h; rw [cg_us]; unfold cg_cpo; rw [if_pos (by omega), show a + k - a = k by omega]
  · rw [cg_un h]; unfold cg_cpo
    by_cases h2 : a ≤ x ∧ x < a + k
    · rw [if_pos h2, if_pos (by omega)]
    · rw [if_neg h2, if_neg (by omega)]
def cg_asd (M : cg_M) : cg_M := cg_sb M 22 (cg_cpk (M 20) (M 22) 345)
set_option maxRecDepth 100000 in
set_option maxHeartbeats 4000000 in
theorem sm_puts {M : cg_M} : cg_D yX4_putsAside wsX4_putsAside rmX4_putsAside [.inr (.inr (4, 0, 0, 0))] M none (cg_asd M) := by
  refine cg_S_of (cc := cX4_putsAside) (maxL := 2) (ret := none) (ls0 := [some (.inr (.inr (4, 0, 0, 0))), none]) RX4 rfl (by decide) rfl rfl (Nat.le_of_ble_eq_true rfl) (fun E C X => ?_)
  have loop : ∀ m k : Nat, k + m = 345 → cg_W E (cg_sb M 22 (cg_cpk (M 20) (M 22) k)) 2 [some (.inr (.inr (4, 0, 0, 0))), some (.inl (nI k))] [] := by
    intro m
    induction m with
    | zero =>
      intro k hk
      have hk : k = 345 := by omega
      subst hk
      refine cr_iload_n (pc := 2) C dX4_putsAside_2 rfl ?_
      refine cr_sipush (pc := 3) (v := nI 345) C dX4_putsAside_3 (by decide) ?_
      refine cr_icmp_ge_t (pc := 6) (tgt := 27) C dX4_putsAside_6 (by decide) (Int32.le_refl _) ?_
      refine cr_return (pc := 27) C X dX4_putsAside_27 ?_
      exact ⟨rfl, rfl⟩
    | succ m ih =>
      intro k hk
      refine cr_iload_n (pc := 2) C dX4_putsAside_2 rfl ?_
      refine cr_sipush (pc := 3) (v := nI 345) C dX4_putsAside_3 (by decide) ?_
      refine cr_icmp_ge_f (pc := 6) (tgt := 27) C dX4_putsAside_6 (by decide) (nI_ge (by omega) (by omega)) ?_
      refine cr_aload_n (pc := 9) C dX4_putsAside_9 rfl ?_
      refine cr_getr (pc := 10) (c := 4) (k := 3) C (by first | rfl | assumption | (simp [cg_ok]; omega)) rfl (by decide) rfl inX4_putsAside_X4 flX4_putsAside_16 dX4_putsAside_10 ?_
      refine cr_iload_n (pc := 13) C dX4_putsAside_13 rfl ?_
      refine cr_aload_n (pc := 14) C dX4_putsAside_14 rfl ?_
      refine cr_getr (pc := 15) (c := 4) (k := 0) C (by first | rfl | assumption | (simp [cg_ok]; omega)) rfl (by decide) rfl inX4_putsAside_X4 flX4_putsAside_7 dX4_putsAside_15 ?_
      refine cr_iload_n (pc := 18) C dX4_putsAside_18 rfl ?_
      refine cr_iaload (pc := 19) C rfl (by first | rfl | assumption | (simp [cg_ok]; omega)) (by omega) (by first | decide | omega) dX4_putsAside_19 ?_
      rw [cg_sb_n (by decide)]
      refine cr_iastore (pc := 20) C rfl (by first | rfl | assumption | (simp [cg_ok]; omega)) (by omega) (by first | decide | omega) dX4_putsAside_20 ?_
      rw [cg_up_sb, cg_cpk_s]
      refine cr_iinc1 (pc := 21) C dX4_putsAside_21 (cg_inc1 _) (by decide) rfl ?_
      refine cr_goto (pc := 24) (tgt := 2) C dX4_putsAside_24 (by decide) ?_
      exact ih (k + 1) (by omega)
  refine cr_iconst (pc := 0) (v := nI 0) C dX4_putsAside_0 (by decide) ?_
  refine cr_istore_n1 (pc := 1) C dX4_putsAside_1 (by decide) rfl ?_
  refine cr_mem (M' := cg_sb M 22 (cg_cpk (M 20) (M 22) 0)) (by rw [cg_cpk_0, cg_sb_id]) ?_
  exact loop 345 0 (by omega)
def cg_sh (S : Nat → Int32) : Nat → Int32 := cg_cpk (fun x => S (x + 345)) S 1035
def cg_sv (M : cg_M) (y : Nat) (S : Nat → Int32) : cg_M := cg_up (cg_sb M 21 (cg_cpo (M 22) S (345 * y) 345)) 26 2 (nI (y + 1))
/-- what saving the state aside leaves -/
def cg_sav (M : cg_M) (z : Nat) : cg_M := if z = 4 then cg_sv (cg_up M 26 2 (nI 3)) 3 (cg_sh (M 21)) else cg_sv M z (M 21)
set_option maxRecDepth 100000 in
set_option maxHeartbeats 4000000 in
theorem sm_svl {E : cg_E} {post : Option cg_V → cg_M → Prop} {N : cg_M} {S : Nat → Int32} {y : Nat} (C : cg_C E cX4_savesAside 2 RX4 wsX4_savesAside rmX4_savesAside) (X : cg_R E none post) (hy4 : y < 4) (hy : N 26 2 = nI y) (h : post none (cg_sv N y S)) : cg_W E (cg_sb N 21 S) 51 [some (.inr (.inr (4, 0, 0, 0))), some (.inl (nI 0))] [] := by
  have loop : ∀ m k : Nat, k + m = 345 → cg_W E (cg_sb N 21 (cg_cpo (N 22) S (345 * y) k)) 51 [some (.inr (.inr (4, 0, 0, 0))), some (.inl (nI k))] [] := by
    intro m
    induction m with
    | zero =>
      intro k hk
      have hk : k = 345 := by omega
      subst hk
      refine cr_iload_n (pc := 51) C dX4_savesAside_51 rfl ?_
      refine cr_sipush (pc := 52) (v := nI 345) C dX4_savesAside_52 (by decide) ?_
      refine cr_icmp_ge_t (pc := 55) (tgt := 85) C dX4_savesAside_55 (by decide) (Int32.le_refl _) ?_
      refine cr_aload_n (pc := 85) C dX4_savesAside_85 rfl ?_
      refine cr_dup (pc := 86) C dX4_savesAside_86 rfl ?_
      refine cr_geti (pc := 87) (c := 4) (k := 2) C (by first | rfl | assumption | (simp [cg_ok]; omega)) rfl (by decide) rfl rfl inX4_savesAside_X4 flX4_savesAside_35 dX4_savesAside_87 ?_
      rw [cg_sb_n (by decide), hy]
      refine cr_iconst (pc := 90) (v := nI 1) C dX4_savesAside_90 (by decide) ?_
      refine cr_iadd_n (pc := 91) C dX4_savesAside_91 ?_
      refine cr_puti (pc := 92) (c := 4) (k := 2) C (by first | rfl | assumption | (simp [cg_ok]; omega)) rfl (by decide) rfl rfl inX4_savesAside_X4 flX4_savesAside_35 rfl (by first | rfl | decide) rfl dX4_savesAside_92 ?_
      refine cr_return (pc := 95) C X dX4_savesAside_95 ?_
      exact h
    | succ m ih =>
      intro k hk
      refine cr_iload_n (pc := 51) C dX4_savesAside_51 rfl ?_
      refine cr_sipush (pc := 52) (v := nI 345) C dX4_savesAside_52 (by decide) ?_
      refine cr_icmp_ge_f (pc := 55) (tgt := 85) C dX4_savesAside_55 (by decide) (nI_ge (by omega) (by omega)) ?_
      refine cr_aload_n (pc := 58) C dX4_savesAside_58 rfl ?_
      refine cr_getr (pc := 59) (c := 4) (k := 1) C (by first | rfl | assumption | (simp [cg_ok]; omega)) rfl (by decide) rfl inX4_savesAside_X4 flX4_savesAside_13 dX4_savesAside_59 ?_
      refine cr_sipush (pc := 62) (v := nI 345) C dX4_savesAside_62 (by decide) ?_
      refine cr_aload_n (pc := 65) C dX4_savesAside_65 rfl ?_
      refine cr_geti (pc := 66) (c := 4) (k := 2) C (by first | rfl | assumption | (simp [cg_ok]; omega)) rfl (by decide) rfl rfl inX4_savesAside_X4 flX4_savesAside_35 dX4_savesAside_66 ?_
      rw [cg_sb_n (by decide), hy]
      refine cr_imul_n (pc := 69) C dX4_savesAside_69 ?_
      refine cr_iload_n (pc := 70) C dX4_savesAside_70 rfl ?_
      refine cr_iadd_n (pc := 71) C dX4_savesAside_71 ?_
      refine cr_aload_n (pc := 72) C dX4_savesAside_72 rfl ?_
      refine cr_getr (pc := 73) (c := 4) (k := 3) C (by first | rfl | assumption | (simp [cg_ok]; omega)) rfl (by decide) rfl inX4_savesAside_X4 flX4_savesAside_16 dX4_savesAside_73 ?_
      refine cr_iload_n (pc := 76) C dX4_savesAside_76 rfl ?_
      refine cr_iaload (pc := 77) C rfl (by first | rfl | assumption | (simp [cg_ok]; omega)) (by omega) (by first | decide | omega) dX4_savesAside_77 ?_
      rw [cg_sb_n (by decide)]
      refine cr_iastore (pc := 78) C rfl (by first | rfl | assumption | (simp [cg_ok]; omega)) (by omega) (by first | decide | omega) dX4_savesAside_78 ?_
      rw [cg_up_sb, cg_cpo_s]
      refine cr_iinc1 (pc := 79) C dX4_savesAside_79 (cg_inc1 _) (by decide) rfl ?_
      refine cr_goto (pc := 82) (tgt := 51) C dX4_savesAside_82 (by decide) ?_
      exact ih (k + 1) (by omega)
  refine cr_mem (M' := cg_sb N 21 (cg_cpo (N 22) S (345 * y) 0)) (by rw [cg_cpo_0]) ?_
  exact loop 345 0 (by omega)
set_option maxRecDepth 100000 in
set_option maxHeartbeats 4000000 in
theorem sm_saves {M : cg_M} {z : Nat} (hz5 : z < 5) (hz : M 26 2 = nI z) : cg_D yX4_savesAside wsX4_savesAside rmX4_savesAside [.inr (.inr (4, 0, 0, 0))] M none (cg_sav M z) := by
  refine cg_S_of (cc := cX4_savesAside) (maxL := 2) (ret := none) (ls0 := [some (.inr (.inr (4, 0, 0, 0))), none]) RX4 rfl (by decide) rfl rfl (Nat.le_of_ble_eq_true rfl) (fun E C X => ?_)
  by_cases h4 : z = 4
  · subst h4
    have loop : ∀ m k : Nat, k + m = 1035 → cg_W E (cg_sb M 21 (cg_cpk (fun x => M 21 (x + 345)) (M 21) k)) 10 [some (.inr (.inr (4, 0, 0, 0))), some (.inl (nI k))] [] := by
      intro m
      induction m with
      | zero =>
        intro k hk
        have hk : k = 1035 := by omega
        subst hk
        refine cr_iload_n (pc := 10) C dX4_savesAside_10 rfl ?_
        refine cr_sipush (pc := 11) (v := nI 1035) C dX4_savesAside_11 (by decide) ?_
        refine cr_icmp_ge_t (pc := 14) (tgt := 39) C dX4_savesAside_14 (by decide) (Int32.le_refl _) ?_
        refine cr_aload_n (pc := 39) C dX4_savesAside_39 rfl ?_
        refine cr_dup (pc := 40) C dX4_savesAside_40 rfl ?_
        refine cr_geti (pc := 41) (c := 4) (k := 2) C (by first | rfl | assumption | (simp [cg_ok]; omega)) rfl (by decide) rfl rfl inX4_savesAside_X4 flX4_savesAside_35 dX4_savesAside_41 ?_
        rw [cg_sb_n (by decide), hz]
        refine cr_iconst (pc := 44) (v := nI 1) C dX4_savesAside_44 (by decide) ?_
        refine cr_isub (pc := 45) C dX4_savesAside_45 ?_
        rw [show nI 4 - nI 1 = nI 3 by decide]
        refine cr_puti (pc := 46) (c := 4) (k := 2) C (by first | rfl | assumption | (simp [cg_ok]; omega)) rfl (by decide) rfl rfl inX4_savesAside_X4 flX4_savesAside_35 rfl (by first | rfl | decide) rfl dX4_savesAside_46 ?_
        refine cr_iconst (pc := 49) (v := nI 0) C dX4_savesAside_49 (by decide) ?_
        refine cr_istore_n1 (pc := 50) C dX4_savesAside_50 (by decide) rfl ?_
        refine cr_mem (M' := cg_sb (cg_up M 26 2 (nI 3)) 21 (cg_sh (M 21))) ?_ (sm_svl (y := 3) C X (by decide) (cg_up_s _ _ _ _) ⟨rfl, rfl⟩)
        unfold cg_up cg_sh
        rw [cg_sb_n (by decide), cg_sbc (by decide)]
      | succ m ih =>
        intro k hk
        refine cr_iload_n (pc := 10) C dX4_savesAside_10 rfl ?_
        refine cr_sipush (pc := 11) (v := nI 1035) C dX4_savesAside_11 (by decide) ?_
        refine cr_icmp_ge_f (pc := 14) (tgt := 39) C dX4_savesAside_14 (by decide) (nI_ge (by omega) (by omega)) ?_
        refine cr_aload_n (pc := 17) C dX4_savesAside_17 rfl ?_
        refine cr_getr (pc := 18) (c := 4) (k := 1) C (by first | rfl | assumption | (simp [cg_ok]; omega)) rfl (by decide) rfl inX4_savesAside_X4 flX4_savesAside_13 dX4_savesAside_18 ?_
        refine cr_iload_n (pc := 21) C dX4_savesAside_21 rfl ?_
        refine cr_aload_n (pc := 22) C dX4_savesAside_22 rfl ?_
        refine cr_getr (pc := 23) (c := 4) (k := 1) C (by first | rfl | assumption | (simp [cg_ok]; omega)) rfl (by decide) rfl inX4_savesAside_X4 flX4_savesAside_13 dX4_savesAside_23 ?_
        refine cr_iload_n (pc := 26) C dX4_savesAside_26 rfl ?_
        refine cr_sipush (pc := 27) (v := nI 345) C dX4_savesAside_27 (by decide) ?_
        refine cr_iadd_n (pc := 30) C dX4_savesAside_30 ?_
        refine cr_iaload (pc := 31) C rfl (by first | rfl | assumption | (simp [cg_ok]; omega)) (by omega) (by first | decide | omega) dX4_savesAside_31 ?_
        rw [cg_sb_s, cg_cpk_n (by omega)]
        refine cr_iastore (pc := 32) C rfl (by first | rfl | assumption | (simp [cg_ok]; omega)) (by omega) (by first | decide | omega) dX4_savesAside_32 ?_
        rw [cg_up_sb]
        rw [cg_cpk_s (fun x => M 21 (x + 345))]
        refine cr_iinc1 (pc := 33) C dX4_savesAside_33 (cg_inc1 _) (by decide) rfl ?_
        refine cr_goto (pc := 36) (tgt := 10) C dX4_savesAside_36 (by decide) ?_
        exact ih (k + 1) (by omega)
    refine cr_aload_n (pc := 0) C dX4_savesAside_0 rfl ?_
    refine cr_geti (pc := 1) (c := 4) (k := 2) C (by first | rfl | assumption | (simp [cg_ok]; omega)) rfl (by decide) rfl rfl inX4_savesAside_X4 flX4_savesAside_35 dX4_savesAside_1 ?_
    refine cr_iconst (pc := 4) (v := nI 4) C dX4_savesAside_4 (by decide) ?_
    rw [hz]
    refine cr_icmp_ne_f (pc := 5) (tgt := 49) C dX4_savesAside_5 (by decide) rfl ?_
    refine cr_iconst (pc := 8) (v := nI 0) C dX4_savesAside_8 (by decide) ?_
    refine cr_istore_n1 (pc := 9) C dX4_savesAside_9 (by decide) rfl ?_
    refine cr_mem (M' := cg_sb M 21 (cg_cpk (fun x => M 21 (x + 345)) (M 21) 0)) (by rw [cg_cpk_0, cg_sb_id]) ?_
    exact loop 1035 0 (by omega)
  · refine cr_aload_n (pc := 0) C dX4_savesAside_0 rfl ?_
    refine cr_geti (pc := 1) (c := 4) (k := 2) C (by first | rfl | assumption | (simp [cg_ok]; omega)) rfl (by decide) rfl rfl inX4_savesAside_X4 flX4_savesAside_35 dX4_savesAside_1 ?_
    refine cr_iconst (pc := 4) (v := nI 4) C dX4_savesAside_4 (by decide) ?_
    rw [hz]
    refine cr_icmp_ne_t (pc := 5) (tgt := 49) C dX4_savesAside_5 (by decide) (fun q => h4 ((nI_eq (by omega) (by omega)).mp q)) ?_
    refine cr_iconst (pc := 49) (v := nI 0) C dX4_savesAside_49 (by decide) ?_
    refine cr_istore_n1 (pc := 50) C dX4_savesAside_50 (by decide) rfl ?_
    refine cr_mem (M' := cg_sb M 21 (M 21)) (cg_sb_id M 21).symm (sm_svl C X (by omega) hz ⟨rfl, ?_⟩)
    unfold cg_sav
    rw [if_neg h4]
set_option maxRecDepth 100000 in
set_option maxHeartbeats 4000000 in
theorem sm_ans1 {M : cg_M} {z : Nat} {x : Int32} (hz5 : z < 5) (hz : M 26 2 = nI z) (hx : ¬ x < 0) : cg_D yX4_answered wsX4_answered rmX4_answered [.inr (.inr (4, 0, 0, 0)), .inl (x)] M (some (.inl x)) (cg_sav M z) := by
  refine cg_S_of (cc := cX4_answered) (maxL := 2) (ret := (some .int)) (ls0 := [some (.inr (.inr (4, 0, 0, 0))), some (.inl (x))]) RX4 rfl (by decide) rfl rfl (Nat.le_of_ble_eq_true rfl) (fun E C X => ?_)
  refine cr_iload_n (pc := 0) C dX4_answered_0 rfl ?_
  refine cr_if_ge_t (pc := 1) (tgt := 10) C dX4_answered_1 (by decide) (Int32.not_lt.mp hx) ?_
  refine cr_aload_n (pc := 10) C dX4_answered_10 rfl ?_
  refine cr_dV (pc := 11) C (sm_saves hz5 hz) rfl gX4_answered_X4_savesAside rfl dX4_answered_11 (by first | rfl | assumption | (simp [cg_ok]; omega)) rfl hvX4_savesAside rfl ⟨rfl, rfl, Nat.le_of_ble_eq_true rfl, Nat.le_of_ble_eq_true rfl⟩ (Nat.le_of_ble_eq_true rfl) rfl ?_
  refine cr_iload_n (pc := 14) C dX4_answered_14 rfl ?_
  refine cr_ireturn (pc := 15) C X dX4_answered_15 ?_
  exact ⟨rfl, rfl⟩
def cg_erm (M : cg_M) (e : Nat) : cg_M := cg_up M 23 e (M 23 e + nI 1)
set_option maxRecDepth 100000 in
set_option maxHeartbeats 4000000 in
theorem sm_ans0 {M : cg_M} {x : Int32} {e : Nat} (he : e < 5) (hx : (-2) - x = nI e) (h0 : x < 0) : cg_D yX4_answered wsX4_answered rmX4_answered [.inr (.inr (4, 0, 0, 0)), .inl (x)] M (some (.inl x)) (cg_erm M e) := by
  refine cg_S_of (cc := cX4_answered) (maxL := 2) (ret := (some .int)) (ls0 := [some (.inr (.inr (4, 0, 0, 0))), some (.inl (x))]) RX4 rfl (by decide) rfl rfl (Nat.le_of_ble_eq_true rfl) (fun E C X => ?_)
  refine cr_iload_n (pc := 0) C dX4_answered_0 rfl ?_
  refine cr_if_ge_f (pc := 1) (tgt := 10) C dX4_answered_1 (by decide) (Int32.not_le.mpr h0) ?_
  refine cr_aload_n (pc := 4) C dX4_answered_4 rfl ?_
  refine cr_iload_n (pc := 5) C dX4_answered_5 rfl ?_
  refine cr_dV (pc := 6) C (sm_error he hx) rfl gX4_answered_X4_error rfl dX4_answered_6 (by first | rfl | assumption | (simp [cg_ok]; omega)) rfl hvX4_error rfl ⟨rfl, rfl, Nat.le_of_ble_eq_true rfl, Nat.le_of_ble_eq_true rfl⟩ (Nat.le_of_ble_eq_true rfl) rfl ?_
  refine cr_ireturn (pc := 9) C X dX4_answered_9 ?_
  exact ⟨rfl, rfl⟩
def cg_fim (M : cg_M) (z : Nat) (o : cg_O) : cg_M := if o.1 < 0 then cg_erm (cg_asd M) (cg_ix (-2 - o.1)) else cg_sav (cg_sb (cg_asd M) 20 o.2) z
theorem cg_asd_20 (M : cg_M) : cg_asd M 20 = M 20 := by unfold cg_asd; rw [cg_sb_n (by decide)]
theorem cg_asd_26 (M : cg_M) : cg_asd M 26 = M 26 := by unfold cg_asd; rw [cg_sb_n (by decide)]
theorem cg_asd_id (M : cg_M) : cg_asd M = cg_sb (cg_asd M) 20 (M 20) := by
  have h := cg_sb_id (cg_asd M) 20
  rw [cg_asd_20] at h
  exact h.symm
set_option maxRecDepth 100000 in
set_option maxHeartbeats 4000000 in
theorem sm_setGuarantees {M : cg_M} {x y : Int32} {z : Nat} (hz5 : z < 5) (hz : M 26 2 = nI z) (hI : cg_I (M 20)) : cg_D yX4_setGuarantees wsX4_setGuarantees rmX4_setGuarantees [.inr (.inr (4, 0, 0, 0)), .inl (x), .inl (y)] M (some (.inl (cg_oG (M 20) x y).1)) (cg_fim M z (cg_oG (M 20) x y)) := by
  unfold cg_fim
  obtain ⟨o, ho⟩ : ∃ o, o = cg_oG (M 20) x y := ⟨_, rfl⟩
  rw [← ho]
  have H : cg_D yX4_doesSet wsX4_doesSet rmX4_doesSet (.inr (.inr (4, 0, 0, 0)) :: [.inl (x), .inl (y)]) (cg_sb (cg_asd M) 20 (M 20)) (some (.inl o.1)) (cg_sb (cg_asd M) 20 o.2) := by rw [ho]; exact sm_oG
  have hrs : cg_rs (M 20) o := by rw [ho]; exact cg_oG_r hI
  rcases hrs with h | ⟨h1, h2⟩
  · refine cg_S_of (cc := cX4_setGuarantees) (maxL := 3) (ret := (some .int)) (ls0 := [some (.inr (.inr (4, 0, 0, 0))), some (.inl (x)), some (.inl (y))]) RX4 rfl (by decide) rfl rfl (Nat.le_of_ble_eq_true rfl) (fun E C X => ?_)
    refine cr_aload_n (pc := 0) C dX4_setGuarantees_0 rfl ?_
    refine cr_dV (pc := 1) C (sm_puts) rfl gX4_setGuarantees_X4_putsAside rfl dX4_setGuarantees_1 (by first | rfl | assumption | (simp [cg_ok]; omega)) rfl hvX4_putsAside rfl ⟨rfl, rfl, Nat.le_of_ble_eq_true rfl, Nat.le_of_ble_eq_true rfl⟩ (Nat.le_of_ble_eq_true rfl) rfl ?_
    rw [cg_asd_id]
    refine cr_aload_n (pc := 4) C dX4_setGuarantees_4 rfl ?_
    refine cr_aload_n (pc := 5) C dX4_setGuarantees_5 rfl ?_
    refine cr_iload_n (pc := 6) C dX4_setGuarantees_6 rfl ?_
    refine cr_iload_n (pc := 7) C dX4_setGuarantees_7 rfl ?_
    refine cr_dV (pc := 8) C (H) rfl gX4_setGuarantees_X4_doesSet rfl dX4_setGuarantees_8 (by first | rfl | assumption | (simp [cg_ok]; omega)) rfl hvX4_doesSet rfl ⟨rfl, rfl, Nat.le_of_ble_eq_true rfl, Nat.le_of_ble_eq_true rfl⟩ (Nat.le_of_ble_eq_true rfl) rfl ?_
    refine cr_dV (pc := 11) C (sm_ans1 hz5 (by rw [cg_sb_n (by decide), cg_asd_26]; exact hz) h) rfl gX4_setGuarantees_X4_answered rfl dX4_setGuarantees_11 (by first | rfl | assumption | (simp [cg_ok]; omega)) rfl hvX4_answered rfl ⟨rfl, rfl, Nat.le_of_ble_eq_true rfl, Nat.le_of_ble_eq_true rfl⟩ (Nat.le_of_ble_eq_true rfl) rfl ?_
    refine cr_ireturn (pc := 14) C X dX4_setGuarantees_14 ?_
    exact ⟨rfl, by rw [if_neg h]⟩
  · refine cg_S_of (cc := cX4_setGuarantees) (maxL := 3) (ret := (some .int)) (ls0 := [some (.inr (.inr (4, 0, 0, 0))), some (.inl (x)), some (.inl (y))]) RX4 rfl (by decide) rfl rfl (Nat.le_of_ble_eq_true rfl) (fun E C X => ?_)
    have k := cg_fin_k h1
    refine cr_aload_n (pc := 0) C dX4_setGuarantees_0 rfl ?_
    refine cr_dV (pc := 1) C (sm_puts) rfl gX4_setGuarantees_X4_putsAside rfl dX4_setGuarantees_1 (by first | rfl | assumption | (simp [cg_ok]; omega)) rfl hvX4_putsAside rfl ⟨rfl, rfl, Nat.le_of_ble_eq_true rfl, Nat.le_of_ble_eq_true rfl⟩ (Nat.le_of_ble_eq_true rfl) rfl ?_
    rw [cg_asd_id]
    refine cr_aload_n (pc := 4) C dX4_setGuarantees_4 rfl ?_
    refine cr_aload_n (pc := 5) C dX4_setGuarantees_5 rfl ?_
    refine cr_iload_n (pc := 6) C dX4_setGuarantees_6 rfl ?_
    refine cr_iload_n (pc := 7) C dX4_setGuarantees_7 rfl ?_
    refine cr_dV (pc := 8) C (H) rfl gX4_setGuarantees_X4_doesSet rfl dX4_setGuarantees_8 (by first | rfl | assumption | (simp [cg_ok]; omega)) rfl hvX4_doesSet rfl ⟨rfl, rfl, Nat.le_of_ble_eq_true rfl, Nat.le_of_ble_eq_true rfl⟩ (Nat.le_of_ble_eq_true rfl) rfl ?_
    rw [h2, ← cg_asd_id]
    refine cr_dV (pc := 11) C (sm_ans0 k.1 k.2.2.2.1 k.2.2.2.2) rfl gX4_setGuarantees_X4_answered rfl dX4_setGuarantees_11 (by first | rfl | assumption | (simp [cg_ok]; omega)) rfl hvX4_answered rfl ⟨rfl, rfl, Nat.le_of_ble_eq_true rfl, Nat.le_of_ble_eq_true rfl⟩ (Nat.le_of_ble_eq_true rfl) rfl ?_
    refine cr_ireturn (pc := 14) C X dX4_setGuarantees_14 ?_
    exact ⟨rfl, by rw [if_pos k.2.2.2.2]⟩
set_option maxRecDepth 100000 in
set_option maxHeartbeats 4000000 in
theorem sm_forget {M : cg_M} {x : Int32} {z : Nat} (hz5 : z < 5) (hz : M 26 2 = nI z) (hI : cg_I (M 20)) : cg_D yX4_forget wsX4_forget rmX4_forget [.inr (.inr (4, 0, 0, 0)), .inl (x)] M (some (.inl (cg_oF (M 20) x).1)) (cg_fim M z (cg_oF (M 20) x)) := by
  unfold cg_fim
  obtain ⟨o, ho⟩ : ∃ o, o = cg_oF (M 20) x := ⟨_, rfl⟩
  rw [← ho]
  have H : cg_D yX4_doesForget wsX4_doesForget rmX4_doesForget (.inr (.inr (4, 0, 0, 0)) :: [.inl (x)]) (cg_sb (cg_asd M) 20 (M 20)) (some (.inl o.1)) (cg_sb (cg_asd M) 20 o.2) := by rw [ho]; exact sm_oF
  have hrs : cg_rs (M 20) o := by rw [ho]; exact cg_oF_r hI
  rcases hrs with h | ⟨h1, h2⟩
  · refine cg_S_of (cc := cX4_forget) (maxL := 2) (ret := (some .int)) (ls0 := [some (.inr (.inr (4, 0, 0, 0))), some (.inl (x))]) RX4 rfl (by decide) rfl rfl (Nat.le_of_ble_eq_true rfl) (fun E C X => ?_)
    refine cr_aload_n (pc := 0) C dX4_forget_0 rfl ?_
    refine cr_dV (pc := 1) C (sm_puts) rfl gX4_forget_X4_putsAside rfl dX4_forget_1 (by first | rfl | assumption | (simp [cg_ok]; omega)) rfl hvX4_putsAside rfl ⟨rfl, rfl, Nat.le_of_ble_eq_true rfl, Nat.le_of_ble_eq_true rfl⟩ (Nat.le_of_ble_eq_true rfl) rfl ?_
    rw [cg_asd_id]
    refine cr_aload_n (pc := 4) C dX4_forget_4 rfl ?_
    refine cr_aload_n (pc := 5) C dX4_forget_5 rfl ?_
    refine cr_iload_n (pc := 6) C dX4_forget_6 rfl ?_
    refine cr_dV (pc := 7) C (H) rfl gX4_forget_X4_doesForget rfl dX4_forget_7 (by first | rfl | assumption | (simp [cg_ok]; omega)) rfl hvX4_doesForget rfl ⟨rfl, rfl, Nat.le_of_ble_eq_true rfl, Nat.le_of_ble_eq_true rfl⟩ (Nat.le_of_ble_eq_true rfl) rfl ?_
    refine cr_dV (pc := 10) C (sm_ans1 hz5 (by rw [cg_sb_n (by decide), cg_asd_26]; exact hz) h) rfl gX4_forget_X4_answered rfl dX4_forget_10 (by first | rfl | assumption | (simp [cg_ok]; omega)) rfl hvX4_answered rfl ⟨rfl, rfl, Nat.le_of_ble_eq_true rfl, Nat.le_of_ble_eq_true rfl⟩ (Nat.le_of_ble_eq_true rfl) rfl ?_
    refine cr_ireturn (pc := 13) C X dX4_forget_13 ?_
    exact ⟨rfl, by rw [if_neg h]⟩
  · refine cg_S_of (cc := cX4_forget) (maxL := 2) (ret := (some .int)) (ls0 := [some (.inr (.inr (4, 0, 0, 0))), some (.inl (x))]) RX4 rfl (by decide) rfl rfl (Nat.le_of_ble_eq_true rfl) (fun E C X => ?_)
    have k := cg_fin_k h1
    refine cr_aload_n (pc := 0) C dX4_forget_0 rfl ?_
    refine cr_dV (pc := 1) C (sm_puts) rfl gX4_forget_X4_putsAside rfl dX4_forget_1 (by first | rfl | assumption | (simp [cg_ok]; omega)) rfl hvX4_putsAside rfl ⟨rfl, rfl, Nat.le_of_ble_eq_true rfl, Nat.le_of_ble_eq_true rfl⟩ (Nat.le_of_ble_eq_true rfl) rfl ?_
    rw [cg_asd_id]
    refine cr_aload_n (pc := 4) C dX4_forget_4 rfl ?_
    refine cr_aload_n (pc := 5) C dX4_forget_5 rfl ?_
    refine cr_iload_n (pc := 6) C dX4_forget_6 rfl ?_
    refine cr_dV (pc := 7) C (H) rfl gX4_forget_X4_doesForget rfl dX4_forget_7 (by first | rfl | assumption | (simp [cg_ok]; omega)) rfl hvX4_doesForget rfl ⟨rfl, rfl, Nat.le_of_ble_eq_true rfl, Nat.le_of_ble_eq_true rfl⟩ (Nat.le_of_ble_eq_true rfl) rfl ?_
    rw [h2, ← cg_asd_id]
    refine cr_dV (pc := 10) C (sm_ans0 k.1 k.2.2.2.1 k.2.2.2.2) rfl gX4_forget_X4_answered rfl dX4_forget_10 (by first | rfl | assumption | (simp [cg_ok]; omega)) rfl hvX4_answered rfl ⟨rfl, rfl, Nat.le_of_ble_eq_true rfl, Nat.le_of_ble_eq_true rfl⟩ (Nat.le_of_ble_eq_true rfl) rfl ?_
    refine cr_ireturn (pc := 13) C X dX4_forget_13 ?_
    exact ⟨rfl, by rw [if_pos k.2.2.2.2]⟩
set_option maxRecDepth 100000 in
set_option maxHeartbeats 4000000 in
theorem sm_read {M : cg_M} {x y z1 : Int32} {z : Nat} (hz5 : z < 5) (hz : M 26 2 = nI z) (hI : cg_I (M 20)) : cg_D yX4_read wsX4_read rmX4_read [.inr (.inr (4, 0, 0, 0)), .inl (x), .inl (y), .inl (z1)] M (some (.inl (cg_oR (M 20) x y z1).1)) (cg_fim M z (cg_oR (M 20) x y z1)) := by
  unfold cg_fim
  obtain ⟨o, ho⟩ : ∃ o, o = cg_oR (M 20) x y z1 := ⟨_, rfl⟩
  rw [← ho]
  have H : cg_D yX4_doesRead wsX4_doesRead rmX4_doesRead (.inr (.inr (4, 0, 0, 0)) :: [.inl (x), .inl (y), .inl (z1)]) (cg_sb (cg_asd M) 20 (M 20)) (some (.inl o.1)) (cg_sb (cg_asd M) 20 o.2) := by rw [ho]; exact (sm_oR hI)
  have hrs : cg_rs (M 20) o := by rw [ho]; exact cg_oR_r hI
  rcases hrs with h | ⟨h1, h2⟩
  · refine cg_S_of (cc := cX4_read) (maxL := 4) (ret := (some .int)) (ls0 := [some (.inr (.inr (4, 0, 0, 0))), some (.inl (x)), some (.inl (y)), some (.inl (z1))]) RX4 rfl (by decide) rfl rfl (Nat.le_of_ble_eq_true rfl) (fun E C X => ?_)
    refine cr_aload_n (pc := 0) C dX4_read_0 rfl ?_
    refine cr_dV (pc := 1) C (sm_puts) rfl gX4_read_X4_putsAside rfl dX4_read_1 (by first | rfl | assumption | (simp [cg_ok]; omega)) rfl hvX4_putsAside rfl ⟨rfl, rfl, Nat.le_of_ble_eq_true rfl, Nat.le_of_ble_eq_true rfl⟩ (Nat.le_of_ble_eq_true rfl) rfl ?_
    rw [cg_asd_id]
    refine cr_aload_n (pc := 4) C dX4_read_4 rfl ?_
    refine cr_aload_n (pc := 5) C dX4_read_5 rfl ?_
    refine cr_iload_n (pc := 6) C dX4_read_6 rfl ?_
    refine cr_iload_n (pc := 7) C dX4_read_7 rfl ?_
    refine cr_iload_n (pc := 8) C dX4_read_8 rfl ?_
    refine cr_dV (pc := 9) C (H) rfl gX4_read_X4_doesRead rfl dX4_read_9 (by first | rfl | assumption | (simp [cg_ok]; omega)) rfl hvX4_doesRead rfl ⟨rfl, rfl, Nat.le_of_ble_eq_true rfl, Nat.le_of_ble_eq_true rfl⟩ (Nat.le_of_ble_eq_true rfl) rfl ?_
    refine cr_dV (pc := 12) C (sm_ans1 hz5 (by rw [cg_sb_n (by decide), cg_asd_26]; exact hz) h) rfl gX4_read_X4_answered rfl dX4_read_12 (by first | rfl | assumption | (simp [cg_ok]; omega)) rfl hvX4_answered rfl ⟨rfl, rfl, Nat.le_of_ble_eq_true rfl, Nat.le_of_ble_eq_true rfl⟩ (Nat.le_of_ble_eq_true rfl) rfl ?_
    refine cr_ireturn (pc := 15) C X dX4_read_15 ?_
    exact ⟨rfl, by rw [if_neg h]⟩
  · refine cg_S_of (cc := cX4_read) (maxL := 4) (ret := (some .int)) (ls0 := [some (.inr (.inr (4, 0, 0, 0))), some (.inl (x)), some (.inl (y)), some (.inl (z1))]) RX4 rfl (by decide) rfl rfl (Nat.le_of_ble_eq_true rfl) (fun E C X => ?_)
    have k := cg_fin_k h1
    refine cr_aload_n (pc := 0) C dX4_read_0 rfl ?_
    refine cr_dV (pc := 1) C (sm_puts) rfl gX4_read_X4_putsAside rfl dX4_read_1 (by first | rfl | assumption | (simp [cg_ok]; omega)) rfl hvX4_putsAside rfl ⟨rfl, rfl, Nat.le_of_ble_eq_true rfl, Nat.le_of_ble_eq_true rfl⟩ (Nat.le_of_ble_eq_true rfl) rfl ?_
    rw [cg_asd_id]
    refine cr_aload_n (pc := 4) C dX4_read_4 rfl ?_
    refine cr_aload_n (pc := 5) C dX4_read_5 rfl ?_
    refine cr_iload_n (pc := 6) C dX4_read_6 rfl ?_
    refine cr_iload_n (pc := 7) C dX4_read_7 rfl ?_
    refine cr_iload_n (pc := 8) C dX4_read_8 rfl ?_
    refine cr_dV (pc := 9) C (H) rfl gX4_read_X4_doesRead rfl dX4_read_9 (by first | rfl | assumption | (simp [cg_ok]; omega)) rfl hvX4_doesRead rfl ⟨rfl, rfl, Nat.le_of_ble_eq_true rfl, Nat.le_of_ble_eq_true rfl⟩ (Nat.le_of_ble_eq_true rfl) rfl ?_
    rw [h2, ← cg_asd_id]
    refine cr_dV (pc := 12) C (sm_ans0 k.1 k.2.2.2.1 k.2.2.2.2) rfl gX4_read_X4_answered rfl dX4_read_12 (by first | rfl | assumption | (simp [cg_ok]; omega)) rfl hvX4_answered rfl ⟨rfl, rfl, Nat.le_of_ble_eq_true rfl, Nat.le_of_ble_eq_true rfl⟩ (Nat.le_of_ble_eq_true rfl) rfl ?_
    refine cr_ireturn (pc := 15) C X dX4_read_15 ?_
    exact ⟨rfl, by rw [if_pos k.2.2.2.2]⟩
set_option maxRecDepth 100000 in
set_option maxHeartbeats 4000000 in
theorem sm_write {M : cg_M} {x y z1 t : Int32} {z : Nat} (hz5 : z < 5) (hz : M 26 2 = nI z) (hI : cg_I (M 20)) : cg_D yX4_write wsX4_write rmX4_write [.inr (.inr (4, 0, 0, 0)), .inl (x), .inl (y), .inl (z1), .inl (t)] M (some (.inl (cg_oW (M 20) x y z1 t).1)) (cg_fim M z (cg_oW (M 20) x y z1 t)) := by
  unfold cg_fim
  obtain ⟨o, ho⟩ : ∃ o, o = cg_oW (M 20) x y z1 t := ⟨_, rfl⟩
  rw [← ho]
  have H : cg_D yX4_doesWrite wsX4_doesWrite rmX4_doesWrite (.inr (.inr (4, 0, 0, 0)) :: [.inl (x), .inl (y), .inl (z1), .inl (t)]) (cg_sb (cg_asd M) 20 (M 20)) (some (.inl o.1)) (cg_sb (cg_asd M) 20 o.2) := by rw [ho]; exact (sm_oW hI)
  have hrs : cg_rs (M 20) o := by rw [ho]; exact cg_oW_r hI
  rcases hrs with h | ⟨h1, h2⟩
  · refine cg_S_of (cc := cX4_write) (maxL := 5) (ret := (some .int)) (ls0 := [some (.inr (.inr (4, 0, 0, 0))), some (.inl (x)), some (.inl (y)), some (.inl (z1)), some (.inl (t))]) RX4 rfl (by decide) rfl rfl (Nat.le_of_ble_eq_true rfl) (fun E C X => ?_)
    refine cr_aload_n (pc := 0) C dX4_write_0 rfl ?_
    refine cr_dV (pc := 1) C (sm_puts) rfl gX4_write_X4_putsAside rfl dX4_write_1 (by first | rfl | assumption | (simp [cg_ok]; omega)) rfl hvX4_putsAside rfl ⟨rfl, rfl, Nat.le_of_ble_eq_true rfl, Nat.le_of_ble_eq_true rfl⟩ (Nat.le_of_ble_eq_true rfl) rfl ?_
    rw [cg_asd_id]
    refine cr_aload_n (pc := 4) C dX4_write_4 rfl ?_
    refine cr_aload_n (pc := 5) C dX4_write_5 rfl ?_
    refine cr_iload_n (pc := 6) C dX4_write_6 rfl ?_
    refine cr_iload_n (pc := 7) C dX4_write_7 rfl ?_
    refine cr_iload_n (pc := 8) C dX4_write_8 rfl ?_
    refine cr_iload (pc := 9) C dX4_write_9 rfl ?_
    refine cr_dV (pc := 11) C (H) rfl gX4_write_X4_doesWrite rfl dX4_write_11 (by first | rfl | assumption | (simp [cg_ok]; omega)) rfl hvX4_doesWrite rfl ⟨rfl, rfl, Nat.le_of_ble_eq_true rfl, Nat.le_of_ble_eq_true rfl⟩ (Nat.le_of_ble_eq_true rfl) rfl ?_
    refine cr_dV (pc := 14) C (sm_ans1 hz5 (by rw [cg_sb_n (by decide), cg_asd_26]; exact hz) h) rfl gX4_write_X4_answered rfl dX4_write_14 (by first | rfl | assumption | (simp [cg_ok]; omega)) rfl hvX4_answered rfl ⟨rfl, rfl, Nat.le_of_ble_eq_true rfl, Nat.le_of_ble_eq_true rfl⟩ (Nat.le_of_ble_eq_true rfl) rfl ?_
    refine cr_ireturn (pc := 17) C X dX4_write_17 ?_
    exact ⟨rfl, by rw [if_neg h]⟩
  · refine cg_S_of (cc := cX4_write) (maxL := 5) (ret := (some .int)) (ls0 := [some (.inr (.inr (4, 0, 0, 0))), some (.inl (x)), some (.inl (y)), some (.inl (z1)), some (.inl (t))]) RX4 rfl (by decide) rfl rfl (Nat.le_of_ble_eq_true rfl) (fun E C X => ?_)
    have k := cg_fin_k h1
    refine cr_aload_n (pc := 0) C dX4_write_0 rfl ?_
    refine cr_dV (pc := 1) C (sm_puts) rfl gX4_write_X4_putsAside rfl dX4_write_1 (by first | rfl | assumption | (simp [cg_ok]; omega)) rfl hvX4_putsAside rfl ⟨rfl, rfl, Nat.le_of_ble_eq_true rfl, Nat.le_of_ble_eq_true rfl⟩ (Nat.le_of_ble_eq_true rfl) rfl ?_
    rw [cg_asd_id]
    refine cr_aload_n (pc := 4) C dX4_write_4 rfl ?_
    refine cr_aload_n (pc := 5) C dX4_write_5 rfl ?_
    refine cr_iload_n (pc := 6) C dX4_write_6 rfl ?_
    refine cr_iload_n (pc := 7) C dX4_write_7 rfl ?_
    refine cr_iload_n (pc := 8) C dX4_write_8 rfl ?_
    refine cr_iload (pc := 9) C dX4_write_9 rfl ?_
    refine cr_dV (pc := 11) C (H) rfl gX4_write_X4_doesWrite rfl dX4_write_11 (by first | rfl | assumption | (simp [cg_ok]; omega)) rfl hvX4_doesWrite rfl ⟨rfl, rfl, Nat.le_of_ble_eq_true rfl, Nat.le_of_ble_eq_true rfl⟩ (Nat.le_of_ble_eq_true rfl) rfl ?_
    rw [h2, ← cg_asd_id]
    refine cr_dV (pc := 14) C (sm_ans0 k.1 k.2.2.2.1 k.2.2.2.2) rfl gX4_write_X4_answered rfl dX4_write_14 (by first | rfl | assumption | (simp [cg_ok]; omega)) rfl hvX4_answered rfl ⟨rfl, rfl, Nat.le_of_ble_eq_true rfl, Nat.le_of_ble_eq_true rfl⟩ (Nat.le_of_ble_eq_true rfl) rfl ?_
    refine cr_ireturn (pc := 17) C X dX4_write_17 ?_
    exact ⟨rfl, by rw [if_pos k.2.2.2.2]⟩
set_option maxRecDepth 100000 in
set_option maxHeartbeats 4000000 in
theorem sm_sync {M : cg_M} {x y : Int32} {z : Nat} (hz5 : z < 5) (hz : M 26 2 = nI z) (hI : cg_I (M 20)) : cg_D yX4_sync wsX4_sync rmX4_sync [.inr (.inr (4, 0, 0, 0)), .inl (x), .inl (y)] M (some (.inl (cg_oY (M 20) x y).1)) (cg_fim M z (cg_oY (M 20) x y)) := by
  unfold cg_fim
  obtain ⟨o, ho⟩ : ∃ o, o = cg_oY (M 20) x y := ⟨_, rfl⟩
  rw [← ho]
  have H : cg_D yX4_doesSync wsX4_doesSync rmX4_doesSync (.inr (.inr (4, 0, 0, 0)) :: [.inl (x), .inl (y)]) (cg_sb (cg_asd M) 20 (M 20)) (some (.inl o.1)) (cg_sb (cg_asd M) 20 o.2) := by rw [ho]; exact (sm_oY hI)
  have hrs : cg_rs (M 20) o := by rw [ho]; exact cg_oY_r hI
  rcases hrs with h | ⟨h1, h2⟩
  · refine cg_S_of (cc := cX4_sync) (maxL := 3) (ret := (some .int)) (ls0 := [some (.inr (.inr (4, 0, 0, 0))), some (.inl (x)), some (.inl (y))]) RX4 rfl (by decide) rfl rfl (Nat.le_of_ble_eq_true rfl) (fun E C X => ?_)
    refine cr_aload_n (pc := 0) C dX4_sync_0 rfl ?_
    refine cr_dV (pc := 1) C (sm_puts) rfl gX4_sync_X4_putsAside rfl dX4_sync_1 (by first | rfl | assumption | (simp [cg_ok]; omega)) rfl hvX4_putsAside rfl ⟨rfl, rfl, Nat.le_of_ble_eq_true rfl, Nat.le_of_ble_eq_true rfl⟩ (Nat.le_of_ble_eq_true rfl) rfl ?_
    rw [cg_asd_id]
    refine cr_aload_n (pc := 4) C dX4_sync_4 rfl ?_
    refine cr_aload_n (pc := 5) C dX4_sync_5 rfl ?_
    refine cr_iload_n (pc := 6) C dX4_sync_6 rfl ?_
    refine cr_iload_n (pc := 7) C dX4_sync_7 rfl ?_
    refine cr_dV (pc := 8) C (H) rfl gX4_sync_X4_doesSync rfl dX4_sync_8 (by first | rfl | assumption | (simp [cg_ok]; omega)) rfl hvX4_doesSync rfl ⟨rfl, rfl, Nat.le_of_ble_eq_true rfl, Nat.le_of_ble_eq_true rfl⟩ (Nat.le_of_ble_eq_true rfl) rfl ?_
    refine cr_dV (pc := 11) C (sm_ans1 hz5 (by rw [cg_sb_n (by decide), cg_asd_26]; exact hz) h) rfl gX4_sync_X4_answered rfl dX4_sync_11 (by first | rfl | assumption | (simp [cg_ok]; omega)) rfl hvX4_answered rfl ⟨rfl, rfl, Nat.le_of_ble_eq_true rfl, Nat.le_of_ble_eq_true rfl⟩ (Nat.le_of_ble_eq_true rfl) rfl ?_
    refine cr_ireturn (pc := 14) C X dX4_sync_14 ?_
    exact ⟨rfl, by rw [if_neg h]⟩
  · refine cg_S_of (cc := cX4_sync) (maxL := 3) (ret := (some .int)) (ls0 := [some (.inr (.inr (4, 0, 0, 0))), some (.inl (x)), some (.inl (y))]) RX4 rfl (by decide) rfl rfl (Nat.le_of_ble_eq_true rfl) (fun E C X => ?_)
    have k := cg_fin_k h1
    refine cr_aload_n (pc := 0) C dX4_sync_0 rfl ?_
    refine cr_dV (pc := 1) C (sm_puts) rfl gX4_sync_X4_putsAside rfl dX4_sync_1 (by first | rfl | assumption | (simp [cg_ok]; omega)) rfl hvX4_putsAside rfl ⟨rfl, rfl, Nat.le_of_ble_eq_true rfl, Nat.le_of_ble_eq_true rfl⟩ (Nat.le_of_ble_eq_true rfl) rfl ?_
    rw [cg_asd_id]
    refine cr_aload_n (pc := 4) C dX4_sync_4 rfl ?_
    refine cr_aload_n (pc := 5) C dX4_sync_5 rfl ?_
    refine cr_iload_n (pc := 6) C dX4_sync_6 rfl ?_
    refine cr_iload_n (pc := 7) C dX4_sync_7 rfl ?_
    refine cr_dV (pc := 8) C (H) rfl gX4_sync_X4_doesSync rfl dX4_sync_8 (by first | rfl | assumption | (simp [cg_ok]; omega)) rfl hvX4_doesSync rfl ⟨rfl, rfl, Nat.le_of_ble_eq_true rfl, Nat.le_of_ble_eq_true rfl⟩ (Nat.le_of_ble_eq_true rfl) rfl ?_
    rw [h2, ← cg_asd_id]
    refine cr_dV (pc := 11) C (sm_ans0 k.1 k.2.2.2.1 k.2.2.2.2) rfl gX4_sync_X4_answered rfl dX4_sync_11 (by first | rfl | assumption | (simp [cg_ok]; omega)) rfl hvX4_answered rfl ⟨rfl, rfl, Nat.le_of_ble_eq_true rfl, Nat.le_of_ble_eq_true rfl⟩ (Nat.le_of_ble_eq_true rfl) rfl ?_
    refine cr_ireturn (pc := 14) C X dX4_sync_14 ?_
    exact ⟨rfl, by rw [if_pos k.2.2.2.2]⟩
set_option maxRecDepth 100000 in
set_option maxHeartbeats 4000000 in
theorem sm_undo0 {M : cg_M} (hz : M 26 2 = nI 0) : cg_D yX4_undo wsX4_undo rmX4_undo [.inr (.inr (4, 0, 0, 0))] M (some (.inl (-6))) (cg_erm M 4) := by
  refine cg_S_of (cc := cX4_undo) (maxL := 2) (ret := (some .int)) (ls0 := [some (.inr (.inr (4, 0, 0, 0))), none]) RX4 rfl (by decide) rfl rfl (Nat.le_of_ble_eq_true rfl) (fun E C X => ?_)
  refine cr_aload_n (pc := 0) C dX4_undo_0 rfl ?_
  refine cr_geti (pc := 1) (c := 4) (k := 2) C (by first | rfl | assumption | (simp [cg_ok]; omega)) rfl (by decide) rfl rfl inX4_undo_X4 flX4_undo_35 dX4_undo_1 ?_
  rw [hz]
  refine cr_if_ne_f (pc := 4) (tgt := 14) C dX4_undo_4 (by decide) (by decide) ?_
  refine cr_aload_n (pc := 7) C dX4_undo_7 rfl ?_
  refine cr_bipush (pc := 8) (v := (-6)) C dX4_undo_8 (by decide) ?_
  refine cr_dV (pc := 10) C (sm_error (e := 4) (by decide) (by decide)) rfl gX4_undo_X4_error rfl dX4_undo_10 (by first | rfl | assumption | (simp [cg_ok]; omega)) rfl hvX4_error rfl ⟨rfl, rfl, Nat.le_of_ble_eq_true rfl, Nat.le_of_ble_eq_true rfl⟩ (Nat.le_of_ble_eq_true rfl) rfl ?_
  refine cr_ireturn (pc := 13) C X dX4_undo_13 ?_
  exact ⟨rfl, rfl⟩
def cg_unm (M : cg_M) (y : Nat) : cg_M := cg_sb (cg_up M 26 2 (nI y)) 20 (cg_cpk (fun x => M 21 (345 * y + x)) (M 20) 345)
set_option maxRecDepth 100000 in
set_option maxHeartbeats 4000000 in
theorem sm_undo1 {M : cg_M} {y : Nat} (hy : y < 4) (hz : M 26 2 = nI (y + 1)) : cg_D yX4_undo wsX4_undo rmX4_undo [.inr (.inr (4, 0, 0, 0))] M (some (.inl (nI y))) (cg_unm M y) := by
  refine cg_S_of (cc := cX4_undo) (maxL := 2) (ret := (some .int)) (ls0 := [some (.inr (.inr (4, 0, 0, 0))), none]) RX4 rfl (by decide) rfl rfl (Nat.le_of_ble_eq_true rfl) (fun E C X => ?_)
  have loop : ∀ m k : Nat, k + m = 345 → cg_W E (cg_sb (cg_up M 26 2 (nI y)) 20 (cg_cpk (fun x => M 21 (345 * y + x)) (M 20) k)) 26 [some (.inr (.inr (4, 0, 0, 0))), some (.inl (nI k))] [] := by
    intro m
    induction m with
    | zero =>
      intro k hk
      have hk : k = 345 := by omega
      subst hk
      refine cr_iload_n (pc := 26) C dX4_undo_26 rfl ?_
      refine cr_sipush (pc := 27) (v := nI 345) C dX4_undo_27 (by decide) ?_
      refine cr_icmp_ge_t (pc := 30) (tgt := 60) C dX4_undo_30 (by decide) (Int32.le_refl _) ?_
      refine cr_aload_n (pc := 60) C dX4_undo_60 rfl ?_
      refine cr_geti (pc := 61) (c := 4) (k := 2) C (by first | rfl | assumption | (simp [cg_ok]; omega)) rfl (by decide) rfl rfl inX4_undo_X4 flX4_undo_35 dX4_undo_61 ?_
      rw [cg_sb_n (by decide), cg_up_s]
      refine cr_ireturn (pc := 64) C X dX4_undo_64 ?_
      exact ⟨rfl, rfl⟩
    | succ m ih =>
      intro k hk
      refine cr_iload_n (pc := 26) C dX4_undo_26 rfl ?_
      refine cr_sipush (pc := 27) (v := nI 345) C dX4_undo_27 (by decide) ?_
      refine cr_icmp_ge_f (pc := 30) (tgt := 60) C dX4_undo_30 (by decide) (nI_ge (by omega) (by omega)) ?_
      refine cr_aload_n (pc := 33) C dX4_undo_33 rfl ?_
      refine cr_getr (pc := 34) (c := 4) (k := 0) C (by first | rfl | assumption | (simp [cg_ok]; omega)) rfl (by decide) rfl inX4_undo_X4 flX4_undo_7 dX4_undo_34 ?_
      refine cr_iload_n (pc := 37) C dX4_undo_37 rfl ?_
      refine cr_aload_n (pc := 38) C dX4_undo_38 rfl ?_
      refine cr_getr (pc := 39) (c := 4) (k := 1) C (by first | rfl | assumption | (simp [cg_ok]; omega)) rfl (by decide) rfl inX4_undo_X4 flX4_undo_13 dX4_undo_39 ?_
      refine cr_sipush (pc := 42) (v := nI 345) C dX4_undo_42 (by decide) ?_
      refine cr_aload_n (pc := 45) C dX4_undo_45 rfl ?_
      refine cr_geti (pc := 46) (c := 4) (k := 2) C (by first | rfl | assumption | (simp [cg_ok]; omega)) rfl (by decide) rfl rfl inX4_undo_X4 flX4_undo_35 dX4_undo_46 ?_
      rw [cg_sb_n (by decide), cg_up_s]
      refine cr_imul_n (pc := 49) C dX4_undo_49 ?_
      refine cr_iload_n (pc := 50) C dX4_undo_50 rfl ?_
      refine cr_iadd_n (pc := 51) C dX4_undo_51 ?_
      refine cr_iaload (pc := 52) C rfl (by first | rfl | assumption | (simp [cg_ok]; omega)) (by omega) (by first | decide | omega) dX4_undo_52 ?_
      rw [cg_sb_n (by decide), cg_up_n (by decide)]
      refine cr_iastore (pc := 53) C rfl (by first | rfl | assumption | (simp [cg_ok]; omega)) (by omega) (by first | decide | omega) dX4_undo_53 ?_
      rw [cg_up_sb]
      rw [cg_cpk_s (fun x => M 21 (345 * y + x))]
      refine cr_iinc1 (pc := 54) C dX4_undo_54 (cg_inc1 _) (by decide) rfl ?_
      refine cr_goto (pc := 57) (tgt := 26) C dX4_undo_57 (by decide) ?_
      exact ih (k + 1) (by omega)
  refine cr_aload_n (pc := 0) C dX4_undo_0 rfl ?_
  refine cr_geti (pc := 1) (c := 4) (k := 2) C (by first | rfl | assumption | (simp [cg_ok]; omega)) rfl (by decide) rfl rfl inX4_undo_X4 flX4_undo_35 dX4_undo_1 ?_
  rw [hz]
  refine cr_if_ne_t (pc := 4) (tgt := 14) C dX4_undo_4 (by decide) (nI_ne0 (by omega) (by omega)) ?_
  refine cr_aload_n (pc := 14) C dX4_undo_14 rfl ?_
  refine cr_dup (pc := 15) C dX4_undo_15 rfl ?_
  refine cr_geti (pc := 16) (c := 4) (k := 2) C (by first | rfl | assumption | (simp [cg_ok]; omega)) rfl (by decide) rfl rfl inX4_undo_X4 flX4_undo_35 dX4_undo_16 ?_
  rw [hz]
  refine cr_iconst (pc := 19) (v := nI 1) C dX4_undo_19 (by decide) ?_
  refine cr_isub (pc := 20) C dX4_undo_20 ?_
  rw [pk_sub (by omega), show y + 1 - 1 = y by omega]
  refine cr_puti (pc := 21) (c := 4) (k := 2) C (by first | rfl | assumption | (simp [cg_ok]; omega)) rfl (by decide) rfl rfl inX4_undo_X4 flX4_undo_35 rfl (by first | rfl | decide) rfl dX4_undo_21 ?_
  refine cr_iconst (pc := 24) (v := nI 0) C dX4_undo_24 (by decide) ?_
  refine cr_istore_n1 (pc := 25) C dX4_undo_25 (by decide) rfl ?_
  refine cr_mem (M' := cg_sb (cg_up M 26 2 (nI y)) 20 (cg_cpk (fun x => M 21 (345 * y + x)) (M 20) 0)) ?_ (loop 345 0 (by omega))
  rw [cg_cpk_0]
  have h := cg_sb_id (cg_up M 26 2 (nI y)) 20
  rw [cg_up_n (by decide)] at h
  exact h.symm
