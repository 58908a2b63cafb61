/-! ===== the reference: the text ===== -/
/-- the reference's memory while it reads: place, command, numbers -/
def cg_pn (M : cg_M) (a : Nat) (cm : Int32) (Nu : Nat → Int32) : cg_M := cg_sb (cg_sb M 25 Nu) 26 (upd (upd (M 26) 7 (nI a)) 9 cm)
section CGPN
variable (M : cg_M) (a : Nat) (cm : Int32) (Nu : Nat → Int32)
theorem cg_pn_7 : cg_pn M a cm Nu 26 7 = nI a := by
  unfold cg_pn
  rw [cg_sb_s, cg_un (by decide), cg_us]
theorem cg_pn_9 : cg_pn M a cm Nu 26 9 = cm := by
  unfold cg_pn
  rw [cg_sb_s, cg_us]
theorem cg_pn_6 : cg_pn M a cm Nu 26 6 = M 26 6 := by
  unfold cg_pn
  rw [cg_sb_s, cg_un (by decide), cg_un (by decide)]
theorem cg_pn_2 : cg_pn M a cm Nu 26 2 = M 26 2 := by
  unfold cg_pn
  rw [cg_sb_s, cg_un (by decide), cg_un (by decide)]
theorem cg_pn_25 : cg_pn M a cm Nu 25 = Nu := by
  unfold cg_pn
  rw [cg_sb_n (by decide), cg_sb_s]
theorem cg_pn_n {b : Nat} (h1 : b ≠ 25) (h2 : b ≠ 26) : cg_pn M a cm Nu b = M b := by
  unfold cg_pn
  rw [cg_sb_n h2, cg_sb_n h1]
theorem cg_pn_24 : cg_pn M a cm Nu 24 = M 24 := cg_pn_n M a cm Nu (by decide) (by decide)
theorem cg_pn_u7 (e : Nat) : cg_up (cg_pn M a cm Nu) 26 7 (nI e) = cg_pn M e cm Nu := by
  unfold cg_pn
  rw [cg_up_sb, cg_ucomm (by decide), cg_uu]
theorem cg_pn_u9 (e : Int32) : cg_up (cg_pn M a cm Nu) 26 9 e = cg_pn M a e Nu := by
  unfold cg_pn
  rw [cg_up_sb, cg_uu]
theorem cg_pn_u25 (x : Nat) (v : Int32) : cg_up (cg_pn M a cm Nu) 25 x v = cg_pn M a cm (upd Nu x v) := by
  unfold cg_up
  rw [cg_pn_25]
  unfold cg_pn
  rw [cg_sbc (a := 26) (by decide), cg_sb_sb]
theorem cg_pn_sb (b : Nat) (h1 : b ≠ 25) (h2 : b ≠ 26) (P : Nat → Int32) : cg_sb (cg_pn M a cm Nu) b P = cg_pn (cg_sb M b P) a cm Nu := by
  unfold cg_pn
  rw [cg_sbc (a := 26) (Ne.symm h2), cg_sbc (a := 25) (Ne.symm h1), cg_sb_n (M := M) (Ne.symm h2)]
theorem cg_pn_init : cg_up M 26 7 (nI a) = cg_pn M a (M 26 9) (M 25) := by
  unfold cg_pn
  rw [cg_sb_id]
  unfold cg_up
  congr 1
  have h : upd (M 26) 7 (nI a) 9 = M 26 9 := cg_un (by decide)
  rw [← h, cg_uid]
end CGPN
/-- behind the spaces -/
def cg_sk (t : Nat → Nat) : Nat → Nat → Nat
  | 0, p => p
  | m + 1, p => if t p = 32 then cg_sk t m (p + 1) else p
def cg_hv (t : Nat → Nat) (L p : Nat) : Int32 := if p < L then nI (t p) else -1
def cg_dg (t : Nat → Nat) (L p : Nat) : Bool := decide (p < L ∧ 48 ≤ t p ∧ t p ≤ 57)
set_option maxRecDepth 100000 in
set_option maxHeartbeats 4000000 in
theorem sm_here {M : cg_M} {cm : Int32} {Nu : Nat → Int32} {t : Nat → Nat} {L : Nat} (hl : M 26 6 = nI L) (hT : cg_tx0 (M 24) t L) {p e : Nat} (hp : p ≤ L) (he : cg_sk t (L - p) p = e) : cg_D yX4_here wsX4_here rmX4_here [.inr (.inr (4, 0, 0, 0))] (cg_pn M p cm Nu) (some (.inl (cg_hv t L e))) (cg_pn M e cm Nu) := by
  refine cg_S_of (cc := cX4_here) (maxL := 1) (ret := (some .int)) (ls0 := [some (.inr (.inr (4, 0, 0, 0)))]) RX4 rfl (by decide) rfl rfl (Nat.le_of_ble_eq_true rfl) (fun E C X => ?_)
  have hL100 := hT.1
  have loop : ∀ (m p : Nat), p + m = L → cg_sk t m p = e → cg_W E (cg_pn M p cm Nu) 0 [some (.inr (.inr (4, 0, 0, 0)))] [] := by
    intro m
    induction m with
    | zero =>
      intro p hp he
      have hpe : p = e := he
      subst hpe
      refine cr_aload_n (pc := 0) C dX4_here_0 rfl ?_
      refine cr_geti (pc := 1) (c := 4) (k := 7) C (by first | rfl | assumption | (simp [cg_ok]; omega)) rfl (by decide) rfl rfl inX4_here_X4 flX4_here_122 dX4_here_1 ?_
      rw [cg_pn_7]
      refine cr_aload_n (pc := 4) C dX4_here_4 rfl ?_
      refine cr_geti (pc := 5) (c := 4) (k := 6) C (by first | rfl | assumption | (simp [cg_ok]; omega)) rfl (by decide) rfl rfl inX4_here_X4 flX4_here_119 dX4_here_5 ?_
      rw [cg_pn_6, hl]
      refine cr_icmp_ge_t (pc := 8) (tgt := 38) C dX4_here_8 (by decide) (nI_le (by omega) (by omega)) ?_
      refine cr_aload_n (pc := 38) C dX4_here_38 rfl ?_
      refine cr_geti (pc := 39) (c := 4) (k := 7) C (by first | rfl | assumption | (simp [cg_ok]; omega)) rfl (by decide) rfl rfl inX4_here_X4 flX4_here_122 dX4_here_39 ?_
      rw [cg_pn_7]
      refine cr_aload_n (pc := 42) C dX4_here_42 rfl ?_
      refine cr_geti (pc := 43) (c := 4) (k := 6) C (by first | rfl | assumption | (simp [cg_ok]; omega)) rfl (by decide) rfl rfl inX4_here_X4 flX4_here_119 dX4_here_43 ?_
      rw [cg_pn_6, hl]
      refine cr_icmp_ge_t (pc := 46) (tgt := 61) C dX4_here_46 (by decide) (nI_le (by omega) (by omega)) ?_
      refine cr_iconst (pc := 61) (v := (-1)) C dX4_here_61 (by decide) ?_
      refine cr_ireturn (pc := 62) C X dX4_here_62 ?_
      exact ⟨by unfold cg_hv; rw [if_neg (by omega)], rfl⟩
    | succ m ih =>
      intro p hp he
      have h128 := (hT.2 p (by omega)).1
      unfold cg_sk at he
      by_cases h32 : t p = 32
      · rw [if_pos h32] at he
        refine cr_aload_n (pc := 0) C dX4_here_0 rfl ?_
        refine cr_geti (pc := 1) (c := 4) (k := 7) C (by first | rfl | assumption | (simp [cg_ok]; omega)) rfl (by decide) rfl rfl inX4_here_X4 flX4_here_122 dX4_here_1 ?_
        rw [cg_pn_7]
        refine cr_aload_n (pc := 4) C dX4_here_4 rfl ?_
        refine cr_geti (pc := 5) (c := 4) (k := 6) C (by first | rfl | assumption | (simp [cg_ok]; omega)) rfl (by decide) rfl rfl inX4_here_X4 flX4_here_119 dX4_here_5 ?_
        rw [cg_pn_6, hl]
        refine cr_icmp_ge_f (pc := 8) (tgt := 38) C dX4_here_8 (by decide) (nI_ge (by omega) (by omega)) ?_
        refine cr_aload_n (pc := 11) C dX4_here_11 rfl ?_
        refine cr_getr (pc := 12) (c := 4) (k := 5) C (by first | rfl | assumption | (simp [cg_ok]; omega)) rfl (by decide) rfl inX4_here_X4 flX4_here_22 dX4_here_12 ?_
        refine cr_aload_n (pc := 15) C dX4_here_15 rfl ?_
        refine cr_geti (pc := 16) (c := 4) (k := 7) C (by first | rfl | assumption | (simp [cg_ok]; omega)) rfl (by decide) rfl rfl inX4_here_X4 flX4_here_122 dX4_here_16 ?_
        rw [cg_pn_7]
        refine cr_iaload (pc := 19) C rfl (by first | rfl | assumption | (simp [cg_ok]; omega)) (by omega) (by first | decide | omega) dX4_here_19 ?_
        rw [cg_pn_24, (hT.2 p (by omega)).2]
        refine cr_bipush (pc := 20) (v := nI 32) C dX4_here_20 (by decide) ?_
        refine cr_icmp_ne_f (pc := 22) (tgt := 38) C dX4_here_22 (by decide) (by rw [h32]) ?_
        refine cr_aload_n (pc := 25) C dX4_here_25 rfl ?_
        refine cr_dup (pc := 26) C dX4_here_26 rfl ?_
        refine cr_geti (pc := 27) (c := 4) (k := 7) C (by first | rfl | assumption | (simp [cg_ok]; omega)) rfl (by decide) rfl rfl inX4_here_X4 flX4_here_122 dX4_here_27 ?_
        rw [cg_pn_7]
        refine cr_iconst (pc := 30) (v := nI 1) C dX4_here_30 (by decide) ?_
        refine cr_iadd_n (pc := 31) C dX4_here_31 ?_
        refine cr_puti (pc := 32) (c := 4) (k := 7) C (by first | rfl | assumption | (simp [cg_ok]; omega)) rfl (by decide) rfl rfl inX4_here_X4 flX4_here_122 rfl (by first | rfl | decide) rfl dX4_here_32 ?_
        rw [cg_pn_u7]
        refine cr_goto (pc := 35) (tgt := 0) C dX4_here_35 (by decide) ?_
        exact ih (p + 1) (by omega) he
      · rw [if_neg h32] at he
        subst he
        refine cr_aload_n (pc := 0) C dX4_here_0 rfl ?_
        refine cr_geti (pc := 1) (c := 4) (k := 7) C (by first | rfl | assumption | (simp [cg_ok]; omega)) rfl (by decide) rfl rfl inX4_here_X4 flX4_here_122 dX4_here_1 ?_
        rw [cg_pn_7]
        refine cr_aload_n (pc := 4) C dX4_here_4 rfl ?_
        refine cr_geti (pc := 5) (c := 4) (k := 6) C (by first | rfl | assumption | (simp [cg_ok]; omega)) rfl (by decide) rfl rfl inX4_here_X4 flX4_here_119 dX4_here_5 ?_
        rw [cg_pn_6, hl]
        refine cr_icmp_ge_f (pc := 8) (tgt := 38) C dX4_here_8 (by decide) (nI_ge (by omega) (by omega)) ?_
        refine cr_aload_n (pc := 11) C dX4_here_11 rfl ?_
        refine cr_getr (pc := 12) (c := 4) (k := 5) C (by first | rfl | assumption | (simp [cg_ok]; omega)) rfl (by decide) rfl inX4_here_X4 flX4_here_22 dX4_here_12 ?_
        refine cr_aload_n (pc := 15) C dX4_here_15 rfl ?_
        refine cr_geti (pc := 16) (c := 4) (k := 7) C (by first | rfl | assumption | (simp [cg_ok]; omega)) rfl (by decide) rfl rfl inX4_here_X4 flX4_here_122 dX4_here_16 ?_
        rw [cg_pn_7]
        refine cr_iaload (pc := 19) C rfl (by first | rfl | assumption | (simp [cg_ok]; omega)) (by omega) (by first | decide | omega) dX4_here_19 ?_
        rw [cg_pn_24, (hT.2 p (by omega)).2]
        refine cr_bipush (pc := 20) (v := nI 32) C dX4_here_20 (by decide) ?_
        refine cr_icmp_ne_t (pc := 22) (tgt := 38) C dX4_here_22 (by decide) (fun q => h32 ((nI_eq (by omega) (by omega)).mp q)) ?_
        refine cr_aload_n (pc := 38) C dX4_here_38 rfl ?_
        refine cr_geti (pc := 39) (c := 4) (k := 7) C (by first | rfl | assumption | (simp [cg_ok]; omega)) rfl (by decide) rfl rfl inX4_here_X4 flX4_here_122 dX4_here_39 ?_
        rw [cg_pn_7]
        refine cr_aload_n (pc := 42) C dX4_here_42 rfl ?_
        refine cr_geti (pc := 43) (c := 4) (k := 6) C (by first | rfl | assumption | (simp [cg_ok]; omega)) rfl (by decide) rfl rfl inX4_here_X4 flX4_here_119 dX4_here_43 ?_
        rw [cg_pn_6, hl]
        refine cr_icmp_ge_f (pc := 46) (tgt := 61) C dX4_here_46 (by decide) (nI_ge (by omega) (by omega)) ?_
        refine cr_aload_n (pc := 49) C dX4_here_49 rfl ?_
        refine cr_getr (pc := 50) (c := 4) (k := 5) C (by first | rfl | assumption | (simp [cg_ok]; omega)) rfl (by decide) rfl inX4_here_X4 flX4_here_22 dX4_here_50 ?_
        refine cr_aload_n (pc := 53) C dX4_here_53 rfl ?_
        refine cr_geti (pc := 54) (c := 4) (k := 7) C (by first | rfl | assumption | (simp [cg_ok]; omega)) rfl (by decide) rfl rfl inX4_here_X4 flX4_here_122 dX4_here_54 ?_
        rw [cg_pn_7]
        refine cr_iaload (pc := 57) C rfl (by first | rfl | assumption | (simp [cg_ok]; omega)) (by omega) (by first | decide | omega) dX4_here_57 ?_
        rw [cg_pn_24, (hT.2 p (by omega)).2]
        refine cr_goto (pc := 58) (tgt := 62) C dX4_here_58 (by decide) ?_
        refine cr_ireturn (pc := 62) C X dX4_here_62 ?_
        exact ⟨by unfold cg_hv; rw [if_pos (by omega)], rfl⟩
  exact loop (L - p) p (by omega) he
theorem cg_dg64 {v : Nat} (hv : v < 128) : ((48 : Int64) ≤ (nI v).toInt64 ∧ (nI v).toInt64 ≤ 57) ↔ (48 ≤ v ∧ v ≤ 57) := by
  rw [nI_l (by omega), show (48 : Int64) = lN 48 from rfl, show (57 : Int64) = lN 57 from rfl, lN_le (by omega) (by omega), lN_le (by omega) (by omega)]
theorem cg_m1_64 : ¬ ((48 : Int64) ≤ (-1 : Int32).toInt64 ∧ (-1 : Int32).toInt64 ≤ 57) := by decide
set_option maxRecDepth 100000 in
set_option maxHeartbeats 4000000 in
theorem sm_isD1 {M : cg_M} {cm : Int32} {Nu : Nat → Int32} {t : Nat → Nat} {L : Nat} (hl : M 26 6 = nI L) (hT : cg_tx0 (M 24) t L) {p : Nat} (h : cg_dg t L p = true) : cg_D yX4_isDigit wsX4_isDigit rmX4_isDigit [.inr (.inr (4, 0, 0, 0))] (cg_pn M p cm Nu) (some (.inl (nI 1))) ((cg_pn M p cm Nu)) := by
  have hd := of_decide_eq_true h
  have hL100 := hT.1
  have h64 := (cg_dg64 (hT.2 p hd.1).1).mpr hd.2
  refine cg_S_of (cc := cX4_isDigit) (maxL := 1) (ret := (some .boolean)) (ls0 := [some (.inr (.inr (4, 0, 0, 0)))]) RX4 rfl (by decide) rfl rfl (Nat.le_of_ble_eq_true rfl) (fun E C X => ?_)
  refine cr_aload_n (pc := 0) C dX4_isDigit_0 rfl ?_
  refine cr_geti (pc := 1) (c := 4) (k := 7) C (by first | rfl | assumption | (simp [cg_ok]; omega)) rfl (by decide) rfl rfl inX4_isDigit_X4 flX4_isDigit_122 dX4_isDigit_1 ?_
  rw [cg_pn_7]
  refine cr_aload_n (pc := 4) C dX4_isDigit_4 rfl ?_
  refine cr_geti (pc := 5) (c := 4) (k := 6) C (by first | rfl | assumption | (simp [cg_ok]; omega)) rfl (by decide) rfl rfl inX4_isDigit_X4 flX4_isDigit_119 dX4_isDigit_5 ?_
  rw [cg_pn_6, hl]
  refine cr_icmp_ge_f (pc := 8) (tgt := 37) C dX4_isDigit_8 (by decide) (nI_ge hd.1 (by omega)) ?_
  refine cr_aload_n (pc := 11) C dX4_isDigit_11 rfl ?_
  refine cr_getr (pc := 12) (c := 4) (k := 5) C (by first | rfl | assumption | (simp [cg_ok]; omega)) rfl (by decide) rfl inX4_isDigit_X4 flX4_isDigit_22 dX4_isDigit_12 ?_
  refine cr_aload_n (pc := 15) C dX4_isDigit_15 rfl ?_
  refine cr_geti (pc := 16) (c := 4) (k := 7) C (by first | rfl | assumption | (simp [cg_ok]; omega)) rfl (by decide) rfl rfl inX4_isDigit_X4 flX4_isDigit_122 dX4_isDigit_16 ?_
  rw [cg_pn_7]
  refine cr_iaload (pc := 19) C rfl (by first | rfl | assumption | (simp [cg_ok]; omega)) (by omega) (by first | decide | omega) dX4_isDigit_19 ?_
  rw [cg_pn_24, (hT.2 p (by omega)).2]
  refine cr_i2l (pc := 20) C dX4_isDigit_20 ?_
  refine cr_ldc2 (pc := 21) C dX4_isDigit_21 klX4_isDigit_125 ?_
  refine cr_ldc2 (pc := 24) C dX4_isDigit_24 klX4_isDigit_127 ?_
  refine cr_dS (pc := 27) C (sm_in1 h64.1 h64.2) rfl gX4_isDigit_X4_in rfl dX4_isDigit_27 hsX4_in rfl ⟨rfl, rfl, Nat.le_of_ble_eq_true rfl, Nat.le_of_ble_eq_true rfl⟩ (Nat.le_of_ble_eq_true rfl) rfl ?_
  refine cr_if_eq_f (pc := 30) (tgt := 37) C dX4_isDigit_30 (by decide) (by decide) ?_
  refine cr_iconst (pc := 33) (v := nI 1) C dX4_isDigit_33 (by decide) ?_
  refine cr_goto (pc := 34) (tgt := 38) C dX4_isDigit_34 (by decide) ?_
  refine cr_zreturn (pc := 38) C X dX4_isDigit_38 (by first | exact Or.inr rfl | exact Or.inl rfl | assumption) ?_
  exact ⟨rfl, rfl⟩
set_option maxRecDepth 100000 in
set_option maxHeartbeats 4000000 in
theorem sm_isD0 {M : cg_M} {cm : Int32} {Nu : Nat → Int32} {t : Nat → Nat} {L : Nat} (hl : M 26 6 = nI L) (hT : cg_tx0 (M 24) t L) {p : Nat} (hp : p ≤ L) (h : cg_dg t L p = false) : cg_D yX4_isDigit wsX4_isDigit rmX4_isDigit [.inr (.inr (4, 0, 0, 0))] (cg_pn M p cm Nu) (some (.inl (nI 0))) ((cg_pn M p cm Nu)) := by
  have hd := of_decide_eq_false h
  have hL100 := hT.1
  rcases Nat.lt_or_ge p L with hlt | hge
  · refine cg_S_of (cc := cX4_isDigit) (maxL := 1) (ret := (some .boolean)) (ls0 := [some (.inr (.inr (4, 0, 0, 0)))]) RX4 rfl (by decide) rfl rfl (Nat.le_of_ble_eq_true rfl) (fun E C X => ?_)
    refine cr_aload_n (pc := 0) C dX4_isDigit_0 rfl ?_
    refine cr_geti (pc := 1) (c := 4) (k := 7) C (by first | rfl | assumption | (simp [cg_ok]; omega)) rfl (by decide) rfl rfl inX4_isDigit_X4 flX4_isDigit_122 dX4_isDigit_1 ?_
    rw [cg_pn_7]
    refine cr_aload_n (pc := 4) C dX4_isDigit_4 rfl ?_
    refine cr_geti (pc := 5) (c := 4) (k := 6) C (by first | rfl | assumption | (simp [cg_ok]; omega)) rfl (by decide) rfl rfl inX4_isDigit_X4 flX4_isDigit_119 dX4_isDigit_5 ?_
    rw [cg_pn_6, hl]
    refine cr_icmp_ge_f (pc := 8) (tgt := 37) C dX4_isDigit_8 (by decide) (nI_ge hlt (by omega)) ?_
    refine cr_aload_n (pc := 11) C dX4_isDigit_11 rfl ?_
    refine cr_getr (pc := 12) (c := 4) (k := 5) C (by first | rfl | assumption | (simp [cg_ok]; omega)) rfl (by decide) rfl inX4_isDigit_X4 flX4_isDigit_22 dX4_isDigit_12 ?_
    refine cr_aload_n (pc := 15) C dX4_isDigit_15 rfl ?_
    refine cr_geti (pc := 16) (c := 4) (k := 7) C (by first | rfl | assumption | (simp [cg_ok]; omega)) rfl (by decide) rfl rfl inX4_isDigit_X4 flX4_isDigit_122 dX4_isDigit_16 ?_
    rw [cg_pn_7]
    refine cr_iaload (pc := 19) C rfl (by first | rfl | assumption | (simp [cg_ok]; omega)) (by omega) (by first | decide | omega) dX4_isDigit_19 ?_
    rw [cg_pn_24, (hT.2 p (by omega)).2]
    refine cr_i2l (pc := 20) C dX4_isDigit_20 ?_
    refine cr_ldc2 (pc := 21) C dX4_isDigit_21 klX4_isDigit_125 ?_
    refine cr_ldc2 (pc := 24) C dX4_isDigit_24 klX4_isDigit_127 ?_
    refine cr_dS (pc := 27) C (sm_in0 (fun q => hd ⟨hlt, (cg_dg64 (hT.2 p hlt).1).mp q⟩)) rfl gX4_isDigit_X4_in rfl dX4_isDigit_27 hsX4_in rfl ⟨rfl, rfl, Nat.le_of_ble_eq_true rfl, Nat.le_of_ble_eq_true rfl⟩ (Nat.le_of_ble_eq_true rfl) rfl ?_
    refine cr_if_eq_t (pc := 30) (tgt := 37) C dX4_isDigit_30 (by decide) (by decide) ?_
    refine cr_iconst (pc := 37) (v := nI 0) C dX4_isDigit_37 (by decide) ?_
    refine cr_zreturn (pc := 38) C X dX4_isDigit_38 (by first | exact Or.inr rfl | exact Or.inl rfl | assumption) ?_
    exact ⟨rfl, rfl⟩
  · refine cg_S_of (cc := cX4_isDigit) (maxL := 1) (ret := (some .boolean)) (ls0 := [some (.inr (.inr (4, 0, 0, 0)))]) RX4 rfl (by decide) rfl rfl (Nat.le_of_ble_eq_true rfl) (fun E C X => ?_)
    refine cr_aload_n (pc := 0) C dX4_isDigit_0 rfl ?_
    refine cr_geti (pc := 1) (c := 4) (k := 7) C (by first | rfl | assumption | (simp [cg_ok]; omega)) rfl (by decide) rfl rfl inX4_isDigit_X4 flX4_isDigit_122 dX4_isDigit_1 ?_
    rw [cg_pn_7]
    refine cr_aload_n (pc := 4) C dX4_isDigit_4 rfl ?_
    refine cr_geti (pc := 5) (c := 4) (k := 6) C (by first | rfl | assumption | (simp [cg_ok]; omega)) rfl (by decide) rfl rfl inX4_isDigit_X4 flX4_isDigit_119 dX4_isDigit_5 ?_
    rw [cg_pn_6, hl]
    refine cr_icmp_ge_t (pc := 8) (tgt := 37) C dX4_isDigit_8 (by decide) (nI_le hge (by omega)) ?_
    refine cr_iconst (pc := 37) (v := nI 0) C dX4_isDigit_37 (by decide) ?_
    refine cr_zreturn (pc := 38) C X dX4_isDigit_38 (by first | exact Or.inr rfl | exact Or.inl rfl | assumption) ?_
    exact ⟨rfl, rfl⟩
set_option maxRecDepth 100000 in
set_option maxHeartbeats 4000000 in
theorem sm_nO1 {M : cg_M} {v : Nat} (h : cg_na v ≠ 0) : cg_D yX4_numbersOf wsX4_numbersOf rmX4_numbersOf [.inl (nI v)] M (some (.inl (nI (cg_na v)))) (M) := by
  rcases (show v = 102 ∨ v = 103 ∨ v = 115 ∨ v = 114 ∨ v = 119 by unfold cg_na at h; (repeat' split at h) <;> omega) with rfl | rfl | rfl | rfl | rfl
  · refine cg_S_of (cc := cX4_numbersOf) (maxL := 1) (ret := (some .int)) (ls0 := [some (.inl (nI 102))]) RX4 rfl (by decide) rfl rfl (Nat.le_of_ble_eq_true rfl) (fun E C X => ?_)
    refine cr_iload_n (pc := 0) C dX4_numbersOf_0 rfl ?_
    refine cr_bipush (pc := 1) (v := nI 102) C dX4_numbersOf_1 (by decide) ?_
    refine cr_icmp_ne_f (pc := 3) (tgt := 10) C dX4_numbersOf_3 (by decide) (by decide) ?_
    refine cr_iconst (pc := 6) (v := nI 1) C dX4_numbersOf_6 (by decide) ?_
    refine cr_goto (pc := 7) (tgt := 47) C dX4_numbersOf_7 (by decide) ?_
    refine cr_ireturn (pc := 47) C X dX4_numbersOf_47 ?_
    exact ⟨rfl, rfl⟩
  · refine cg_S_of (cc := cX4_numbersOf) (maxL := 1) (ret := (some .int)) (ls0 := [some (.inl (nI 103))]) RX4 rfl (by decide) rfl rfl (Nat.le_of_ble_eq_true rfl) (fun E C X => ?_)
    refine cr_iload_n (pc := 0) C dX4_numbersOf_0 rfl ?_
    refine cr_bipush (pc := 1) (v := nI 102) C dX4_numbersOf_1 (by decide) ?_
    refine cr_icmp_ne_t (pc := 3) (tgt := 10) C dX4_numbersOf_3 (by decide) (by decide) ?_
    refine cr_iload_n (pc := 10) C dX4_numbersOf_10 rfl ?_
    refine cr_bipush (pc := 11) (v := nI 103) C dX4_numbersOf_11 (by decide) ?_
    refine cr_icmp_eq_t (pc := 13) (tgt := 22) C dX4_numbersOf_13 (by decide) (by decide) ?_
    refine cr_iconst (pc := 22) (v := nI 2) C dX4_numbersOf_22 (by decide) ?_
    refine cr_goto (pc := 23) (tgt := 47) C dX4_numbersOf_23 (by decide) ?_
    refine cr_ireturn (pc := 47) C X dX4_numbersOf_47 ?_
    exact ⟨rfl, rfl⟩
  · refine cg_S_of (cc := cX4_numbersOf) (maxL := 1) (ret := (some .int)) (ls0 := [some (.inl (nI 115))]) RX4 rfl (by decide) rfl rfl (Nat.le_of_ble_eq_true rfl) (fun E C X => ?_)
    refine cr_iload_n (pc := 0) C dX4_numbersOf_0 rfl ?_
    refine cr_bipush (pc := 1) (v := nI 102) C dX4_numbersOf_1 (by decide) ?_
    refine cr_icmp_ne_t (pc := 3) (tgt := 10) C dX4_numbersOf_3 (by decide) (by decide) ?_
    refine cr_iload_n (pc := 10) C dX4_numbersOf_10 rfl ?_
    refine cr_bipush (pc := 11) (v := nI 103) C dX4_numbersOf_11 (by decide) ?_
    refine cr_icmp_eq_f (pc := 13) (tgt := 22) C dX4_numbersOf_13 (by decide) (by decide) ?_
    refine cr_iload_n (pc := 16) C dX4_numbersOf_16 rfl ?_
    refine cr_bipush (pc := 17) (v := nI 115) C dX4_numbersOf_17 (by decide) ?_
    refine cr_icmp_ne_f (pc := 19) (tgt := 26) C dX4_numbersOf_19 (by decide) (by decide) ?_
    refine cr_iconst (pc := 22) (v := nI 2) C dX4_numbersOf_22 (by decide) ?_
    refine cr_goto (pc := 23) (tgt := 47) C dX4_numbersOf_23 (by decide) ?_
    refine cr_ireturn (pc := 47) C X dX4_numbersOf_47 ?_
    exact ⟨rfl, rfl⟩
  · refine cg_S_of (cc := cX4_numbersOf) (maxL := 1) (ret := (some .int)) (ls0 := [some (.inl (nI 114))]) RX4 rfl (by decide) rfl rfl (Nat.le_of_ble_eq_true rfl) (fun E C X => ?_)
    refine cr_iload_n (pc := 0) C dX4_numbersOf_0 rfl ?_
    refine cr_bipush (pc := 1) (v := nI 102) C dX4_numbersOf_1 (by decide) ?_
    refine cr_icmp_ne_t (pc := 3) (tgt := 10) C dX4_numbersOf_3 (by decide) (by decide) ?_
    refine cr_iload_n (pc := 10) C dX4_numbersOf_10 rfl ?_
    refine cr_bipush (pc := 11) (v := nI 103) C dX4_numbersOf_11 (by decide) ?_
    refine cr_icmp_eq_f (pc := 13) (tgt := 22) C dX4_numbersOf_13 (by decide) (by decide) ?_
    refine cr_iload_n (pc := 16) C dX4_numbersOf_16 rfl ?_
    refine cr_bipush (pc := 17) (v := nI 115) C dX4_numbersOf_17 (by decide) ?_
    refine cr_icmp_ne_t (pc := 19) (tgt := 26) C dX4_numbersOf_19 (by decide) (by decide) ?_
    refine cr_iload_n (pc := 26) C dX4_numbersOf_26 rfl ?_
    refine cr_bipush (pc := 27) (v := nI 114) C dX4_numbersOf_27 (by decide) ?_
    refine cr_icmp_ne_f (pc := 29) (tgt := 36) C dX4_numbersOf_29 (by decide) (by decide) ?_
    refine cr_iconst (pc := 32) (v := nI 3) C dX4_numbersOf_32 (by decide) ?_
    refine cr_goto (pc := 33) (tgt := 47) C dX4_numbersOf_33 (by decide) ?_
    refine cr_ireturn (pc := 47) C X dX4_numbersOf_47 ?_
    exact ⟨rfl, rfl⟩
  · refine cg_S_of (cc := cX4_numbersOf) (maxL := 1) (ret := (some .int)) (ls0 := [some (.inl (nI 119))]) RX4 rfl (by decide) rfl rfl (Nat.le_of_ble_eq_true rfl) (fun E C X => ?_)
    refine cr_iload_n (pc := 0) C dX4_numbersOf_0 rfl ?_
    refine cr_bipush (pc := 1) (v := nI 102) C dX4_numbersOf_1 (by decide) ?_
    refine cr_icmp_ne_t (pc := 3) (tgt := 10) C dX4_numbersOf_3 (by decide) (by decide) ?_
    refine cr_iload_n (pc := 10) C dX4_numbersOf_10 rfl ?_
    refine cr_bipush (pc := 11) (v := nI 103) C dX4_numbersOf_11 (by decide) ?_
    refine cr_icmp_eq_f (pc := 13) (tgt := 22) C dX4_numbersOf_13 (by decide) (by decide) ?_
    refine cr_iload_n (pc := 16) C dX4_numbersOf_16 rfl ?_
    refine cr_bipush (pc := 17) (v := nI 115) C dX4_numbersOf_17 (by decide) ?_
    refine cr_icmp_ne_t (pc := 19) (tgt := 26) C dX4_numbersOf_19 (by decide) (by decide) ?_
    refine cr_iload_n (pc := 26) C dX4_numbersOf_26 rfl ?_
    refine cr_bipush (pc := 27) (v := nI 114) C dX4_numbersOf_27 (by decide) ?_
    refine cr_icmp_ne_t (pc := 29) (tgt := 36) C dX4_numbersOf_29 (by decide) (by decide) ?_
    refine cr_iload_n (pc := 36) C dX4_numbersOf_36 rfl ?_
    refine cr_bipush (pc := 37) (v := nI 119) C dX4_numbersOf_37 (by decide) ?_
    refine cr_icmp_ne_f (pc := 39) (tgt := 46) C dX4_numbersOf_39 (by decide) (by decide) ?_
    refine cr_iconst (pc := 42) (v := nI 4) C dX4_numbersOf_42 (by decide) ?_
    refine cr_goto (pc := 43) (tgt := 47) C dX4_numbersOf_43 (by decide) ?_
    refine cr_ireturn (pc := 47) C X dX4_numbersOf_47 ?_
    exact ⟨rfl, rfl⟩
set_option maxRecDepth 100000 in
set_option maxHeartbeats 4000000 in
theorem sm_nO0 {M : cg_M} {v : Nat} (hv : v < 128) (h : cg_na v = 0) : cg_D yX4_numbersOf wsX4_numbersOf rmX4_numbersOf [.inl (nI v)] M (some (.inl (-1))) (M) := by
  have hz : ¬ v = 102 ∧ ¬ v = 103 ∧ ¬ v = 115 ∧ ¬ v = 114 ∧ ¬ v = 119 := by unfold cg_na at h; (repeat' split at h) <;> omega
  refine cg_S_of (cc := cX4_numbersOf) (maxL := 1) (ret := (some .int)) (ls0 := [some (.inl (nI v))]) RX4 rfl (by decide) rfl rfl (Nat.le_of_ble_eq_true rfl) (fun E C X => ?_)
  refine cr_iload_n (pc := 0) C dX4_numbersOf_0 rfl ?_
  refine cr_bipush (pc := 1) (v := nI 102) C dX4_numbersOf_1 (by decide) ?_
  refine cr_icmp_ne_t (pc := 3) (tgt := 10) C dX4_numbersOf_3 (by decide) (fun q => hz.1 ((nI_eq (by omega) (by omega)).mp q)) ?_
  refine cr_iload_n (pc := 10) C dX4_numbersOf_10 rfl ?_
  refine cr_bipush (pc := 11) (v := nI 103) C dX4_numbersOf_11 (by decide) ?_
  refine cr_icmp_eq_f (pc := 13) (tgt := 22) C dX4_numbersOf_13 (by decide) (fun q => hz.2.1 ((nI_eq (by omega) (by omega)).mp q)) ?_
  refine cr_iload_n (pc := 16) C dX4_numbersOf_16 rfl ?_
  refine cr_bipush (pc := 17) (v := nI 115) C dX4_numbersOf_17 (by decide) ?_
  refine cr_icmp_ne_t (pc := 19) (tgt := 26) C dX4_numbersOf_19 (by decide) (fun q => hz.2.2.1 ((nI_eq (by omega) (by omega)).mp q)) ?_
  refine cr_iload_n (pc := 26) C dX4_numbersOf_26 rfl ?_
  refine cr_bipush (pc := 27) (v := nI 114) C dX4_numbersOf_27 (by decide) ?_
  refine cr_icmp_ne_t (pc := 29) (tgt := 36) C dX4_numbersOf_29 (by decide) (fun q => hz.2.2.2.1 ((nI_eq (by omega) (by omega)).mp q)) ?_
  refine cr_iload_n (pc := 36) C dX4_numbersOf_36 rfl ?_
  refine cr_bipush (pc := 37) (v := nI 119) C dX4_numbersOf_37 (by decide) ?_
  refine cr_icmp_ne_t (pc := 39) (tgt := 46) C dX4_numbersOf_39 (by decide) (fun q => hz.2.2.2.2 ((nI_eq (by omega) (by omega)).mp q)) ?_
  refine cr_iconst (pc := 46) (v := (-1)) C dX4_numbersOf_46 (by decide) ?_
  refine cr_ireturn (pc := 47) C X dX4_numbersOf_47 ?_
  exact ⟨rfl, rfl⟩
set_option maxRecDepth 100000 in
set_option maxHeartbeats 4000000 in
theorem sm_nOm {M : cg_M} : cg_D yX4_numbersOf wsX4_numbersOf rmX4_numbersOf [.inl (-1)] M (some (.inl (-1))) (M) := by
  refine cg_S_of (cc := cX4_numbersOf) (maxL := 1) (ret := (some .int)) (ls0 := [some (.inl (-1))]) RX4 rfl (by decide) rfl rfl (Nat.le_of_ble_eq_true rfl) (fun E C X => ?_)
  refine cr_iload_n (pc := 0) C dX4_numbersOf_0 rfl ?_
  refine cr_bipush (pc := 1) (v := nI 102) C dX4_numbersOf_1 (by decide) ?_
  refine cr_icmp_ne_t (pc := 3) (tgt := 10) C dX4_numbersOf_3 (by decide) (by decide) ?_
  refine cr_iload_n (pc := 10) C dX4_numbersOf_10 rfl ?_
  refine cr_bipush (pc := 11) (v := nI 103) C dX4_numbersOf_11 (by decide) ?_
  refine cr_icmp_eq_f (pc := 13) (tgt := 22) C dX4_numbersOf_13 (by decide) (by decide) ?_
  refine cr_iload_n (pc := 16) C dX4_numbersOf_16 rfl ?_
  refine cr_bipush (pc := 17) (v := nI 115) C dX4_numbersOf_17 (by decide) ?_
  refine cr_icmp_ne_t (pc := 19) (tgt := 26) C dX4_numbersOf_19 (by decide) (by decide) ?_
  refine cr_iload_n (pc := 26) C dX4_numbersOf_26 rfl ?_
  refine cr_bipush (pc := 27) (v := nI 114) C dX4_numbersOf_27 (by decide) ?_
  refine cr_icmp_ne_t (pc := 29) (tgt := 36) C dX4_numbersOf_29 (by decide) (by decide) ?_
  refine cr_iload_n (pc := 36) C dX4_numbersOf_36 rfl ?_
  refine cr_bipush (pc := 37) (v := nI 119) C dX4_numbersOf_37 (by decide) ?_
  refine cr_icmp_ne_t (pc := 39) (tgt := 46) C dX4_numbersOf_39 (by decide) (by decide) ?_
  refine cr_iconst (pc := 46) (v := (-1)) C dX4_numbersOf_46 (by decide) ?_
  refine cr_ireturn (pc := 47) C X dX4_numbersOf_47 ?_
  exact ⟨rfl, rfl⟩
set_option maxRecDepth 100000 in
set_option maxHeartbeats 4000000 in
theorem sm_tn0 {M : cg_M} {cm : Int32} {Nu : Nat → Int32} {t : Nat → Nat} {L : Nat} (hl : M 26 6 = nI L) (hT : cg_tx0 (M 24) t L) {p k e : Nat} (hk : k < 4) (hp : p ≤ L) (he : cg_sk t (L - p) p = e) (heL : e ≤ L) (h0 : cg_dg t L e = false) : cg_D yX4_takesNumber wsX4_takesNumber rmX4_takesNumber [.inr (.inr (4, 0, 0, 0)), .inl (nI k)] (cg_pn M p cm Nu) (some (.inl (nI 0))) ((cg_pn M e cm Nu)) := by
  have hd := of_decide_eq_false h0
  rcases Nat.lt_or_ge e L with hlt | hge
  · refine cg_S_of (cc := cX4_takesNumber) (maxL := 4) (ret := (some .boolean)) (ls0 := [some (.inr (.inr (4, 0, 0, 0))), some (.inl (nI k)), none, none]) RX4 rfl (by decide) rfl rfl (Nat.le_of_ble_eq_true rfl) (fun E C X => ?_)
    refine cr_aload_n (pc := 0) C dX4_takesNumber_0 rfl ?_
    refine cr_dV (pc := 1) C (sm_here hl hT hp he) rfl gX4_takesNumber_X4_here rfl dX4_takesNumber_1 (by first | rfl | assumption | (simp [cg_ok]; omega)) rfl hvX4_here rfl ⟨rfl, rfl, Nat.le_of_ble_eq_true rfl, Nat.le_of_ble_eq_true rfl⟩ (Nat.le_of_ble_eq_true rfl) rfl ?_
    refine cr_istore_n2 (pc := 4) C dX4_takesNumber_4 (by decide) rfl ?_
    rw [show cg_hv t L e = nI (t e) by unfold cg_hv; rw [if_pos hlt]]
    refine cr_iload_n (pc := 5) C dX4_takesNumber_5 rfl ?_
    refine cr_i2l (pc := 6) C dX4_takesNumber_6 ?_
    refine cr_ldc2 (pc := 7) C dX4_takesNumber_7 klX4_takesNumber_125 ?_
    refine cr_ldc2 (pc := 10) C dX4_takesNumber_10 klX4_takesNumber_127 ?_
    refine cr_dS (pc := 13) C (sm_in0 (fun q => hd ⟨hlt, (cg_dg64 (hT.2 e hlt).1).mp q⟩)) rfl gX4_takesNumber_X4_in rfl dX4_takesNumber_13 hsX4_in rfl ⟨rfl, rfl, Nat.le_of_ble_eq_true rfl, Nat.le_of_ble_eq_true rfl⟩ (Nat.le_of_ble_eq_true rfl) rfl ?_
    refine cr_if_ne_f (pc := 16) (tgt := 21) C dX4_takesNumber_16 (by decide) (by decide) ?_
    refine cr_iconst (pc := 19) (v := nI 0) C dX4_takesNumber_19 (by decide) ?_
    refine cr_zreturn (pc := 20) C X dX4_takesNumber_20 (by first | exact Or.inr rfl | exact Or.inl rfl | assumption) ?_
    exact ⟨rfl, rfl⟩
  · refine cg_S_of (cc := cX4_takesNumber) (maxL := 4) (ret := (some .boolean)) (ls0 := [some (.inr (.inr (4, 0, 0, 0))), some (.inl (nI k)), none, none]) RX4 rfl (by decide) rfl rfl (Nat.le_of_ble_eq_true rfl) (fun E C X => ?_)
    refine cr_aload_n (pc := 0) C dX4_takesNumber_0 rfl ?_
    refine cr_dV (pc := 1) C (sm_here hl hT hp he) rfl gX4_takesNumber_X4_here rfl dX4_takesNumber_1 (by first | rfl | assumption | (simp [cg_ok]; omega)) rfl hvX4_here rfl ⟨rfl, rfl, Nat.le_of_ble_eq_true rfl, Nat.le_of_ble_eq_true rfl⟩ (Nat.le_of_ble_eq_true rfl) rfl ?_
    refine cr_istore_n2 (pc := 4) C dX4_takesNumber_4 (by decide) rfl ?_
    rw [show cg_hv t L e = -1 by unfold cg_hv; rw [if_neg (by omega)]]
    refine cr_iload_n (pc := 5) C dX4_takesNumber_5 rfl ?_
    refine cr_i2l (pc := 6) C dX4_takesNumber_6 ?_
    refine cr_ldc2 (pc := 7) C dX4_takesNumber_7 klX4_takesNumber_125 ?_
    refine cr_ldc2 (pc := 10) C dX4_takesNumber_10 klX4_takesNumber_127 ?_
    refine cr_dS (pc := 13) C (sm_in0 cg_m1_64) rfl gX4_takesNumber_X4_in rfl dX4_takesNumber_13 hsX4_in rfl ⟨rfl, rfl, Nat.le_of_ble_eq_true rfl, Nat.le_of_ble_eq_true rfl⟩ (Nat.le_of_ble_eq_true rfl) rfl ?_
    refine cr_if_ne_f (pc := 16) (tgt := 21) C dX4_takesNumber_16 (by decide) (by decide) ?_
    refine cr_iconst (pc := 19) (v := nI 0) C dX4_takesNumber_19 (by decide) ?_
    refine cr_zreturn (pc := 20) C X dX4_takesNumber_20 (by first | exact Or.inr rfl | exact Or.inl rfl | assumption) ?_
    exact ⟨rfl, rfl⟩
set_option maxRecDepth 100000 in
set_option maxHeartbeats 4000000 in
theorem sm_tn1 {M : cg_M} {cm : Int32} {Nu : Nat → Int32} {t : Nat → Nat} {L : Nat} (hl : M 26 6 = nI L) (hT : cg_tx0 (M 24) t L) {p k e : Nat} (hk : k < 4) (hp : p ≤ L) (he : cg_sk t (L - p) p = e) (heL : e ≤ L) (h0 : cg_dg t L e = true) (h1 : cg_dg t L (e + 1) = false) : cg_D yX4_takesNumber wsX4_takesNumber rmX4_takesNumber [.inr (.inr (4, 0, 0, 0)), .inl (nI k)] (cg_pn M p cm Nu) (some (.inl (nI 1))) (cg_pn M (e + 1) cm (upd Nu k (nI (t e - 48)))) := by
  have d0 := of_decide_eq_true h0
  have hL100 := hT.1
  refine cg_S_of (cc := cX4_takesNumber) (maxL := 4) (ret := (some .boolean)) (ls0 := [some (.inr (.inr (4, 0, 0, 0))), some (.inl (nI k)), none, none]) RX4 rfl (by decide) rfl rfl (Nat.le_of_ble_eq_true rfl) (fun E C X => ?_)
  refine cr_aload_n (pc := 0) C dX4_takesNumber_0 rfl ?_
  refine cr_dV (pc := 1) C (sm_here hl hT hp he) rfl gX4_takesNumber_X4_here rfl dX4_takesNumber_1 (by first | rfl | assumption | (simp [cg_ok]; omega)) rfl hvX4_here rfl ⟨rfl, rfl, Nat.le_of_ble_eq_true rfl, Nat.le_of_ble_eq_true rfl⟩ (Nat.le_of_ble_eq_true rfl) rfl ?_
  refine cr_istore_n2 (pc := 4) C dX4_takesNumber_4 (by decide) rfl ?_
  rw [show cg_hv t L e = nI (t e) by unfold cg_hv; rw [if_pos d0.1]]
  refine cr_iload_n (pc := 5) C dX4_takesNumber_5 rfl ?_
  refine cr_i2l (pc := 6) C dX4_takesNumber_6 ?_
  refine cr_ldc2 (pc := 7) C dX4_takesNumber_7 klX4_takesNumber_125 ?_
  refine cr_ldc2 (pc := 10) C dX4_takesNumber_10 klX4_takesNumber_127 ?_
  refine cr_dS (pc := 13) C (sm_in1 ((cg_dg64 (hT.2 e d0.1).1).mpr d0.2).1 ((cg_dg64 (hT.2 e d0.1).1).mpr d0.2).2) rfl gX4_takesNumber_X4_in rfl dX4_takesNumber_13 hsX4_in rfl ⟨rfl, rfl, Nat.le_of_ble_eq_true rfl, Nat.le_of_ble_eq_true rfl⟩ (Nat.le_of_ble_eq_true rfl) rfl ?_
  refine cr_if_ne_t (pc := 16) (tgt := 21) C dX4_takesNumber_16 (by decide) (by decide) ?_
  refine cr_aload_n (pc := 21) C dX4_takesNumber_21 rfl ?_
  refine cr_getr (pc := 22) (c := 4) (k := 8) C (by first | rfl | assumption | (simp [cg_ok]; omega)) rfl (by decide) rfl inX4_takesNumber_X4 flX4_takesNumber_25 dX4_takesNumber_22 ?_
  refine cr_iload_n (pc := 25) C dX4_takesNumber_25 rfl ?_
  refine cr_iconst (pc := 26) (v := nI 0) C dX4_takesNumber_26 (by decide) ?_
  refine cr_iastore (pc := 27) C rfl (by first | rfl | assumption | (simp [cg_ok]; omega)) (by omega) (by first | decide | omega) dX4_takesNumber_27 ?_
  rw [cg_pn_u25]
  refine cr_iconst (pc := 28) (v := nI 0) C dX4_takesNumber_28 (by decide) ?_
  refine cr_istore_n3 (pc := 29) C dX4_takesNumber_29 (by decide) rfl ?_
  refine cr_iload_n (pc := 30) C dX4_takesNumber_30 rfl ?_
  refine cr_iconst (pc := 31) (v := nI 2) C dX4_takesNumber_31 (by decide) ?_
  refine cr_icmp_ge_f (pc := 32) (tgt := 86) C dX4_takesNumber_32 (by decide) (by decide) ?_
  refine cr_aload_n (pc := 35) C dX4_takesNumber_35 rfl ?_
  refine cr_dV (pc := 36) C (sm_isD1 hl hT h0) rfl gX4_takesNumber_X4_isDigit rfl dX4_takesNumber_36 (by first | rfl | assumption | (simp [cg_ok]; omega)) rfl hvX4_isDigit rfl ⟨rfl, rfl, Nat.le_of_ble_eq_true rfl, Nat.le_of_ble_eq_true rfl⟩ (Nat.le_of_ble_eq_true rfl) rfl ?_
  refine cr_if_eq_f (pc := 39) (tgt := 86) C dX4_takesNumber_39 (by decide) (by decide) ?_
  refine cr_aload_n (pc := 42) C dX4_takesNumber_42 rfl ?_
  refine cr_getr (pc := 43) (c := 4) (k := 8) C (by first | rfl | assumption | (simp [cg_ok]; omega)) rfl (by decide) rfl inX4_takesNumber_X4 flX4_takesNumber_25 dX4_takesNumber_43 ?_
  refine cr_iload_n (pc := 46) C dX4_takesNumber_46 rfl ?_
  refine cr_bipush (pc := 47) (v := nI 10) C dX4_takesNumber_47 (by decide) ?_
  refine cr_aload_n (pc := 49) C dX4_takesNumber_49 rfl ?_
  refine cr_getr (pc := 50) (c := 4) (k := 8) C (by first | rfl | assumption | (simp [cg_ok]; omega)) rfl (by decide) rfl inX4_takesNumber_X4 flX4_takesNumber_25 dX4_takesNumber_50 ?_
  refine cr_iload_n (pc := 53) C dX4_takesNumber_53 rfl ?_
  refine cr_iaload (pc := 54) C rfl (by first | rfl | assumption | (simp [cg_ok]; omega)) (by omega) (by first | decide | omega) dX4_takesNumber_54 ?_
  rw [cg_pn_25, cg_us]
  refine cr_imul_n (pc := 55) C dX4_takesNumber_55 ?_
  refine cr_aload_n (pc := 56) C dX4_takesNumber_56 rfl ?_
  refine cr_getr (pc := 57) (c := 4) (k := 5) C (by first | rfl | assumption | (simp [cg_ok]; omega)) rfl (by decide) rfl inX4_takesNumber_X4 flX4_takesNumber_22 dX4_takesNumber_57 ?_
  refine cr_aload_n (pc := 60) C dX4_takesNumber_60 rfl ?_
  refine cr_geti (pc := 61) (c := 4) (k := 7) C (by first | rfl | assumption | (simp [cg_ok]; omega)) rfl (by decide) rfl rfl inX4_takesNumber_X4 flX4_takesNumber_122 dX4_takesNumber_61 ?_
  rw [cg_pn_7]
  refine cr_iaload (pc := 64) C rfl (by first | rfl | assumption | (simp [cg_ok]; omega)) (by omega) (by first | decide | omega) dX4_takesNumber_64 ?_
  rw [cg_pn_24, (hT.2 e (by omega)).2]
  refine cr_iadd_n (pc := 65) C dX4_takesNumber_65 ?_
  refine cr_bipush (pc := 66) (v := nI 48) C dX4_takesNumber_66 (by decide) ?_
  refine cr_isub (pc := 68) C dX4_takesNumber_68 ?_
  rw [pk_sub (by omega), show 10 * 0 + t e - 48 = t e - 48 by omega]
  refine cr_iastore (pc := 69) C rfl (by first | rfl | assumption | (simp [cg_ok]; omega)) (by omega) (by first | decide | omega) dX4_takesNumber_69 ?_
  rw [cg_pn_u25, cg_uu]
  refine cr_aload_n (pc := 70) C dX4_takesNumber_70 rfl ?_
  refine cr_dup (pc := 71) C dX4_takesNumber_71 rfl ?_
  refine cr_geti (pc := 72) (c := 4) (k := 7) C (by first | rfl | assumption | (simp [cg_ok]; omega)) rfl (by decide) rfl rfl inX4_takesNumber_X4 flX4_takesNumber_122 dX4_takesNumber_72 ?_
  rw [cg_pn_7]
  refine cr_iconst (pc := 75) (v := nI 1) C dX4_takesNumber_75 (by decide) ?_
  refine cr_iadd_n (pc := 76) C dX4_takesNumber_76 ?_
  refine cr_puti (pc := 77) (c := 4) (k := 7) C (by first | rfl | assumption | (simp [cg_ok]; omega)) rfl (by decide) rfl rfl inX4_takesNumber_X4 flX4_takesNumber_122 rfl (by first | rfl | decide) rfl dX4_takesNumber_77 ?_
  rw [cg_pn_u7]
  refine cr_iinc3 (pc := 80) (v := nI 1) C dX4_takesNumber_80 (by decide) (by decide) rfl ?_
  refine cr_goto (pc := 83) (tgt := 30) C dX4_takesNumber_83 (by decide) ?_
  refine cr_iload_n (pc := 30) C dX4_takesNumber_30 rfl ?_
  refine cr_iconst (pc := 31) (v := nI 2) C dX4_takesNumber_31 (by decide) ?_
  refine cr_icmp_ge_f (pc := 32) (tgt := 86) C dX4_takesNumber_32 (by decide) (by decide) ?_
  refine cr_aload_n (pc := 35) C dX4_takesNumber_35 rfl ?_
  refine cr_dV (pc := 36) C (sm_isD0 hl hT (by omega) h1) rfl gX4_takesNumber_X4_isDigit rfl dX4_takesNumber_36 (by first | rfl | assumption | (simp [cg_ok]; omega)) rfl hvX4_isDigit rfl ⟨rfl, rfl, Nat.le_of_ble_eq_true rfl, Nat.le_of_ble_eq_true rfl⟩ (Nat.le_of_ble_eq_true rfl) rfl ?_
  refine cr_if_eq_t (pc := 39) (tgt := 86) C dX4_takesNumber_39 (by decide) (by decide) ?_
  refine cr_aload_n (pc := 86) C dX4_takesNumber_86 rfl ?_
  refine cr_dV (pc := 87) C (sm_isD0 hl hT (by omega) h1) rfl gX4_takesNumber_X4_isDigit rfl dX4_takesNumber_87 (by first | rfl | assumption | (simp [cg_ok]; omega)) rfl hvX4_isDigit rfl ⟨rfl, rfl, Nat.le_of_ble_eq_true rfl, Nat.le_of_ble_eq_true rfl⟩ (Nat.le_of_ble_eq_true rfl) rfl ?_
  refine cr_if_ne_f (pc := 90) (tgt := 97) C dX4_takesNumber_90 (by decide) (by decide) ?_
  refine cr_iconst (pc := 93) (v := nI 1) C dX4_takesNumber_93 (by decide) ?_
  refine cr_goto (pc := 94) (tgt := 98) C dX4_takesNumber_94 (by decide) ?_
  refine cr_zreturn (pc := 98) C X dX4_takesNumber_98 (by first | exact Or.inr rfl | exact Or.inl rfl | assumption) ?_
  exact ⟨rfl, rfl⟩
set_option maxRecDepth 100000 in
set_option maxHeartbeats 4000000 in
theorem sm_tn2 {M : cg_M} {cm : Int32} {Nu : Nat → Int32} {t : Nat → Nat} {L : Nat} (hl : M 26 6 = nI L) (hT : cg_tx0 (M 24) t L) {p k e : Nat} (hk : k < 4) (hp : p ≤ L) (he : cg_sk t (L - p) p = e) (heL : e ≤ L) (h0 : cg_dg t L e = true) (h1 : cg_dg t L (e + 1) = true) (h2 : cg_dg t L (e + 2) = false) : cg_D yX4_takesNumber wsX4_takesNumber rmX4_takesNumber [.inr (.inr (4, 0, 0, 0)), .inl (nI k)] (cg_pn M p cm Nu) (some (.inl (nI 1))) (cg_pn M (e + 2) cm (upd Nu k (nI (10 * (t e - 48) + (t (e + 1) - 48))))) := by
  have d0 := of_decide_eq_true h0
  have hL100 := hT.1
  have d1 := of_decide_eq_true h1
  refine cg_S_of (cc := cX4_takesNumber) (maxL := 4) (ret := (some .boolean)) (ls0 := [some (.inr (.inr (4, 0, 0, 0))), some (.inl (nI k)), none, none]) RX4 rfl (by decide) rfl rfl (Nat.le_of_ble_eq_true rfl) (fun E C X => ?_)
  refine cr_aload_n (pc := 0) C dX4_takesNumber_0 rfl ?_
  refine cr_dV (pc := 1) C (sm_here hl hT hp he) rfl gX4_takesNumber_X4_here rfl dX4_takesNumber_1 (by first | rfl | assumption | (simp [cg_ok]; omega)) rfl hvX4_here rfl ⟨rfl, rfl, Nat.le_of_ble_eq_true rfl, Nat.le_of_ble_eq_true rfl⟩ (Nat.le_of_ble_eq_true rfl) rfl ?_
  refine cr_istore_n2 (pc := 4) C dX4_takesNumber_4 (by decide) rfl ?_
  rw [show cg_hv t L e = nI (t e) by unfold cg_hv; rw [if_pos d0.1]]
  refine cr_iload_n (pc := 5) C dX4_takesNumber_5 rfl ?_
  refine cr_i2l (pc := 6) C dX4_takesNumber_6 ?_
  refine cr_ldc2 (pc := 7) C dX4_takesNumber_7 klX4_takesNumber_125 ?_
  refine cr_ldc2 (pc := 10) C dX4_takesNumber_10 klX4_takesNumber_127 ?_
  refine cr_dS (pc := 13) C (sm_in1 ((cg_dg64 (hT.2 e d0.1).1).mpr d0.2).1 ((cg_dg64 (hT.2 e d0.1).1).mpr d0.2).2) rfl gX4_takesNumber_X4_in rfl dX4_takesNumber_13 hsX4_in rfl ⟨rfl, rfl, Nat.le_of_ble_eq_true rfl, Nat.le_of_ble_eq_true rfl⟩ (Nat.le_of_ble_eq_true rfl) rfl ?_
  refine cr_if_ne_t (pc := 16) (tgt := 21) C dX4_takesNumber_16 (by decide) (by decide) ?_
  refine cr_aload_n (pc := 21) C dX4_takesNumber_21 rfl ?_
  refine cr_getr (pc := 22) (c := 4) (k := 8) C (by first | rfl | assumption | (simp [cg_ok]; omega)) rfl (by decide) rfl inX4_takesNumber_X4 flX4_takesNumber_25 dX4_takesNumber_22 ?_
  refine cr_iload_n (pc := 25) C dX4_takesNumber_25 rfl ?_
  refine cr_iconst (pc := 26) (v := nI 0) C dX4_takesNumber_26 (by decide) ?_
  refine cr_iastore (pc := 27) C rfl (by first | rfl | assumption | (simp [cg_ok]; omega)) (by omega) (by first | decide | omega) dX4_takesNumber_27 ?_
  rw [cg_pn_u25]
  refine cr_iconst (pc := 28) (v := nI 0) C dX4_takesNumber_28 (by decide) ?_
  refine cr_istore_n3 (pc := 29) C dX4_takesNumber_29 (by decide) rfl ?_
  refine cr_iload_n (pc := 30) C dX4_takesNumber_30 rfl ?_
  refine cr_iconst (pc := 31) (v := nI 2) C dX4_takesNumber_31 (by decide) ?_
  refine cr_icmp_ge_f (pc := 32) (tgt := 86) C dX4_takesNumber_32 (by decide) (by decide) ?_
  refine cr_aload_n (pc := 35) C dX4_takesNumber_35 rfl ?_
  refine cr_dV (pc := 36) C (sm_isD1 hl hT h0) rfl gX4_takesNumber_X4_isDigit rfl dX4_takesNumber_36 (by first | rfl | assumption | (simp [cg_ok]; omega)) rfl hvX4_isDigit rfl ⟨rfl, rfl, Nat.le_of_ble_eq_true rfl, Nat.le_of_ble_eq_true rfl⟩ (Nat.le_of_ble_eq_true rfl) rfl ?_
  refine cr_if_eq_f (pc := 39) (tgt := 86) C dX4_takesNumber_39 (by decide) (by decide) ?_
  refine cr_aload_n (pc := 42) C dX4_takesNumber_42 rfl ?_
  refine cr_getr (pc := 43) (c := 4) (k := 8) C (by first | rfl | assumption | (simp [cg_ok]; omega)) rfl (by decide) rfl inX4_takesNumber_X4 flX4_takesNumber_25 dX4_takesNumber_43 ?_
  refine cr_iload_n (pc := 46) C dX4_takesNumber_46 rfl ?_
  refine cr_bipush (pc := 47) (v := nI 10) C dX4_takesNumber_47 (by decide) ?_
  refine cr_aload_n (pc := 49) C dX4_takesNumber_49 rfl ?_
  refine cr_getr (pc := 50) (c := 4) (k := 8) C (by first | rfl | assumption | (simp [cg_ok]; omega)) rfl (by decide) rfl inX4_takesNumber_X4 flX4_takesNumber_25 dX4_takesNumber_50 ?_
  refine cr_iload_n (pc := 53) C dX4_takesNumber_53 rfl ?_
  refine cr_iaload (pc := 54) C rfl (by first | rfl | assumption | (simp [cg_ok]; omega)) (by omega) (by first | decide | omega) dX4_takesNumber_54 ?_
  rw [cg_pn_25, cg_us]
  refine cr_imul_n (pc := 55) C dX4_takesNumber_55 ?_
  refine cr_aload_n (pc := 56) C dX4_takesNumber_56 rfl ?_
  refine cr_getr (pc := 57) (c := 4) (k := 5) C (by first | rfl | assumption | (simp [cg_ok]; omega)) rfl (by decide) rfl inX4_takesNumber_X4 flX4_takesNumber_22 dX4_takesNumber_57 ?_
  refine cr_aload_n (pc := 60) C dX4_takesNumber_60 rfl ?_
  refine cr_geti (pc := 61) (c := 4) (k := 7) C (by first | rfl | assumption | (simp [cg_ok]; omega)) rfl (by decide) rfl rfl inX4_takesNumber_X4 flX4_takesNumber_122 dX4_takesNumber_61 ?_
  rw [cg_pn_7]
  refine cr_iaload (pc := 64) C rfl (by first | rfl | assumption | (simp [cg_ok]; omega)) (by omega) (by first | decide | omega) dX4_takesNumber_64 ?_
  rw [cg_pn_24, (hT.2 e (by omega)).2]
  refine cr_iadd_n (pc := 65) C dX4_takesNumber_65 ?_
  refine cr_bipush (pc := 66) (v := nI 48) C dX4_takesNumber_66 (by decide) ?_
  refine cr_isub (pc := 68) C dX4_takesNumber_68 ?_
  rw [pk_sub (by omega), show 10 * 0 + t e - 48 = t e - 48 by omega]
  refine cr_iastore (pc := 69) C rfl (by first | rfl | assumption | (simp [cg_ok]; omega)) (by omega) (by first | decide | omega) dX4_takesNumber_69 ?_
  rw [cg_pn_u25, cg_uu]
  refine cr_aload_n (pc := 70) C dX4_takesNumber_70 rfl ?_
  refine cr_dup (pc := 71) C dX4_takesNumber_71 rfl ?_
  refine cr_geti (pc := 72) (c := 4) (k := 7) C (by first | rfl | assumption | (simp [cg_ok]; omega)) rfl (by decide) rfl rfl inX4_takesNumber_X4 flX4_takesNumber_122 dX4_takesNumber_72 ?_
  rw [cg_pn_7]
  refine cr_iconst (pc := 75) (v := nI 1) C dX4_takesNumber_75 (by decide) ?_
  refine cr_iadd_n (pc := 76) C dX4_takesNumber_76 ?_
  refine cr_puti (pc := 77) (c := 4) (k := 7) C (by first | rfl | assumption | (simp [cg_ok]; omega)) rfl (by decide) rfl rfl inX4_takesNumber_X4 flX4_takesNumber_122 rfl (by first | rfl | decide) rfl dX4_takesNumber_77 ?_
  rw [cg_pn_u7]
  refine cr_iinc3 (pc := 80) (v := nI 1) C dX4_takesNumber_80 (by decide) (by decide) rfl ?_
  refine cr_goto (pc := 83) (tgt := 30) C dX4_takesNumber_83 (by decide) ?_
  refine cr_iload_n (pc := 30) C dX4_takesNumber_30 rfl ?_
  refine cr_iconst (pc := 31) (v := nI 2) C dX4_takesNumber_31 (by decide) ?_
  refine cr_icmp_ge_f (pc := 32) (tgt := 86) C dX4_takesNumber_32 (by decide) (by decide) ?_
  refine cr_aload_n (pc := 35) C dX4_takesNumber_35 rfl ?_
  refine cr_dV (pc := 36) C (sm_isD1 hl hT h1) rfl gX4_takesNumber_X4_isDigit rfl dX4_takesNumber_36 (by first | rfl | assumption | (simp [cg_ok]; omega)) rfl hvX4_isDigit rfl ⟨rfl, rfl, Nat.le_of_ble_eq_true rfl, Nat.le_of_ble_eq_true rfl⟩ (Nat.le_of_ble_eq_true rfl) rfl ?_
  refine cr_if_eq_f (pc := 39) (tgt := 86) C dX4_takesNumber_39 (by decide) (by decide) ?_
  refine cr_aload_n (pc := 42) C dX4_takesNumber_42 rfl ?_
  refine cr_getr (pc := 43) (c := 4) (k := 8) C (by first | rfl | assumption | (simp [cg_ok]; omega)) rfl (by decide) rfl inX4_takesNumber_X4 flX4_takesNumber_25 dX4_takesNumber_43 ?_
  refine cr_iload_n (pc := 46) C dX4_takesNumber_46 rfl ?_
  refine cr_bipush (pc := 47) (v := nI 10) C dX4_takesNumber_47 (by decide) ?_
  refine cr_aload_n (pc := 49) C dX4_takesNumber_49 rfl ?_
  refine cr_getr (pc := 50) (c := 4) (k := 8) C (by first | rfl | assumption | (simp [cg_ok]; omega)) rfl (by decide) rfl inX4_takesNumber_X4 flX4_takesNumber_25 dX4_takesNumber_50 ?_
  refine cr_iload_n (pc := 53) C dX4_takesNumber_53 rfl ?_
  refine cr_iaload (pc := 54) C rfl (by first | rfl | assumption | (simp [cg_ok]; omega)) (by omega) (by first | decide | omega) dX4_takesNumber_54 ?_
  rw [cg_pn_25, cg_us]
  refine cr_imul_n (pc := 55) C dX4_takesNumber_55 ?_
  refine cr_aload_n (pc := 56) C dX4_takesNumber_56 rfl ?_
  refine cr_getr (pc := 57) (c := 4) (k := 5) C (by first | rfl | assumption | (simp [cg_ok]; omega)) rfl (by decide) rfl inX4_takesNumber_X4 flX4_takesNumber_22 dX4_takesNumber_57 ?_
  refine cr_aload_n (pc := 60) C dX4_takesNumber_60 rfl ?_
  refine cr_geti (pc := 61) (c := 4) (k := 7) C (by first | rfl | assumption | (simp [cg_ok]; omega)) rfl (by decide) rfl rfl inX4_takesNumber_X4 flX4_takesNumber_122 dX4_takesNumber_61 ?_
  rw [cg_pn_7]
  refine cr_iaload (pc := 64) C rfl (by first | rfl | assumption | (simp [cg_ok]; omega)) (by omega) (by first | decide | omega) dX4_takesNumber_64 ?_
  rw [cg_pn_24, (hT.2 (e + 1) (by omega)).2]
  refine cr_iadd_n (pc := 65) C dX4_takesNumber_65 ?_
  refine cr_bipush (pc := 66) (v := nI 48) C dX4_takesNumber_66 (by decide) ?_
  refine cr_isub (pc := 68) C dX4_takesNumber_68 ?_
  rw [pk_sub (by omega), show 10 * (t e - 48) + t (e + 1) - 48 = 10 * (t e - 48) + (t (e + 1) - 48) by omega]
  refine cr_iastore (pc := 69) C rfl (by first | rfl | assumption | (simp [cg_ok]; omega)) (by omega) (by first | decide | omega) dX4_takesNumber_69 ?_
  rw [cg_pn_u25, cg_uu]
  refine cr_aload_n (pc := 70) C dX4_takesNumber_70 rfl ?_
  refine cr_dup (pc := 71) C dX4_takesNumber_71 rfl ?_
  refine cr_geti (pc := 72) (c := 4) (k := 7) C (by first | rfl | assumption | (simp [cg_ok]; omega)) rfl (by decide) rfl rfl inX4_takesNumber_X4 flX4_takesNumber_122 dX4_takesNumber_72 ?_
  rw [cg_pn_7]
  refine cr_iconst (pc := 75) (v := nI 1) C dX4_takesNumber_75 (by decide) ?_
  refine cr_iadd_n (pc := 76) C dX4_takesNumber_76 ?_
  refine cr_puti (pc := 77) (c := 4) (k := 7) C (by first | rfl | assumption | (simp [cg_ok]; omega)) rfl (by decide) rfl rfl inX4_takesNumber_X4 flX4_takesNumber_122 rfl (by first | rfl | decide) rfl dX4_takesNumber_77 ?_
  rw [cg_pn_u7]
  refine cr_iinc3 (pc := 80) (v := nI 2) C dX4_takesNumber_80 (by decide) (by decide) rfl ?_
  refine cr_goto (pc := 83) (tgt := 30) C dX4_takesNumber_83 (by decide) ?_
  refine cr_iload_n (pc := 30) C dX4_takesNumber_30 rfl ?_
  refine cr_iconst (pc := 31) (v := nI 2) C dX4_takesNumber_31 (by decide) ?_
  refine cr_icmp_ge_t (pc := 32) (tgt := 86) C dX4_takesNumber_32 (by decide) (by decide) ?_
  refine cr_aload_n (pc := 86) C dX4_takesNumber_86 rfl ?_
  refine cr_dV (pc := 87) C (sm_isD0 hl hT (by omega) h2) rfl gX4_takesNumber_X4_isDigit rfl dX4_takesNumber_87 (by first | rfl | assumption | (simp [cg_ok]; omega)) rfl hvX4_isDigit rfl ⟨rfl, rfl, Nat.le_of_ble_eq_true rfl, Nat.le_of_ble_eq_true rfl⟩ (Nat.le_of_ble_eq_true rfl) rfl ?_
  refine cr_if_ne_f (pc := 90) (tgt := 97) C dX4_takesNumber_90 (by decide) (by decide) ?_
  refine cr_iconst (pc := 93) (v := nI 1) C dX4_takesNumber_93 (by decide) ?_
  refine cr_goto (pc := 94) (tgt := 98) C dX4_takesNumber_94 (by decide) ?_
  refine cr_zreturn (pc := 98) C X dX4_takesNumber_98 (by first | exact Or.inr rfl | exact Or.inl rfl | assumption) ?_
  exact ⟨rfl, rfl⟩
set_option maxRecDepth 100000 in
set_option maxHeartbeats 4000000 in
theorem sm_tn3 {M : cg_M} {cm : Int32} {Nu : Nat → Int32} {t : Nat → Nat} {L : Nat} (hl : M 26 6 = nI L) (hT : cg_tx0 (M 24) t L) {p k e : Nat} (hk : k < 4) (hp : p ≤ L) (he : cg_sk t (L - p) p = e) (heL : e ≤ L) (h0 : cg_dg t L e = true) (h1 : cg_dg t L (e + 1) = true) (h2 : cg_dg t L (e + 2) = true) : cg_D yX4_takesNumber wsX4_takesNumber rmX4_takesNumber [.inr (.inr (4, 0, 0, 0)), .inl (nI k)] (cg_pn M p cm Nu) (some (.inl (nI 0))) (cg_pn M (e + 2) cm (upd Nu k (nI (10 * (t e - 48) + (t (e + 1) - 48))))) := by
  have d0 := of_decide_eq_true h0
  have hL100 := hT.1
  have d1 := of_decide_eq_true h1
  refine cg_S_of (cc := cX4_takesNumber) (maxL := 4) (ret := (some .boolean)) (ls0 := [some (.inr (.inr (4, 0, 0, 0))), some (.inl (nI k)), none, none]) RX4 rfl (by decide) rfl rfl (Nat.le_of_ble_eq_true rfl) (fun E C X => ?_)
  refine cr_aload_n (pc := 0) C dX4_takesNumber_0 rfl ?_
  refine cr_dV (pc := 1) C (sm_here hl hT hp he) rfl gX4_takesNumber_X4_here rfl dX4_takesNumber_1 (by first | rfl | assumption | (simp [cg_ok]; omega)) rfl hvX4_here rfl ⟨rfl, rfl, Nat.le_of_ble_eq_true rfl, Nat.le_of_ble_eq_true rfl⟩ (Nat.le_of_ble_eq_true rfl) rfl ?_
  refine cr_istore_n2 (pc := 4) C dX4_takesNumber_4 (by decide) rfl ?_
  rw [show cg_hv t L e = nI (t e) by unfold cg_hv; rw [if_pos d0.1]]
  refine cr_iload_n (pc := 5) C dX4_takesNumber_5 rfl ?_
  refine cr_i2l (pc := 6) C dX4_takesNumber_6 ?_
  refine cr_ldc2 (pc := 7) C dX4_takesNumber_7 klX4_takesNumber_125 ?_
  refine cr_ldc2 (pc := 10) C dX4_takesNumber_10 klX4_takesNumber_127 ?_
  refine cr_dS (pc := 13) C (sm_in1 ((cg_dg64 (hT.2 e d0.1).1).mpr d0.2).1 ((cg_dg64 (hT.2 e d0.1).1).mpr d0.2).2) rfl gX4_takesNumber_X4_in rfl dX4_takesNumber_13 hsX4_in rfl ⟨rfl, rfl, Nat.le_of_ble_eq_true rfl, Nat.le_of_ble_eq_true rfl⟩ (Nat.le_of_ble_eq_true rfl) rfl ?_
  refine cr_if_ne_t (pc := 16) (tgt := 21) C dX4_takesNumber_16 (by decide) (by decide) ?_
  refine cr_aload_n (pc := 21) C dX4_takesNumber_21 rfl ?_
  refine cr_getr (pc := 22) (c := 4) (k := 8) C (by first | rfl | assumption | (simp [cg_ok]; omega)) rfl (by decide) rfl inX4_takesNumber_X4 flX4_takesNumber_25 dX4_takesNumber_22 ?_
  refine cr_iload_n (pc := 25) C dX4_takesNumber_25 rfl ?_
  refine cr_iconst (pc := 26) (v := nI 0) C dX4_takesNumber_26 (by decide) ?_
  refine cr_iastore (pc := 27) C rfl (by first | rfl | assumption | (simp [cg_ok]; omega)) (by omega) (by first | decide | omega) dX4_takesNumber_27 ?_
  rw [cg_pn_u25]
  refine cr_iconst (pc := 28) (v := nI 0) C dX4_takesNumber_28 (by decide) ?_
  refine cr_istore_n3 (pc := 29) C dX4_takesNumber_29 (by decide) rfl ?_
  refine cr_iload_n (pc := 30) C dX4_takesNumber_30 rfl ?_
  refine cr_iconst (pc := 31) (v := nI 2) C dX4_takesNumber_31 (by decide) ?_
  refine cr_icmp_ge_f (pc := 32) (tgt := 86) C dX4_takesNumber_32 (by decide) (by decide) ?_
  refine cr_aload_n (pc := 35) C dX4_takesNumber_35 rfl ?_
  refine cr_dV (pc := 36) C (sm_isD1 hl hT h0) rfl gX4_takesNumber_X4_isDigit rfl dX4_takesNumber_36 (by first | rfl | assumption | (simp [cg_ok]; omega)) rfl hvX4_isDigit rfl ⟨rfl, rfl, Nat.le_of_ble_eq_true rfl, Nat.le_of_ble_eq_true rfl⟩ (Nat.le_of_ble_eq_true rfl) rfl ?_
  refine cr_if_eq_f (pc := 39) (tgt := 86) C dX4_takesNumber_39 (by decide) (by decide) ?_
  refine cr_aload_n (pc := 42) C dX4_takesNumber_42 rfl ?_
  refine cr_getr (pc := 43) (c := 4) (k := 8) C (by first | rfl | assumption | (simp [cg_ok]; omega)) rfl (by decide) rfl inX4_takesNumber_X4 flX4_takesNumber_25 dX4_takesNumber_43 ?_
  refine cr_iload_n (pc := 46) C dX4_takesNumber_46 rfl ?_
  refine cr_bipush (pc := 47) (v := nI 10) C dX4_takesNumber_47 (by decide) ?_
  refine cr_aload_n (pc := 49) C dX4_takesNumber_49 rfl ?_
  refine cr_getr (pc := 50) (c := 4) (k := 8) C (by first | rfl | assumption | (simp [cg_ok]; omega)) rfl (by decide) rfl inX4_takesNumber_X4 flX4_takesNumber_25 dX4_takesNumber_50 ?_
  refine cr_iload_n (pc := 53) C dX4_takesNumber_53 rfl ?_
  refine cr_iaload (pc := 54) C rfl (by first | rfl | assumption | (simp [cg_ok]; omega)) (by omega) (by first | decide | omega) dX4_takesNumber_54 ?_
  rw [cg_pn_25, cg_us]
  refine cr_imul_n (pc := 55) C dX4_takesNumber_55 ?_
  refine cr_aload_n (pc := 56) C dX4_takesNumber_56 rfl ?_
  refine cr_getr (pc := 57) (c := 4) (k := 5) C (by first | rfl | assumption | (simp [cg_ok]; omega)) rfl (by decide) rfl inX4_takesNumber_X4 flX4_takesNumber_22 dX4_takesNumber_57 ?_
  refine cr_aload_n (pc := 60) C dX4_takesNumber_60 rfl ?_
  refine cr_geti (pc := 61) (c := 4) (k := 7) C (by first | rfl | assumption | (simp [cg_ok]; omega)) rfl (by decide) rfl rfl inX4_takesNumber_X4 flX4_takesNumber_122 dX4_takesNumber_61 ?_
  rw [cg_pn_7]
  refine cr_iaload (pc := 64) C rfl (by first | rfl | assumption | (simp [cg_ok]; omega)) (by omega) (by first | decide | omega) dX4_takesNumber_64 ?_
  rw [cg_pn_24, (hT.2 e (by omega)).2]
  refine cr_iadd_n (pc := 65) C dX4_takesNumber_65 ?_
  refine cr_bipush (pc := 66) (v := nI 48) C dX4_takesNumber_66 (by decide) ?_
  refine cr_isub (pc := 68) C dX4_takesNumber_68 ?_
  rw [pk_sub (by omega), show 10 * 0 + t e - 48 = t e - 48 by omega]
  refine cr_iastore (pc := 69) C rfl (by first | rfl | assumption | (simp [cg_ok]; omega)) (by omega) (by first | decide | omega) dX4_takesNumber_69 ?_
  rw [cg_pn_u25, cg_uu]
  refine cr_aload_n (pc := 70) C dX4_takesNumber_70 rfl ?_
  refine cr_dup (pc := 71) C dX4_takesNumber_71 rfl ?_
  refine cr_geti (pc := 72) (c := 4) (k := 7) C (by first | rfl | assumption | (simp [cg_ok]; omega)) rfl (by decide) rfl rfl inX4_takesNumber_X4 flX4_takesNumber_122 dX4_takesNumber_72 ?_
  rw [cg_pn_7]
  refine cr_iconst (pc := 75) (v := nI 1) C dX4_takesNumber_75 (by decide) ?_
  refine cr_iadd_n (pc := 76) C dX4_takesNumber_76 ?_
  refine cr_puti (pc := 77) (c := 4) (k := 7) C (by first | rfl | assumption | (simp [cg_ok]; omega)) rfl (by decide) rfl rfl inX4_takesNumber_X4 flX4_takesNumber_122 rfl (by first | rfl | decide) rfl dX4_takesNumber_77 ?_
  rw [cg_pn_u7]
  refine cr_iinc3 (pc := 80) (v := nI 1) C dX4_takesNumber_80 (by decide) (by decide) rfl ?_
  refine cr_goto (pc := 83) (tgt := 30) C dX4_takesNumber_83 (by decide) ?_
  refine cr_iload_n (pc := 30) C dX4_takesNumber_30 rfl ?_
  refine cr_iconst (pc := 31) (v := nI 2) C dX4_takesNumber_31 (by decide) ?_
  refine cr_icmp_ge_f (pc := 32) (tgt := 86) C dX4_takesNumber_32 (by decide) (by decide) ?_
  refine cr_aload_n (pc := 35) C dX4_takesNumber_35 rfl ?_
  refine cr_dV (pc := 36) C (sm_isD1 hl hT h1) rfl gX4_takesNumber_X4_isDigit rfl dX4_takesNumber_36 (by first | rfl | assumption | (simp [cg_ok]; omega)) rfl hvX4_isDigit rfl ⟨rfl, rfl, Nat.le_of_ble_eq_true rfl, Nat.le_of_ble_eq_true rfl⟩ (Nat.le_of_ble_eq_true rfl) rfl ?_
  refine cr_if_eq_f (pc := 39) (tgt := 86) C dX4_takesNumber_39 (by decide) (by decide) ?_
  refine cr_aload_n (pc := 42) C dX4_takesNumber_42 rfl ?_
  refine cr_getr (pc := 43) (c := 4) (k := 8) C (by first | rfl | assumption | (simp [cg_ok]; omega)) rfl (by decide) rfl inX4_takesNumber_X4 flX4_takesNumber_25 dX4_takesNumber_43 ?_
  refine cr_iload_n (pc := 46) C dX4_takesNumber_46 rfl ?_
  refine cr_bipush (pc := 47) (v := nI 10) C dX4_takesNumber_47 (by decide) ?_
  refine cr_aload_n (pc := 49) C dX4_takesNumber_49 rfl ?_
  refine cr_getr (pc := 50) (c := 4) (k := 8) C (by first | rfl | assumption | (simp [cg_ok]; omega)) rfl (by decide) rfl inX4_takesNumber_X4 flX4_takesNumber_25 dX4_takesNumber_50 ?_
  refine cr_iload_n (pc := 53) C dX4_takesNumber_53 rfl ?_
  refine cr_iaload (pc := 54) C rfl (by first | rfl | assumption | (simp [cg_ok]; omega)) (by omega) (by first | decide | omega) dX4_takesNumber_54 ?_
  rw [cg_pn_25, cg_us]
  refine cr_imul_n (pc := 55) C dX4_takesNumber_55 ?_
  refine cr_aload_n (pc := 56) C dX4_takesNumber_56 rfl ?_
  refine cr_getr (pc := 57) (c := 4) (k := 5) C (by first | rfl | assumption | (simp [cg_ok]; omega)) rfl (by decide) rfl inX4_takesNumber_X4 flX4_takesNumber_22 dX4_takesNumber_57 ?_
  refine cr_aload_n (pc := 60) C dX4_takesNumber_60 rfl ?_
  refine cr_geti (pc := 61) (c := 4) (k := 7) C (by first | rfl | assumption | (simp [cg_ok]; omega)) rfl (by decide) rfl rfl inX4_takesNumber_X4 flX4_takesNumber_122 dX4_takesNumber_61 ?_
  rw [cg_pn_7]
  refine cr_iaload (pc := 64) C rfl (by first | rfl | assumption | (simp [cg_ok]; omega)) (by omega) (by first | decide | omega) dX4_takesNumber_64 ?_
  rw [cg_pn_24, (hT.2 (e + 1) (by omega)).2]
  refine cr_iadd_n (pc := 65) C dX4_takesNumber_65 ?_
  refine cr_bipush (pc := 66) (v := nI 48) C dX4_takesNumber_66 (by decide) ?_
  refine cr_isub (pc := 68) C dX4_takesNumber_68 ?_
  rw [pk_sub (by omega), show 10 * (t e - 48) + t (e + 1) - 48 = 10 * (t e - 48) + (t (e + 1) - 48) by omega]
  refine cr_iastore (pc := 69) C rfl (by first | rfl | assumption | (simp [cg_ok]; omega)) (by omega) (by first | decide | omega) dX4_takesNumber_69 ?_
  rw [cg_pn_u25, cg_uu]
  refine cr_aload_n (pc := 70) C dX4_takesNumber_70 rfl ?_
  refine cr_dup (pc := 71) C dX4_takesNumber_71 rfl ?_
  refine cr_geti (pc := 72) (c := 4) (k := 7) C (by first | rfl | assumption | (simp [cg_ok]; omega)) rfl (by decide) rfl rfl inX4_takesNumber_X4 flX4_takesNumber_122 dX4_takesNumber_72 ?_
  rw [cg_pn_7]
  refine cr_iconst (pc := 75) (v := nI 1) C dX4_takesNumber_75 (by decide) ?_
  refine cr_iadd_n (pc := 76) C dX4_takesNumber_76 ?_
  refine cr_puti (pc := 77) (c := 4) (k := 7) C (by first | rfl | assumption | (simp [cg_ok]; omega)) rfl (by decide) rfl rfl inX4_takesNumber_X4 flX4_takesNumber_122 rfl (by first | rfl | decide) rfl dX4_takesNumber_77 ?_
  rw [cg_pn_u7]
  refine cr_iinc3 (pc := 80) (v := nI 2) C dX4_takesNumber_80 (by decide) (by decide) rfl ?_
  refine cr_goto (pc := 83) (tgt := 30) C dX4_takesNumber_83 (by decide) ?_
  refine cr_iload_n (pc := 30) C dX4_takesNumber_30 rfl ?_
  refine cr_iconst (pc := 31) (v := nI 2) C dX4_takesNumber_31 (by decide) ?_
  refine cr_icmp_ge_t (pc := 32) (tgt := 86) C dX4_takesNumber_32 (by decide) (by decide) ?_
  refine cr_aload_n (pc := 86) C dX4_takesNumber_86 rfl ?_
  refine cr_dV (pc := 87) C (sm_isD1 hl hT h2) rfl gX4_takesNumber_X4_isDigit rfl dX4_takesNumber_87 (by first | rfl | assumption | (simp [cg_ok]; omega)) rfl hvX4_isDigit rfl ⟨rfl, rfl, Nat.le_of_ble_eq_true rfl, Nat.le_of_ble_eq_true rfl⟩ (Nat.le_of_ble_eq_true rfl) rfl ?_
  refine cr_if_ne_t (pc := 90) (tgt := 97) C dX4_takesNumber_90 (by decide) (by decide) ?_
  refine cr_iconst (pc := 97) (v := nI 0) C dX4_takesNumber_97 (by decide) ?_
  refine cr_zreturn (pc := 98) C X dX4_takesNumber_98 (by first | exact Or.inr rfl | exact Or.inl rfl | assumption) ?_
  exact ⟨rfl, rfl⟩
