/-! ===== the reference: execute, whole ===== -/
theorem cg_asd_pn (M : cg_M) (a : Nat) (cm : Int32) (Nu : Nat → Int32) : cg_asd (cg_pn M a cm Nu) = cg_pn (cg_asd M) a cm Nu := by
  unfold cg_asd
  rw [cg_pn_n M a cm Nu (by decide) (by decide), cg_pn_n M a cm Nu (by decide) (by decide), cg_pn_sb M a cm Nu 22 (by decide) (by decide)]
theorem cg_pn_up20 (M : cg_M) (B : Nat → Int32) (a j : Nat) (cm v : Int32) (Nu : Nat → Int32) : cg_up (cg_pn (cg_sb M 20 B) a cm Nu) 20 j v = cg_pn (cg_sb M 20 (upd B j v)) a cm Nu := by
  unfold cg_up
  rw [cg_pn_sb _ _ _ _ 20 (by decide) (by decide), cg_sb_sb, cg_pn_n _ _ _ _ (by decide) (by decide), cg_sb_s]
theorem cg_rst_m (M : cg_M) (A : Nat → Int32) : cg_cpk (cg_asd M 22) A 345 = cg_rst (M 20) A := by
  funext x
  unfold cg_asd
  rw [cg_sb_s]
  unfold cg_rst
  by_cases h : x < 345
  · rw [cg_cpk_l h, cg_cpk_l h, if_pos h]
  · rw [cg_cpk_n (by omega), if_neg h]
/-- the reference's memory behind an execution -/
def cg_xn (M : cg_M) (z : Nat) (r : Option Nat × Nat × (Nat → Int32)) (a : Nat) (cm : Int32) (Nu : Nat → Int32) : cg_M := match r.1 with
  | some _ => cg_pn (cg_sb (cg_asd M) 20 (cg_rst (M 20) r.2.2)) a cm Nu
  | none => cg_sav (cg_pn (cg_sb (cg_asd M) 20 r.2.2) a cm Nu) z
def cg_xP (M : cg_M) (z L : Nat) (R : Option Nat × cg_K) (xr : Option Nat × Nat × (Nat → Int32)) (v : Option cg_V) (M' : cg_M) : Prop := ∃ (a : Nat) (cm : Int32) (Nu : Nat → Int32), (¬ cg_pe L R = -1 ∧ v = some (.inl (-10 - cg_pe L R)) ∧ M' = cg_pn M a cm Nu) ∨ (cg_pe L R = -1 ∧ v = some (.inl (cg_xr xr)) ∧ M' = cg_xn M z xr a cm Nu)
set_option maxRecDepth 100000 in
set_option maxHeartbeats 4000000 in
theorem sm_exec {M : cg_M} {t : Nat → Nat} {L z K nb d : Nat} {Lt0 Nm0 : Nat → Int32} {R : Option Nat × cg_K} {xr : Option Nat × Nat × (Nat → Int32)} (hl : M 26 6 = nI L) (hT : cg_tx0 (M 24) t L) (hz5 : z < 5) (hz : M 26 2 = nI z) (hI : cg_I (M 20)) (hR : cg_ot t L 0 (0, false, nb, d, Lt0, Nm0) = R) (hK : R.2.1 = K) (hK34 : K < 34) (hxr : cg_xs R.2.2.2.2.2.1 R.2.2.2.2.2.2 K 0 0 (M 20) = xr) : cg_S yX4_execute wsX4_execute rmX4_execute [.inr (.inr (4, 0, 0, 0))] M (cg_xP M z L R xr) := by
  refine cg_S_of (cc := cX4_execute) (maxL := 7) (ret := (some .int)) (ls0 := [some (.inr (.inr (4, 0, 0, 0))), none, none, none, none, none, none]) RX4 rfl (by decide) rfl rfl (Nat.le_of_ble_eq_true rfl) (fun E C X => ?_)
  have hL100 := hT.1
  have hl2 : ∀ A, cg_sb (cg_asd M) 20 A 26 6 = nI L := fun A => by rw [cg_sb_n (by decide), cg_asd_26]; exact hl
  have hT2 : ∀ A, cg_tx0 (cg_sb (cg_asd M) 20 A 24) t L := fun A => by rw [cg_sb_n (by decide)]; unfold cg_asd; rw [cg_sb_n (by decide)]; exact hT
  have loop2 : cg_pe L R = -1 → ∀ (m i n p nb d : Nat) (Lt Nm A : Nat → Int32) (cm : Int32) (Nu : Nat → Int32) (z4 z5 z6 : Option cg_V), i + m = K → p ≤ L → R = cg_ot t L p (i, false, nb, d, Lt, Nm) → cg_I A → cg_xs R.2.2.2.2.2.1 R.2.2.2.2.2.2 m i n A = xr → cg_W E (cg_pn (cg_sb (cg_asd M) 20 A) p cm Nu) 46 [some (.inr (.inr (4, 0, 0, 0))), some (.inl (nI K)), some (.inl (nI n)), some (.inl (nI i)), z4, z5, z6] [] := by
    intro hpe m
    induction m with
    | zero =>
      intro i n p nb d Lt Nm A cm Nu z4 z5 z6 hi hp hO hA hx
      have hik : i = K := by omega
      subst hik
      have hx2 : xr = (none, n, A) := hx.symm
      refine cr_iload_n (pc := 46) C dX4_execute_46 rfl ?_
      refine cr_iload_n (pc := 47) C dX4_execute_47 rfl ?_
      refine cr_icmp_ge_t (pc := 48) (tgt := 135) C dX4_execute_48 (by decide) (Int32.le_refl _) ?_
      refine cr_aload_n (pc := 135) C dX4_execute_135 rfl ?_
      refine cr_dV (pc := 136) C (sm_saves hz5 (by rw [cg_pn_2, cg_sb_n (by decide), cg_asd_26]; exact hz)) rfl gX4_execute_X4_savesAside rfl dX4_execute_136 (by first | rfl | assumption | (simp [cg_ok]; omega)) rfl hvX4_savesAside rfl ⟨rfl, rfl, Nat.le_of_ble_eq_true rfl, Nat.le_of_ble_eq_true rfl⟩ (Nat.le_of_ble_eq_true rfl) rfl ?_
      refine cr_iload_n (pc := 139) C dX4_execute_139 rfl ?_
      refine cr_ireturn (pc := 140) C X dX4_execute_140 ?_
      exact ⟨p, cm, Nu, Or.inr ⟨hpe, by rw [hx2]; rfl, by rw [hx2]; rfl⟩⟩
    | succ m ih =>
      intro i n p nb d Lt Nm A cm Nu z4 z5 z6 hi hp hO hA hx
      obtain ⟨e, he⟩ : ∃ e, cg_sk t (L - p) p = e := ⟨_, rfl⟩
      have hle := cg_sk_le t (L - p) p
      rw [he] at hle
      have heL : e < L := by
        refine Classical.byContradiction (fun hn => ?_)
        have e2 : e = L := by omega
        obtain ⟨d', hd'⟩ := cg_tcE (t := t) (k := i) (nb := nb) (d := d) (c := false) (Lt := Lt) (Nm := Nm) hp (by rw [he, e2])
        rw [hd'] at hO
        have : R.2.1 = i := by rw [hO]
        omega
      refine cr_iload_n (pc := 46) C dX4_execute_46 rfl ?_
      refine cr_iload_n (pc := 47) C dX4_execute_47 rfl ?_
      refine cr_icmp_ge_f (pc := 48) (tgt := 135) C dX4_execute_48 (by decide) (nI_ge (by omega) (by omega)) ?_
      refine cr_aload_n (pc := 51) C dX4_execute_51 rfl ?_
      refine cr_callV (pc := 52) (rest := []) C (sm_tc (hl2 A) (hT2 A) (k := i) (nb := nb) (d := d) (Lt := Lt) (Nm := Nm) hp he (Or.inr heL)) rfl gX4_execute_X4_takesCommand rfl dX4_execute_52 (by first | rfl | assumption | (simp [cg_ok]; omega)) rfl hvX4_takesCommand rfl ⟨rfl, rfl, Nat.le_of_ble_eq_true rfl, Nat.le_of_ble_eq_true rfl⟩ (Nat.le_of_ble_eq_true rfl) (fun v1 M1 hp => ?_)
      rcases hp with ⟨p', cm', Nu', rfl, rfl, g1, g2⟩ | ⟨p', l, nb', d', Nm', Nu', rfl, rfl, g1, g2, g3, g4, g5, g6, g7⟩
      · rw [← hO, hpe] at g2
        exact absurd g2.symm (cg_nm1b (by omega))
      · show cg_W E _ 55 _ [.inl (nI 1)]
        rw [← hO] at g5
        have mono := cg_pr_mono (t := t) (L - p') p' (i + 1, false, nb', d', upd Lt i (nI l), Nm')
        have hRe : cg_pr t (L - p') p' (i + 1, false, nb', d', upd Lt i (nI l), Nm') = R := g5.symm
        rw [hRe] at mono
        dsimp only at mono
        have hLt : R.2.2.2.2.2.1 i = nI l := by rw [mono.2.1 i (by omega), cg_us]
        have hix : cg_ix (R.2.2.2.2.2.1 i) = l := by rw [hLt]; exact cg_ix_n (by omega)
        have hNm : ∀ j, j < cg_na l → R.2.2.2.2.2.2 (4 * i + j) = Nu' j := fun j hj => by have := cg_na_le l; rw [mono.2.2 _ (by omega)]; exact g7 j hj
        obtain ⟨o, ho⟩ : ∃ o, o = cg_cm A l (Nu' 0) (Nu' 1) (Nu' 2) (Nu' 3) := ⟨_, rfl⟩
        have ho2 : cg_cm A l (R.2.2.2.2.2.2 (4 * i + 0)) (R.2.2.2.2.2.2 (4 * i + 1)) (R.2.2.2.2.2.2 (4 * i + 2)) (R.2.2.2.2.2.2 (4 * i + 3)) = o := by rw [ho]; exact cg_cm_eq g4 (hNm 0 (by omega)) (fun h => hNm 1 (by omega)) (fun h => hNm 2 (by omega)) (fun h => hNm 3 (by omega))
        have hoI : cg_I o.2 := by rw [ho]; exact cg_cm_I hA
        unfold cg_xs at hx
        rw [hix, ho2] at hx
        by_cases h2 : o.1 = -2
        · rw [if_pos (Or.inl h2)] at hx
          have loop3 : ∀ (m2 j : Nat), j + m2 = 345 → cg_W E (cg_pn (cg_sb (cg_asd M) 20 (cg_cpk (cg_asd M 22) o.2 j)) p' (nI l) Nu') 80 [some (.inr (.inr (4, 0, 0, 0))), some (.inl (nI K)), some (.inl (nI n)), some (.inl (nI i)), some (.inl (nI 1)), some (.inl o.1), some (.inl (nI j))] [] := by
            intro m2
            induction m2 with
            | zero =>
              intro j hj
              have hj : j = 345 := by omega
              subst hj
              refine cr_iload (pc := 80) C dX4_execute_80 rfl ?_
              refine cr_sipush (pc := 82) (v := nI 345) C dX4_execute_82 (by decide) ?_
              refine cr_icmp_ge_t (pc := 85) (tgt := 108) C dX4_execute_85 (by decide) (Int32.le_refl _) ?_
              refine cr_sipush (pc := 108) (v := (-1000)) C dX4_execute_108 (by decide) ?_
              refine cr_iload_n (pc := 111) C dX4_execute_111 rfl ?_
              refine cr_isub (pc := 112) C dX4_execute_112 ?_
              refine cr_ireturn (pc := 113) C X dX4_execute_113 ?_
              exact ⟨p', nI l, Nu', Or.inr ⟨hpe, by rw [← hx]; rfl, by rw [← hx, cg_rst_m]; rfl⟩⟩
            | succ m2 ih2 =>
              intro j hj
              refine cr_iload (pc := 80) C dX4_execute_80 rfl ?_
              refine cr_sipush (pc := 82) (v := nI 345) C dX4_execute_82 (by decide) ?_
              refine cr_icmp_ge_f (pc := 85) (tgt := 108) C dX4_execute_85 (by decide) (nI_ge (by omega) (by omega)) ?_
              refine cr_aload_n (pc := 88) C dX4_execute_88 rfl ?_
              refine cr_getr (pc := 89) (c := 4) (k := 0) C (by first | rfl | assumption | (simp [cg_ok]; omega)) rfl (by decide) rfl inX4_execute_X4 flX4_execute_7 dX4_execute_89 ?_
              refine cr_iload (pc := 92) C dX4_execute_92 rfl ?_
              refine cr_aload_n (pc := 94) C dX4_execute_94 rfl ?_
              refine cr_getr (pc := 95) (c := 4) (k := 3) C (by first | rfl | assumption | (simp [cg_ok]; omega)) rfl (by decide) rfl inX4_execute_X4 flX4_execute_16 dX4_execute_95 ?_
              refine cr_iload (pc := 98) C dX4_execute_98 rfl ?_
              refine cr_iaload (pc := 100) C rfl (by first | rfl | assumption | (simp [cg_ok]; omega)) (by omega) (by first | decide | omega) dX4_execute_100 ?_
              rw [cg_pn_n _ _ _ _ (by decide) (by decide), cg_sb_n (by decide)]
              refine cr_iastore (pc := 101) C rfl (by first | rfl | assumption | (simp [cg_ok]; omega)) (by omega) (by first | decide | omega) dX4_execute_101 ?_
              rw [cg_pn_up20, cg_cpk_s]
              refine cr_iinc6 (pc := 102) C dX4_execute_102 (cg_inc1 _) (by decide) rfl ?_
              refine cr_goto (pc := 105) (tgt := 80) C dX4_execute_105 (by decide) ?_
              exact ih2 (j + 1) (by omega)
          refine cr_istore4 (pc := 55) C dX4_execute_55 (by decide) rfl ?_
          refine cr_aload_n (pc := 57) C dX4_execute_57 rfl ?_
          refine cr_dV (pc := 58) C (sm_dC g4 hA) rfl gX4_execute_X4_doesCommand rfl dX4_execute_58 (by first | rfl | assumption | (simp [cg_ok]; omega)) rfl hvX4_doesCommand rfl ⟨rfl, rfl, Nat.le_of_ble_eq_true rfl, Nat.le_of_ble_eq_true rfl⟩ (Nat.le_of_ble_eq_true rfl) rfl ?_
          rw [← ho]
          refine cr_istore5 (pc := 61) C dX4_execute_61 (by decide) rfl ?_
          refine cr_iload (pc := 63) C dX4_execute_63 rfl ?_
          refine cr_bipush (pc := 65) (v := (-2)) C dX4_execute_65 (by decide) ?_
          refine cr_icmp_eq_t (pc := 67) (tgt := 77) C dX4_execute_67 (by decide) h2 ?_
          refine cr_iconst (pc := 77) (v := nI 0) C dX4_execute_77 (by decide) ?_
          refine cr_istore6 (pc := 78) C dX4_execute_78 (by decide) rfl ?_
          refine cr_mem (M' := cg_pn (cg_sb (cg_asd M) 20 (cg_cpk (cg_asd M 22) o.2 0)) p' (nI l) Nu') (by rw [cg_cpk_0]) ?_
          exact loop3 345 0 (by omega)
        · by_cases h4 : o.1 = -4
          · rw [if_pos (Or.inr h4)] at hx
            have loop3 : ∀ (m2 j : Nat), j + m2 = 345 → cg_W E (cg_pn (cg_sb (cg_asd M) 20 (cg_cpk (cg_asd M 22) o.2 j)) p' (nI l) Nu') 80 [some (.inr (.inr (4, 0, 0, 0))), some (.inl (nI K)), some (.inl (nI n)), some (.inl (nI i)), some (.inl (nI 1)), some (.inl o.1), some (.inl (nI j))] [] := by
              intro m2
              induction m2 with
              | zero =>
                intro j hj
                have hj : j = 345 := by omega
                subst hj
                refine cr_iload (pc := 80) C dX4_execute_80 rfl ?_
                refine cr_sipush (pc := 82) (v := nI 345) C dX4_execute_82 (by decide) ?_
                refine cr_icmp_ge_t (pc := 85) (tgt := 108) C dX4_execute_85 (by decide) (Int32.le_refl _) ?_
                refine cr_sipush (pc := 108) (v := (-1000)) C dX4_execute_108 (by decide) ?_
                refine cr_iload_n (pc := 111) C dX4_execute_111 rfl ?_
                refine cr_isub (pc := 112) C dX4_execute_112 ?_
                refine cr_ireturn (pc := 113) C X dX4_execute_113 ?_
                exact ⟨p', nI l, Nu', Or.inr ⟨hpe, by rw [← hx]; rfl, by rw [← hx, cg_rst_m]; rfl⟩⟩
              | succ m2 ih2 =>
                intro j hj
                refine cr_iload (pc := 80) C dX4_execute_80 rfl ?_
                refine cr_sipush (pc := 82) (v := nI 345) C dX4_execute_82 (by decide) ?_
                refine cr_icmp_ge_f (pc := 85) (tgt := 108) C dX4_execute_85 (by decide) (nI_ge (by omega) (by omega)) ?_
                refine cr_aload_n (pc := 88) C dX4_execute_88 rfl ?_
                refine cr_getr (pc := 89) (c := 4) (k := 0) C (by first | rfl | assumption | (simp [cg_ok]; omega)) rfl (by decide) rfl inX4_execute_X4 flX4_execute_7 dX4_execute_89 ?_
                refine cr_iload (pc := 92) C dX4_execute_92 rfl ?_
                refine cr_aload_n (pc := 94) C dX4_execute_94 rfl ?_
                refine cr_getr (pc := 95) (c := 4) (k := 3) C (by first | rfl | assumption | (simp [cg_ok]; omega)) rfl (by decide) rfl inX4_execute_X4 flX4_execute_16 dX4_execute_95 ?_
                refine cr_iload (pc := 98) C dX4_execute_98 rfl ?_
                refine cr_iaload (pc := 100) C rfl (by first | rfl | assumption | (simp [cg_ok]; omega)) (by omega) (by first | decide | omega) dX4_execute_100 ?_
                rw [cg_pn_n _ _ _ _ (by decide) (by decide), cg_sb_n (by decide)]
                refine cr_iastore (pc := 101) C rfl (by first | rfl | assumption | (simp [cg_ok]; omega)) (by omega) (by first | decide | omega) dX4_execute_101 ?_
                rw [cg_pn_up20, cg_cpk_s]
                refine cr_iinc6 (pc := 102) C dX4_execute_102 (cg_inc1 _) (by decide) rfl ?_
                refine cr_goto (pc := 105) (tgt := 80) C dX4_execute_105 (by decide) ?_
                exact ih2 (j + 1) (by omega)
            refine cr_istore4 (pc := 55) C dX4_execute_55 (by decide) rfl ?_
            refine cr_aload_n (pc := 57) C dX4_execute_57 rfl ?_
            refine cr_dV (pc := 58) C (sm_dC g4 hA) rfl gX4_execute_X4_doesCommand rfl dX4_execute_58 (by first | rfl | assumption | (simp [cg_ok]; omega)) rfl hvX4_doesCommand rfl ⟨rfl, rfl, Nat.le_of_ble_eq_true rfl, Nat.le_of_ble_eq_true rfl⟩ (Nat.le_of_ble_eq_true rfl) rfl ?_
            rw [← ho]
            refine cr_istore5 (pc := 61) C dX4_execute_61 (by decide) rfl ?_
            refine cr_iload (pc := 63) C dX4_execute_63 rfl ?_
            refine cr_bipush (pc := 65) (v := (-2)) C dX4_execute_65 (by decide) ?_
            refine cr_icmp_eq_f (pc := 67) (tgt := 77) C dX4_execute_67 (by decide) h2 ?_
            refine cr_iload (pc := 70) C dX4_execute_70 rfl ?_
            refine cr_bipush (pc := 72) (v := (-4)) C dX4_execute_72 (by decide) ?_
            refine cr_icmp_ne_f (pc := 74) (tgt := 114) C dX4_execute_74 (by decide) h4 ?_
            refine cr_iconst (pc := 77) (v := nI 0) C dX4_execute_77 (by decide) ?_
            refine cr_istore6 (pc := 78) C dX4_execute_78 (by decide) rfl ?_
            refine cr_mem (M' := cg_pn (cg_sb (cg_asd M) 20 (cg_cpk (cg_asd M 22) o.2 0)) p' (nI l) Nu') (by rw [cg_cpk_0]) ?_
            exact loop3 345 0 (by omega)
          · rw [if_neg (fun q => q.elim h2 h4)] at hx
            by_cases h3 : o.1 = -3
            · rw [if_pos h3] at hx
              refine cr_istore4 (pc := 55) C dX4_execute_55 (by decide) rfl ?_
              refine cr_aload_n (pc := 57) C dX4_execute_57 rfl ?_
              refine cr_dV (pc := 58) C (sm_dC g4 hA) rfl gX4_execute_X4_doesCommand rfl dX4_execute_58 (by first | rfl | assumption | (simp [cg_ok]; omega)) rfl hvX4_doesCommand rfl ⟨rfl, rfl, Nat.le_of_ble_eq_true rfl, Nat.le_of_ble_eq_true rfl⟩ (Nat.le_of_ble_eq_true rfl) rfl ?_
              rw [← ho]
              refine cr_istore5 (pc := 61) C dX4_execute_61 (by decide) rfl ?_
              refine cr_iload (pc := 63) C dX4_execute_63 rfl ?_
              refine cr_bipush (pc := 65) (v := (-2)) C dX4_execute_65 (by decide) ?_
              refine cr_icmp_eq_f (pc := 67) (tgt := 77) C dX4_execute_67 (by decide) h2 ?_
              refine cr_iload (pc := 70) C dX4_execute_70 rfl ?_
              refine cr_bipush (pc := 72) (v := (-4)) C dX4_execute_72 (by decide) ?_
              refine cr_icmp_ne_t (pc := 74) (tgt := 114) C dX4_execute_74 (by decide) h4 ?_
              refine cr_iload_n (pc := 114) C dX4_execute_114 rfl ?_
              refine cr_iload (pc := 115) C dX4_execute_115 rfl ?_
              refine cr_bipush (pc := 117) (v := (-3)) C dX4_execute_117 (by decide) ?_
              refine cr_icmp_ne_f (pc := 119) (tgt := 126) C dX4_execute_119 (by decide) h3 ?_
              refine cr_iconst (pc := 122) (v := nI 0) C dX4_execute_122 (by decide) ?_
              refine cr_goto (pc := 123) (tgt := 127) C dX4_execute_123 (by decide) ?_
              refine cr_iadd_n (pc := 127) C dX4_execute_127 ?_
              refine cr_istore_n2 (pc := 128) C dX4_execute_128 (by decide) rfl ?_
              refine cr_iinc3 (pc := 129) C dX4_execute_129 (cg_inc1 _) (by decide) rfl ?_
              refine cr_goto (pc := 132) (tgt := 46) C dX4_execute_132 (by decide) ?_
              exact ih (i + 1) n p' nb' d' (upd Lt i (nI l)) Nm' o.2 (nI l) Nu' _ _ _ (by omega) g2 g5 hoI hx
            · rw [if_neg h3] at hx
              refine cr_istore4 (pc := 55) C dX4_execute_55 (by decide) rfl ?_
              refine cr_aload_n (pc := 57) C dX4_execute_57 rfl ?_
              refine cr_dV (pc := 58) C (sm_dC g4 hA) rfl gX4_execute_X4_doesCommand rfl dX4_execute_58 (by first | rfl | assumption | (simp [cg_ok]; omega)) rfl hvX4_doesCommand rfl ⟨rfl, rfl, Nat.le_of_ble_eq_true rfl, Nat.le_of_ble_eq_true rfl⟩ (Nat.le_of_ble_eq_true rfl) rfl ?_
              rw [← ho]
              refine cr_istore5 (pc := 61) C dX4_execute_61 (by decide) rfl ?_
              refine cr_iload (pc := 63) C dX4_execute_63 rfl ?_
              refine cr_bipush (pc := 65) (v := (-2)) C dX4_execute_65 (by decide) ?_
              refine cr_icmp_eq_f (pc := 67) (tgt := 77) C dX4_execute_67 (by decide) h2 ?_
              refine cr_iload (pc := 70) C dX4_execute_70 rfl ?_
              refine cr_bipush (pc := 72) (v := (-4)) C dX4_execute_72 (by decide) ?_
              refine cr_icmp_ne_t (pc := 74) (tgt := 114) C dX4_execute_74 (by decide) h4 ?_
              refine cr_iload_n (pc := 114) C dX4_execute_114 rfl ?_
              refine cr_iload (pc := 115) C dX4_execute_115 rfl ?_
              refine cr_bipush (pc := 117) (v := (-3)) C dX4_execute_117 (by decide) ?_
              refine cr_icmp_ne_t (pc := 119) (tgt := 126) C dX4_execute_119 (by decide) h3 ?_
              refine cr_iconst (pc := 126) (v := nI 1) C dX4_execute_126 (by decide) ?_
              refine cr_iadd_n (pc := 127) C dX4_execute_127 ?_
              refine cr_istore_n2 (pc := 128) C dX4_execute_128 (by decide) rfl ?_
              refine cr_iinc3 (pc := 129) C dX4_execute_129 (cg_inc1 _) (by decide) rfl ?_
              refine cr_goto (pc := 132) (tgt := 46) C dX4_execute_132 (by decide) ?_
              exact ih (i + 1) (n + 1) p' nb' d' (upd Lt i (nI l)) Nm' o.2 (nI l) Nu' _ _ _ (by omega) g2 g5 hoI hx
  have ph2 : ∀ (p : Nat) (cm : Int32) (Nu : Nat → Int32), cg_pe L R = -1 → cg_W E (cg_pn M p cm Nu) 33 [some (.inr (.inr (4, 0, 0, 0))), some (.inl (nI K)), none, none, none, none, none] [] := by
    intro p cm Nu hpe
    refine cr_aload_n (pc := 33) C dX4_execute_33 rfl ?_
    refine cr_dV (pc := 34) C (sm_puts) rfl gX4_execute_X4_putsAside rfl dX4_execute_34 (by first | rfl | assumption | (simp [cg_ok]; omega)) rfl hvX4_putsAside rfl ⟨rfl, rfl, Nat.le_of_ble_eq_true rfl, Nat.le_of_ble_eq_true rfl⟩ (Nat.le_of_ble_eq_true rfl) rfl ?_
    rw [cg_asd_pn]
    refine cr_aload_n (pc := 37) C dX4_execute_37 rfl ?_
    refine cr_iconst (pc := 38) (v := nI 0) C dX4_execute_38 (by decide) ?_
    refine cr_puti (pc := 39) (c := 4) (k := 7) C (by first | rfl | assumption | (simp [cg_ok]; omega)) rfl (by decide) rfl rfl inX4_execute_X4 flX4_execute_122 rfl (by first | rfl | decide) rfl dX4_execute_39 ?_
    rw [cg_pn_u7]
    refine cr_iconst (pc := 42) (v := nI 0) C dX4_execute_42 (by decide) ?_
    refine cr_istore_n2 (pc := 43) C dX4_execute_43 (by decide) rfl ?_
    refine cr_iconst (pc := 44) (v := nI 0) C dX4_execute_44 (by decide) ?_
    refine cr_istore_n3 (pc := 45) C dX4_execute_45 (by decide) rfl ?_
    rw [cg_asd_id]
    exact loop2 hpe K 0 0 0 nb d Lt0 Nm0 (M 20) cm Nu _ _ _ (by omega) (Nat.zero_le _) hR.symm hI hxr
  have loop1 : ∀ (m p k nb d : Nat) (Lt Nm : Nat → Int32) (cm : Int32) (Nu : Nat → Int32), L - p < m → p ≤ L → R = cg_ot t L p (k, false, nb, d, Lt, Nm) → (k = 0 ∨ cg_sk t (L - p) p < L) → cg_W E (cg_pn M p cm Nu) 7 [some (.inr (.inr (4, 0, 0, 0))), some (.inl (nI k)), none, none, none, none, none] [] := by
    intro m
    induction m with
    | zero => intro p k nb d Lt Nm cm Nu h; exact absurd h (by omega)
    | succ m ih =>
      intro p k nb d Lt Nm cm Nu hm hp hO hk
      refine cr_aload_n (pc := 7) C dX4_execute_7 rfl ?_
      refine cr_callV (pc := 8) (rest := []) C (sm_tc hl hT (k := k) (nb := nb) (d := d) (Lt := Lt) (Nm := Nm) hp rfl hk) rfl gX4_execute_X4_takesCommand rfl dX4_execute_8 (by first | rfl | assumption | (simp [cg_ok]; omega)) rfl hvX4_takesCommand rfl ⟨rfl, rfl, Nat.le_of_ble_eq_true rfl, Nat.le_of_ble_eq_true rfl⟩ (Nat.le_of_ble_eq_true rfl) (fun v1 M1 hp => ?_)
      rcases hp with ⟨p', cm', Nu', rfl, rfl, g1, g2⟩ | ⟨p', l, nb', d', Nm', Nu', rfl, rfl, g1, g2, g3, g4, g5, g6, g7⟩
      · rw [← hO] at g2
        show cg_W E _ 11 _ [.inl (nI 0)]
        refine cr_if_ne_f (pc := 11) (tgt := 22) C dX4_execute_11 (by decide) (by decide) ?_
        refine cr_bipush (pc := 14) (v := (-10)) C dX4_execute_14 (by decide) ?_
        refine cr_aload_n (pc := 16) C dX4_execute_16 rfl ?_
        refine cr_geti (pc := 17) (c := 4) (k := 7) C (by first | rfl | assumption | (simp [cg_ok]; omega)) rfl (by decide) rfl rfl inX4_execute_X4 flX4_execute_122 dX4_execute_17 ?_
        rw [cg_pn_7]
        refine cr_isub (pc := 20) C dX4_execute_20 ?_
        refine cr_ireturn (pc := 21) C X dX4_execute_21 ?_
        exact ⟨p', cm', Nu', Or.inl ⟨by rw [g2]; exact cg_nm1b (by omega), by rw [g2], rfl⟩⟩
      · rw [← hO] at g5
        show cg_W E _ 11 _ [.inl (nI 1)]
        obtain ⟨e2, he2⟩ : ∃ e2, cg_sk t (L - p') p' = e2 := ⟨_, rfl⟩
        have hle2 := cg_sk_le t (L - p') p'
        rw [he2] at hle2
        by_cases hlt : e2 < L
        · obtain ⟨d2, k1, -⟩ := cg_sk_o (t := t) (L := L) (L - p') p' (k + 1) false nb' d' (upd Lt k (nI l)) Nm' (by omega)
          rw [he2] at k1
          have h32 := cg_sk_ne t (L - p') p' (by rw [he2]; omega)
          rw [he2] at h32
          have hee : cg_sk t (L - e2) e2 = e2 := by
            rw [show L - e2 = (L - e2 - 1) + 1 by omega]
            unfold cg_sk
            rw [if_neg h32]
          refine cr_if_ne_t (pc := 11) (tgt := 22) C dX4_execute_11 (by decide) (by decide) ?_
          refine cr_iinc1 (pc := 22) C dX4_execute_22 (cg_inc1 _) (by decide) rfl ?_
          refine cr_aload_n (pc := 25) C dX4_execute_25 rfl ?_
          refine cr_dV (pc := 26) C (sm_here hl hT g2 he2) rfl gX4_execute_X4_here rfl dX4_execute_26 (by first | rfl | assumption | (simp [cg_ok]; omega)) rfl hvX4_here rfl ⟨rfl, rfl, Nat.le_of_ble_eq_true rfl, Nat.le_of_ble_eq_true rfl⟩ (Nat.le_of_ble_eq_true rfl) rfl ?_
          rw [show cg_hv t L e2 = nI (t e2) by unfold cg_hv; rw [if_pos hlt]]
          refine cr_iconst (pc := 29) (v := (-1)) C dX4_execute_29 (by decide) ?_
          refine cr_icmp_ne_t (pc := 30) (tgt := 7) C dX4_execute_30 (by decide) (cg_nm1b (by have := (hT.2 e2 hlt).1; omega)) ?_
          exact ih e2 (k + 1) nb' d2 (upd Lt k (nI l)) Nm' _ _ (by omega) (by omega) (by rw [g5, k1]) (Or.inr (by rw [hee]; exact hlt))
        · have e3 : e2 = L := by omega
          obtain ⟨d2, k1⟩ := cg_tcE (t := t) (k := k + 1) (nb := nb') (d := d') (c := false) (Lt := upd Lt k (nI l)) (Nm := Nm') g2 (by rw [he2, e3])
          rw [k1] at g5
          have hK1 : k + 1 = K := by rw [← hK, g5]
          have hpe : cg_pe L R = -1 := by rw [g5]; simp [cg_pe]
          refine cr_if_ne_t (pc := 11) (tgt := 22) C dX4_execute_11 (by decide) (by decide) ?_
          refine cr_iinc1 (pc := 22) C dX4_execute_22 (cg_inc1 _) (by decide) rfl ?_
          refine cr_aload_n (pc := 25) C dX4_execute_25 rfl ?_
          refine cr_dV (pc := 26) C (sm_here hl hT g2 he2) rfl gX4_execute_X4_here rfl dX4_execute_26 (by first | rfl | assumption | (simp [cg_ok]; omega)) rfl hvX4_here rfl ⟨rfl, rfl, Nat.le_of_ble_eq_true rfl, Nat.le_of_ble_eq_true rfl⟩ (Nat.le_of_ble_eq_true rfl) rfl ?_
          rw [show cg_hv t L e2 = -1 by unfold cg_hv; rw [if_neg hlt]]
          refine cr_iconst (pc := 29) (v := (-1)) C dX4_execute_29 (by decide) ?_
          refine cr_icmp_ne_f (pc := 30) (tgt := 7) C dX4_execute_30 (by decide) rfl ?_
          rw [hK1]
          exact ph2 _ _ _ hpe
  refine cr_aload_n (pc := 0) C dX4_execute_0 rfl ?_
  refine cr_iconst (pc := 1) (v := nI 0) C dX4_execute_1 (by decide) ?_
  refine cr_puti (pc := 2) (c := 4) (k := 7) C (by first | rfl | assumption | (simp [cg_ok]; omega)) rfl (by decide) rfl rfl inX4_execute_X4 flX4_execute_122 rfl (by first | rfl | decide) rfl dX4_execute_2 ?_
  rw [cg_pn_init]
  refine cr_iconst (pc := 5) (v := nI 0) C dX4_execute_5 (by decide) ?_
  refine cr_istore_n1 (pc := 6) C dX4_execute_6 (by decide) rfl ?_
  exact loop1 (L + 1) 0 0 nb d Lt0 Nm0 _ _ (by omega) (Nat.zero_le _) hR.symm (Or.inl rfl)
