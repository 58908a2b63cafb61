/-! ===== the reference: execute ===== -/
theorem cg_nm1b {l : Nat} (h : l < 2147483648) : ¬ nI l = -1 := by
  intro q
  have h1 : ¬ nI l < 0 := nI_pos (by omega)
  rw [q] at h1
  exact h1 (by decide)
/-- what takesCommand leaves -/
def cg_tcP (M : cg_M) (t : Nat → Nat) (L p k nb d : Nat) (Lt Nm : Nat → Int32) (v : Option cg_V) (M' : cg_M) : Prop :=
  (∃ (p' : Nat) (cm' : Int32) (Nu' : Nat → Int32), v = some (.inl (nI 0)) ∧ M' = cg_pn M p' cm' Nu' ∧ p' ≤ L ∧ cg_pe L (cg_ot t L p (k, false, nb, d, Lt, Nm)) = nI p') ∨
  (∃ (p' l nb' d' : Nat) (Nm' Nu' : Nat → Int32), v = some (.inl (nI 1)) ∧ M' = cg_pn M p' (nI l) Nu' ∧ p < p' ∧ p' ≤ L ∧ l < 128 ∧ cg_na l ≠ 0 ∧ cg_ot t L p (k, false, nb, d, Lt, Nm) = cg_ot t L p' (k + 1, false, nb', d', upd Lt k (nI l), Nm') ∧ (∀ x, x < 4 * k → Nm' x = Nm x) ∧ ∀ j, j < cg_na l → Nm' (4 * k + j) = Nu' j)
set_option maxRecDepth 100000 in
set_option maxHeartbeats 4000000 in
theorem sm_tc {M : cg_M} {cm : Int32} {Nu : Nat → Int32} {t : Nat → Nat} {L : Nat} (hl : M 26 6 = nI L) (hT : cg_tx0 (M 24) t L) {p e k nb d : Nat} {Lt Nm : Nat → Int32} (hp : p ≤ L) (he : cg_sk t (L - p) p = e) (hk : k = 0 ∨ e < L) : cg_S yX4_takesCommand wsX4_takesCommand rmX4_takesCommand [.inr (.inr (4, 0, 0, 0))] (cg_pn M p cm Nu) (cg_tcP M t L p k nb d Lt Nm) := by
  refine cg_S_of (cc := cX4_takesCommand) (maxL := 3) (ret := (some .boolean)) (ls0 := [some (.inr (.inr (4, 0, 0, 0))), none, none]) RX4 rfl (by decide) rfl rfl (Nat.le_of_ble_eq_true rfl) (fun E C X => ?_)
  have hL100 := hT.1
  have hle := cg_sk_le t (L - p) p
  rw [he] at hle
  by_cases hlet : e < L ∧ cg_na (t e) ≠ 0
  · obtain ⟨l, hlt⟩ : ∃ l, l = t e := ⟨_, rfl⟩
    have hl8 : l < 128 := by rw [hlt]; exact (hT.2 e hlet.1).1
    have hna : cg_na l ≠ 0 := by rw [hlt]; exact hlet.2
    have hl4 := cg_na_le l
    have hLk : (upd Lt k (nI l)) k = nI l := cg_us _ _ _
    have loop : ∀ (m j p2 d2 : Nat) (Nm2 Nu2 : Nat → Int32), j + m = cg_na l → p < p2 → p2 ≤ L → cg_ot t L p (k, false, nb, d, Lt, Nm) = cg_ot t L p2 (k, true, j, d2, upd Lt k (nI l), Nm2) → (d2 = 0 ∨ cg_dg t L p2 = false) → (∀ x, x < 4 * k → Nm2 x = Nm x) → (∀ i, i < j → Nm2 (4 * k + i) = Nu2 i) → cg_W E (cg_pn M p2 (nI l) Nu2) 35 [some (.inr (.inr (4, 0, 0, 0))), some (.inl (nI (cg_na l))), some (.inl (nI j))] [] := by
      intro m
      induction m with
      | zero =>
        intro j p2 d2 Nm2 Nu2 hj hpp hp2 hO hd h1 h2
        have hj : j = cg_na l := by omega
        subst hj
        obtain ⟨e2, he2⟩ : ∃ e2, cg_sk t (L - p2) p2 = e2 := ⟨_, rfl⟩
        have hle2 := cg_sk_le t (L - p2) p2
        rw [he2] at hle2
        by_cases h59 : e2 < L ∧ t e2 = 59
        · refine cr_iload_n (pc := 35) C dX4_takesCommand_35 rfl ?_
          refine cr_iload_n (pc := 36) C dX4_takesCommand_36 rfl ?_
          refine cr_icmp_ge_t (pc := 37) (tgt := 56) C dX4_takesCommand_37 (by decide) (Int32.le_refl _) ?_
          refine cr_aload_n (pc := 56) C dX4_takesCommand_56 rfl ?_
          refine cr_dV (pc := 57) C (sm_here hl hT hp2 he2) rfl gX4_takesCommand_X4_here rfl dX4_takesCommand_57 (by first | rfl | assumption | (simp [cg_ok]; omega)) rfl hvX4_here rfl ⟨rfl, rfl, Nat.le_of_ble_eq_true rfl, Nat.le_of_ble_eq_true rfl⟩ (Nat.le_of_ble_eq_true rfl) rfl ?_
          rw [show cg_hv t L e2 = nI 59 by unfold cg_hv; rw [if_pos h59.1, h59.2]]
          refine cr_bipush (pc := 60) (v := nI 59) C dX4_takesCommand_60 (by decide) ?_
          refine cr_icmp_eq_t (pc := 62) (tgt := 67) C dX4_takesCommand_62 (by decide) rfl ?_
          refine cr_aload_n (pc := 67) C dX4_takesCommand_67 rfl ?_
          refine cr_dup (pc := 68) C dX4_takesCommand_68 rfl ?_
          refine cr_geti (pc := 69) (c := 4) (k := 7) C (by first | rfl | assumption | (simp [cg_ok]; omega)) rfl (by decide) rfl rfl inX4_takesCommand_X4 flX4_takesCommand_122 dX4_takesCommand_69 ?_
          rw [cg_pn_7]
          refine cr_iconst (pc := 72) (v := nI 1) C dX4_takesCommand_72 (by decide) ?_
          refine cr_iadd_n (pc := 73) C dX4_takesCommand_73 ?_
          refine cr_puti (pc := 74) (c := 4) (k := 7) C (by first | rfl | assumption | (simp [cg_ok]; omega)) rfl (by decide) rfl rfl inX4_takesCommand_X4 flX4_takesCommand_122 rfl (by first | rfl | decide) rfl dX4_takesCommand_74 ?_
          rw [cg_pn_u7]
          refine cr_iconst (pc := 77) (v := nI 1) C dX4_takesCommand_77 (by decide) ?_
          refine cr_zreturn (pc := 78) C X dX4_takesCommand_78 (by first | exact Or.inr rfl | exact Or.inl rfl | assumption) ?_
          obtain ⟨d', hd'⟩ := cg_tcS (d := d2) (Nm := Nm2) hp2 he2 hl8 hLk (Nat.le_refl _) h59.1 h59.2
          exact Or.inr ⟨e2 + 1, l, cg_na l, d', Nm2, Nu2, rfl, rfl, by omega, by omega, hl8, hna, by rw [hO, hd'], h1, h2⟩
        · have hne : ¬ cg_hv t L e2 = nI 59 := by
            unfold cg_hv
            split
            · exact fun q => h59 ⟨by assumption, (nI_eq (by have := (hT.2 e2 (by assumption)).1; omega) (by omega)).mp q⟩
            · decide
          refine cr_iload_n (pc := 35) C dX4_takesCommand_35 rfl ?_
          refine cr_iload_n (pc := 36) C dX4_takesCommand_36 rfl ?_
          refine cr_icmp_ge_t (pc := 37) (tgt := 56) C dX4_takesCommand_37 (by decide) (Int32.le_refl _) ?_
          refine cr_aload_n (pc := 56) C dX4_takesCommand_56 rfl ?_
          refine cr_dV (pc := 57) C (sm_here hl hT hp2 he2) rfl gX4_takesCommand_X4_here rfl dX4_takesCommand_57 (by first | rfl | assumption | (simp [cg_ok]; omega)) rfl hvX4_here rfl ⟨rfl, rfl, Nat.le_of_ble_eq_true rfl, Nat.le_of_ble_eq_true rfl⟩ (Nat.le_of_ble_eq_true rfl) rfl ?_
          refine cr_bipush (pc := 60) (v := nI 59) C dX4_takesCommand_60 (by decide) ?_
          refine cr_icmp_eq_f (pc := 62) (tgt := 67) C dX4_takesCommand_62 (by decide) hne ?_
          refine cr_iconst (pc := 65) (v := nI 0) C dX4_takesCommand_65 (by decide) ?_
          refine cr_zreturn (pc := 66) C X dX4_takesCommand_66 (by first | exact Or.inr rfl | exact Or.inl rfl | assumption) ?_
          exact Or.inl ⟨e2, _, _, rfl, rfl, by omega, by rw [hO]; exact cg_tcF hp2 he2 hl8 hLk (Nat.le_refl _) hd h59⟩
      | succ m ih =>
        intro j p2 d2 Nm2 Nu2 hj hpp hp2 hO hd h1 h2
        have hjn : j < cg_na l := by omega
        obtain ⟨e2, he2⟩ : ∃ e2, cg_sk t (L - p2) p2 = e2 := ⟨_, rfl⟩
        have hle2 := cg_sk_le t (L - p2) p2
        rw [he2] at hle2
        cases g0 : cg_dg t L e2
        · refine cr_iload_n (pc := 35) C dX4_takesCommand_35 rfl ?_
          refine cr_iload_n (pc := 36) C dX4_takesCommand_36 rfl ?_
          refine cr_icmp_ge_f (pc := 37) (tgt := 56) C dX4_takesCommand_37 (by decide) (nI_ge hjn (by omega)) ?_
          refine cr_aload_n (pc := 40) C dX4_takesCommand_40 rfl ?_
          refine cr_iload_n (pc := 41) C dX4_takesCommand_41 rfl ?_
          refine cr_dV (pc := 42) C (sm_tn0 hl hT (by omega) hp2 he2 (by omega) g0) rfl gX4_takesCommand_X4_takesNumber rfl dX4_takesCommand_42 (by first | rfl | assumption | (simp [cg_ok]; omega)) rfl hvX4_takesNumber rfl ⟨rfl, rfl, Nat.le_of_ble_eq_true rfl, Nat.le_of_ble_eq_true rfl⟩ (Nat.le_of_ble_eq_true rfl) rfl ?_
          refine cr_if_ne_f (pc := 45) (tgt := 50) C dX4_takesCommand_45 (by decide) (by decide) ?_
          refine cr_iconst (pc := 48) (v := nI 0) C dX4_takesCommand_48 (by decide) ?_
          refine cr_zreturn (pc := 49) C X dX4_takesCommand_49 (by first | exact Or.inr rfl | exact Or.inl rfl | assumption) ?_
          exact Or.inl ⟨e2, _, _, rfl, rfl, by omega, by rw [hO]; exact cg_tnA hp2 he2 hl8 hLk hjn g0⟩
        · cases g1 : cg_dg t L (e2 + 1)
          · have k0 := cg_dg_t g0
            refine cr_iload_n (pc := 35) C dX4_takesCommand_35 rfl ?_
            refine cr_iload_n (pc := 36) C dX4_takesCommand_36 rfl ?_
            refine cr_icmp_ge_f (pc := 37) (tgt := 56) C dX4_takesCommand_37 (by decide) (nI_ge hjn (by omega)) ?_
            refine cr_aload_n (pc := 40) C dX4_takesCommand_40 rfl ?_
            refine cr_iload_n (pc := 41) C dX4_takesCommand_41 rfl ?_
            refine cr_dV (pc := 42) C (sm_tn1 hl hT (by omega) hp2 he2 (by omega) g0 g1) rfl gX4_takesCommand_X4_takesNumber rfl dX4_takesCommand_42 (by first | rfl | assumption | (simp [cg_ok]; omega)) rfl hvX4_takesNumber rfl ⟨rfl, rfl, Nat.le_of_ble_eq_true rfl, Nat.le_of_ble_eq_true rfl⟩ (Nat.le_of_ble_eq_true rfl) rfl ?_
            refine cr_if_ne_t (pc := 45) (tgt := 50) C dX4_takesCommand_45 (by decide) (by decide) ?_
            refine cr_iinc2 (pc := 50) C dX4_takesCommand_50 (cg_inc1 _) (by decide) rfl ?_
            refine cr_goto (pc := 53) (tgt := 35) C dX4_takesCommand_53 (by decide) ?_
            refine ih (j + 1) (e2 + 1) 1 (upd Nm2 (4 * k + j) (nI (t e2 - 48))) (upd Nu2 j (nI (t e2 - 48))) (by omega) (by omega) (by omega) (by rw [hO]; exact cg_tn1 hp2 he2 hl8 hLk hjn hd g0) (Or.inr g1) (fun x hx => by rw [cg_un (by omega)]; exact h1 x hx) (fun i hi => ?_)
            by_cases hij : i = j
            · subst hij; rw [cg_us, cg_us]
            · rw [cg_un (by omega), cg_un hij]; exact h2 i (by omega)
          · cases g2 : cg_dg t L (e2 + 2)
            · have k1 := cg_dg_t g1
              refine cr_iload_n (pc := 35) C dX4_takesCommand_35 rfl ?_
              refine cr_iload_n (pc := 36) C dX4_takesCommand_36 rfl ?_
              refine cr_icmp_ge_f (pc := 37) (tgt := 56) C dX4_takesCommand_37 (by decide) (nI_ge hjn (by omega)) ?_
              refine cr_aload_n (pc := 40) C dX4_takesCommand_40 rfl ?_
              refine cr_iload_n (pc := 41) C dX4_takesCommand_41 rfl ?_
              refine cr_dV (pc := 42) C (sm_tn2 hl hT (by omega) hp2 he2 (by omega) g0 g1 g2) rfl gX4_takesCommand_X4_takesNumber rfl dX4_takesCommand_42 (by first | rfl | assumption | (simp [cg_ok]; omega)) rfl hvX4_takesNumber rfl ⟨rfl, rfl, Nat.le_of_ble_eq_true rfl, Nat.le_of_ble_eq_true rfl⟩ (Nat.le_of_ble_eq_true rfl) rfl ?_
              refine cr_if_ne_t (pc := 45) (tgt := 50) C dX4_takesCommand_45 (by decide) (by decide) ?_
              refine cr_iinc2 (pc := 50) C dX4_takesCommand_50 (cg_inc1 _) (by decide) rfl ?_
              refine cr_goto (pc := 53) (tgt := 35) C dX4_takesCommand_53 (by decide) ?_
              refine ih (j + 1) (e2 + 2) 2 (upd Nm2 (4 * k + j) (nI (10 * (t e2 - 48) + (t (e2 + 1) - 48)))) (upd Nu2 j (nI (10 * (t e2 - 48) + (t (e2 + 1) - 48)))) (by omega) (by omega) (by omega) (by rw [hO]; exact cg_tn2 hp2 he2 hl8 hLk hjn hd g0 g1) (Or.inr g2) (fun x hx => by rw [cg_un (by omega)]; exact h1 x hx) (fun i hi => ?_)
              by_cases hij : i = j
              · subst hij; rw [cg_us, cg_us]
              · rw [cg_un (by omega), cg_un hij]; exact h2 i (by omega)
            · refine cr_iload_n (pc := 35) C dX4_takesCommand_35 rfl ?_
              refine cr_iload_n (pc := 36) C dX4_takesCommand_36 rfl ?_
              refine cr_icmp_ge_f (pc := 37) (tgt := 56) C dX4_takesCommand_37 (by decide) (nI_ge hjn (by omega)) ?_
              refine cr_aload_n (pc := 40) C dX4_takesCommand_40 rfl ?_
              refine cr_iload_n (pc := 41) C dX4_takesCommand_41 rfl ?_
              refine cr_dV (pc := 42) C (sm_tn3 hl hT (by omega) hp2 he2 (by omega) g0 g1 g2) rfl gX4_takesCommand_X4_takesNumber rfl dX4_takesCommand_42 (by first | rfl | assumption | (simp [cg_ok]; omega)) rfl hvX4_takesNumber rfl ⟨rfl, rfl, Nat.le_of_ble_eq_true rfl, Nat.le_of_ble_eq_true rfl⟩ (Nat.le_of_ble_eq_true rfl) rfl ?_
              refine cr_if_ne_f (pc := 45) (tgt := 50) C dX4_takesCommand_45 (by decide) (by decide) ?_
              refine cr_iconst (pc := 48) (v := nI 0) C dX4_takesCommand_48 (by decide) ?_
              refine cr_zreturn (pc := 49) C X dX4_takesCommand_49 (by first | exact Or.inr rfl | exact Or.inl rfl | assumption) ?_
              exact Or.inl ⟨e2 + 2, _, _, rfl, rfl, by have := cg_dg_t g2; omega, by rw [hO]; exact cg_tn3 hp2 he2 hl8 hLk hjn hd g0 g1 g2⟩
    refine cr_aload_n (pc := 0) C dX4_takesCommand_0 rfl ?_
    refine cr_aload_n (pc := 1) C dX4_takesCommand_1 rfl ?_
    refine cr_dV (pc := 2) C (sm_here hl hT hp he) rfl gX4_takesCommand_X4_here rfl dX4_takesCommand_2 (by first | rfl | assumption | (simp [cg_ok]; omega)) rfl hvX4_here rfl ⟨rfl, rfl, Nat.le_of_ble_eq_true rfl, Nat.le_of_ble_eq_true rfl⟩ (Nat.le_of_ble_eq_true rfl) rfl ?_
    rw [show cg_hv t L e = nI l by unfold cg_hv; rw [if_pos hlet.1, hlt]]
    refine cr_puti (pc := 5) (c := 4) (k := 9) C (by first | rfl | assumption | (simp [cg_ok]; omega)) rfl (by decide) rfl rfl inX4_takesCommand_X4 flX4_takesCommand_137 rfl (by first | rfl | decide) rfl dX4_takesCommand_5 ?_
    rw [cg_pn_u9]
    refine cr_aload_n (pc := 8) C dX4_takesCommand_8 rfl ?_
    refine cr_geti (pc := 9) (c := 4) (k := 9) C (by first | rfl | assumption | (simp [cg_ok]; omega)) rfl (by decide) rfl rfl inX4_takesCommand_X4 flX4_takesCommand_137 dX4_takesCommand_9 ?_
    rw [cg_pn_9]
    refine cr_dS (pc := 12) C (sm_nO1 hna) rfl gX4_takesCommand_X4_numbersOf rfl dX4_takesCommand_12 hsX4_numbersOf rfl ⟨rfl, rfl, Nat.le_of_ble_eq_true rfl, Nat.le_of_ble_eq_true rfl⟩ (Nat.le_of_ble_eq_true rfl) rfl ?_
    refine cr_istore_n1 (pc := 15) C dX4_takesCommand_15 (by decide) rfl ?_
    refine cr_iload_n (pc := 16) C dX4_takesCommand_16 rfl ?_
    refine cr_iconst (pc := 17) (v := (-1)) C dX4_takesCommand_17 (by decide) ?_
    refine cr_icmp_ne_t (pc := 18) (tgt := 23) C dX4_takesCommand_18 (by decide) (cg_nm1b (by omega)) ?_
    refine cr_aload_n (pc := 23) C dX4_takesCommand_23 rfl ?_
    refine cr_dup (pc := 24) C dX4_takesCommand_24 rfl ?_
    refine cr_geti (pc := 25) (c := 4) (k := 7) C (by first | rfl | assumption | (simp [cg_ok]; omega)) rfl (by decide) rfl rfl inX4_takesCommand_X4 flX4_takesCommand_122 dX4_takesCommand_25 ?_
    rw [cg_pn_7]
    refine cr_iconst (pc := 28) (v := nI 1) C dX4_takesCommand_28 (by decide) ?_
    refine cr_iadd_n (pc := 29) C dX4_takesCommand_29 ?_
    refine cr_puti (pc := 30) (c := 4) (k := 7) C (by first | rfl | assumption | (simp [cg_ok]; omega)) rfl (by decide) rfl rfl inX4_takesCommand_X4 flX4_takesCommand_122 rfl (by first | rfl | decide) rfl dX4_takesCommand_30 ?_
    rw [cg_pn_u7]
    refine cr_iconst (pc := 33) (v := nI 0) C dX4_takesCommand_33 (by decide) ?_
    refine cr_istore_n2 (pc := 34) C dX4_takesCommand_34 (by decide) rfl ?_
    refine loop (cg_na l) 0 (e + 1) 0 Nm Nu (by omega) (by omega) (by omega) ?_ (Or.inl rfl) (fun _ _ => rfl) (fun i hi => absurd hi (by omega))
    rw [hlt]
    exact cg_tcL1 hp he hlet.1 hlet.2
  · rcases Nat.lt_or_ge e L with hlt | hge
    · have hna : cg_na (t e) = 0 := Classical.not_not.mp (fun q => hlet ⟨hlt, q⟩)
      refine cr_aload_n (pc := 0) C dX4_takesCommand_0 rfl ?_
      refine cr_aload_n (pc := 1) C dX4_takesCommand_1 rfl ?_
      refine cr_dV (pc := 2) C (sm_here hl hT hp he) rfl gX4_takesCommand_X4_here rfl dX4_takesCommand_2 (by first | rfl | assumption | (simp [cg_ok]; omega)) rfl hvX4_here rfl ⟨rfl, rfl, Nat.le_of_ble_eq_true rfl, Nat.le_of_ble_eq_true rfl⟩ (Nat.le_of_ble_eq_true rfl) rfl ?_
      rw [show cg_hv t L e = nI (t e) by unfold cg_hv; rw [if_pos hlt]]
      refine cr_puti (pc := 5) (c := 4) (k := 9) C (by first | rfl | assumption | (simp [cg_ok]; omega)) rfl (by decide) rfl rfl inX4_takesCommand_X4 flX4_takesCommand_137 rfl (by first | rfl | decide) rfl dX4_takesCommand_5 ?_
      rw [cg_pn_u9]
      refine cr_aload_n (pc := 8) C dX4_takesCommand_8 rfl ?_
      refine cr_geti (pc := 9) (c := 4) (k := 9) C (by first | rfl | assumption | (simp [cg_ok]; omega)) rfl (by decide) rfl rfl inX4_takesCommand_X4 flX4_takesCommand_137 dX4_takesCommand_9 ?_
      rw [cg_pn_9]
      refine cr_dS (pc := 12) C (sm_nO0 (hT.2 e hlt).1 hna) rfl gX4_takesCommand_X4_numbersOf rfl dX4_takesCommand_12 hsX4_numbersOf rfl ⟨rfl, rfl, Nat.le_of_ble_eq_true rfl, Nat.le_of_ble_eq_true rfl⟩ (Nat.le_of_ble_eq_true rfl) rfl ?_
      refine cr_istore_n1 (pc := 15) C dX4_takesCommand_15 (by decide) rfl ?_
      refine cr_iload_n (pc := 16) C dX4_takesCommand_16 rfl ?_
      refine cr_iconst (pc := 17) (v := (-1)) C dX4_takesCommand_17 (by decide) ?_
      refine cr_icmp_ne_f (pc := 18) (tgt := 23) C dX4_takesCommand_18 (by decide) rfl ?_
      refine cr_iconst (pc := 21) (v := nI 0) C dX4_takesCommand_21 (by decide) ?_
      refine cr_zreturn (pc := 22) C X dX4_takesCommand_22 (by first | exact Or.inr rfl | exact Or.inl rfl | assumption) ?_
      exact Or.inl ⟨e, _, _, rfl, rfl, by omega, cg_tcL0 hp he hk hlet⟩
    · refine cr_aload_n (pc := 0) C dX4_takesCommand_0 rfl ?_
      refine cr_aload_n (pc := 1) C dX4_takesCommand_1 rfl ?_
      refine cr_dV (pc := 2) C (sm_here hl hT hp he) rfl gX4_takesCommand_X4_here rfl dX4_takesCommand_2 (by first | rfl | assumption | (simp [cg_ok]; omega)) rfl hvX4_here rfl ⟨rfl, rfl, Nat.le_of_ble_eq_true rfl, Nat.le_of_ble_eq_true rfl⟩ (Nat.le_of_ble_eq_true rfl) rfl ?_
      rw [show cg_hv t L e = -1 by unfold cg_hv; rw [if_neg (by omega)]]
      refine cr_puti (pc := 5) (c := 4) (k := 9) C (by first | rfl | assumption | (simp [cg_ok]; omega)) rfl (by decide) rfl rfl inX4_takesCommand_X4 flX4_takesCommand_137 rfl (by first | rfl | decide) rfl dX4_takesCommand_5 ?_
      rw [cg_pn_u9]
      refine cr_aload_n (pc := 8) C dX4_takesCommand_8 rfl ?_
      refine cr_geti (pc := 9) (c := 4) (k := 9) C (by first | rfl | assumption | (simp [cg_ok]; omega)) rfl (by decide) rfl rfl inX4_takesCommand_X4 flX4_takesCommand_137 dX4_takesCommand_9 ?_
      rw [cg_pn_9]
      refine cr_dS (pc := 12) C (sm_nOm) rfl gX4_takesCommand_X4_numbersOf rfl dX4_takesCommand_12 hsX4_numbersOf rfl ⟨rfl, rfl, Nat.le_of_ble_eq_true rfl, Nat.le_of_ble_eq_true rfl⟩ (Nat.le_of_ble_eq_true rfl) rfl ?_
      refine cr_istore_n1 (pc := 15) C dX4_takesCommand_15 (by decide) rfl ?_
      refine cr_iload_n (pc := 16) C dX4_takesCommand_16 rfl ?_
      refine cr_iconst (pc := 17) (v := (-1)) C dX4_takesCommand_17 (by decide) ?_
      refine cr_icmp_ne_f (pc := 18) (tgt := 23) C dX4_takesCommand_18 (by decide) rfl ?_
      refine cr_iconst (pc := 21) (v := nI 0) C dX4_takesCommand_21 (by decide) ?_
      refine cr_zreturn (pc := 22) C X dX4_takesCommand_22 (by first | exact Or.inr rfl | exact Or.inl rfl | assumption) ?_
      exact Or.inl ⟨e, _, _, rfl, rfl, by omega, cg_tcL0 hp he hk hlet⟩
theorem cg_off3 : ∀ v : Nat, v < 128 → Op.lookupswitch.offset [(102, 42), (103, 48), (114, 62), (115, 55)] 75 (v : Int) = if v = 102 then 42 else if v = 103 then 48 else if v = 114 then 62 else if v = 115 then 55 else 75 := by decide +kernel
theorem cg_cm_eq {P : Nat → Int32} {l : Nat} {a b c d a' b' c' d' : Int32} (hl : cg_na l ≠ 0) (h0 : a' = a) (h1 : 2 ≤ cg_na l → b' = b) (h2 : 3 ≤ cg_na l → c' = c) (h3 : 4 ≤ cg_na l → d' = d) : cg_cm P l a' b' c' d' = cg_cm P l a b c d := by
  subst h0
  by_cases e4 : l = 119
  · rw [h1 (by rw [e4]; decide), h2 (by rw [e4]; decide), h3 (by rw [e4]; decide)]
  by_cases e3 : l = 114
  · unfold cg_cm
    rw [h1 (by rw [e3]; decide), h2 (by rw [e3]; decide), if_neg e4, if_neg e4]
  unfold cg_cm
  rw [if_neg e3, if_neg e3, if_neg e4, if_neg e4]
  by_cases e1 : l = 103
  · rw [h1 (by rw [e1]; decide)]
  by_cases e2 : l = 115
  · rw [h1 (by rw [e2]; decide)]
  rw [if_neg e1, if_neg e1, if_neg e2, if_neg e2]
set_option maxRecDepth 100000 in
set_option maxHeartbeats 4000000 in
theorem sm_dC {M : cg_M} {P Nu : Nat → Int32} {a l : Nat} (hna : cg_na l ≠ 0) (hI : cg_I P) : cg_D yX4_doesCommand wsX4_doesCommand rmX4_doesCommand [.inr (.inr (4, 0, 0, 0))] (cg_pn (cg_sb M 20 P) a (nI l) Nu) (some (.inl (cg_cm P l (Nu 0) (Nu 1) (Nu 2) (Nu 3)).1)) (cg_pn (cg_sb M 20 (cg_cm P l (Nu 0) (Nu 1) (Nu 2) (Nu 3)).2) a (nI l) Nu) := by
  rcases (show l = 102 ∨ l = 103 ∨ l = 115 ∨ l = 114 ∨ l = 119 by unfold cg_na at hna; (repeat' split at hna) <;> omega) with rfl | rfl | rfl | rfl | rfl
  · refine cg_S_of (cc := cX4_doesCommand) (maxL := 3) (ret := (some .int)) (ls0 := [some (.inr (.inr (4, 0, 0, 0))), none, none]) RX4 rfl (by decide) rfl rfl (Nat.le_of_ble_eq_true rfl) (fun E C X => ?_)
    refine cr_aload_n (pc := 0) C dX4_doesCommand_0 rfl ?_
    refine cr_getr (pc := 1) (c := 4) (k := 8) C (by first | rfl | assumption | (simp [cg_ok]; omega)) rfl (by decide) rfl inX4_doesCommand_X4 flX4_doesCommand_25 dX4_doesCommand_1 ?_
    refine cr_iconst (pc := 4) (v := nI 0) C dX4_doesCommand_4 (by decide) ?_
    refine cr_iaload (pc := 5) C rfl (by first | rfl | assumption | (simp [cg_ok]; omega)) (by decide) (by first | decide | omega) dX4_doesCommand_5 ?_
    rw [cg_pn_25]
    refine cr_istore_n1 (pc := 6) C dX4_doesCommand_6 (by decide) rfl ?_
    refine cr_aload_n (pc := 7) C dX4_doesCommand_7 rfl ?_
    refine cr_getr (pc := 8) (c := 4) (k := 8) C (by first | rfl | assumption | (simp [cg_ok]; omega)) rfl (by decide) rfl inX4_doesCommand_X4 flX4_doesCommand_25 dX4_doesCommand_8 ?_
    refine cr_iconst (pc := 11) (v := nI 1) C dX4_doesCommand_11 (by decide) ?_
    refine cr_iaload (pc := 12) C rfl (by first | rfl | assumption | (simp [cg_ok]; omega)) (by decide) (by first | decide | omega) dX4_doesCommand_12 ?_
    rw [cg_pn_25]
    refine cr_istore_n2 (pc := 13) C dX4_doesCommand_13 (by decide) rfl ?_
    refine cr_aload_n (pc := 14) C dX4_doesCommand_14 rfl ?_
    refine cr_geti (pc := 15) (c := 4) (k := 9) C (by first | rfl | assumption | (simp [cg_ok]; omega)) rfl (by decide) rfl rfl inX4_doesCommand_X4 flX4_doesCommand_137 dX4_doesCommand_15 ?_
    rw [cg_pn_9]
    refine cr_lookup (pc := 18) (tgt := 60) (off := 42) C dX4_doesCommand_18 (by decide +kernel) (by decide) (by decide) ?_
    refine cr_aload_n (pc := 60) C dX4_doesCommand_60 rfl ?_
    refine cr_iload_n (pc := 61) C dX4_doesCommand_61 rfl ?_
    rw [← cg_pn_sb _ _ _ _ 20 (by decide) (by decide)]
    refine cr_dV (pc := 62) C (sm_oF) rfl gX4_doesCommand_X4_doesForget rfl dX4_doesCommand_62 (by first | rfl | assumption | (simp [cg_ok]; omega)) rfl hvX4_doesForget rfl ⟨rfl, rfl, Nat.le_of_ble_eq_true rfl, Nat.le_of_ble_eq_true rfl⟩ (Nat.le_of_ble_eq_true rfl) rfl ?_
    rw [cg_pn_sb _ _ _ _ 20 (by decide) (by decide)]
    refine cr_ireturn (pc := 65) C X dX4_doesCommand_65 ?_
    exact ⟨rfl, rfl⟩
  · refine cg_S_of (cc := cX4_doesCommand) (maxL := 3) (ret := (some .int)) (ls0 := [some (.inr (.inr (4, 0, 0, 0))), none, none]) RX4 rfl (by decide) rfl rfl (Nat.le_of_ble_eq_true rfl) (fun E C X => ?_)
    refine cr_aload_n (pc := 0) C dX4_doesCommand_0 rfl ?_
    refine cr_getr (pc := 1) (c := 4) (k := 8) C (by first | rfl | assumption | (simp [cg_ok]; omega)) rfl (by decide) rfl inX4_doesCommand_X4 flX4_doesCommand_25 dX4_doesCommand_1 ?_
    refine cr_iconst (pc := 4) (v := nI 0) C dX4_doesCommand_4 (by decide) ?_
    refine cr_iaload (pc := 5) C rfl (by first | rfl | assumption | (simp [cg_ok]; omega)) (by decide) (by first | decide | omega) dX4_doesCommand_5 ?_
    rw [cg_pn_25]
    refine cr_istore_n1 (pc := 6) C dX4_doesCommand_6 (by decide) rfl ?_
    refine cr_aload_n (pc := 7) C dX4_doesCommand_7 rfl ?_
    refine cr_getr (pc := 8) (c := 4) (k := 8) C (by first | rfl | assumption | (simp [cg_ok]; omega)) rfl (by decide) rfl inX4_doesCommand_X4 flX4_doesCommand_25 dX4_doesCommand_8 ?_
    refine cr_iconst (pc := 11) (v := nI 1) C dX4_doesCommand_11 (by decide) ?_
    refine cr_iaload (pc := 12) C rfl (by first | rfl | assumption | (simp [cg_ok]; omega)) (by decide) (by first | decide | omega) dX4_doesCommand_12 ?_
    rw [cg_pn_25]
    refine cr_istore_n2 (pc := 13) C dX4_doesCommand_13 (by decide) rfl ?_
    refine cr_aload_n (pc := 14) C dX4_doesCommand_14 rfl ?_
    refine cr_geti (pc := 15) (c := 4) (k := 9) C (by first | rfl | assumption | (simp [cg_ok]; omega)) rfl (by decide) rfl rfl inX4_doesCommand_X4 flX4_doesCommand_137 dX4_doesCommand_15 ?_
    rw [cg_pn_9]
    refine cr_lookup (pc := 18) (tgt := 66) (off := 48) C dX4_doesCommand_18 (by decide +kernel) (by decide) (by decide) ?_
    refine cr_aload_n (pc := 66) C dX4_doesCommand_66 rfl ?_
    refine cr_iload_n (pc := 67) C dX4_doesCommand_67 rfl ?_
    refine cr_iload_n (pc := 68) C dX4_doesCommand_68 rfl ?_
    rw [← cg_pn_sb _ _ _ _ 20 (by decide) (by decide)]
    refine cr_dV (pc := 69) C (sm_oG) rfl gX4_doesCommand_X4_doesSet rfl dX4_doesCommand_69 (by first | rfl | assumption | (simp [cg_ok]; omega)) rfl hvX4_doesSet rfl ⟨rfl, rfl, Nat.le_of_ble_eq_true rfl, Nat.le_of_ble_eq_true rfl⟩ (Nat.le_of_ble_eq_true rfl) rfl ?_
    rw [cg_pn_sb _ _ _ _ 20 (by decide) (by decide)]
    refine cr_ireturn (pc := 72) C X dX4_doesCommand_72 ?_
    exact ⟨rfl, rfl⟩
  · refine cg_S_of (cc := cX4_doesCommand) (maxL := 3) (ret := (some .int)) (ls0 := [some (.inr (.inr (4, 0, 0, 0))), none, none]) RX4 rfl (by decide) rfl rfl (Nat.le_of_ble_eq_true rfl) (fun E C X => ?_)
    refine cr_aload_n (pc := 0) C dX4_doesCommand_0 rfl ?_
    refine cr_getr (pc := 1) (c := 4) (k := 8) C (by first | rfl | assumption | (simp [cg_ok]; omega)) rfl (by decide) rfl inX4_doesCommand_X4 flX4_doesCommand_25 dX4_doesCommand_1 ?_
    refine cr_iconst (pc := 4) (v := nI 0) C dX4_doesCommand_4 (by decide) ?_
    refine cr_iaload (pc := 5) C rfl (by first | rfl | assumption | (simp [cg_ok]; omega)) (by decide) (by first | decide | omega) dX4_doesCommand_5 ?_
    rw [cg_pn_25]
    refine cr_istore_n1 (pc := 6) C dX4_doesCommand_6 (by decide) rfl ?_
    refine cr_aload_n (pc := 7) C dX4_doesCommand_7 rfl ?_
    refine cr_getr (pc := 8) (c := 4) (k := 8) C (by first | rfl | assumption | (simp [cg_ok]; omega)) rfl (by decide) rfl inX4_doesCommand_X4 flX4_doesCommand_25 dX4_doesCommand_8 ?_
    refine cr_iconst (pc := 11) (v := nI 1) C dX4_doesCommand_11 (by decide) ?_
    refine cr_iaload (pc := 12) C rfl (by first | rfl | assumption | (simp [cg_ok]; omega)) (by decide) (by first | decide | omega) dX4_doesCommand_12 ?_
    rw [cg_pn_25]
    refine cr_istore_n2 (pc := 13) C dX4_doesCommand_13 (by decide) rfl ?_
    refine cr_aload_n (pc := 14) C dX4_doesCommand_14 rfl ?_
    refine cr_geti (pc := 15) (c := 4) (k := 9) C (by first | rfl | assumption | (simp [cg_ok]; omega)) rfl (by decide) rfl rfl inX4_doesCommand_X4 flX4_doesCommand_137 dX4_doesCommand_15 ?_
    rw [cg_pn_9]
    refine cr_lookup (pc := 18) (tgt := 73) (off := 55) C dX4_doesCommand_18 (by decide +kernel) (by decide) (by decide) ?_
    refine cr_aload_n (pc := 73) C dX4_doesCommand_73 rfl ?_
    refine cr_iload_n (pc := 74) C dX4_doesCommand_74 rfl ?_
    refine cr_iload_n (pc := 75) C dX4_doesCommand_75 rfl ?_
    rw [← cg_pn_sb _ _ _ _ 20 (by decide) (by decide)]
    refine cr_dV (pc := 76) C (sm_oY hI) rfl gX4_doesCommand_X4_doesSync rfl dX4_doesCommand_76 (by first | rfl | assumption | (simp [cg_ok]; omega)) rfl hvX4_doesSync rfl ⟨rfl, rfl, Nat.le_of_ble_eq_true rfl, Nat.le_of_ble_eq_true rfl⟩ (Nat.le_of_ble_eq_true rfl) rfl ?_
    rw [cg_pn_sb _ _ _ _ 20 (by decide) (by decide)]
    refine cr_ireturn (pc := 79) C X dX4_doesCommand_79 ?_
    exact ⟨rfl, rfl⟩
  · refine cg_S_of (cc := cX4_doesCommand) (maxL := 3) (ret := (some .int)) (ls0 := [some (.inr (.inr (4, 0, 0, 0))), none, none]) RX4 rfl (by decide) rfl rfl (Nat.le_of_ble_eq_true rfl) (fun E C X => ?_)
    refine cr_aload_n (pc := 0) C dX4_doesCommand_0 rfl ?_
    refine cr_getr (pc := 1) (c := 4) (k := 8) C (by first | rfl | assumption | (simp [cg_ok]; omega)) rfl (by decide) rfl inX4_doesCommand_X4 flX4_doesCommand_25 dX4_doesCommand_1 ?_
    refine cr_iconst (pc := 4) (v := nI 0) C dX4_doesCommand_4 (by decide) ?_
    refine cr_iaload (pc := 5) C rfl (by first | rfl | assumption | (simp [cg_ok]; omega)) (by decide) (by first | decide | omega) dX4_doesCommand_5 ?_
    rw [cg_pn_25]
    refine cr_istore_n1 (pc := 6) C dX4_doesCommand_6 (by decide) rfl ?_
    refine cr_aload_n (pc := 7) C dX4_doesCommand_7 rfl ?_
    refine cr_getr (pc := 8) (c := 4) (k := 8) C (by first | rfl | assumption | (simp [cg_ok]; omega)) rfl (by decide) rfl inX4_doesCommand_X4 flX4_doesCommand_25 dX4_doesCommand_8 ?_
    refine cr_iconst (pc := 11) (v := nI 1) C dX4_doesCommand_11 (by decide) ?_
    refine cr_iaload (pc := 12) C rfl (by first | rfl | assumption | (simp [cg_ok]; omega)) (by decide) (by first | decide | omega) dX4_doesCommand_12 ?_
    rw [cg_pn_25]
    refine cr_istore_n2 (pc := 13) C dX4_doesCommand_13 (by decide) rfl ?_
    refine cr_aload_n (pc := 14) C dX4_doesCommand_14 rfl ?_
    refine cr_geti (pc := 15) (c := 4) (k := 9) C (by first | rfl | assumption | (simp [cg_ok]; omega)) rfl (by decide) rfl rfl inX4_doesCommand_X4 flX4_doesCommand_137 dX4_doesCommand_15 ?_
    rw [cg_pn_9]
    refine cr_lookup (pc := 18) (tgt := 80) (off := 62) C dX4_doesCommand_18 (by decide +kernel) (by decide) (by decide) ?_
    refine cr_aload_n (pc := 80) C dX4_doesCommand_80 rfl ?_
    refine cr_iload_n (pc := 81) C dX4_doesCommand_81 rfl ?_
    refine cr_iload_n (pc := 82) C dX4_doesCommand_82 rfl ?_
    refine cr_aload_n (pc := 83) C dX4_doesCommand_83 rfl ?_
    refine cr_getr (pc := 84) (c := 4) (k := 8) C (by first | rfl | assumption | (simp [cg_ok]; omega)) rfl (by decide) rfl inX4_doesCommand_X4 flX4_doesCommand_25 dX4_doesCommand_84 ?_
    refine cr_iconst (pc := 87) (v := nI 2) C dX4_doesCommand_87 (by decide) ?_
    refine cr_iaload (pc := 88) C rfl (by first | rfl | assumption | (simp [cg_ok]; omega)) (by decide) (by first | decide | omega) dX4_doesCommand_88 ?_
    rw [cg_pn_25]
    rw [← cg_pn_sb _ _ _ _ 20 (by decide) (by decide)]
    refine cr_dV (pc := 89) C (sm_oR hI) rfl gX4_doesCommand_X4_doesRead rfl dX4_doesCommand_89 (by first | rfl | assumption | (simp [cg_ok]; omega)) rfl hvX4_doesRead rfl ⟨rfl, rfl, Nat.le_of_ble_eq_true rfl, Nat.le_of_ble_eq_true rfl⟩ (Nat.le_of_ble_eq_true rfl) rfl ?_
    rw [cg_pn_sb _ _ _ _ 20 (by decide) (by decide)]
    refine cr_ireturn (pc := 92) C X dX4_doesCommand_92 ?_
    exact ⟨rfl, rfl⟩
  · refine cg_S_of (cc := cX4_doesCommand) (maxL := 3) (ret := (some .int)) (ls0 := [some (.inr (.inr (4, 0, 0, 0))), none, none]) RX4 rfl (by decide) rfl rfl (Nat.le_of_ble_eq_true rfl) (fun E C X => ?_)
    refine cr_aload_n (pc := 0) C dX4_doesCommand_0 rfl ?_
    refine cr_getr (pc := 1) (c := 4) (k := 8) C (by first | rfl | assumption | (simp [cg_ok]; omega)) rfl (by decide) rfl inX4_doesCommand_X4 flX4_doesCommand_25 dX4_doesCommand_1 ?_
    refine cr_iconst (pc := 4) (v := nI 0) C dX4_doesCommand_4 (by decide) ?_
    refine cr_iaload (pc := 5) C rfl (by first | rfl | assumption | (simp [cg_ok]; omega)) (by decide) (by first | decide | omega) dX4_doesCommand_5 ?_
    rw [cg_pn_25]
    refine cr_istore_n1 (pc := 6) C dX4_doesCommand_6 (by decide) rfl ?_
    refine cr_aload_n (pc := 7) C dX4_doesCommand_7 rfl ?_
    refine cr_getr (pc := 8) (c := 4) (k := 8) C (by first | rfl | assumption | (simp [cg_ok]; omega)) rfl (by decide) rfl inX4_doesCommand_X4 flX4_doesCommand_25 dX4_doesCommand_8 ?_
    refine cr_iconst (pc := 11) (v := nI 1) C dX4_doesCommand_11 (by decide) ?_
    refine cr_iaload (pc := 12) C rfl (by first | rfl | assumption | (simp [cg_ok]; omega)) (by decide) (by first | decide | omega) dX4_doesCommand_12 ?_
    rw [cg_pn_25]
    refine cr_istore_n2 (pc := 13) C dX4_doesCommand_13 (by decide) rfl ?_
    refine cr_aload_n (pc := 14) C dX4_doesCommand_14 rfl ?_
    refine cr_geti (pc := 15) (c := 4) (k := 9) C (by first | rfl | assumption | (simp [cg_ok]; omega)) rfl (by decide) rfl rfl inX4_doesCommand_X4 flX4_doesCommand_137 dX4_doesCommand_15 ?_
    rw [cg_pn_9]
    refine cr_lookup (pc := 18) (tgt := 93) (off := 75) C dX4_doesCommand_18 (by decide +kernel) (by decide) (by decide) ?_
    refine cr_aload_n (pc := 93) C dX4_doesCommand_93 rfl ?_
    refine cr_iload_n (pc := 94) C dX4_doesCommand_94 rfl ?_
    refine cr_iload_n (pc := 95) C dX4_doesCommand_95 rfl ?_
    refine cr_aload_n (pc := 96) C dX4_doesCommand_96 rfl ?_
    refine cr_getr (pc := 97) (c := 4) (k := 8) C (by first | rfl | assumption | (simp [cg_ok]; omega)) rfl (by decide) rfl inX4_doesCommand_X4 flX4_doesCommand_25 dX4_doesCommand_97 ?_
    refine cr_iconst (pc := 100) (v := nI 2) C dX4_doesCommand_100 (by decide) ?_
    refine cr_iaload (pc := 101) C rfl (by first | rfl | assumption | (simp [cg_ok]; omega)) (by decide) (by first | decide | omega) dX4_doesCommand_101 ?_
    rw [cg_pn_25]
    refine cr_aload_n (pc := 102) C dX4_doesCommand_102 rfl ?_
    refine cr_getr (pc := 103) (c := 4) (k := 8) C (by first | rfl | assumption | (simp [cg_ok]; omega)) rfl (by decide) rfl inX4_doesCommand_X4 flX4_doesCommand_25 dX4_doesCommand_103 ?_
    refine cr_iconst (pc := 106) (v := nI 3) C dX4_doesCommand_106 (by decide) ?_
    refine cr_iaload (pc := 107) C rfl (by first | rfl | assumption | (simp [cg_ok]; omega)) (by decide) (by first | decide | omega) dX4_doesCommand_107 ?_
    rw [cg_pn_25]
    rw [← cg_pn_sb _ _ _ _ 20 (by decide) (by decide)]
    refine cr_dV (pc := 108) C (sm_oW hI) rfl gX4_doesCommand_X4_doesWrite rfl dX4_doesCommand_108 (by first | rfl | assumption | (simp [cg_ok]; omega)) rfl hvX4_doesWrite rfl ⟨rfl, rfl, Nat.le_of_ble_eq_true rfl, Nat.le_of_ble_eq_true rfl⟩ (Nat.le_of_ble_eq_true rfl) rfl ?_
    rw [cg_pn_sb _ _ _ _ 20 (by decide) (by decide)]
    refine cr_ireturn (pc := 111) C X dX4_doesCommand_111 ?_
    exact ⟨rfl, rfl⟩
