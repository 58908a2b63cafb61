/-! ===== Script: the parser ===== -/
/-- commands found, in a command, numbers begun, digits of this number, letters, numbers -/
abbrev cg_K : Type := Nat × Bool × Nat × Nat × (Nat → Int32) × (Nat → Int32)
def cg_pq (M : cg_M) (q : cg_K) : cg_M := cg_pm M q.1 q.2.1 q.2.2.1 q.2.2.2.1 q.2.2.2.2.1 q.2.2.2.2.2
def cg_st (v k : Nat) (c : Bool) (nb d : Nat) (Lt Nm : Nat → Int32) : Option cg_K :=
  if v = 32 then some (k, c, nb, 0, Lt, Nm)
  else if c = false then (if cg_na v = 0 then none else some (k, true, 0, 0, upd Lt k (nI v), Nm))
  else if v = 59 then (if nb < cg_na (cg_ix (Lt k)) then none else some (k + 1, false, nb, d, Lt, Nm))
  else if 48 ≤ v ∧ v ≤ 57 then
    (if 2 ≤ d then none
     else if d = 0 then (if cg_na (cg_ix (Lt k)) ≤ nb then none else some (k, true, nb + 1, 1, Lt, upd Nm (4 * k + nb) (nI (v - 48))))
     else some (k, true, nb, 2, Lt, upd Nm (4 * k + (nb - 1)) (nI (10 * cg_ix (Nm (4 * k + (nb - 1))) + (v - 48)))))
  else none
def cg_sq (v : Nat) (q : cg_K) : Option cg_K := cg_st v q.1 q.2.1 q.2.2.1 q.2.2.2.1 q.2.2.2.2.1 q.2.2.2.2.2
/-- what holds inside a command, at place p -/
def cg_Kc (p k nb d : Nat) (Lt Nm : Nat → Int32) : Prop := k < 34 ∧ 3 * k + 1 + min nb 1 ≤ p ∧ (∃ l, l < 128 ∧ Lt k = nI l ∧ cg_na l ≠ 0 ∧ nb ≤ cg_na l) ∧ d ≤ 2 ∧ (d ≠ 0 → 1 ≤ nb) ∧ (d = 1 → ∃ a, a < 10 ∧ Nm (4 * k + (nb - 1)) = nI a)
def cg_Kq (p : Nat) (q : cg_K) : Prop := 3 * q.1 ≤ p ∧ (q.2.1 = true → cg_Kc p q.1 q.2.2.1 q.2.2.2.1 q.2.2.2.2.1 q.2.2.2.2.2)
theorem cg_sq_K {p v : Nat} {q q' : cg_K} (hp : p < 100) (hv : v < 128) (h : cg_Kq p q) (e : cg_sq v q = some q') : cg_Kq (p + 1) q' := by
  obtain ⟨k, c, nb, d, Lt, Nm⟩ := q
  obtain ⟨h1, h2⟩ := h
  unfold cg_sq cg_st at e
  dsimp only at e h1 h2
  split at e
  · obtain rfl := Option.some.inj e
    show 3 * k ≤ p + 1 ∧ (c = true → cg_Kc (p + 1) k nb 0 Lt Nm)
    refine ⟨by omega, fun hc => ?_⟩
    obtain ⟨a1, a2, a3, a4, a5, a6⟩ := h2 hc
    exact ⟨a1, by omega, a3, by omega, fun z => absurd rfl z, fun z => absurd z (by decide)⟩
  · split at e
    · split at e
      · cases e
      · rename_i hna
        obtain rfl := Option.some.inj e
        show 3 * k ≤ p + 1 ∧ (true = true → cg_Kc (p + 1) k 0 0 (upd Lt k (nI v)) Nm)
        exact ⟨by omega, fun _ => ⟨by omega, by omega, ⟨v, hv, cg_us _ _ _, hna, Nat.zero_le _⟩, Nat.zero_le _, fun z => absurd rfl z, fun z => absurd z (by decide)⟩⟩
    · rename_i hc
      have hc : c = true := by simpa using hc
      obtain ⟨a1, a2, ⟨l, hl, hL, hna, hnb⟩, a4, a5, a6⟩ := h2 hc
      have hix : cg_ix (Lt k) = l := by rw [hL]; exact cg_ix_n (by omega)
      rw [hix] at e
      split at e
      · split at e
        · cases e
        · obtain rfl := Option.some.inj e
          refine ⟨?_, fun z => by cases z⟩
          dsimp only
          have : 1 ≤ nb := by omega
          omega
      · split at e
        · rename_i hdig
          split at e
          · cases e
          · split at e
            · split at e
              · cases e
              · obtain rfl := Option.some.inj e
                show 3 * k ≤ p + 1 ∧ (true = true → cg_Kc (p + 1) k (nb + 1) 1 Lt (upd Nm (4 * k + nb) (nI (v - 48))))
                have b1 : 3 * k + 1 + min (nb + 1) 1 ≤ p + 1 := by
                  have b0 : min (nb + 1) 1 = 1 := Nat.min_eq_right (by omega)
                  rw [b0]
                  clear a6 a5
                  omega
                have b2 : nb + 1 ≤ cg_na l := by omega
                have b3 : v - 48 < 10 := by omega
                have b4 : upd Nm (4 * k + nb) (nI (v - 48)) (4 * k + (nb + 1 - 1)) = nI (v - 48) := by rw [show nb + 1 - 1 = nb by omega, cg_us]
                exact ⟨by omega, fun _ => ⟨a1, b1, ⟨l, hl, hL, hna, b2⟩, by decide, fun _ => by omega, fun _ => ⟨v - 48, b3, b4⟩⟩⟩
            · obtain rfl := Option.some.inj e
              show 3 * k ≤ p + 1 ∧ (true = true → cg_Kc (p + 1) k nb 2 Lt (upd Nm (4 * k + (nb - 1)) (nI (10 * cg_ix (Nm (4 * k + (nb - 1))) + (v - 48)))))
              exact ⟨by omega, fun _ => ⟨a1, by omega, ⟨l, hl, hL, hna, hnb⟩, by decide, fun _ => a5 (by omega), fun z => absurd z (by decide)⟩⟩
        · cases e
theorem sp_accepts {M : cg_M} {p v : Nat} {q : cg_K} (hp : p < 100) (hv : v < 128) (h : cg_Kq p q) : cg_D yX1_accepts wsX1_accepts rmX1_accepts [.inr (.inr (1, 0, 0, 0)), .inl (nI v)] (cg_pq M q) (some (.inl (cg_b (cg_sq v q).isSome))) (cg_pq M ((cg_sq v q).getD q)) := by
  obtain ⟨k, c, nb, d, Lt, Nm⟩ := q
  obtain ⟨h1, h2⟩ := h
  unfold cg_sq cg_st
  dsimp only at h1 h2 ⊢
  show cg_D _ _ _ _ (cg_pm M k c nb d Lt Nm) _ _
  by_cases e1 : v = 32
  · rw [if_pos e1]; subst e1; exact sp_acS
  rw [if_neg e1]
  cases c with
  | false =>
    rw [if_pos rfl]
    by_cases e2 : cg_na v = 0
    · rw [if_pos e2]; exact sp_acB hv e1 (by decide) (sp_beg0 hv e2)
    · rw [if_neg e2]; exact sp_acB hv e1 (by decide) (sp_beg1 hv e2 (by omega))
  | true =>
    rw [if_neg (by decide)]
    obtain ⟨a1, a2, ⟨l, hl, hL, hna, hnb⟩, a4, a5, a6⟩ := h2 rfl
    have hix : cg_ix (Lt k) = l := by rw [hL]; exact cg_ix_n (by omega)
    have hl4 := cg_na_le l
    rw [hix]
    by_cases e2 : v = 59
    · rw [if_pos e2]; subst e2
      by_cases e3 : nb < cg_na l
      · rw [if_pos e3]; exact sp_acE (by decide) (sp_ends0 a1 hl hL e3)
      · rw [if_neg e3]; exact sp_acE (by decide) (sp_ends1 (nb := nb) a1 hl hL (by omega) (by omega))
    rw [if_neg e2]
    by_cases e3 : 48 ≤ v ∧ v ≤ 57
    · rw [if_pos e3]
      by_cases e4 : 2 ≤ d
      · rw [if_pos e4]; exact sp_acD0 e3.1 e3.2 (sp_dig2 e4 a4)
      rw [if_neg e4]
      by_cases e5 : d = 0
      · rw [if_pos e5]
        by_cases e6 : cg_na l ≤ nb
        · rw [if_pos e6]; exact sp_acD0 e3.1 e3.2 (sp_dig0 (nb := nb) a1 hl hL e5 e6 (by omega))
        · rw [if_neg e6]; exact sp_acD1 e3.1 e3.2 (sp_dig1 (nb := nb) a1 hl hL e5 (by omega))
      · rw [if_neg e5]
        have hd1 : d = 1 := by omega
        obtain ⟨a, ha, hA⟩ := a6 hd1
        have hia : cg_ix (Nm (4 * k + (nb - 1))) = a := by rw [hA]; exact cg_ix_n (by omega)
        rw [hia]
        have hnb1 : nb = (nb - 1) + 1 := by have := a5 (by omega); omega
        exact sp_acD1 e3.1 e3.2 (sp_digN a1 hd1 hnb1 (by omega) hA)
    · rw [if_neg e3]; exact sp_acX hv e1 e2 e3
/-- the whole text from place p on: where it is refused, if so, and what was found -/
def cg_pr (t : Nat → Nat) : Nat → Nat → cg_K → Option Nat × cg_K
  | 0, _, q => (none, q)
  | m + 1, p, q => match cg_sq (t p) q with
    | none => (some p, q)
    | some q' => cg_pr t m (p + 1) q'
theorem cg_pr_n {t : Nat → Nat} {m p : Nat} {q : cg_K} (h : cg_sq (t p) q = none) : cg_pr t (m + 1) p q = (some p, q) := by
  unfold cg_pr
  rw [h]
theorem cg_pr_s {t : Nat → Nat} {m p : Nat} {q q' : cg_K} (h : cg_sq (t p) q = some q') : cg_pr t (m + 1) p q = cg_pr t m (p + 1) q' := by
  conv => lhs; unfold cg_pr
  rw [h]
/-- the text is what it must be: L bytes -/
def cg_tx0 (B : Nat → Int32) (t : Nat → Nat) (L : Nat) : Prop := L ≤ 100 ∧ ∀ p, p < L → t p < 128 ∧ B p = nI (t p)
def cg_pe (L : Nat) (r : Option Nat × cg_K) : Int32 := match r.1 with
  | some p => nI p
  | none => if r.2.2.1 = true ∨ r.2.1 = 0 then nI L else -1
theorem cg_pm_init {M : cg_M} {nb d : Nat} (h6 : M 13 6 = nI nb) (h7 : M 13 7 = nI d) : cg_up (cg_up M 13 4 (nI 0)) 13 5 (nI 0) = cg_pq M (0, false, nb, d, M 11, M 12) := by
  unfold cg_pq cg_pm
  dsimp only
  rw [cg_sb_id, cg_sb_id]
  rw [cg_up_sb0 M, cg_up_sb]
  congr 1
  unfold cg_i4
  funext j
  by_cases e7 : j = 7
  · subst e7; rw [cg_us, cg_un (by decide), cg_un (by decide), h7]
  rw [cg_un (k := 7) e7]
  by_cases e6 : j = 6
  · subst e6; rw [cg_us, cg_un (by decide), cg_un (by decide), h6]
  rw [cg_un (k := 6) e6]
  rfl
set_option maxRecDepth 100000 in
set_option maxHeartbeats 4000000 in
theorem sp_parse {M : cg_M} {nb d L : Nat} {t : Nat → Nat} {R : Option Nat × cg_K} (hl : M 13 1 = nI L) (hT : cg_tx0 (M 10) t L) (h6 : M 13 6 = nI nb) (h7 : M 13 7 = nI d) (hR : cg_pr t L 0 (0, false, nb, d, M 11, M 12) = R) : cg_D yX1_parse wsX1_parse rmX1_parse [.inr (.inr (1, 0, 0, 0))] M (some (.inl (cg_pe L R))) (cg_pq M R.2) := by
  subst hR
  generalize hR0 : cg_pr t L 0 (0, false, nb, d, M 11, M 12) = R
  refine cg_S_of (cc := cX1_parse) (maxL := 2) (ret := (some .int)) (ls0 := [some (.inr (.inr (1, 0, 0, 0))), none]) RX1 rfl (by decide) rfl rfl (Nat.le_of_ble_eq_true rfl) (fun E C X => ?_)
  have loop : ∀ (m p : Nat) (q : cg_K), p + m = L → cg_Kq p q → cg_pr t m p q = R → cg_W E (cg_pq M q) 12 [some (.inr (.inr (1, 0, 0, 0))), some (.inl (nI p))] [] := by
    intro m
    induction m with
    | zero =>
      intro p q hp hq hR
      have hpL : p = L := by omega
      subst hpL
      have hR2 : R = (none, q) := hR.symm
      obtain ⟨k, c, nb, d, Lt, Nm⟩ := q
      cases c with
      | true =>
        refine cr_iload_n (pc := 12) C dX1_parse_12 rfl ?_
        refine cr_aload_n (pc := 13) C dX1_parse_13 rfl ?_
        refine cr_geti (pc := 14) (c := 1) (k := 1) C (by first | rfl | assumption | (simp [cg_ok]; omega)) rfl (by decide) rfl rfl inX1_parse_X1 flX1_parse_15 dX1_parse_14 ?_
        unfold cg_pq
        dsimp only
        rw [cg_pm_1, hl]
        refine cr_icmp_ge_t (pc := 17) (tgt := 41) C dX1_parse_17 (by decide) (Int32.le_refl _) ?_
        refine cr_aload_n (pc := 41) C dX1_parse_41 rfl ?_
        refine cr_geti (pc := 42) (c := 1) (k := 5) C (by first | rfl | assumption | (simp [cg_ok]; omega)) rfl (by decide) rfl rfl inX1_parse_X1 flX1_parse_30 dX1_parse_42 ?_
        rw [cg_pm_5]
        refine cr_if_ne_t (pc := 45) (tgt := 55) C dX1_parse_45 (by decide) (by decide) ?_
        refine cr_aload_n (pc := 55) C dX1_parse_55 rfl ?_
        refine cr_geti (pc := 56) (c := 1) (k := 1) C (by first | rfl | assumption | (simp [cg_ok]; omega)) rfl (by decide) rfl rfl inX1_parse_X1 flX1_parse_15 dX1_parse_56 ?_
        rw [cg_pm_1, hl]
        refine cr_goto (pc := 59) (tgt := 63) C dX1_parse_59 (by decide) ?_
        refine cr_ireturn (pc := 63) C X dX1_parse_63 ?_
        exact ⟨by rw [hR2]; rfl, by rw [hR2]; rfl⟩
      | false =>
        by_cases hk0 : k = 0
        · subst hk0
          refine cr_iload_n (pc := 12) C dX1_parse_12 rfl ?_
          refine cr_aload_n (pc := 13) C dX1_parse_13 rfl ?_
          refine cr_geti (pc := 14) (c := 1) (k := 1) C (by first | rfl | assumption | (simp [cg_ok]; omega)) rfl (by decide) rfl rfl inX1_parse_X1 flX1_parse_15 dX1_parse_14 ?_
          unfold cg_pq
          dsimp only
          rw [cg_pm_1, hl]
          refine cr_icmp_ge_t (pc := 17) (tgt := 41) C dX1_parse_17 (by decide) (Int32.le_refl _) ?_
          refine cr_aload_n (pc := 41) C dX1_parse_41 rfl ?_
          refine cr_geti (pc := 42) (c := 1) (k := 5) C (by first | rfl | assumption | (simp [cg_ok]; omega)) rfl (by decide) rfl rfl inX1_parse_X1 flX1_parse_30 dX1_parse_42 ?_
          rw [cg_pm_5]
          refine cr_if_ne_f (pc := 45) (tgt := 55) C dX1_parse_45 (by decide) (by decide) ?_
          refine cr_aload_n (pc := 48) C dX1_parse_48 rfl ?_
          refine cr_geti (pc := 49) (c := 1) (k := 4) C (by first | rfl | assumption | (simp [cg_ok]; omega)) rfl (by decide) rfl rfl inX1_parse_X1 flX1_parse_27 dX1_parse_49 ?_
          rw [cg_pm_4]
          refine cr_if_ne_f (pc := 52) (tgt := 62) C dX1_parse_52 (by decide) (by decide) ?_
          refine cr_aload_n (pc := 55) C dX1_parse_55 rfl ?_
          refine cr_geti (pc := 56) (c := 1) (k := 1) C (by first | rfl | assumption | (simp [cg_ok]; omega)) rfl (by decide) rfl rfl inX1_parse_X1 flX1_parse_15 dX1_parse_56 ?_
          rw [cg_pm_1, hl]
          refine cr_goto (pc := 59) (tgt := 63) C dX1_parse_59 (by decide) ?_
          refine cr_ireturn (pc := 63) C X dX1_parse_63 ?_
          exact ⟨by rw [hR2]; rfl, by rw [hR2]; rfl⟩
        · refine cr_iload_n (pc := 12) C dX1_parse_12 rfl ?_
          refine cr_aload_n (pc := 13) C dX1_parse_13 rfl ?_
          refine cr_geti (pc := 14) (c := 1) (k := 1) C (by first | rfl | assumption | (simp [cg_ok]; omega)) rfl (by decide) rfl rfl inX1_parse_X1 flX1_parse_15 dX1_parse_14 ?_
          unfold cg_pq
          dsimp only
          rw [cg_pm_1, hl]
          refine cr_icmp_ge_t (pc := 17) (tgt := 41) C dX1_parse_17 (by decide) (Int32.le_refl _) ?_
          refine cr_aload_n (pc := 41) C dX1_parse_41 rfl ?_
          refine cr_geti (pc := 42) (c := 1) (k := 5) C (by first | rfl | assumption | (simp [cg_ok]; omega)) rfl (by decide) rfl rfl inX1_parse_X1 flX1_parse_30 dX1_parse_42 ?_
          rw [cg_pm_5]
          refine cr_if_ne_f (pc := 45) (tgt := 55) C dX1_parse_45 (by decide) (by decide) ?_
          refine cr_aload_n (pc := 48) C dX1_parse_48 rfl ?_
          refine cr_geti (pc := 49) (c := 1) (k := 4) C (by first | rfl | assumption | (simp [cg_ok]; omega)) rfl (by decide) rfl rfl inX1_parse_X1 flX1_parse_27 dX1_parse_49 ?_
          rw [cg_pm_4]
          refine cr_if_ne_t (pc := 52) (tgt := 62) C dX1_parse_52 (by decide) (nI_ne0 (by omega) (by have := hq.1; have := hT.1; dsimp only at *; omega)) ?_
          refine cr_iconst (pc := 62) (v := (-1)) C dX1_parse_62 (by decide) ?_
          refine cr_ireturn (pc := 63) C X dX1_parse_63 ?_
          exact ⟨by rw [hR2]; simp [cg_pe, hk0], by rw [hR2]; rfl⟩
    | succ m ih =>
      intro p q hp hq hR
      obtain ⟨ht1, ht2⟩ := hT.2 p (by omega)
      have hL100 := hT.1
      cases hs : cg_sq (t p) q with
      | none =>
        refine cr_iload_n (pc := 12) C dX1_parse_12 rfl ?_
        refine cr_aload_n (pc := 13) C dX1_parse_13 rfl ?_
        refine cr_geti (pc := 14) (c := 1) (k := 1) C (by first | rfl | assumption | (simp [cg_ok]; omega)) rfl (by decide) rfl rfl inX1_parse_X1 flX1_parse_15 dX1_parse_14 ?_
        rw [show cg_pq M q 13 1 = M 13 1 from cg_pm_1 _ _ _ _ _ _ _, hl]
        refine cr_icmp_ge_f (pc := 17) (tgt := 41) C dX1_parse_17 (by decide) (nI_ge (by omega) (by omega)) ?_
        refine cr_aload_n (pc := 20) C dX1_parse_20 rfl ?_
        refine cr_aload_n (pc := 21) C dX1_parse_21 rfl ?_
        refine cr_getr (pc := 22) (c := 1) (k := 0) C (by first | rfl | assumption | (simp [cg_ok]; omega)) rfl (by decide) rfl inX1_parse_X1 flX1_parse_9 dX1_parse_22 ?_
        refine cr_iload_n (pc := 25) C dX1_parse_25 rfl ?_
        refine cr_iaload (pc := 26) C rfl (by first | rfl | assumption | (simp [cg_ok]; omega)) (by omega) (by first | decide | omega) dX1_parse_26 ?_
        rw [show cg_pq M q 10 = M 10 from cg_pm_10 _ _ _ _ _ _ _, ht2]
        refine cr_dV (pc := 27) C (sp_accepts (p := p) (by omega) ht1 hq) rfl gX1_parse_X1_accepts rfl dX1_parse_27 (by first | rfl | assumption | (simp [cg_ok]; omega)) rfl hvX1_accepts rfl ⟨rfl, rfl, Nat.le_of_ble_eq_true rfl, Nat.le_of_ble_eq_true rfl⟩ (Nat.le_of_ble_eq_true rfl) rfl ?_
        rw [hs]
        show cg_W E (cg_pq M q) _ _ _
        refine cr_if_ne_f (pc := 30) (tgt := 35) C dX1_parse_30 (by decide) (by decide) ?_
        refine cr_iload_n (pc := 33) C dX1_parse_33 rfl ?_
        refine cr_ireturn (pc := 34) C X dX1_parse_34 ?_
        have hR2 : R = (some p, q) := by rw [← hR]; exact cg_pr_n hs
        exact ⟨by rw [hR2]; rfl, by rw [hR2]⟩
      | some q' =>
        refine cr_iload_n (pc := 12) C dX1_parse_12 rfl ?_
        refine cr_aload_n (pc := 13) C dX1_parse_13 rfl ?_
        refine cr_geti (pc := 14) (c := 1) (k := 1) C (by first | rfl | assumption | (simp [cg_ok]; omega)) rfl (by decide) rfl rfl inX1_parse_X1 flX1_parse_15 dX1_parse_14 ?_
        rw [show cg_pq M q 13 1 = M 13 1 from cg_pm_1 _ _ _ _ _ _ _, hl]
        refine cr_icmp_ge_f (pc := 17) (tgt := 41) C dX1_parse_17 (by decide) (nI_ge (by omega) (by omega)) ?_
        refine cr_aload_n (pc := 20) C dX1_parse_20 rfl ?_
        refine cr_aload_n (pc := 21) C dX1_parse_21 rfl ?_
        refine cr_getr (pc := 22) (c := 1) (k := 0) C (by first | rfl | assumption | (simp [cg_ok]; omega)) rfl (by decide) rfl inX1_parse_X1 flX1_parse_9 dX1_parse_22 ?_
        refine cr_iload_n (pc := 25) C dX1_parse_25 rfl ?_
        refine cr_iaload (pc := 26) C rfl (by first | rfl | assumption | (simp [cg_ok]; omega)) (by omega) (by first | decide | omega) dX1_parse_26 ?_
        rw [show cg_pq M q 10 = M 10 from cg_pm_10 _ _ _ _ _ _ _, ht2]
        refine cr_dV (pc := 27) C (sp_accepts (p := p) (by omega) ht1 hq) rfl gX1_parse_X1_accepts rfl dX1_parse_27 (by first | rfl | assumption | (simp [cg_ok]; omega)) rfl hvX1_accepts rfl ⟨rfl, rfl, Nat.le_of_ble_eq_true rfl, Nat.le_of_ble_eq_true rfl⟩ (Nat.le_of_ble_eq_true rfl) rfl ?_
        rw [hs]
        show cg_W E (cg_pq M q') _ _ _
        refine cr_if_ne_t (pc := 30) (tgt := 35) C dX1_parse_30 (by decide) (show ¬ cg_b true = 0 by decide) ?_
        refine cr_iinc1 (pc := 35) C dX1_parse_35 (cg_inc1 _) (by decide) rfl ?_
        refine cr_goto (pc := 38) (tgt := 12) C dX1_parse_38 (by decide) ?_
        exact ih (p + 1) q' (by omega) (cg_sq_K (by omega) ht1 hq hs) (by rw [← hR, cg_pr_s hs])
  refine cr_aload_n (pc := 0) C dX1_parse_0 rfl ?_
  refine cr_iconst (pc := 1) (v := nI 0) C dX1_parse_1 (by decide) ?_
  refine cr_puti (pc := 2) (c := 1) (k := 4) C (by first | rfl | assumption | (simp [cg_ok]; omega)) rfl (by decide) rfl rfl inX1_parse_X1 flX1_parse_27 rfl (by first | rfl | decide) rfl dX1_parse_2 ?_
  refine cr_aload_n (pc := 5) C dX1_parse_5 rfl ?_
  refine cr_iconst (pc := 6) (v := nI 0) C dX1_parse_6 (by decide) ?_
  refine cr_puti (pc := 7) (c := 1) (k := 5) C (by first | rfl | assumption | (simp [cg_ok]; omega)) rfl (by decide) rfl rfl inX1_parse_X1 flX1_parse_30 rfl (by first | rfl | decide) rfl dX1_parse_7 ?_
  refine cr_iconst (pc := 10) (v := nI 0) C dX1_parse_10 (by decide) ?_
  refine cr_istore_n1 (pc := 11) C dX1_parse_11 (by decide) rfl ?_
  refine cr_mem (M' := cg_pq M (0, false, nb, d, M 11, M 12)) ?_ (loop L 0 _ (by omega) ⟨Nat.zero_le _, fun z => by cases z⟩ hR0)
  exact cg_pm_init h6 h7
