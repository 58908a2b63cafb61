/-! ===== the two parsers: the bytes one by one, and by descent ===== -/
def cg_ot (t : Nat → Nat) (L p : Nat) (q : cg_K) : Option Nat × cg_K := cg_pr t (L - p) p q
theorem cg_ot_s {t : Nat → Nat} {L p : Nat} {q q' : cg_K} (hp : p < L) (h : cg_sq (t p) q = some q') : cg_ot t L p q = cg_ot t L (p + 1) q' := by
  unfold cg_ot
  rw [show L - p = (L - (p + 1)) + 1 by omega]
  exact cg_pr_s h
theorem cg_ot_n {t : Nat → Nat} {L p : Nat} {q : cg_K} (hp : p < L) (h : cg_sq (t p) q = none) : cg_ot t L p q = (some p, q) := by
  unfold cg_ot
  rw [show L - p = (L - (p + 1)) + 1 by omega]
  exact cg_pr_n h
theorem cg_ot_e {t : Nat → Nat} {L : Nat} {q : cg_K} : cg_ot t L L q = (none, q) := by
  unfold cg_ot
  rw [Nat.sub_self]
  rfl
section CGSQ
variable {k nb d v l : Nat} {c : Bool} {Lt Nm : Nat → Int32}
theorem cg_ixL (hl : l < 128) (hL : Lt k = nI l) : cg_ix (Lt k) = l := by rw [hL]; exact cg_ix_n (by omega)
theorem sq_sp : cg_sq 32 (k, c, nb, d, Lt, Nm) = some (k, c, nb, 0, Lt, Nm) := by unfold cg_sq cg_st; rw [if_pos rfl]
theorem sq_let (h1 : ¬ v = 32) (h2 : ¬ cg_na v = 0) : cg_sq v (k, false, nb, d, Lt, Nm) = some (k, true, 0, 0, upd Lt k (nI v), Nm) := by unfold cg_sq cg_st; rw [if_neg h1, if_pos rfl, if_neg h2]
theorem sq_let0 (h1 : ¬ v = 32) (h2 : cg_na v = 0) : cg_sq v (k, false, nb, d, Lt, Nm) = none := by unfold cg_sq cg_st; rw [if_neg h1, if_pos rfl, if_pos h2]
theorem sq_end (hl : l < 128) (hL : Lt k = nI l) (h : cg_na l ≤ nb) : cg_sq 59 (k, true, nb, d, Lt, Nm) = some (k + 1, false, nb, d, Lt, Nm) := by
  unfold cg_sq cg_st
  dsimp only
  rw [if_neg (by decide), if_neg (by decide), if_pos rfl, cg_ixL hl hL, if_neg (by omega)]
theorem sq_endF (hl : l < 128) (hL : Lt k = nI l) (h : nb < cg_na l) : cg_sq 59 (k, true, nb, d, Lt, Nm) = none := by
  unfold cg_sq cg_st
  dsimp only
  rw [if_neg (by decide), if_neg (by decide), if_pos rfl, cg_ixL hl hL, if_pos h]
theorem sq_dig (hv : 48 ≤ v ∧ v ≤ 57) (hl : l < 128) (hL : Lt k = nI l) (hd : d = 0) (h : nb < cg_na l) : cg_sq v (k, true, nb, d, Lt, Nm) = some (k, true, nb + 1, 1, Lt, upd Nm (4 * k + nb) (nI (v - 48))) := by
  unfold cg_sq cg_st
  dsimp only
  rw [if_neg (by omega), if_neg (by decide), if_neg (by omega), if_pos hv, if_neg (by omega), if_pos hd, cg_ixL hl hL, if_neg (by omega)]
theorem sq_digF (hv : 48 ≤ v ∧ v ≤ 57) (hl : l < 128) (hL : Lt k = nI l) (hd : d = 0) (h : cg_na l ≤ nb) : cg_sq v (k, true, nb, d, Lt, Nm) = none := by
  unfold cg_sq cg_st
  dsimp only
  rw [if_neg (by omega), if_neg (by decide), if_neg (by omega), if_pos hv, if_neg (by omega), if_pos hd, cg_ixL hl hL, if_pos h]
theorem sq_dig2 {a : Nat} (hv : 48 ≤ v ∧ v ≤ 57) (ha : a < 100) (hA : Nm (4 * k + (nb - 1)) = nI a) (hd : d = 1) : cg_sq v (k, true, nb, d, Lt, Nm) = some (k, true, nb, 2, Lt, upd Nm (4 * k + (nb - 1)) (nI (10 * a + (v - 48)))) := by
  unfold cg_sq cg_st
  dsimp only
  rw [if_neg (by omega), if_neg (by decide), if_neg (by omega), if_pos hv, if_neg (by omega), if_neg (by omega), hA, cg_ix_n (by omega)]
theorem sq_dig3 (hv : 48 ≤ v ∧ v ≤ 57) (hd : d = 2) : cg_sq v (k, true, nb, d, Lt, Nm) = none := by
  unfold cg_sq cg_st
  dsimp only
  rw [if_neg (by omega), if_neg (by decide), if_neg (by omega), if_pos hv, if_pos (by omega)]
theorem sq_oth (h1 : ¬ v = 32) (h2 : ¬ v = 59) (h3 : ¬ (48 ≤ v ∧ v ≤ 57)) : cg_sq v (k, true, nb, d, Lt, Nm) = none := by
  unfold cg_sq cg_st
  dsimp only
  rw [if_neg h1, if_neg (by decide), if_neg h2, if_neg h3]
end CGSQ
theorem cg_sk_le (t : Nat → Nat) : ∀ m p, p ≤ cg_sk t m p ∧ cg_sk t m p ≤ p + m
  | 0, p => ⟨Nat.le_refl p, Nat.le_refl p⟩
  | m + 1, p => by
    have h := cg_sk_le t m (p + 1)
    unfold cg_sk
    split <;> omega
theorem cg_sk_ne (t : Nat → Nat) : ∀ m p, cg_sk t m p < p + m → ¬ t (cg_sk t m p) = 32
  | 0, p, h => by unfold cg_sk at h; omega
  | m + 1, p, h => by
    unfold cg_sk at h ⊢
    split
    · rename_i h2
      rw [if_pos h2] at h
      exact cg_sk_ne t m (p + 1) (by omega)
    · rename_i h2
      exact h2
theorem cg_sk_o {t : Nat → Nat} {L : Nat} : ∀ (m p k : Nat) (c : Bool) (nb d : Nat) (Lt Nm : Nat → Int32), p + m = L → ∃ d', cg_ot t L p (k, c, nb, d, Lt, Nm) = cg_ot t L (cg_sk t m p) (k, c, nb, d', Lt, Nm) ∧ ((d' = d ∧ cg_sk t m p = p) ∨ d' = 0)
  | 0, p, k, c, nb, d, Lt, Nm, _ => ⟨d, rfl, Or.inl ⟨rfl, rfl⟩⟩
  | m + 1, p, k, c, nb, d, Lt, Nm, hp => by
    unfold cg_sk
    by_cases h : t p = 32
    · rw [if_pos h]
      obtain ⟨d', h1, h2⟩ := cg_sk_o (t := t) (L := L) m (p + 1) k c nb 0 Lt Nm (by omega)
      refine ⟨d', ?_, Or.inr (by rcases h2 with h2 | h2; exact h2.1; exact h2)⟩
      rw [← h1]
      exact cg_ot_s (by omega) (by rw [h]; exact sq_sp)
    · rw [if_neg h]
      exact ⟨d, rfl, Or.inl ⟨rfl, rfl⟩⟩
theorem cg_dg_t {t : Nat → Nat} {L p : Nat} (h : cg_dg t L p = true) : p < L ∧ 48 ≤ t p ∧ t p ≤ 57 := of_decide_eq_true h
theorem cg_dg_f {t : Nat → Nat} {L p : Nat} (h : cg_dg t L p = false) (hp : p < L) : ¬ (48 ≤ t p ∧ t p ≤ 57) := fun q => absurd ⟨hp, q⟩ (of_decide_eq_false h)
section CGTN
variable {t : Nat → Nat} {L p e k j d l : Nat} {Lt Nm : Nat → Int32}
theorem cg_pe_c {q : cg_K} {L : Nat} (h : q.2.1 = true) : cg_pe L (none, q) = nI L := by
  unfold cg_pe
  simp [h]
theorem cg_tnA (hp : p ≤ L) (he : cg_sk t (L - p) p = e) (hl : l < 128) (hL : Lt k = nI l) (hj : j < cg_na l) (h0 : cg_dg t L e = false) : cg_pe L (cg_ot t L p (k, true, j, d, Lt, Nm)) = nI e := by
  obtain ⟨d', h1, -⟩ := cg_sk_o (t := t) (L := L) (L - p) p k true j d Lt Nm (by omega)
  have hle := cg_sk_le t (L - p) p
  rw [h1, he]
  rw [he] at hle
  by_cases hlt : e < L
  · have h32 := cg_sk_ne t (L - p) p (by rw [he]; omega)
    rw [he] at h32
    have hnd := cg_dg_f h0 hlt
    by_cases h59 : t e = 59
    · rw [cg_ot_n hlt (by rw [h59]; exact sq_endF hl hL hj)]; rfl
    · rw [cg_ot_n hlt (sq_oth h32 h59 hnd)]; rfl
  · have : e = L := by omega
    subst this
    rw [cg_ot_e, cg_pe_c rfl]
theorem cg_tn1 (hp : p ≤ L) (he : cg_sk t (L - p) p = e) (hl : l < 128) (hL : Lt k = nI l) (hj : j < cg_na l) (hd : d = 0 ∨ cg_dg t L p = false) (h0 : cg_dg t L e = true) : cg_ot t L p (k, true, j, d, Lt, Nm) = cg_ot t L (e + 1) (k, true, j + 1, 1, Lt, upd Nm (4 * k + j) (nI (t e - 48))) := by
  obtain ⟨d', h1, h2⟩ := cg_sk_o (t := t) (L := L) (L - p) p k true j d Lt Nm (by omega)
  rw [h1, he]
  rw [he] at h2
  have g := cg_dg_t h0
  have hd0 : d' = 0 := by
    rcases h2 with ⟨a, b⟩ | a
    · rcases hd with hd | hd
      · rw [a, hd]
      · rw [b] at h0; rw [h0] at hd; cases hd
    · exact a
  exact cg_ot_s g.1 (sq_dig g.2 hl hL hd0 hj)
theorem cg_tn2 (hp : p ≤ L) (he : cg_sk t (L - p) p = e) (hl : l < 128) (hL : Lt k = nI l) (hj : j < cg_na l) (hd : d = 0 ∨ cg_dg t L p = false) (h0 : cg_dg t L e = true) (h1 : cg_dg t L (e + 1) = true) : cg_ot t L p (k, true, j, d, Lt, Nm) = cg_ot t L (e + 2) (k, true, j + 1, 2, Lt, upd Nm (4 * k + j) (nI (10 * (t e - 48) + (t (e + 1) - 48)))) := by
  rw [cg_tn1 hp he hl hL hj hd h0]
  have g := cg_dg_t h1
  have g0 := cg_dg_t h0
  rw [cg_ot_s g.1 (sq_dig2 (a := t e - 48) g.2 (by omega) (by rw [show j + 1 - 1 = j by omega, cg_us]) rfl)]
  rw [show j + 1 - 1 = j by omega, cg_uu]
theorem cg_tn3 (hp : p ≤ L) (he : cg_sk t (L - p) p = e) (hl : l < 128) (hL : Lt k = nI l) (hj : j < cg_na l) (hd : d = 0 ∨ cg_dg t L p = false) (h0 : cg_dg t L e = true) (h1 : cg_dg t L (e + 1) = true) (h2 : cg_dg t L (e + 2) = true) : cg_pe L (cg_ot t L p (k, true, j, d, Lt, Nm)) = nI (e + 2) := by
  rw [cg_tn2 hp he hl hL hj hd h0 h1]
  have g := cg_dg_t h2
  rw [cg_ot_n g.1 (sq_dig3 g.2 rfl)]
  rfl
/-- behind the numbers: no semicolon -/
theorem cg_tcF (hp : p ≤ L) (he : cg_sk t (L - p) p = e) (hl : l < 128) (hL : Lt k = nI l) (hj : cg_na l ≤ j) (hd : d = 0 ∨ cg_dg t L p = false) (h : ¬ (e < L ∧ t e = 59)) : cg_pe L (cg_ot t L p (k, true, j, d, Lt, Nm)) = nI e := by
  obtain ⟨d', h1, h2⟩ := cg_sk_o (t := t) (L := L) (L - p) p k true j d Lt Nm (by omega)
  have hle := cg_sk_le t (L - p) p
  rw [h1, he]
  rw [he] at hle h2
  by_cases hlt : e < L
  · have h32 := cg_sk_ne t (L - p) p (by rw [he]; omega)
    rw [he] at h32
    by_cases hdg : 48 ≤ t e ∧ t e ≤ 57
    · have hd0 : d' = 0 := by
        rcases h2 with ⟨a, b⟩ | a
        · rcases hd with hd | hd
          · rw [a, hd]
          · rw [b] at hdg hlt; exact absurd hdg (cg_dg_f hd hlt)
        · exact a
      rw [cg_ot_n hlt (sq_digF hdg hl hL hd0 hj)]; rfl
    · rw [cg_ot_n hlt (sq_oth h32 (fun q => h ⟨hlt, q⟩) hdg)]; rfl
  · have : e = L := by omega
    subst this
    rw [cg_ot_e, cg_pe_c rfl]
/-- behind the numbers: the semicolon -/
theorem cg_tcS (hp : p ≤ L) (he : cg_sk t (L - p) p = e) (hl : l < 128) (hL : Lt k = nI l) (hj : cg_na l ≤ j) (h1 : e < L) (h2 : t e = 59) : ∃ d', cg_ot t L p (k, true, j, d, Lt, Nm) = cg_ot t L (e + 1) (k + 1, false, j, d', Lt, Nm) := by
  obtain ⟨d', g1, -⟩ := cg_sk_o (t := t) (L := L) (L - p) p k true j d Lt Nm (by omega)
  refine ⟨d', ?_⟩
  rw [g1, he]
  exact cg_ot_s h1 (by rw [h2]; exact sq_end hl hL hj)
/-- ahead of a command: no letter -/
theorem cg_tcL0 {nb : Nat} (hp : p ≤ L) (he : cg_sk t (L - p) p = e) (hk : k = 0 ∨ e < L) (h : ¬ (e < L ∧ cg_na (t e) ≠ 0)) : cg_pe L (cg_ot t L p (k, false, nb, d, Lt, Nm)) = nI e := by
  obtain ⟨d', h1, -⟩ := cg_sk_o (t := t) (L := L) (L - p) p k false nb d Lt Nm (by omega)
  have hle := cg_sk_le t (L - p) p
  rw [h1, he]
  rw [he] at hle
  by_cases hlt : e < L
  · have h32 := cg_sk_ne t (L - p) p (by rw [he]; omega)
    rw [he] at h32
    rw [cg_ot_n hlt (sq_let0 h32 (Classical.not_not.mp (fun q => h ⟨hlt, q⟩)))]; rfl
  · have e2 : e = L := by omega
    have hk0 : k = 0 := hk.resolve_right hlt
    subst e2
    rw [cg_ot_e]
    unfold cg_pe
    simp [hk0]
theorem cg_tcL1 {nb : Nat} (hp : p ≤ L) (he : cg_sk t (L - p) p = e) (h1 : e < L) (h2 : cg_na (t e) ≠ 0) : cg_ot t L p (k, false, nb, d, Lt, Nm) = cg_ot t L (e + 1) (k, true, 0, 0, upd Lt k (nI (t e)), Nm) := by
  obtain ⟨d', g1, -⟩ := cg_sk_o (t := t) (L := L) (L - p) p k false nb d Lt Nm (by omega)
  rw [g1, he]
  have h32 := cg_sk_ne t (L - p) p (by rw [he]; omega)
  rw [he] at h32
  exact cg_ot_s h1 (sq_let h32 h2)
/-- spaces up to the end -/
theorem cg_tcE {nb : Nat} {c : Bool} (hp : p ≤ L) (he : cg_sk t (L - p) p = L) : ∃ d', cg_ot t L p (k, c, nb, d, Lt, Nm) = (none, (k, c, nb, d', Lt, Nm)) := by
  obtain ⟨d', g1, -⟩ := cg_sk_o (t := t) (L := L) (L - p) p k c nb d Lt Nm (by omega)
  exact ⟨d', by rw [g1, he, cg_ot_e]⟩
end CGTN
/-- what is found stays -/
theorem cg_sq_mono {v : Nat} {q q' : cg_K} (e : cg_sq v q = some q') : q.1 ≤ q'.1 ∧ (∀ j, j < q.1 → q'.2.2.2.2.1 j = q.2.2.2.2.1 j) ∧ ∀ x, x < 4 * q.1 → q'.2.2.2.2.2 x = q.2.2.2.2.2 x := by
  obtain ⟨k, c, nb, d, Lt, Nm⟩ := q
  unfold cg_sq cg_st at e
  dsimp only at e ⊢
  split at e
  · obtain rfl := Option.some.inj e
    exact ⟨Nat.le_refl _, fun _ _ => rfl, fun _ _ => rfl⟩
  · split at e
    · split at e
      · cases e
      · obtain rfl := Option.some.inj e
        exact ⟨Nat.le_refl _, fun j hj => cg_un (by omega), fun _ _ => rfl⟩
    · split at e
      · split at e
        · cases e
        · obtain rfl := Option.some.inj e
          exact ⟨Nat.le_succ _, fun _ _ => rfl, fun _ _ => rfl⟩
      · split at e
        · split at e
          · cases e
          · split at e
            · split at e
              · cases e
              · obtain rfl := Option.some.inj e
                exact ⟨Nat.le_refl _, fun _ _ => rfl, fun x hx => cg_un (by omega)⟩
            · obtain rfl := Option.some.inj e
              exact ⟨Nat.le_refl _, fun _ _ => rfl, fun x hx => cg_un (by omega)⟩
        · cases e
theorem cg_pr_mono {t : Nat → Nat} : ∀ (m p : Nat) (q : cg_K), q.1 ≤ (cg_pr t m p q).2.1 ∧ (∀ j, j < q.1 → (cg_pr t m p q).2.2.2.2.2.1 j = q.2.2.2.2.1 j) ∧ ∀ x, x < 4 * q.1 → (cg_pr t m p q).2.2.2.2.2.2 x = q.2.2.2.2.2 x
  | 0, p, q => ⟨Nat.le_refl _, fun _ _ => rfl, fun _ _ => rfl⟩
  | m + 1, p, q => by
    cases e : cg_sq (t p) q with
    | none => rw [cg_pr_n e]; exact ⟨Nat.le_refl _, fun _ _ => rfl, fun _ _ => rfl⟩
    | some q' =>
      rw [cg_pr_s e]
      obtain ⟨a1, a2, a3⟩ := cg_sq_mono e
      obtain ⟨b1, b2, b3⟩ := cg_pr_mono (t := t) m (p + 1) q'
      exact ⟨Nat.le_trans a1 b1, fun j hj => (b2 j (by omega)).trans (a2 j hj), fun x hx => (b3 x (by omega)).trans (a3 x hx)⟩
