/-! ===== the five operations as functions of a state; what holds of every state ===== -/
def cg_iv (x : Int32) (n : Nat) : Bool := decide (¬ x < 0) && decide (x.toNatClampNeg < n)
def cg_ix (x : Int32) : Nat := x.toNatClampNeg
theorem cg_iv_in {x : Int32} {n : Nat} (hn : n < 2147483648) : cg_iv x n = true ↔ cg_in x n := by
  unfold cg_iv cg_in
  constructor
  · intro h
    simp only [Bool.and_eq_true, decide_eq_true_eq] at h
    obtain ⟨j, hj, rfl⟩ := nI_of h.1
    rw [cg_clamp (by omega)] at h
    exact ⟨j, h.2, rfl⟩
  · rintro ⟨k, hk, rfl⟩
    simp only [Bool.and_eq_true, decide_eq_true_eq]
    exact ⟨nI_pos (by omega), by rw [cg_clamp (by omega)]; exact hk⟩
theorem cg_ix_n {k : Nat} (h : k < 2147483648) : cg_ix (nI k) = k := cg_clamp h
theorem cg_iv_n {k n : Nat} (h : k < n) (hn : n < 2147483648) : cg_iv (nI k) n = true := (cg_iv_in hn).mpr ⟨k, h, rfl⟩
theorem cg_iv_f {x : Int32} {n : Nat} (hn : n < 2147483648) (h : ¬ cg_in x n) : cg_iv x n = false := by
  cases e : cg_iv x n
  · rfl
  · exact absurd ((cg_iv_in hn).mp e) h
abbrev cg_O : Type := Int32 × (Nat → Int32)
def cg_oG (P : Nat → Int32) (x y : Int32) : cg_O := if (cg_iv x 4 && cg_iv y 16) = true then (P (313 + 7 * cg_ix x), upd P (313 + 7 * cg_ix x) y) else (-2, P)
def cg_oF (P : Nat → Int32) (x : Int32) : cg_O := if cg_iv x 4 = true then cg_fg (cg_ix x) P else (-2, P)
def cg_oR (P : Nat → Int32) (x y z : Int32) : cg_O := if (cg_iv x 4 && (cg_iv y 3 && cg_iv z 4)) = true then (if cg_rA P (cg_ix x) (2 ^ cg_ix y) = true then (cg_vl (cg_rd P (cg_ix x) (cg_ix y)) (cg_ix y) (cg_ix z) (cg_ix (P 12)), cg_rd P (cg_ix x) (cg_ix y)) else (-3, P)) else (-2, P)
def cg_oW (P : Nat → Int32) (x y z t : Int32) : cg_O := if (cg_iv x 4 && (cg_iv y 3 && (cg_iv z 4 && cg_iv t 100))) = true then (if cg_wA P (cg_ix x) (cg_ix y) = true then (if cg_ix (P 12) < 60 then (P (3 * cg_ix y + cg_ix y) + nI 1, cg_wr (cg_cb P (cg_uW P (cg_ix x) (cg_ix y))) (cg_ix x) (cg_ix y) (cg_ix z) (cg_ix t) (cg_ix (P 12))) else (-4, P)) else (-3, P)) else (-2, P)
def cg_oY (P : Nat → Int32) (x y : Int32) : cg_O := if (cg_iv x 3 && (cg_iv y 3 && decide (¬ x = y))) = true then (nI (cg_sy P (cg_ix x) (cg_ix y) (cg_ix (P 12))).1, cg_sp P (cg_ix x) (cg_ix y) (cg_ix (P 12))) else (-2, P)
/-- what holds of every state -/
def cg_I (P : Nat → Int32) : Prop := ∃ n, cg_Iw P n ∧ (∀ w, w < n → cg_in (P (16 + 5 * w)) 100) ∧ (∀ r, r < 3 → ∀ o, o < 3 → cg_in (P (3 * r + o)) (n + 1)) ∧ (∀ c, c < 4 → cg_in (P (313 + 7 * c)) 16) ∧ (∀ c, c < 4 → ∀ j, j < 6 → cg_in (P (314 + 7 * c + j)) 61)
theorem cg_I_n {P : Nat → Int32} (h : cg_I P) : cg_Iw P (cg_ix (P 12)) := by
  obtain ⟨n, h1, -⟩ := h
  have : cg_ix (P 12) = n := by rw [h1.2.1]; exact cg_ix_n (by have := h1.1; omega)
  rw [this]
  exact h1
theorem cg_in_le {x : Int32} {n m : Nat} (h : cg_in x n) (hm : n ≤ m) : cg_in x m := by
  obtain ⟨k, hk, rfl⟩ := h
  exact ⟨k, by omega, rfl⟩
theorem cg_in_mx {x y : Int32} {n : Nat} (hx : cg_in x n) (hy : cg_in y n) : cg_in (cg_mx x y) n := by
  unfold cg_mx
  split
  · exact hy
  · exact hx
theorem cg_mg_at {P : Nat → Int32} {a b o : Nat} (h : o < 3) (hd : a + 3 ≤ b ∨ b + 3 ≤ a) : cg_mg a b P (b + o) = cg_mx (P (b + o)) (P (a + o)) := by
  unfold cg_mg cg_m1
  match o, h with
  | 0, _ => rw [cg_un (by omega), cg_un (by omega), cg_us]
  | 1, _ => rw [cg_un (by omega), cg_us, cg_un (by omega), cg_un (by omega)]
  | 2, _ => rw [cg_us, cg_un (by omega), cg_un (by omega), cg_un (by omega), cg_un (by omega)]
  | o + 3, h => exact absurd h (by omega)
/-- a state that differs in the named places alone -/
theorem cg_I_of {P P' : Nat → Int32} (h : cg_I P) (h1 : ∀ j, j < 9 → P' j = P j) (h2 : ∀ j, 12 ≤ j → j < 313 → P' j = P j) (h3 : ∀ c, c < 4 → cg_in (P' (313 + 7 * c)) 16) (h4 : ∀ c, c < 4 → ∀ j, j < 6 → cg_in (P' (314 + 7 * c + j)) 61) : cg_I P' := by
  obtain ⟨n, g1, g2, g3, -, -⟩ := h
  have hn := g1.1
  refine ⟨n, cg_Iw_of g1 h2, fun w hw => ?_, fun r hr o ho => ?_, h3, h4⟩
  · rw [h2 _ (by omega) (by omega)]; exact g2 w hw
  · rw [h1 _ (by omega)]; exact g3 r hr o ho
theorem cg_oG_I {P : Nat → Int32} {x y : Int32} (h : cg_I P) : cg_I (cg_oG P x y).2 := by
  unfold cg_oG
  split
  · rename_i q
    dsimp only
    simp only [Bool.and_eq_true] at q
    obtain ⟨c, hc, rfl⟩ := (cg_iv_in (by decide)).mp q.1
    have hy := (cg_iv_in (by decide)).mp q.2
    rw [cg_ix_n (by omega)]
    obtain ⟨n, g1, g2, g3, g4, g5⟩ := id h
    refine cg_I_of h (fun j hj => cg_un (by omega)) (fun j _ hj => cg_un (by omega)) (fun c2 hc2 => ?_) (fun c2 hc2 j hj => ?_)
    · by_cases e : c2 = c
      · subst e; rw [cg_us]; exact hy
      · rw [cg_un (by omega)]; exact g4 c2 hc2
    · rw [cg_un (by omega)]; exact g5 c2 hc2 j hj
  · exact h
theorem cg_fg_out {P : Nat → Int32} {c j : Nat} (h : j < 314 + 7 * c ∨ 320 + 7 * c ≤ j) : (cg_fg c P).2 j = P j := by
  unfold cg_fg cg_f1
  dsimp only
  rw [cg_un (by omega), cg_un (by omega), cg_un (by omega), cg_un (by omega), cg_un (by omega), cg_un (by omega)]
theorem cg_fg_in {P : Nat → Int32} {c j : Nat} (h : j < 6) : (cg_fg c P).2 (314 + 7 * c + j) = nI 0 := by
  unfold cg_fg cg_f1
  dsimp only
  unfold upd
  rcases (show j = 0 ∨ j = 1 ∨ j = 2 ∨ j = 3 ∨ j = 4 ∨ j = 5 by omega) with rfl | rfl | rfl | rfl | rfl | rfl
  all_goals (repeat (first | (rw [if_pos (by omega)]; done) | (rw [if_neg (by omega)])))
  all_goals (first | rfl | (rw [if_pos (by omega)]))
theorem cg_oF_I {P : Nat → Int32} {x : Int32} (h : cg_I P) : cg_I (cg_oF P x).2 := by
  unfold cg_oF
  split
  · rename_i q
    try dsimp only
    obtain ⟨c, hc, rfl⟩ := (cg_iv_in (by decide)).mp q
    rw [cg_ix_n (by omega)]
    obtain ⟨n, g1, g2, g3, g4, g5⟩ := id h
    refine cg_I_of h (fun j hj => cg_fg_out (by omega)) (fun j _ hj => cg_fg_out (by omega)) (fun c2 hc2 => ?_) (fun c2 hc2 j hj => ?_)
    · rw [cg_fg_out (by omega)]; exact g4 c2 hc2
    · by_cases e : c2 = c
      · subst e; rw [cg_fg_in hj]; exact ⟨0, by decide, rfl⟩
      · rw [cg_fg_out (by omega)]; exact g5 c2 hc2 j hj
  · exact h
theorem cg_oR_I {P : Nat → Int32} {x y z : Int32} (h : cg_I P) : cg_I (cg_oR P x y z).2 := by
  unfold cg_oR
  split
  · split
    · rename_i q _
      dsimp only
      simp only [Bool.and_eq_true] at q
      obtain ⟨c, hc, rfl⟩ := (cg_iv_in (by decide)).mp q.1
      obtain ⟨r, hr, rfl⟩ := (cg_iv_in (by decide)).mp q.2.1
      rw [cg_ix_n (by omega), cg_ix_n (by omega)]
      obtain ⟨n, g1, g2, g3, g4, g5⟩ := id h
      have hn := g1.1
      refine cg_I_of h (fun j hj => cg_rd_lt (by omega)) (fun j _ hj => cg_rd_lt (by omega)) (fun c2 hc2 => ?_) (fun c2 hc2 j hj => ?_)
      · unfold cg_rd
        rw [cg_mg_ne (by omega), cg_cb_lt (by omega)]; exact g4 c2 hc2
      · unfold cg_rd
        by_cases e : c2 = c ∧ j < 3
        · obtain ⟨rfl, hj3⟩ := e
          rw [cg_mg_at hj3 (by omega), cg_cb_lt (by omega), cg_cb_lt (by omega)]
          exact cg_in_mx (g5 c2 hc2 j hj) (cg_in_le (g3 r hr j hj3) (by omega))
        · rw [cg_mg_ne (by omega), cg_cb_lt (by omega)]; exact g5 c2 hc2 j hj
    · exact h
  · exact h
theorem cg_sp_lt {P : Nat → Int32} {f t n j : Nat} (ht : t < 3) (h : 12 ≤ j) : cg_sp P f t n j = P j := by
  unfold cg_sp
  rw [cg_mg_ne (by omega), cg_un (by omega)]
theorem cg_oY_I {P : Nat → Int32} {x y : Int32} (h : cg_I P) : cg_I (cg_oY P x y).2 := by
  unfold cg_oY
  split
  · rename_i q
    dsimp only
    simp only [Bool.and_eq_true, decide_eq_true_eq] at q
    obtain ⟨f, hf, rfl⟩ := (cg_iv_in (by decide)).mp q.1
    obtain ⟨t, ht, rfl⟩ := (cg_iv_in (by decide)).mp q.2.1
    have hne : f ≠ t := fun e => q.2.2 (by rw [e])
    rw [cg_ix_n (by omega), cg_ix_n (by omega)]
    obtain ⟨n, g1, g2, g3, g4, g5⟩ := id h
    have hn := g1.1
    refine ⟨n, cg_Iw_of g1 (fun j h1 _ => cg_sp_lt ht h1), fun w hw => ?_, fun r hr o ho => ?_, fun c hc => ?_, fun c hc j hj => ?_⟩
    · rw [cg_sp_lt ht (by omega)]; exact g2 w hw
    · by_cases e : r = t
      · subst e
        unfold cg_sp
        rw [cg_mg_at ho (by omega), cg_un (by omega), cg_un (by omega)]
        exact cg_in_mx (g3 r hr o ho) (g3 f hf o ho)
      · unfold cg_sp
        rw [cg_mg_ne (by omega), cg_un (by omega)]
        exact g3 r hr o ho
    · rw [cg_sp_lt ht (by omega)]; exact g4 c hc
    · rw [cg_sp_lt ht (by omega)]; exact g5 c hc j hj
  · exact h
theorem cg_oW_I {P : Nat → Int32} {x y z t : Int32} (h : cg_I P) : cg_I (cg_oW P x y z t).2 := by
  unfold cg_oW
  split
  · split
    · split
      · rename_i q _ hn60
        dsimp only
        simp only [Bool.and_eq_true] at q
        obtain ⟨c, hc, rfl⟩ := (cg_iv_in (by decide)).mp q.1
        obtain ⟨r, hr, rfl⟩ := (cg_iv_in (by decide)).mp q.2.1
        obtain ⟨k, hk, rfl⟩ := (cg_iv_in (by decide)).mp q.2.2.1
        obtain ⟨v, hv, rfl⟩ := (cg_iv_in (by decide)).mp q.2.2.2
        rw [cg_ix_n (by omega), cg_ix_n (by omega), cg_ix_n (by omega), cg_ix_n (by omega)]
        obtain ⟨n, g1, g2, g3, g4, g5⟩ := id h
        have en : cg_ix (P 12) = n := by rw [g1.2.1]; exact cg_ix_n (by have := g1.1; omega)
        rw [en] at hn60 ⊢
        generalize hA : cg_cb P (cg_uW P c r) = A
        have hA1 : ∀ j, j < 341 → A j = P j := fun j hj => by rw [← hA]; exact cg_cb_lt hj
        obtain ⟨v0, hv0, hv1⟩ := g3 r hr r hr
        have hx : A (3 * r + r) + nI 1 = nI (v0 + 1) := by rw [hA1 _ (by omega), hv1]; exact nI_1 v0
        have other : ∀ j, j ≠ 9 + r → j ≠ 3 * r + r → j ≠ 317 + 7 * c + r → (j < 13 + 5 * n ∨ 17 + 5 * n < j) → j ≠ 12 → cg_wr A c r k v n j = A j := fun j a1 a2 a3 a4 a5 => by
          unfold cg_wr
          rw [cg_un a5, cg_un (by omega), cg_un (by omega), cg_un (by omega), cg_un (by omega), cg_un (by omega), cg_un a3, cg_un a2, cg_un a1]
        refine ⟨n + 1, ⟨by omega, by unfold cg_wr; rw [cg_us], fun w hw => ?_⟩, fun w hw => ?_, fun r2 hr2 o ho => ?_, fun c2 hc2 => ?_, fun c2 hc2 j hj => ?_⟩
        · by_cases e : w = n
          · subst e
            refine ⟨r, hr, ?_⟩
            unfold cg_wr
            rw [cg_un (by omega), cg_un (by omega), cg_un (by omega), cg_un (by omega), cg_un (by omega), cg_us]
          · obtain ⟨o, ho, ho2⟩ := g1.2.2 w (by omega)
            exact ⟨o, ho, by rw [other _ (by omega) (by omega) (by omega) (by omega) (by omega), hA1 _ (by omega)]; exact ho2⟩
        · by_cases e : w = n
          · subst e
            refine ⟨v, hv, ?_⟩
            unfold cg_wr
            rw [cg_un (by omega), cg_un (by omega), cg_us]
          · rw [other _ (by omega) (by omega) (by omega) (by omega) (by omega), hA1 _ (by omega)]; exact g2 w (by omega)
        · by_cases e : r2 = r ∧ o = r
          · obtain ⟨rfl, rfl⟩ := e
            refine ⟨v0 + 1, by omega, ?_⟩
            unfold cg_wr
            rw [cg_un (by omega), cg_un (by omega), cg_un (by omega), cg_un (by omega), cg_un (by omega), cg_un (by omega), cg_un (by omega), cg_us]
            exact hx
          · rw [other _ (by omega) (by omega) (by omega) (by omega) (by omega), hA1 _ (by omega)]; exact cg_in_le (g3 r2 hr2 o ho) (by omega)
        · rw [other _ (by omega) (by omega) (by omega) (by omega) (by omega), hA1 _ (by omega)]; exact g4 c2 hc2
        · by_cases e : 314 + 7 * c2 + j = 317 + 7 * c + r
          · rw [e]
            refine ⟨v0 + 1, by omega, ?_⟩
            unfold cg_wr
            rw [cg_un (by omega), cg_un (by omega), cg_un (by omega), cg_un (by omega), cg_un (by omega), cg_un (by omega), cg_us]
            exact hx
          · rw [other _ (by omega) (by omega) e (by omega) (by omega), hA1 _ (by omega)]; exact g5 c2 hc2 j hj
      · exact h
    · exact h
  · exact h
