/-! ===== the five operations, any arguments ===== -/
theorem sp_oG {M : cg_M} {P : Nat → Int32} {x y : Int32} : cg_D yX2_changeGuarantees wsX2_changeGuarantees rmX2_changeGuarantees [.inr (.inr (0, 0, 0, 0)), .inl x, .inl y] (cg_sb M 0 P) (some (.inl (cg_oG P x y).1)) (cg_sb M 0 (cg_oG P x y).2) := by
  unfold cg_oG
  by_cases h : (cg_iv x 4 && cg_iv y 16) = true
  · rw [if_pos h]
    simp only [Bool.and_eq_true] at h
    obtain ⟨c, hc, rfl⟩ := (cg_iv_in (by decide)).mp h.1
    obtain ⟨g, hg, rfl⟩ := (cg_iv_in (by decide)).mp h.2
    rw [cg_ix_n (by omega)]
    exact sp_cG1 hc hg
  · rw [if_neg h]
    exact sp_cG0 (fun q => h (by rw [(cg_iv_in (by decide)).mpr q.1, (cg_iv_in (by decide)).mpr q.2]; rfl))
theorem sp_oF {M : cg_M} {P : Nat → Int32} {x : Int32} : cg_D yX2_clearVectors wsX2_clearVectors rmX2_clearVectors [.inr (.inr (0, 0, 0, 0)), .inl x] (cg_sb M 0 P) (some (.inl (cg_oF P x).1)) (cg_sb M 0 (cg_oF P x).2) := by
  unfold cg_oF
  by_cases h : cg_iv x 4 = true
  · rw [if_pos h]
    obtain ⟨c, hc, rfl⟩ := (cg_iv_in (by decide)).mp h
    rw [cg_ix_n (by omega)]
    exact sp_cV1 hc
  · rw [if_neg h]
    exact sp_cV0 (fun q => h ((cg_iv_in (by decide)).mpr q))
theorem sp_oR {M : cg_M} {P : Nat → Int32} {x y z : Int32} (hI : cg_I P) : cg_D yX2_readKey wsX2_readKey rmX2_readKey [.inr (.inr (0, 0, 0, 0)), .inl x, .inl y, .inl z] (cg_sb M 0 P) (some (.inl (cg_oR P x y z).1)) (cg_sb M 0 (cg_oR P x y z).2) := by
  unfold cg_oR
  by_cases h : (cg_iv x 4 && (cg_iv y 3 && cg_iv z 4)) = true
  · rw [if_pos h]
    simp only [Bool.and_eq_true] at h
    obtain ⟨c, hc, rfl⟩ := (cg_iv_in (by decide)).mp h.1
    obtain ⟨r, hr, rfl⟩ := (cg_iv_in (by decide)).mp h.2.1
    obtain ⟨k, hk, rfl⟩ := (cg_iv_in (by decide)).mp h.2.2
    rw [cg_ix_n (by omega), cg_ix_n (by omega), cg_ix_n (by omega)]
    by_cases h2 : cg_rA P c (2 ^ r) = true
    · rw [if_pos h2]
      exact sp_rK1 hc hr hk h2 (cg_I_n hI)
    · rw [if_neg h2]
      exact sp_rK3 hc hr hk (by simpa using h2)
  · rw [if_neg h]
    exact sp_rK0 (fun q => h (by rw [(cg_iv_in (by decide)).mpr q.1, (cg_iv_in (by decide)).mpr q.2.1, (cg_iv_in (by decide)).mpr q.2.2]; rfl))
theorem sp_oW {M : cg_M} {P : Nat → Int32} {x y z t : Int32} (hI : cg_I P) : cg_D yX2_writeKey wsX2_writeKey rmX2_writeKey [.inr (.inr (0, 0, 0, 0)), .inl x, .inl y, .inl z, .inl t] (cg_sb M 0 P) (some (.inl (cg_oW P x y z t).1)) (cg_sb M 0 (cg_oW P x y z t).2) := by
  unfold cg_oW
  by_cases h : (cg_iv x 4 && (cg_iv y 3 && (cg_iv z 4 && cg_iv t 100))) = true
  · rw [if_pos h]
    simp only [Bool.and_eq_true] at h
    obtain ⟨c, hc, rfl⟩ := (cg_iv_in (by decide)).mp h.1
    obtain ⟨r, hr, rfl⟩ := (cg_iv_in (by decide)).mp h.2.1
    obtain ⟨k, hk, rfl⟩ := (cg_iv_in (by decide)).mp h.2.2.1
    obtain ⟨v, hv, rfl⟩ := (cg_iv_in (by decide)).mp h.2.2.2
    rw [cg_ix_n (by omega), cg_ix_n (by omega), cg_ix_n (by omega), cg_ix_n (by omega)]
    by_cases h2 : cg_wA P c r = true
    · rw [if_pos h2]
      have hn := cg_I_n hI
      by_cases h3 : cg_ix (P 12) < 60
      · rw [if_pos h3]
        exact sp_wK1 hc hr hk hv h2 hn.2.1 h3
      · rw [if_neg h3]
        have e : cg_ix (P 12) = 60 := by have := hn.1; omega
        exact sp_wK4 hc hr hk hv h2 (by rw [hn.2.1, e])
    · rw [if_neg h2]
      exact sp_wK3 hc hr hk hv (by simpa using h2)
  · rw [if_neg h]
    exact sp_wK0 (fun q => h (by rw [(cg_iv_in (by decide)).mpr q.1, (cg_iv_in (by decide)).mpr q.2.1, (cg_iv_in (by decide)).mpr q.2.2.1, (cg_iv_in (by decide)).mpr q.2.2.2]; rfl))
theorem sp_oY {M : cg_M} {P : Nat → Int32} {x y : Int32} (hI : cg_I P) : cg_D yX2_synchronize wsX2_synchronize rmX2_synchronize [.inr (.inr (0, 0, 0, 0)), .inl x, .inl y] (cg_sb M 0 P) (some (.inl (cg_oY P x y).1)) (cg_sb M 0 (cg_oY P x y).2) := by
  unfold cg_oY
  by_cases h : (cg_iv x 3 && (cg_iv y 3 && decide (¬ x = y))) = true
  · rw [if_pos h]
    simp only [Bool.and_eq_true, decide_eq_true_eq] at h
    obtain ⟨f, hf, rfl⟩ := (cg_iv_in (by decide)).mp h.1
    obtain ⟨t, ht, rfl⟩ := (cg_iv_in (by decide)).mp h.2.1
    rw [cg_ix_n (by omega), cg_ix_n (by omega)]
    exact sp_sync1 hf ht (fun e => h.2.2 (by rw [e])) (cg_I_n hI)
  · rw [if_neg h]
    exact sp_sync0 (fun q => h (by rw [(cg_iv_in (by decide)).mpr q.1, (cg_iv_in (by decide)).mpr q.2.1, decide_eq_true q.2.2]; rfl))
/-- an outcome: an answer of at least 0, or a refusal that changes nothing -/
def cg_rs (P : Nat → Int32) (o : cg_O) : Prop := ¬ o.1 < 0 ∨ ((o.1 = -2 ∨ o.1 = -3 ∨ o.1 = -4) ∧ o.2 = P)
theorem cg_in_pos {x : Int32} {n : Nat} (h : cg_in x n) (hn : n < 2147483648) : ¬ x < 0 := by
  obtain ⟨k, hk, rfl⟩ := h
  exact nI_pos (by omega)
theorem cg_oG_r {P : Nat → Int32} {x y : Int32} (hI : cg_I P) : cg_rs P (cg_oG P x y) := by
  unfold cg_oG
  split
  · rename_i q
    left
    simp only [Bool.and_eq_true] at q
    obtain ⟨c, hc, rfl⟩ := (cg_iv_in (by decide)).mp q.1
    obtain ⟨n, g1, g2, g3, g4, g5⟩ := hI
    dsimp only
    rw [cg_ix_n (by omega)]
    exact cg_in_pos (g4 c hc) (by decide)
  · exact Or.inr ⟨Or.inl rfl, rfl⟩
theorem cg_in_add {x y : Int32} {n m : Nat} (hx : cg_in x n) (hy : cg_in y m) : cg_in (x + y) (n + m) := by
  obtain ⟨a, ha, rfl⟩ := hx
  obtain ⟨b, hb, rfl⟩ := hy
  exact ⟨a + b, by omega, nI_add a b⟩
theorem cg_fg_1 (c : Nat) (P : Nat → Int32) : (cg_fg c P).1 = nI 0 + (P (314 + 7 * c + 0) + P (317 + 7 * c + 0)) + (P (314 + 7 * c + 1) + P (317 + 7 * c + 1)) + (P (314 + 7 * c + 2) + P (317 + 7 * c + 2)) := by
  unfold cg_fg cg_f1
  dsimp only
  rw [cg_un (show 314 + 7 * c + 1 ≠ 317 + 7 * c + 0 by omega), cg_un (show 314 + 7 * c + 1 ≠ 314 + 7 * c + 0 by omega), cg_un (show 317 + 7 * c + 1 ≠ 317 + 7 * c + 0 by omega), cg_un (show 317 + 7 * c + 1 ≠ 314 + 7 * c + 0 by omega)]
  rw [cg_un (show 314 + 7 * c + 2 ≠ 317 + 7 * c + 1 by omega), cg_un (show 314 + 7 * c + 2 ≠ 314 + 7 * c + 1 by omega), cg_un (show 314 + 7 * c + 2 ≠ 317 + 7 * c + 0 by omega), cg_un (show 314 + 7 * c + 2 ≠ 314 + 7 * c + 0 by omega)]
  rw [cg_un (show 317 + 7 * c + 2 ≠ 317 + 7 * c + 1 by omega), cg_un (show 317 + 7 * c + 2 ≠ 314 + 7 * c + 1 by omega), cg_un (show 317 + 7 * c + 2 ≠ 317 + 7 * c + 0 by omega), cg_un (show 317 + 7 * c + 2 ≠ 314 + 7 * c + 0 by omega)]
theorem cg_oF_r {P : Nat → Int32} {x : Int32} (hI : cg_I P) : cg_rs P (cg_oF P x) := by
  unfold cg_oF
  split
  · rename_i q
    left
    obtain ⟨c, hc, rfl⟩ := (cg_iv_in (by decide)).mp q
    obtain ⟨n, g1, g2, g3, g4, g5⟩ := hI
    rw [cg_ix_n (by omega), cg_fg_1]
    have g : ∀ j, j < 6 → cg_in (P (314 + 7 * c + j)) 61 := g5 c hc
    have e0 : cg_in (P (317 + 7 * c + 0)) 61 := by have := g 3 (by decide); rw [show 314 + 7 * c + 3 = 317 + 7 * c + 0 by omega] at this; exact this
    have e1 : cg_in (P (317 + 7 * c + 1)) 61 := by have := g 4 (by decide); rw [show 314 + 7 * c + 4 = 317 + 7 * c + 1 by omega] at this; exact this
    have e2 : cg_in (P (317 + 7 * c + 2)) 61 := by have := g 5 (by decide); rw [show 314 + 7 * c + 5 = 317 + 7 * c + 2 by omega] at this; exact this
    exact cg_in_pos (cg_in_add (cg_in_add (cg_in_add ⟨0, by decide, rfl⟩ (cg_in_add (g 0 (by decide)) e0)) (cg_in_add (g 1 (by decide)) e1)) (cg_in_add (g 2 (by decide)) e2) : cg_in _ (1 + (61 + 61) + (61 + 61) + (61 + 61))) (by decide)
  · exact Or.inr ⟨Or.inl rfl, rfl⟩
theorem cg_vl_in {P : Nat → Int32} {r k n : Nat} (h : ∀ w, w < n → cg_in (P (16 + 5 * w)) 100) : cg_in (cg_vl P r k n) 101 := by
  unfold cg_vl
  cases e : cg_lt P r k n with
  | none => exact ⟨100, by decide, rfl⟩
  | some l => exact cg_in_le (h l (cg_lt_lt e)) (by decide)
theorem cg_oR_r {P : Nat → Int32} {x y z : Int32} (hI : cg_I P) : cg_rs P (cg_oR P x y z) := by
  unfold cg_oR
  split
  · split
    · left
      dsimp only
      refine cg_in_pos (cg_vl_in (fun w hw => ?_)) (by decide)
      obtain ⟨n, g1, g2, g3, g4, g5⟩ := hI
      have en : cg_ix (P 12) = n := by rw [g1.2.1]; exact cg_ix_n (by have := g1.1; omega)
      rw [en] at hw
      have := g1.1
      rw [cg_rd_lt (by omega)]
      exact g2 w hw
    · exact Or.inr ⟨Or.inr (Or.inl rfl), rfl⟩
  · exact Or.inr ⟨Or.inl rfl, rfl⟩
theorem cg_oW_r {P : Nat → Int32} {x y z t : Int32} (hI : cg_I P) : cg_rs P (cg_oW P x y z t) := by
  unfold cg_oW
  split
  · rename_i q
    split
    · split
      · left
        dsimp only
        simp only [Bool.and_eq_true] at q
        obtain ⟨r, hr, rfl⟩ := (cg_iv_in (by decide)).mp q.2.1
        obtain ⟨n, g1, g2, g3, g4, g5⟩ := hI
        rw [cg_ix_n (by omega)]
        have := g1.1
        exact cg_in_pos (cg_in_add (g3 r hr r hr) ⟨1, by decide, rfl⟩ : cg_in _ (n + 1 + 2)) (by omega)
      · exact Or.inr ⟨Or.inr (Or.inr rfl), rfl⟩
    · exact Or.inr ⟨Or.inr (Or.inl rfl), rfl⟩
  · exact Or.inr ⟨Or.inl rfl, rfl⟩
theorem cg_oY_r {P : Nat → Int32} {x y : Int32} (hI : cg_I P) : cg_rs P (cg_oY P x y) := by
  unfold cg_oY
  split
  · left
    have h1 := cg_sy_le P (cg_ix x) (cg_ix y) (cg_ix (P 12))
    have h2 := (cg_I_n hI).1
    exact nI_pos (by omega)
  · exact Or.inr ⟨Or.inl rfl, rfl⟩
/-- what an undoable call leaves -/
def cg_fin (M : cg_M) (f z : Nat) (o : cg_O) : cg_M := if o.1 < 0 then cg_err (cg_do M f (M 0)) (cg_ix (-2 - o.1)) else cg_keep (cg_do M f o.2) f z
theorem cg_fin_k {w : Int32} (h : w = -2 ∨ w = -3 ∨ w = -4) : cg_ix (-2 - w) < 5 ∧ (-6) ≤ w ∧ w ≤ (-2) ∧ (-2) - w = nI (cg_ix (-2 - w)) ∧ w < 0 := by
  rcases h with rfl | rfl | rfl <;> decide
theorem sp_setGuarantees {M : cg_M} {x y : Int32} {f z : Nat} (hf5 : f < 5) (hf : M 14 1 = nI f) (hz5 : z < 5) (hz : M 14 2 = nI z) (hI : cg_I (M 0)) : cg_D yX3_setGuarantees wsX3_setGuarantees rmX3_setGuarantees [.inr (.inr (3, 0, 0, 0)), .inl x, .inl y] M (some (.inl (cg_oG (M 0) x y).1)) (cg_fin M f z (cg_oG (M 0) x y)) := by
  unfold cg_fin
  have H : cg_D yX2_changeGuarantees wsX2_changeGuarantees rmX2_changeGuarantees (.inr (.inr (0, 0, 0, 0)) :: [.inl x, .inl y]) (cg_do M f (M 0)) _ (cg_do M f _) := sp_oG
  rcases cg_oG_r (P := M 0) (x := x) (y := y) hI with h | ⟨h1, h2⟩
  · rw [if_neg h]
    exact sp_setGuarantees_ok hf5 hf hz5 hz H h
  · obtain ⟨k1, k2, k3, k4, k5⟩ := cg_fin_k h1
    rw [if_pos k5]
    rw [h2] at H
    exact sp_setGuarantees_er hf5 hf H k1 k2 k3 k4
theorem sp_forget {M : cg_M} {x : Int32} {f z : Nat} (hf5 : f < 5) (hf : M 14 1 = nI f) (hz5 : z < 5) (hz : M 14 2 = nI z) (hI : cg_I (M 0)) : cg_D yX3_forget wsX3_forget rmX3_forget [.inr (.inr (3, 0, 0, 0)), .inl x] M (some (.inl (cg_oF (M 0) x).1)) (cg_fin M f z (cg_oF (M 0) x)) := by
  unfold cg_fin
  have H : cg_D yX2_clearVectors wsX2_clearVectors rmX2_clearVectors (.inr (.inr (0, 0, 0, 0)) :: [.inl x]) (cg_do M f (M 0)) _ (cg_do M f _) := sp_oF
  rcases cg_oF_r (P := M 0) (x := x) hI with h | ⟨h1, h2⟩
  · rw [if_neg h]
    exact sp_forget_ok hf5 hf hz5 hz H h
  · obtain ⟨k1, k2, k3, k4, k5⟩ := cg_fin_k h1
    rw [if_pos k5]
    rw [h2] at H
    exact sp_forget_er hf5 hf H k1 k2 k3 k4
theorem sp_read {M : cg_M} {x y z1 : Int32} {f z : Nat} (hf5 : f < 5) (hf : M 14 1 = nI f) (hz5 : z < 5) (hz : M 14 2 = nI z) (hI : cg_I (M 0)) : cg_D yX3_read wsX3_read rmX3_read [.inr (.inr (3, 0, 0, 0)), .inl x, .inl y, .inl z1] M (some (.inl (cg_oR (M 0) x y z1).1)) (cg_fin M f z (cg_oR (M 0) x y z1)) := by
  unfold cg_fin
  have H : cg_D yX2_readKey wsX2_readKey rmX2_readKey (.inr (.inr (0, 0, 0, 0)) :: [.inl x, .inl y, .inl z1]) (cg_do M f (M 0)) _ (cg_do M f _) := (sp_oR hI)
  rcases cg_oR_r (P := M 0) (x := x) (y := y) (z := z1) hI with h | ⟨h1, h2⟩
  · rw [if_neg h]
    exact sp_read_ok hf5 hf hz5 hz H h
  · obtain ⟨k1, k2, k3, k4, k5⟩ := cg_fin_k h1
    rw [if_pos k5]
    rw [h2] at H
    exact sp_read_er hf5 hf H k1 k2 k3 k4
theorem sp_write {M : cg_M} {x y z1 t : Int32} {f z : Nat} (hf5 : f < 5) (hf : M 14 1 = nI f) (hz5 : z < 5) (hz : M 14 2 = nI z) (hI : cg_I (M 0)) : cg_D yX3_write wsX3_write rmX3_write [.inr (.inr (3, 0, 0, 0)), .inl x, .inl y, .inl z1, .inl t] M (some (.inl (cg_oW (M 0) x y z1 t).1)) (cg_fin M f z (cg_oW (M 0) x y z1 t)) := by
  unfold cg_fin
  have H : cg_D yX2_writeKey wsX2_writeKey rmX2_writeKey (.inr (.inr (0, 0, 0, 0)) :: [.inl x, .inl y, .inl z1, .inl t]) (cg_do M f (M 0)) _ (cg_do M f _) := (sp_oW hI)
  rcases cg_oW_r (P := M 0) (x := x) (y := y) (z := z1) (t := t) hI with h | ⟨h1, h2⟩
  · rw [if_neg h]
    exact sp_write_ok hf5 hf hz5 hz H h
  · obtain ⟨k1, k2, k3, k4, k5⟩ := cg_fin_k h1
    rw [if_pos k5]
    rw [h2] at H
    exact sp_write_er hf5 hf H k1 k2 k3 k4
theorem sp_sync {M : cg_M} {x y : Int32} {f z : Nat} (hf5 : f < 5) (hf : M 14 1 = nI f) (hz5 : z < 5) (hz : M 14 2 = nI z) (hI : cg_I (M 0)) : cg_D yX3_sync wsX3_sync rmX3_sync [.inr (.inr (3, 0, 0, 0)), .inl x, .inl y] M (some (.inl (cg_oY (M 0) x y).1)) (cg_fin M f z (cg_oY (M 0) x y)) := by
  unfold cg_fin
  have H : cg_D yX2_synchronize wsX2_synchronize rmX2_synchronize (.inr (.inr (0, 0, 0, 0)) :: [.inl x, .inl y]) (cg_do M f (M 0)) _ (cg_do M f _) := (sp_oY hI)
  rcases cg_oY_r (P := M 0) (x := x) (y := y) hI with h | ⟨h1, h2⟩
  · rw [if_neg h]
    exact sp_sync_ok hf5 hf hz5 hz H h
  · obtain ⟨k1, k2, k3, k4, k5⟩ := cg_fin_k h1
    rw [if_pos k5]
    rw [h2] at H
    exact sp_sync_er hf5 hf H k1 k2 k3 k4
