/-! ===== each call, on both sides ===== -/
theorem cg_S_mono {y : MethodName} {ws : List Cond} {rm : Room} {as : List cg_V} {M : cg_M} {post post' : Option cg_V → cg_M → Prop} (h : cg_S y ws rm as M post) (hp : ∀ v M', post v M' → post' v M') : cg_S y ws rm as M post' := fun l g p e ha hc hk s m args below hf happ hP hG => by
  obtain ⟨k, o, h1, h2, h3, ⟨⟨v, M', e1, e2, e3⟩, hF⟩, hL⟩ := h l g p e ha hc hk s m args below hf happ hP hG
  exact ⟨k, o, h1, h2, h3, ⟨⟨v, M', e1, hp v M' e2, e3⟩, hF⟩, hL⟩
/-- from both memories in step: the same answer, and in step again -/
def cg_B (yc : MethodName) (wc : List Cond) (rc : Room) (ym : MethodName) (wm : List Cond) (rm : Room) (as : List cg_V) (M : cg_M) : Prop := ∃ (v : Int32) (M1 : cg_M), cg_D yc wc rc (.inr (.inr (3, 0, 0, 0)) :: as) M (some (.inl v)) M1 ∧ cg_S ym wm rm (.inr (.inr (4, 0, 0, 0)) :: as) M1 (fun v' M' => v' = some (.inl v) ∧ cg_J M')
theorem cg_B_of {yc ym : MethodName} {wc wm : List Cond} {rc rm : Room} {as : List cg_V} {M M1 M2 : cg_M} {v : Int32} (h1 : cg_D yc wc rc (.inr (.inr (3, 0, 0, 0)) :: as) M (some (.inl v)) M1) (h2 : cg_D ym wm rm (.inr (.inr (4, 0, 0, 0)) :: as) M1 (some (.inl v)) M2) (h3 : cg_J M2) : cg_B yc wc rc ym wm rm as M := ⟨v, M1, h1, cg_S_mono h2 (fun v' M' h => ⟨h.1, by rw [h.2]; exact h3⟩)⟩
/-- the same, of a long -/
def cg_BL (yc : MethodName) (wc : List Cond) (rc : Room) (ym : MethodName) (wm : List Cond) (rm : Room) (as : List cg_V) (M : cg_M) : Prop := ∃ (v : Int64) (M1 : cg_M), cg_D yc wc rc (.inr (.inr (3, 0, 0, 0)) :: as) M (some (.inr (.inl v))) M1 ∧ cg_S ym wm rm (.inr (.inr (4, 0, 0, 0)) :: as) M1 (fun v' M' => v' = some (.inr (.inl v)) ∧ cg_J M')
theorem cg_BL_of {yc ym : MethodName} {wc wm : List Cond} {rc rm : Room} {as : List cg_V} {M M1 M2 : cg_M} {v : Int64} (h1 : cg_D yc wc rc (.inr (.inr (3, 0, 0, 0)) :: as) M (some (.inr (.inl v))) M1) (h2 : cg_D ym wm rm (.inr (.inr (4, 0, 0, 0)) :: as) M1 (some (.inr (.inl v))) M2) (h3 : cg_J M2) : cg_BL yc wc rc ym wm rm as M := ⟨v, M1, h1, cg_S_mono h2 (fun v' M' h => ⟨h.1, by rw [h.2]; exact h3⟩)⟩
theorem cg_codes {x : Int32} (h1 : (-6) ≤ x) (h2 : x ≤ (-2)) : ∃ e, e < 5 ∧ (-2) - x = nI e := by
  have k1 := Int32.le_iff_toInt_le.mp h1
  have k2 := Int32.le_iff_toInt_le.mp h2
  have e1 : (-6 : Int32).toInt = -6 := rfl
  have e2 : (-2 : Int32).toInt = -2 := rfl
  rw [e1] at k1
  rw [e2] at k2
  have hx : x.toInt = -6 ∨ x.toInt = -5 ∨ x.toInt = -4 ∨ x.toInt = -3 ∨ x.toInt = -2 := by omega
  rcases hx with h | h | h | h | h
  · have : x = -6 := Int32.toInt_inj.mp (h.trans rfl)
    subst this; exact ⟨4, by decide, by decide⟩
  · have : x = -5 := Int32.toInt_inj.mp (h.trans rfl)
    subst this; exact ⟨3, by decide, by decide⟩
  · have : x = -4 := Int32.toInt_inj.mp (h.trans rfl)
    subst this; exact ⟨2, by decide, by decide⟩
  · have : x = -3 := Int32.toInt_inj.mp (h.trans rfl)
    subst this; exact ⟨1, by decide, by decide⟩
  · have : x = -2 := Int32.toInt_inj.mp (h.trans rfl)
    subst this; exact ⟨0, by decide, by decide⟩
theorem st_setGuarantees {M : cg_M} {x y : Int32} (hJ : cg_J M) : cg_B yX3_setGuarantees wsX3_setGuarantees rmX3_setGuarantees yX4_setGuarantees wsX4_setGuarantees rmX4_setGuarantees [.inl x, .inl y] M := by
  obtain ⟨f, z, L, nb, d, t, hj⟩ := id hJ
  obtain ⟨⟨h1, h2, h3, h4, h5⟩, ⟨b1, b2, b3⟩, ⟨c1, c2, c3, c4, c5⟩, hI, hH⟩ := id hj
  have k20 : cg_fin M f z (cg_oG (M 0) x y) 20 = M 0 := by rw [cg_fin_b (by decide) h1]; exact b1
  have k26 : cg_fin M f z (cg_oG (M 0) x y) 26 2 = nI z := by rw [cg_fin_b (by decide) h1]; exact h5
  have hm := sm_setGuarantees (M := cg_fin M f z (cg_oG (M 0) x y)) (x := x) (y := y) h2 k26 (by rw [k20]; exact hI)
  rw [k20] at hm
  exact cg_B_of (sp_setGuarantees h1 h3 h2 h4 hI) hm (cg_J_fin hj (cg_oG_I hI) (cg_oG_r hI))
theorem st_forget {M : cg_M} {x : Int32} (hJ : cg_J M) : cg_B yX3_forget wsX3_forget rmX3_forget yX4_forget wsX4_forget rmX4_forget [.inl x] M := by
  obtain ⟨f, z, L, nb, d, t, hj⟩ := id hJ
  obtain ⟨⟨h1, h2, h3, h4, h5⟩, ⟨b1, b2, b3⟩, ⟨c1, c2, c3, c4, c5⟩, hI, hH⟩ := id hj
  have k20 : cg_fin M f z (cg_oF (M 0) x) 20 = M 0 := by rw [cg_fin_b (by decide) h1]; exact b1
  have k26 : cg_fin M f z (cg_oF (M 0) x) 26 2 = nI z := by rw [cg_fin_b (by decide) h1]; exact h5
  have hm := sm_forget (M := cg_fin M f z (cg_oF (M 0) x)) (x := x) h2 k26 (by rw [k20]; exact hI)
  rw [k20] at hm
  exact cg_B_of (sp_forget h1 h3 h2 h4 hI) hm (cg_J_fin hj (cg_oF_I hI) (cg_oF_r hI))
theorem st_read {M : cg_M} {x y w : Int32} (hJ : cg_J M) : cg_B yX3_read wsX3_read rmX3_read yX4_read wsX4_read rmX4_read [.inl x, .inl y, .inl w] M := by
  obtain ⟨f, z, L, nb, d, t, hj⟩ := id hJ
  obtain ⟨⟨h1, h2, h3, h4, h5⟩, ⟨b1, b2, b3⟩, ⟨c1, c2, c3, c4, c5⟩, hI, hH⟩ := id hj
  have k20 : cg_fin M f z (cg_oR (M 0) x y w) 20 = M 0 := by rw [cg_fin_b (by decide) h1]; exact b1
  have k26 : cg_fin M f z (cg_oR (M 0) x y w) 26 2 = nI z := by rw [cg_fin_b (by decide) h1]; exact h5
  have hm := sm_read (M := cg_fin M f z (cg_oR (M 0) x y w)) (x := x) (y := y) (z1 := w) h2 k26 (by rw [k20]; exact hI)
  rw [k20] at hm
  exact cg_B_of (sp_read h1 h3 h2 h4 hI) hm (cg_J_fin hj (cg_oR_I hI) (cg_oR_r hI))
theorem st_write {M : cg_M} {x y w q : Int32} (hJ : cg_J M) : cg_B yX3_write wsX3_write rmX3_write yX4_write wsX4_write rmX4_write [.inl x, .inl y, .inl w, .inl q] M := by
  obtain ⟨f, z, L, nb, d, t, hj⟩ := id hJ
  obtain ⟨⟨h1, h2, h3, h4, h5⟩, ⟨b1, b2, b3⟩, ⟨c1, c2, c3, c4, c5⟩, hI, hH⟩ := id hj
  have k20 : cg_fin M f z (cg_oW (M 0) x y w q) 20 = M 0 := by rw [cg_fin_b (by decide) h1]; exact b1
  have k26 : cg_fin M f z (cg_oW (M 0) x y w q) 26 2 = nI z := by rw [cg_fin_b (by decide) h1]; exact h5
  have hm := sm_write (M := cg_fin M f z (cg_oW (M 0) x y w q)) (x := x) (y := y) (z1 := w) (t := q) h2 k26 (by rw [k20]; exact hI)
  rw [k20] at hm
  exact cg_B_of (sp_write h1 h3 h2 h4 hI) hm (cg_J_fin hj (cg_oW_I hI) (cg_oW_r hI))
theorem st_sync {M : cg_M} {x y : Int32} (hJ : cg_J M) : cg_B yX3_sync wsX3_sync rmX3_sync yX4_sync wsX4_sync rmX4_sync [.inl x, .inl y] M := by
  obtain ⟨f, z, L, nb, d, t, hj⟩ := id hJ
  obtain ⟨⟨h1, h2, h3, h4, h5⟩, ⟨b1, b2, b3⟩, ⟨c1, c2, c3, c4, c5⟩, hI, hH⟩ := id hj
  have k20 : cg_fin M f z (cg_oY (M 0) x y) 20 = M 0 := by rw [cg_fin_b (by decide) h1]; exact b1
  have k26 : cg_fin M f z (cg_oY (M 0) x y) 26 2 = nI z := by rw [cg_fin_b (by decide) h1]; exact h5
  have hm := sm_sync (M := cg_fin M f z (cg_oY (M 0) x y)) (x := x) (y := y) h2 k26 (by rw [k20]; exact hI)
  rw [k20] at hm
  exact cg_B_of (sp_sync h1 h3 h2 h4 hI) hm (cg_J_fin hj (cg_oY_I hI) (cg_oY_r hI))
theorem st_readCount {M : cg_M} {x y : Int32} (hJ : cg_J M) : cg_B yX3_readCount wsX3_readCount rmX3_readCount yX4_readCount wsX4_readCount rmX4_readCount [.inl x, .inl y] M := by
  obtain ⟨f, z, L, nb, d, t, hj⟩ := id hJ
  obtain ⟨⟨h1, h2, h3, h4, h5⟩, ⟨b1, b2, b3⟩, ⟨c1, c2, c3, c4, c5⟩, hI, hH⟩ := id hj
  by_cases h : cg_in x 4 ∧ cg_in y 3
  · obtain ⟨⟨i, hi, rfl⟩, ⟨j, hj2, rfl⟩⟩ := h
    have hm := sm_readCount1 (M := M) hi hj2 
    rw [b1] at hm
    exact cg_B_of (sp_readCount1 hi hj2 ) hm hJ
  · exact cg_B_of (sp_readCount0 h) (sm_readCount0 h) (cg_J_err hj)
theorem st_writeCount {M : cg_M} {x y : Int32} (hJ : cg_J M) : cg_B yX3_writeCount wsX3_writeCount rmX3_writeCount yX4_writeCount wsX4_writeCount rmX4_writeCount [.inl x, .inl y] M := by
  obtain ⟨f, z, L, nb, d, t, hj⟩ := id hJ
  obtain ⟨⟨h1, h2, h3, h4, h5⟩, ⟨b1, b2, b3⟩, ⟨c1, c2, c3, c4, c5⟩, hI, hH⟩ := id hj
  by_cases h : cg_in x 4 ∧ cg_in y 3
  · obtain ⟨⟨i, hi, rfl⟩, ⟨j, hj2, rfl⟩⟩ := h
    have hm := sm_writeCount1 (M := M) hi hj2 
    rw [b1] at hm
    exact cg_B_of (sp_writeCount1 hi hj2 ) hm hJ
  · exact cg_B_of (sp_writeCount0 h) (sm_writeCount0 h) (cg_J_err hj)
theorem st_count {M : cg_M} {x y : Int32} (hJ : cg_J M) : cg_B yX3_count wsX3_count rmX3_count yX4_count wsX4_count rmX4_count [.inl x, .inl y] M := by
  obtain ⟨f, z, L, nb, d, t, hj⟩ := id hJ
  obtain ⟨⟨h1, h2, h3, h4, h5⟩, ⟨b1, b2, b3⟩, ⟨c1, c2, c3, c4, c5⟩, hI, hH⟩ := id hj
  by_cases h : cg_in x 3 ∧ cg_in y 3
  · obtain ⟨⟨i, hi, rfl⟩, ⟨j, hj2, rfl⟩⟩ := h
    have hm := sm_count1 (M := M) hi hj2 
    rw [b1] at hm
    exact cg_B_of (sp_count1 hi hj2 ) hm hJ
  · exact cg_B_of (sp_count0 h) (sm_count0 h) (cg_J_err hj)
theorem st_readBreaches {M : cg_M} {x y : Int32} (hJ : cg_J M) : cg_B yX3_readBreaches wsX3_readBreaches rmX3_readBreaches yX4_readBreaches wsX4_readBreaches rmX4_readBreaches [.inl x, .inl y] M := by
  obtain ⟨f, z, L, nb, d, t, hj⟩ := id hJ
  obtain ⟨⟨h1, h2, h3, h4, h5⟩, ⟨b1, b2, b3⟩, ⟨c1, c2, c3, c4, c5⟩, hI, hH⟩ := id hj
  by_cases h : cg_in x 4 ∧ cg_in y 3
  · obtain ⟨⟨i, hi, rfl⟩, ⟨j, hj2, rfl⟩⟩ := h
    have hm := sm_readBreaches1 (M := M) hi hj2 (by rw [b1]; exact hI)
    rw [b1] at hm
    exact cg_B_of (sp_readBreaches1 hi hj2 ) hm hJ
  · exact cg_B_of (sp_readBreaches0 h) (sm_readBreaches0 h) (cg_J_err hj)
theorem st_writeBreaches {M : cg_M} {x y : Int32} (hJ : cg_J M) : cg_B yX3_writeBreaches wsX3_writeBreaches rmX3_writeBreaches yX4_writeBreaches wsX4_writeBreaches rmX4_writeBreaches [.inl x, .inl y] M := by
  obtain ⟨f, z, L, nb, d, t, hj⟩ := id hJ
  obtain ⟨⟨h1, h2, h3, h4, h5⟩, ⟨b1, b2, b3⟩, ⟨c1, c2, c3, c4, c5⟩, hI, hH⟩ := id hj
  by_cases h : cg_in x 4 ∧ cg_in y 3
  · obtain ⟨⟨i, hi, rfl⟩, ⟨j, hj2, rfl⟩⟩ := h
    have hm := sm_writeBreaches1 (M := M) hi hj2 (by rw [b1]; exact hI)
    rw [b1] at hm
    exact cg_B_of (sp_writeBreaches1 hi hj2 ) hm hJ
  · exact cg_B_of (sp_writeBreaches0 h) (sm_writeBreaches0 h) (cg_J_err hj)
theorem st_syncsForRead {M : cg_M} {x y : Int32} (hJ : cg_J M) : cg_B yX3_syncsForRead wsX3_syncsForRead rmX3_syncsForRead yX4_syncsForRead wsX4_syncsForRead rmX4_syncsForRead [.inl x, .inl y] M := by
  obtain ⟨f, z, L, nb, d, t, hj⟩ := id hJ
  obtain ⟨⟨h1, h2, h3, h4, h5⟩, ⟨b1, b2, b3⟩, ⟨c1, c2, c3, c4, c5⟩, hI, hH⟩ := id hj
  by_cases h : cg_in x 4 ∧ cg_in y 3
  · obtain ⟨⟨i, hi, rfl⟩, ⟨j, hj2, rfl⟩⟩ := h
    have hm := sm_syncsForRead1 (M := M) hi hj2 (by rw [b1]; exact hI)
    rw [b1] at hm
    exact cg_B_of (sp_syncsForRead1 hi hj2 ) hm hJ
  · exact cg_B_of (sp_syncsForRead0 h) (sm_syncsForRead0 h) (cg_J_err hj)
theorem st_compare {M : cg_M} {x y : Int32} (hJ : cg_J M) : cg_B yX3_compare wsX3_compare rmX3_compare yX4_compare wsX4_compare rmX4_compare [.inl x, .inl y] M := by
  obtain ⟨f, z, L, nb, d, t, hj⟩ := id hJ
  obtain ⟨⟨h1, h2, h3, h4, h5⟩, ⟨b1, b2, b3⟩, ⟨c1, c2, c3, c4, c5⟩, hI, hH⟩ := id hj
  by_cases h : cg_in x 3 ∧ cg_in y 3
  · obtain ⟨⟨i, hi, rfl⟩, ⟨j, hj2, rfl⟩⟩ := h
    have hm := sm_compare1 (M := M) hi hj2 (by rw [b1]; exact hI)
    rw [b1] at hm
    exact cg_B_of (sp_compare1 hi hj2 ) hm hJ
  · exact cg_B_of (sp_compare0 h) (sm_compare0 h) (cg_J_err hj)
theorem st_clock {M : cg_M} {x : Int32} (hJ : cg_J M) : cg_B yX3_clock wsX3_clock rmX3_clock yX4_clock wsX4_clock rmX4_clock [.inl x] M := by
  obtain ⟨f, z, L, nb, d, t, hj⟩ := id hJ
  obtain ⟨⟨h1, h2, h3, h4, h5⟩, ⟨b1, b2, b3⟩, ⟨c1, c2, c3, c4, c5⟩, hI, hH⟩ := id hj
  by_cases h : cg_in x 3
  · obtain ⟨i, hi, rfl⟩ := h
    have hm := sm_clock1 (M := M) hi 
    rw [b1] at hm
    exact cg_B_of (sp_clock1 hi) hm hJ
  · exact cg_B_of (sp_clock0 h) (sm_clock0 h) (cg_J_err hj)
theorem st_breaches {M : cg_M} {x : Int32} (hJ : cg_J M) : cg_B yX3_breaches wsX3_breaches rmX3_breaches yX4_breaches wsX4_breaches rmX4_breaches [.inl x] M := by
  obtain ⟨f, z, L, nb, d, t, hj⟩ := id hJ
  obtain ⟨⟨h1, h2, h3, h4, h5⟩, ⟨b1, b2, b3⟩, ⟨c1, c2, c3, c4, c5⟩, hI, hH⟩ := id hj
  by_cases h : cg_in x 4
  · obtain ⟨i, hi, rfl⟩ := h
    have hm := sm_breaches1 (M := M) hi 
    rw [b1] at hm
    exact cg_B_of (sp_breaches1 hi) hm hJ
  · exact cg_B_of (sp_breaches0 h) (sm_breaches0 h) (cg_J_err hj)
theorem st_readableReplica {M : cg_M} {x : Int32} (hJ : cg_J M) : cg_B yX3_readableReplica wsX3_readableReplica rmX3_readableReplica yX4_readableReplica wsX4_readableReplica rmX4_readableReplica [.inl x] M := by
  obtain ⟨f, z, L, nb, d, t, hj⟩ := id hJ
  obtain ⟨⟨h1, h2, h3, h4, h5⟩, ⟨b1, b2, b3⟩, ⟨c1, c2, c3, c4, c5⟩, hI, hH⟩ := id hj
  by_cases h : cg_in x 4
  · obtain ⟨i, hi, rfl⟩ := h
    have hm := sm_readableReplica1 (M := M) hi (by rw [b1]; exact hI)
    rw [b1] at hm
    exact cg_B_of (sp_readableReplica1 hi) hm hJ
  · exact cg_B_of (sp_readableReplica0 h) (sm_readableReplica0 h) (cg_J_err hj)
theorem st_writableReplica {M : cg_M} {x : Int32} (hJ : cg_J M) : cg_B yX3_writableReplica wsX3_writableReplica rmX3_writableReplica yX4_writableReplica wsX4_writableReplica rmX4_writableReplica [.inl x] M := by
  obtain ⟨f, z, L, nb, d, t, hj⟩ := id hJ
  obtain ⟨⟨h1, h2, h3, h4, h5⟩, ⟨b1, b2, b3⟩, ⟨c1, c2, c3, c4, c5⟩, hI, hH⟩ := id hj
  by_cases h : cg_in x 4
  · obtain ⟨i, hi, rfl⟩ := h
    have hm := sm_writableReplica1 (M := M) hi (by rw [b1]; exact hI)
    rw [b1] at hm
    exact cg_B_of (sp_writableReplica1 hi) hm hJ
  · exact cg_B_of (sp_writableReplica0 h) (sm_writableReplica0 h) (cg_J_err hj)
theorem st_peek {M : cg_M} {x y : Int32} (hJ : cg_J M) : cg_B yX3_peek wsX3_peek rmX3_peek yX4_peek wsX4_peek rmX4_peek [.inl x, .inl y] M := by
  obtain ⟨f, z, L, nb, d, t, hj⟩ := id hJ
  obtain ⟨⟨h1, h2, h3, h4, h5⟩, ⟨b1, b2, b3⟩, ⟨c1, c2, c3, c4, c5⟩, hI, hH⟩ := id hj
  have hn := cg_I_n hI
  by_cases h : cg_in x 3 ∧ cg_in y 4
  · obtain ⟨⟨i, hi, rfl⟩, ⟨j, hj2, rfl⟩⟩ := h
    by_cases hv : cg_vl (M 0) i j (cg_ix (M 0 12)) = nI 100
    · exact cg_B_of (sp_peek5 hi hj2 hn hv) (sm_peek5 (n := cg_ix (M 0 12)) hi hj2 (by unfold cg_err; rw [cg_up_n (by decide), b1]; exact hn) (by unfold cg_err; rw [cg_up_n (by decide), b1]; exact hv)) (cg_J_err hj)
    · have hm := sm_peek1 (M := M) (n := cg_ix (M 0 12)) hi hj2 (by rw [b1]; exact hn) (by rw [b1]; exact hv)
      rw [b1] at hm
      exact cg_B_of (sp_peek1 hi hj2 hn hv) hm hJ
  · exact cg_B_of (sp_peek0 h) (sm_peek0 h) (cg_J_err hj)
theorem st_append {M : cg_M} {x : Int32} (hJ : cg_J M) : cg_B yX3_append wsX3_append rmX3_append yX4_append wsX4_append rmX4_append [.inl x] M := by
  obtain ⟨f, z, L, nb, d, t, hj⟩ := id hJ
  obtain ⟨⟨h1, h2, h3, h4, h5⟩, ⟨b1, b2, b3⟩, ⟨c1, c2, c3, c4, c5⟩, hI, hH⟩ := id hj
  by_cases h : cg_in x 128
  · obtain ⟨v, hv, rfl⟩ := h
    by_cases hL : L = 100
    · subst hL
      exact cg_B_of (sp_append4 hv c1) (sm_append4 hv (by unfold cg_err; rw [cg_up_n (by decide)]; exact c2)) (cg_J_err hj)
    · have hL2 : L < 100 := by have := c3.1; omega
      exact cg_B_of (sp_append1 hv hL2 c1) (sm_append1 hv hL2 (by rw [cg_up_n (by decide), cg_up_n (by decide)]; exact c2)) (cg_J_app hj hv hL2)
  · exact cg_B_of (sp_append0 h) (sm_append0 h) (cg_J_err hj)
theorem st_clearText {M : cg_M} (hJ : cg_J M) : cg_B yX3_clearText wsX3_clearText rmX3_clearText yX4_clearText wsX4_clearText rmX4_clearText [] M := by
  obtain ⟨f, z, L, nb, d, t, hj⟩ := id hJ
  obtain ⟨⟨h1, h2, h3, h4, h5⟩, ⟨b1, b2, b3⟩, ⟨c1, c2, c3, c4, c5⟩, hI, hH⟩ := id hj
  have hm := sm_clearText (M := cg_up M 13 1 (nI 0))
  rw [cg_up_n (b := 13) (b' := 26) (by decide), c2, ← c1] at hm
  exact cg_B_of sp_clearText hm (cg_J_clr hj)
theorem st_undo {M : cg_M} (hJ : cg_J M) : cg_B yX3_undo wsX3_undo rmX3_undo yX4_undo wsX4_undo rmX4_undo [] M := by
  obtain ⟨f, z, L, nb, d, t, hj⟩ := id hJ
  obtain ⟨⟨h1, h2, h3, h4, h5⟩, ⟨b1, b2, b3⟩, ⟨c1, c2, c3, c4, c5⟩, hI, hH⟩ := id hj
  by_cases hz : z = 0
  · subst hz
    exact cg_B_of (sp_undo0 h4) (sm_undo0 (by unfold cg_err; rw [cg_up_n (by decide)]; exact h5)) (cg_J_err hj)
  · obtain ⟨y, rfl⟩ : ∃ y, z = y + 1 := ⟨z - 1, by omega⟩
    exact cg_B_of (sp_undo1 h1 h3 (by omega) h4) (sm_undo1 (by omega) (by unfold cg_und; rw [cg_cy_n (by decide), cg_up_n (by decide), cg_up_n (by decide)]; exact h5)) (cg_J_undo hj)
theorem st_errorCount {M : cg_M} {x : Int32} (hJ : cg_J M) : cg_B yX3_errorCount wsX3_errorCount rmX3_errorCount yX4_errorCount wsX4_errorCount rmX4_errorCount [.inl x] M := by
  obtain ⟨f, z, L, nb, d, t, hj⟩ := id hJ
  obtain ⟨⟨h1, h2, h3, h4, h5⟩, ⟨b1, b2, b3⟩, ⟨c1, c2, c3, c4, c5⟩, hI, hH⟩ := id hj
  by_cases h : (-6) ≤ x ∧ x ≤ (-2)
  · obtain ⟨e, he, hx⟩ := cg_codes h.1 h.2
    have hm := sm_errorCount1 (M := M) he h.1 h.2 hx
    rw [b2] at hm
    exact cg_B_of (sp_errorCount1 he h.1 h.2 hx) hm hJ
  · exact cg_B_of (sp_errorCount0 h) (sm_errorCount0 h) (cg_J_err hj)
theorem st_writes {M : cg_M} (hJ : cg_J M) : cg_B yX3_writes wsX3_writes rmX3_writes yX4_writes wsX4_writes rmX4_writes [] M := by
  obtain ⟨f, z, L, nb, d, t, hj⟩ := id hJ
  obtain ⟨⟨h1, h2, h3, h4, h5⟩, ⟨b1, b2, b3⟩, ⟨c1, c2, c3, c4, c5⟩, hI, hH⟩ := id hj
  have hm := sm_writes (M := M)
  rw [b1] at hm
  exact cg_B_of sp_writes hm hJ
theorem st_digest {M : cg_M} (hJ : cg_J M) : cg_BL yX3_digest wsX3_digest rmX3_digest yX4_digest wsX4_digest rmX4_digest [] M := by
  obtain ⟨f, z, L, nb, d, t, hj⟩ := id hJ
  obtain ⟨⟨h1, h2, h3, h4, h5⟩, ⟨b1, b2, b3⟩, ⟨c1, c2, c3, c4, c5⟩, hI, hH⟩ := id hj
  have hn := cg_I_n hI
  have hm := sm_digest (M := M) (n := cg_ix (M 0 12)) (by rw [b1]; exact hn)
  rw [b1, b2, h5, c2, ← h4, ← c1] at hm
  exact cg_BL_of (sp_digest hn) hm hJ
theorem cg_pq_b {M : cg_M} {q : cg_K} {b : Nat} (h1 : b ≠ 11) (h2 : b ≠ 12) (h3 : b ≠ 13) : cg_pq M q b = M b := cg_pm_n _ _ _ _ _ _ _ h1 h2 h3
theorem cg_J_pq {M N : cg_M} {f z L nb d : Nat} {t : Nat → Nat} {q : cg_K} (h : cg_J0 M f z L nb d t) (hN : N = cg_pq M q) : cg_J0 N f z L q.2.2.1 q.2.2.2.1 t := by
  obtain ⟨⟨h1, h2, h3, h4, h5⟩, ⟨b1, b2, b3⟩, ⟨c1, c2, c3, c4, c5⟩, hI, hH⟩ := h
  subst hN
  have kb : ∀ b, b ≠ 11 → b ≠ 12 → b ≠ 13 → cg_pq M q b = M b := fun b q1 q2 q3 => cg_pq_b q1 q2 q3
  refine ⟨⟨h1, h2, by rw [kb 14 (by decide) (by decide) (by decide)]; exact h3, by rw [kb 14 (by decide) (by decide) (by decide)]; exact h4, by rw [kb 26 (by decide) (by decide) (by decide)]; exact h5⟩, ⟨by rw [kb 20 (by decide) (by decide) (by decide), kb 0 (by decide) (by decide) (by decide)]; exact b1, by rw [kb 23 (by decide) (by decide) (by decide), kb 15 (by decide) (by decide) (by decide)]; exact b2, by rw [kb 24 (by decide) (by decide) (by decide), kb 10 (by decide) (by decide) (by decide)]; exact b3⟩, ⟨(cg_pm_1 _ _ _ _ _ _ _).trans c1, by rw [kb 26 (by decide) (by decide) (by decide)]; exact c2, by rw [kb 10 (by decide) (by decide) (by decide)]; exact c3, cg_pm_6 _ _ _ _ _ _ _, cg_pm_7 _ _ _ _ _ _ _⟩, by rw [kb 0 (by decide) (by decide) (by decide)]; exact hI, fun i hi => ?_⟩
  rw [kb _ (by omega) (by omega) (by omega), kb 21 (by decide) (by decide) (by decide)]
  exact hH i hi
theorem cg_J_pn {M : cg_M} {f z L nb d a : Nat} {t : Nat → Nat} {cm : Int32} {Nu : Nat → Int32} (h : cg_J0 M f z L nb d t) : cg_J0 (cg_pn M a cm Nu) f z L nb d t := by
  obtain ⟨⟨h1, h2, h3, h4, h5⟩, ⟨b1, b2, b3⟩, ⟨c1, c2, c3, c4, c5⟩, hI, hH⟩ := h
  have kb : ∀ b, b ≠ 25 → b ≠ 26 → cg_pn M a cm Nu b = M b := fun b q1 q2 => cg_pn_n _ _ _ _ q1 q2
  refine ⟨⟨h1, h2, by rw [kb 14 (by decide) (by decide)]; exact h3, by rw [kb 14 (by decide) (by decide)]; exact h4, by rw [cg_pn_2]; exact h5⟩, ⟨by rw [kb 20 (by decide) (by decide), kb 0 (by decide) (by decide)]; exact b1, by rw [kb 23 (by decide) (by decide), kb 15 (by decide) (by decide)]; exact b2, by rw [kb 24 (by decide) (by decide), kb 10 (by decide) (by decide)]; exact b3⟩, ⟨by rw [kb 13 (by decide) (by decide)]; exact c1, by rw [cg_pn_6]; exact c2, by rw [kb 10 (by decide) (by decide)]; exact c3, by rw [kb 13 (by decide) (by decide)]; exact c4, by rw [kb 13 (by decide) (by decide)]; exact c5⟩, by rw [kb 0 (by decide) (by decide)]; exact hI, fun i hi => ?_⟩
  rw [kb _ (by omega) (by omega), kb 21 (by decide) (by decide)]
  exact hH i hi
theorem cg_xm_b {N : cg_M} {f z b : Nat} {xr : Option Nat × Nat × (Nat → Int32)} (hb : 16 ≤ b) (hf : f < 5) : cg_xm N f z xr b = N b := by
  obtain ⟨o, n, Q⟩ := xr
  cases o with
  | none =>
    show cg_keep (cg_do N f Q) f z b = N b
    rw [cg_keep_b (by omega), cg_do_b (by omega) (by omega)]
  | some i =>
    show cg_do N f (cg_rst (N 0) Q) b = N b
    rw [cg_do_b (by omega) (by omega)]
/-- an execution that was stopped -/
theorem cg_J_stop {N : cg_M} {f z L nb d : Nat} {t : Nat → Nat} {A : Nat → Int32} (h : cg_J0 N f z L nb d t) : cg_J0 (cg_sb (cg_asd (cg_do N f (cg_rst (N 0) A))) 20 (cg_rst (N 20) A)) f z L nb d t := by
  obtain ⟨⟨h1, h2, h3, h4, h5⟩, ⟨b1, b2, b3⟩, ⟨c1, c2, c3, c4, c5⟩, hI, hH⟩ := h
  generalize hX : cg_sb (cg_asd (cg_do N f (cg_rst (N 0) A))) 20 (cg_rst (N 20) A) = X
  have kb : ∀ b, b ≠ 0 → b ≠ 1 + f → b ≠ 20 → b ≠ 22 → X b = N b := fun b q1 q2 q3 q4 => by rw [← hX, cg_sb_n q3, cg_asd_b q4, cg_do_b q1 q2]
  have k0 : X 0 = cg_rst (N 0) A := by rw [← hX, cg_sb_n (by decide), cg_asd_b (by decide), cg_do_0]
  have k20 : X 20 = cg_rst (N 20) A := by rw [← hX, cg_sb_s]
  have k14 := kb 14 (by decide) (by omega) (by decide) (by decide)
  have k26 := kb 26 (by decide) (by omega) (by decide) (by decide)
  have k13 := kb 13 (by decide) (by omega) (by decide) (by decide)
  have k10 := kb 10 (by decide) (by omega) (by decide) (by decide)
  refine ⟨⟨h1, h2, by rw [k14]; exact h3, by rw [k14]; exact h4, by rw [k26]; exact h5⟩, ⟨by rw [k20, k0, b1], by rw [kb 23 (by decide) (by omega) (by decide) (by decide), kb 15 (by decide) (by omega) (by decide) (by decide)]; exact b2, by rw [kb 24 (by decide) (by omega) (by decide) (by decide), k10]; exact b3⟩, ⟨by rw [k13]; exact c1, by rw [k26]; exact c2, by rw [k10]; exact c3, by rw [k13]; exact c4, by rw [k13]; exact c5⟩, ?_, fun i hi => ?_⟩
  · rw [k0]
    exact cg_I_congr hI (fun x hx => by unfold cg_rst; rw [if_pos hx])
  · rw [kb _ (by omega) (by omega) (by omega) (by omega), kb 21 (by decide) (by omega) (by decide) (by decide)]
    exact hH i hi
/-- an execution that was not stopped -/
theorem cg_J_done {N : cg_M} {f z L nb d a : Nat} {t : Nat → Nat} {P' : Nat → Int32} {cm : Int32} {Nu : Nat → Int32} (h : cg_J0 N f z L nb d t) (hP : cg_I P') : cg_J (cg_sav (cg_pn (cg_sb (cg_asd (cg_keep (cg_do N f P') f z)) 20 P') a cm Nu) z) := by
  have hf := h.1.1
  generalize hX : cg_sb (cg_asd (cg_keep (cg_do N f P') f z)) 20 P' = X
  have kb : ∀ b, b ≠ 20 → b ≠ 22 → b ≠ 14 → X b = cg_do N f P' b := fun b h1 h2 h3 => by rw [← hX, cg_sb_n h1, cg_asd_b h2, cg_keep_b h3]
  have k14 : X 14 = cg_keep (cg_do N f P') f z 14 := by rw [← hX, cg_sb_n (by decide), cg_asd_b (by decide)]
  have kc : ∀ b, b ≠ 20 → b ≠ 22 → b ≠ 14 → b ≠ 0 → b ≠ 1 + f → X b = N b := fun b h1 h2 h3 h4 h5 => by rw [kb b h1 h2 h3, cg_do_b h4 h5]
  have kp : ∀ b, b ≠ 25 → b ≠ 26 → cg_pn X a cm Nu b = X b := fun b q1 q2 => cg_pn_n _ _ _ _ q1 q2
  obtain ⟨-, ⟨b1, b2, b3⟩, ⟨c1, c2, c3, c4, c5⟩, hI, hH⟩ := id h
  refine cg_J_save (t' := t) (L' := L) (nb' := nb) (d' := d) h hP ?_ ?_ ?_ ?_ (fun x hx => ?_) (fun b h1 h2 h3 => ?_) ?_ (fun x hx => ?_) ?_ ?_ ?_ ?_ ?_ ?_ ?_
  · rw [kp 0 (by decide) (by decide), kb 0 (by decide) (by decide) (by decide), cg_do_0]
  · rw [kp 20 (by decide) (by decide), ← hX, cg_sb_s]
  · rw [kp 14 (by decide) (by decide), k14]; exact cg_keep_1
  · rw [kp 14 (by decide) (by decide), k14]; exact cg_keep_2
  · rw [kp _ (by omega) (by omega), kb _ (by omega) (by omega) (by omega)]; exact cg_do_f hx
  · rw [kp b (by omega) (by omega)]; exact kc b (by omega) (by omega) (by omega) h2 h3
  · rw [kp 21 (by decide) (by decide)]; exact kc 21 (by decide) (by decide) (by decide) (by decide) (by omega)
  · rw [kp 22 (by decide) (by decide), ← hX, cg_sb_n (by decide), cg_asd_22 hx, cg_keep_b (by decide), cg_do_b (by decide) (by omega), b1]
  · rw [kp 23 (by decide) (by decide), kp 15 (by decide) (by decide), kc 23 (by decide) (by decide) (by decide) (by decide) (by omega), kc 15 (by decide) (by decide) (by decide) (by decide) (by omega), b2]
  · rw [kp 24 (by decide) (by decide), kp 10 (by decide) (by decide), kc 24 (by decide) (by decide) (by decide) (by decide) (by omega), kc 10 (by decide) (by decide) (by decide) (by decide) (by omega), b3]
  · rw [kp 13 (by decide) (by decide), kc 13 (by decide) (by decide) (by decide) (by decide) (by omega)]; exact c1
  · rw [cg_pn_6, kc 26 (by decide) (by decide) (by decide) (by decide) (by omega)]; exact c2
  · rw [kp 10 (by decide) (by decide), kc 10 (by decide) (by decide) (by decide) (by decide) (by omega)]; exact c3
  · rw [kp 13 (by decide) (by decide), kc 13 (by decide) (by decide) (by decide) (by decide) (by omega)]; exact c4
  · rw [kp 13 (by decide) (by decide), kc 13 (by decide) (by decide) (by decide) (by decide) (by omega)]; exact c5
theorem st_execute {M : cg_M} (hJ : cg_J M) : cg_B yX3_execute wsX3_execute rmX3_execute yX4_execute wsX4_execute rmX4_execute [] M := by
  obtain ⟨f, z, L, nb, d, t, hj⟩ := id hJ
  obtain ⟨⟨h1, h2, h3, h4, h5⟩, ⟨b1, b2, b3⟩, ⟨c1, c2, c3, c4, c5⟩, hI, hH⟩ := id hj
  obtain ⟨R, hR⟩ : ∃ R, R = cg_pr t L 0 (0, false, nb, d, M 11, M 12) := ⟨_, rfl⟩
  obtain ⟨⟨p2, hp2, hq2⟩, hKl⟩ := cg_pr_K c3 L 0 (0, false, nb, d, M 11, M 12) (by omega) ⟨Nat.zero_le _, fun q => by cases q⟩ ⟨fun j hj => absurd hj (by omega), fun q => by cases q⟩
  rw [← hR] at hq2 hKl
  have hK34 : R.2.1 < 34 := by have := hq2.1; have := c3.1; omega
  have hot : cg_ot t L 0 (0, false, nb, d, M 11, M 12) = R := hR.symm
  obtain ⟨N, hN⟩ : ∃ N, N = cg_pq M R.2 := ⟨_, rfl⟩
  have jN := cg_J_pq hj hN
  obtain ⟨⟨n1, n2, n3, n4, n5⟩, ⟨m1, m2, m3⟩, ⟨e1, e2, e3, e4, e5⟩, nI0, nH⟩ := id jN
  have n0 : N 0 = M 0 := by rw [hN]; exact cg_pq_b (by decide) (by decide) (by decide)
  have n11 : N 11 = R.2.2.2.2.2.1 := by rw [hN]; exact cg_pm_11 _ _ _ _ _ _ _
  have n12 : N 12 = R.2.2.2.2.2.2 := by rw [hN]; exact cg_pm_12 _ _ _ _ _ _ _
  by_cases hpe : cg_pe L R = -1
  · obtain ⟨xr, hxr⟩ : ∃ xr, xr = cg_xs R.2.2.2.2.2.1 R.2.2.2.2.2.2 R.2.1 0 0 (N 0) := ⟨_, rfl⟩
    have hc := sp_exec1 (z := z) (xr := xr) (k := R.2.1) c1 c3 c4 c5 hR.symm hpe h1 h3 h2 h4 hN nI0 (by rw [hN]; exact cg_pm_4 _ _ _ _ _ _ _) hK34 (fun i hi => by rw [n11]; exact hKl.1 i hi) (by rw [n11, n12]; exact hxr.symm)
    have hxI : cg_I xr.2.2 := by rw [hxr]; exact cg_xs_I _ _ _ _ nI0
    have k20 : cg_xm N f z xr 20 = N 20 := cg_xm_b (by decide) h1
    have k24 : cg_xm N f z xr 24 = N 24 := cg_xm_b (by decide) h1
    have k26 : cg_xm N f z xr 26 = N 26 := cg_xm_b (by decide) h1
    have hm := sm_exec (M := cg_xm N f z xr) (xr := xr) (z := z) (K := R.2.1) (by rw [k26]; exact e2) (by rw [k24, m3]; exact e3) h2 (by rw [k26]; exact n5) (by rw [k20, m1]; exact nI0) hot rfl hK34 (by rw [k20, m1]; exact hxr.symm)
    refine ⟨_, _, hc, cg_S_mono hm (fun v1 M2 hp => ?_)⟩
    obtain ⟨a, cm, Nu, ⟨q1, -⟩ | ⟨-, q2, q3⟩⟩ := hp
    · exact absurd hpe q1
    · refine ⟨q2, ?_⟩
      rw [q3]
      unfold cg_xn
      cases hs : xr.1 with
      | some i =>
        dsimp only
        have ex : cg_xm N f z xr = cg_do N f (cg_rst (N 0) xr.2.2) := by unfold cg_xm; rw [hs]
        rw [k20, ex]
        exact ⟨f, z, L, _, _, t, cg_J_pn (cg_J_stop jN)⟩
      | none =>
        dsimp only
        have ex : cg_xm N f z xr = cg_keep (cg_do N f xr.2.2) f z := by unfold cg_xm; rw [hs]
        rw [ex]
        exact cg_J_done jN hxI
  · have hc := sp_exec0 c1 c3 c4 c5 hR.symm hpe
    rw [← hN] at hc
    have hm := sm_exec (M := N) (z := z) (K := R.2.1) e2 (by rw [m3]; exact e3) h2 n5 (by rw [m1]; exact nI0) hot rfl hK34 rfl
    refine ⟨_, _, hc, cg_S_mono hm (fun v1 M2 hp => ?_)⟩
    obtain ⟨a, cm, Nu, ⟨q1, q2, q3⟩ | ⟨q1, -⟩⟩ := hp
    · refine ⟨q2, ?_⟩
      rw [q3]
      exact ⟨f, z, L, _, _, t, cg_J_pn jN⟩
    · exact absurd q1 hpe
