/-! ===== both memories at once: what holds between two calls of the law ===== -/
def cg_Hs (M : cg_M) (f z : Nat) : Prop := ∀ i, i < z → cg_I (M (1 + (f + 4 - i) % 5)) ∧ ∀ x, x < 345 → M 21 (345 * (z - 1 - i) + x) = M (1 + (f + 4 - i) % 5) x
def cg_J0 (M : cg_M) (f z L nb d : Nat) (t : Nat → Nat) : Prop := (f < 5 ∧ z < 5 ∧ M 14 1 = nI f ∧ M 14 2 = nI z ∧ M 26 2 = nI z) ∧ (M 20 = M 0 ∧ M 23 = M 15 ∧ M 24 = M 10) ∧ (M 13 1 = nI L ∧ M 26 6 = nI L ∧ cg_tx0 (M 10) t L ∧ M 13 6 = nI nb ∧ M 13 7 = nI d) ∧ cg_I (M 0) ∧ cg_Hs M f z
def cg_J (M : cg_M) : Prop := ∃ (f z L nb d : Nat) (t : Nat → Nat), cg_J0 M f z L nb d t
theorem cg_I_congr {P P' : Nat → Int32} (h : cg_I P) (e : ∀ x, x < 345 → P' x = P x) : cg_I P' := by
  obtain ⟨n, g1, g2, g3, g4, g5⟩ := h
  have hn := g1.1
  refine ⟨n, cg_Iw_of g1 (fun j _ h => e j (by omega)), fun w hw => ?_, fun r hr o ho => ?_, fun c hc => ?_, fun c hc j hj => ?_⟩
  · rw [e _ (by omega)]; exact g2 w hw
  · rw [e _ (by omega)]; exact g3 r hr o ho
  · rw [e _ (by omega)]; exact g4 c hc
  · rw [e _ (by omega)]; exact g5 c hc j hj
/-- nothing but errors, the free slot and what is put aside has changed -/
theorem cg_J_keep {M N : cg_M} {f z L nb d : Nat} {t : Nat → Nat} (h : cg_J0 M f z L nb d t) (e : ∀ b, b ≠ 15 → b ≠ 23 → b ≠ 22 → b ≠ 1 + f → N b = M b) (h15 : N 23 = N 15) : cg_J0 N f z L nb d t := by
  obtain ⟨⟨a1, a2, a3, a4, a5⟩, ⟨b1, b2, b3⟩, ⟨c1, c2, c3, c4, c5⟩, hI, hH⟩ := h
  have k14 := e 14 (by decide) (by decide) (by decide) (by omega)
  have k26 := e 26 (by decide) (by decide) (by decide) (by omega)
  have k20 := e 20 (by decide) (by decide) (by decide) (by omega)
  have k0 := e 0 (by decide) (by decide) (by decide) (by omega)
  have k24 := e 24 (by decide) (by decide) (by decide) (by omega)
  have k10 := e 10 (by decide) (by decide) (by decide) (by omega)
  have k13 := e 13 (by decide) (by decide) (by decide) (by omega)
  have k21 := e 21 (by decide) (by decide) (by decide) (by omega)
  refine ⟨⟨a1, a2, by rw [k14]; exact a3, by rw [k14]; exact a4, by rw [k26]; exact a5⟩, ⟨by rw [k20, k0]; exact b1, h15, by rw [k24, k10]; exact b3⟩, ⟨by rw [k13]; exact c1, by rw [k26]; exact c2, by rw [k10]; exact c3, by rw [k13]; exact c4, by rw [k13]; exact c5⟩, by rw [k0]; exact hI, fun i hi => ?_⟩
  have ks := e (1 + (f + 4 - i) % 5) (by omega) (by omega) (by omega) (by omega)
  rw [ks, k21]
  exact hH i hi
theorem cg_J_err {M : cg_M} {f z L nb d e : Nat} {t : Nat → Nat} (h : cg_J0 M f z L nb d t) : cg_J (cg_erm (cg_err M e) e) := by
  refine ⟨f, z, L, nb, d, t, cg_J_keep h (fun b h1 h2 _ _ => ?_) ?_⟩
  · unfold cg_erm cg_err
    rw [cg_up_n h2, cg_up_n h1]
  · have b2 := h.2.1.2.1
    unfold cg_erm cg_err
    rw [cg_up_n (show 15 ≠ 23 by decide)]
    funext x
    by_cases hx : x = e
    · subst hx
      rw [cg_up_s, cg_up_s, cg_up_n (by decide), b2]
    · rw [cg_up_o hx, cg_up_o hx, cg_up_n (by decide), b2]
theorem cg_J_err2 {M : cg_M} {f z L nb d e : Nat} {t : Nat → Nat} (h : cg_J0 M f z L nb d t) : cg_J (cg_erm (cg_asd (cg_err (cg_do M f (M 0)) e)) e) := by
  have hf := h.1.1
  have kd : ∀ b, b ≠ 1 + f → cg_do M f (M 0) b = M b := fun b hb => by
    unfold cg_do
    by_cases h0 : b = 0
    · subst h0; rw [cg_sb_s]
    · rw [cg_sb_n h0, cg_cy_n (by omega)]
  refine ⟨f, z, L, nb, d, t, cg_J_keep h (fun b h1 h2 h3 h4 => ?_) ?_⟩
  · unfold cg_erm cg_asd cg_err
    rw [cg_up_n h2, cg_sb_n h3, cg_up_n h1, kd b h4]
  · have b2 := h.2.1.2.1
    have k15 := kd 15 (by omega)
    have k23 := kd 23 (by omega)
    unfold cg_erm cg_asd cg_err
    rw [cg_up_n (show 15 ≠ 23 by decide), cg_sb_n (show 15 ≠ 22 by decide), k15]
    funext x
    by_cases hx : x = e
    · subst hx
      rw [cg_up_s, cg_up_s, cg_sb_n (by decide), cg_up_n (by decide), k23, b2]
    · rw [cg_up_o hx, cg_up_o hx, cg_sb_n (by decide), cg_up_n (by decide), k23, k15, b2]
theorem cg_sav_b {X : cg_M} {z b : Nat} (h1 : b ≠ 21) (h2 : b ≠ 26) : cg_sav X z b = X b := by
  unfold cg_sav cg_sv
  split
  · rw [cg_up_n h2, cg_sb_n h1, cg_up_n h2]
  · rw [cg_up_n h2, cg_sb_n h1]
theorem cg_sav_26 {X : cg_M} {z x : Nat} (h : x ≠ 2) : cg_sav X z 26 x = X 26 x := by
  unfold cg_sav cg_sv
  split
  · rw [cg_up_o h, cg_sb_n (by decide), cg_up_o h]
  · rw [cg_up_o h, cg_sb_n (by decide)]
theorem cg_sav_2 {X : cg_M} {z : Nat} (hz : z < 5) : cg_sav X z 26 2 = nI (min (z + 1) 4) := by
  unfold cg_sav cg_sv
  split
  · rename_i h; subst h; rw [cg_up_s]; rfl
  · rw [cg_up_s, Nat.min_eq_left (by omega)]
theorem cg_sav_21 {X : cg_M} {z : Nat} (hz : z < 5) : ∀ i, i < min (z + 1) 4 → ∀ x, x < 345 → cg_sav X z 21 (345 * (min (z + 1) 4 - 1 - i) + x) = if i = 0 then X 22 x else X 21 (345 * (z - 1 - (i - 1)) + x) := by
  intro i hi x hx
  unfold cg_sav
  by_cases h4 : z = 4
  · subst h4
    rw [if_pos rfl]
    unfold cg_sv
    rw [cg_up_n (by decide), cg_sb_s]
    unfold cg_cpo
    by_cases h0 : i = 0
    · subst h0
      rw [if_pos rfl, if_pos (by omega), cg_up_n (by decide)]
      exact congrArg (X 22) (by omega)
    · rw [if_neg h0, if_neg (by omega)]
      unfold cg_sh
      rw [cg_cpk_l (by omega)]
      exact congrArg (X 21) (by omega)
  · rw [if_neg h4]
    unfold cg_sv
    rw [cg_up_n (by decide), cg_sb_s, Nat.min_eq_left (by omega)]
    unfold cg_cpo
    by_cases h0 : i = 0
    · subst h0
      rw [if_pos rfl, if_pos (by omega)]
      exact congrArg (X 22) (by omega)
    · rw [if_neg h0, if_neg (by omega)]
      exact congrArg (X 21) (by omega)
/-- a state has been saved on both sides -/
theorem cg_J_save {M X : cg_M} {f z L nb d L' nb' d' : Nat} {t t' : Nat → Nat} {P' : Nat → Int32} (h : cg_J0 M f z L nb d t) (hP : cg_I P') (a0 : X 0 = P') (a20 : X 20 = P') (a14 : X 14 1 = nI ((f + 1) % 5)) (a142 : X 14 2 = nI (min (z + 1) 4)) (aslot : ∀ x, x < 345 → X (1 + f) x = M 0 x) (aoth : ∀ b, b < 6 → b ≠ 0 → b ≠ 1 + f → X b = M b) (a21 : X 21 = M 21) (a22 : ∀ x, x < 345 → X 22 x = M 0 x) (a23 : X 23 = X 15) (a24 : X 24 = X 10) (a131 : X 13 1 = nI L') (a266 : X 26 6 = nI L') (atx : cg_tx0 (X 10) t' L') (a136 : X 13 6 = nI nb') (a137 : X 13 7 = nI d') : cg_J (cg_sav X z) := by
  obtain ⟨⟨h1, h2, h3, h4, h5⟩, ⟨b1, b2, b3⟩, -, hI, hH⟩ := h
  refine ⟨(f + 1) % 5, min (z + 1) 4, L', nb', d', t', ⟨by omega, by omega, ?_, ?_, cg_sav_2 h2⟩, ⟨?_, ?_, ?_⟩, ⟨?_, ?_, ?_, ?_, ?_⟩, ?_, fun i hi => ?_⟩
  · rw [cg_sav_b (by decide) (by decide)]; exact a14
  · rw [cg_sav_b (by decide) (by decide)]; exact a142
  · rw [cg_sav_b (by decide) (by decide), cg_sav_b (by decide) (by decide), a0, a20]
  · rw [cg_sav_b (by decide) (by decide), cg_sav_b (by decide) (by decide), a23]
  · rw [cg_sav_b (by decide) (by decide), cg_sav_b (by decide) (by decide), a24]
  · rw [cg_sav_b (by decide) (by decide)]; exact a131
  · rw [cg_sav_26 (by decide)]; exact a266
  · rw [cg_sav_b (by decide) (by decide)]; exact atx
  · rw [cg_sav_b (by decide) (by decide)]; exact a136
  · rw [cg_sav_b (by decide) (by decide)]; exact a137
  · rw [cg_sav_b (by decide) (by decide), a0]; exact hP
  · rw [cg_sav_b (by omega) (by omega)]
    by_cases h0 : i = 0
    · subst h0
      have es : 1 + ((f + 1) % 5 + 4 - 0) % 5 = 1 + f := by omega
      rw [es]
      refine ⟨cg_I_congr hI aslot, fun x hx => ?_⟩
      rw [cg_sav_21 h2 0 hi x hx, if_pos rfl, a22 x hx, aslot x hx]
    · have es : 1 + ((f + 1) % 5 + 4 - i) % 5 = 1 + (f + 4 - (i - 1)) % 5 := by omega
      rw [es, aoth _ (by omega) (by omega) (by omega)]
      obtain ⟨g1, g2⟩ := hH (i - 1) (by omega)
      refine ⟨g1, fun x hx => ?_⟩
      rw [cg_sav_21 h2 i hi x hx, if_neg h0, a21]
      exact g2 x hx
theorem cg_keep_b {M : cg_M} {f z b : Nat} (h : b ≠ 14) : cg_keep M f z b = M b := by unfold cg_keep; rw [cg_up_n h, cg_up_n h]
theorem cg_keep_1 {M : cg_M} {f z : Nat} : cg_keep M f z 14 1 = nI ((f + 1) % 5) := by unfold cg_keep; rw [cg_up_o (by decide), cg_up_s]
theorem cg_keep_2 {M : cg_M} {f z : Nat} : cg_keep M f z 14 2 = nI (min (z + 1) 4) := by unfold cg_keep; rw [cg_up_s]
theorem cg_do_0 {M : cg_M} {f : Nat} {P : Nat → Int32} : cg_do M f P 0 = P := by unfold cg_do; rw [cg_sb_s]
theorem cg_do_b {M : cg_M} {f b : Nat} {P : Nat → Int32} (h0 : b ≠ 0) (h1 : b ≠ 1 + f) : cg_do M f P b = M b := by unfold cg_do; rw [cg_sb_n h0, cg_cy_n (by omega)]
theorem cg_do_f {M : cg_M} {f x : Nat} {P : Nat → Int32} (hx : x < 345) : cg_do M f P (1 + f) x = M 0 x := by
  unfold cg_do
  rw [cg_sb_n (by omega)]
  unfold cg_cy
  rw [if_pos ⟨by omega, hx⟩]
theorem cg_asd_22 {M : cg_M} {x : Nat} (hx : x < 345) : cg_asd M 22 x = M 20 x := by unfold cg_asd; rw [cg_sb_s, cg_cpk_l hx]
theorem cg_asd_b {M : cg_M} {b : Nat} (h : b ≠ 22) : cg_asd M b = M b := by unfold cg_asd; rw [cg_sb_n h]
theorem cg_J_ok {M : cg_M} {f z L nb d : Nat} {t : Nat → Nat} {P' : Nat → Int32} (h : cg_J0 M f z L nb d t) (hP : cg_I P') : cg_J (cg_sav (cg_sb (cg_asd (cg_keep (cg_do M f P') f z)) 20 P') z) := by
  have hf := h.1.1
  have kb : ∀ b, b ≠ 20 → b ≠ 22 → b ≠ 14 → cg_sb (cg_asd (cg_keep (cg_do M f P') f z)) 20 P' b = cg_do M f P' b := fun b h1 h2 h3 => by rw [cg_sb_n h1, cg_asd_b h2, cg_keep_b h3]
  have k14 : cg_sb (cg_asd (cg_keep (cg_do M f P') f z)) 20 P' 14 = cg_keep (cg_do M f P') f z 14 := by rw [cg_sb_n (by decide), cg_asd_b (by decide)]
  have kc : ∀ b, b ≠ 20 → b ≠ 22 → b ≠ 14 → b ≠ 0 → b ≠ 1 + f → cg_sb (cg_asd (cg_keep (cg_do M f P') f z)) 20 P' b = M b := fun b h1 h2 h3 h4 h5 => by rw [kb b h1 h2 h3, cg_do_b h4 h5]
  obtain ⟨-, ⟨b1, b2, b3⟩, ⟨c1, c2, c3, c4, c5⟩, hI, hH⟩ := id h
  refine cg_J_save (t' := t) (L' := L) (nb' := nb) (d' := d) h hP ?_ (cg_sb_s _ _ _) ?_ ?_ (fun x hx => ?_) (fun b h1 h2 h3 => kc b (by omega) (by omega) (by omega) h2 h3) (kc 21 (by decide) (by decide) (by decide) (by decide) (by omega)) (fun x hx => ?_) ?_ ?_ ?_ ?_ ?_ ?_ ?_
  · rw [kb 0 (by decide) (by decide) (by decide), cg_do_0]
  · rw [k14]; exact cg_keep_1
  · rw [k14]; exact cg_keep_2
  · rw [kb _ (by omega) (by omega) (by omega)]; exact cg_do_f hx
  · rw [cg_sb_n (by decide), cg_asd_22 hx, cg_keep_b (by decide), cg_do_b (by decide) (by omega), b1]
  · rw [kc 23 (by decide) (by decide) (by decide) (by decide) (by omega), kc 15 (by decide) (by decide) (by decide) (by decide) (by omega), b2]
  · rw [kc 24 (by decide) (by decide) (by decide) (by decide) (by omega), kc 10 (by decide) (by decide) (by decide) (by decide) (by omega), b3]
  · rw [kc 13 (by decide) (by decide) (by decide) (by decide) (by omega)]; exact c1
  · rw [kc 26 (by decide) (by decide) (by decide) (by decide) (by omega)]; exact c2
  · rw [kc 10 (by decide) (by decide) (by decide) (by decide) (by omega)]; exact c3
  · rw [kc 13 (by decide) (by decide) (by decide) (by decide) (by omega)]; exact c4
  · rw [kc 13 (by decide) (by decide) (by decide) (by decide) (by omega)]; exact c5
/-- an undoable call, on both sides -/
theorem cg_J_fin {M : cg_M} {f z L nb d : Nat} {t : Nat → Nat} {o : cg_O} (h : cg_J0 M f z L nb d t) (hI : cg_I o.2) (hr : cg_rs (M 0) o) : cg_J (cg_fim (cg_fin M f z o) z o) := by
  unfold cg_fim cg_fin
  rcases hr with g | ⟨g1, g2⟩
  · rw [if_neg g, if_neg g]
    exact cg_J_ok h hI
  · obtain ⟨k1, k2, k3, k4, k5⟩ := cg_fin_k g1
    rw [if_pos k5, if_pos k5]
    exact cg_J_err2 h
theorem cg_fin_b {M : cg_M} {f z b : Nat} {o : cg_O} (h1 : 16 ≤ b) (hf : f < 5) : cg_fin M f z o b = M b := by
  unfold cg_fin
  split
  · unfold cg_err
    rw [cg_up_n (by omega), cg_do_b (by omega) (by omega)]
  · rw [cg_keep_b (by omega), cg_do_b (by omega) (by omega)]
theorem cg_J_undo {M : cg_M} {f y L nb d : Nat} {t : Nat → Nat} (h : cg_J0 M f (y + 1) L nb d t) : cg_J (cg_unm (cg_und M f y) y) := by
  obtain ⟨⟨h1, h2, h3, h4, h5⟩, ⟨b1, b2, b3⟩, ⟨c1, c2, c3, c4, c5⟩, hI, hH⟩ := h
  have u0 : ∀ b, b ≠ 0 → b ≠ 14 → cg_und M f y b = M b := fun b q1 q2 => by unfold cg_und; rw [cg_cy_n q1, cg_up_n q2, cg_up_n q2]
  have u141 : cg_und M f y 14 1 = nI ((f + 4) % 5) := by unfold cg_und; rw [cg_cy_n (by decide), cg_up_o (by decide), cg_up_s]
  have u142 : cg_und M f y 14 2 = nI y := by unfold cg_und; rw [cg_cy_n (by decide), cg_up_s]
  have u00 : ∀ x, cg_und M f y 0 x = if x < 345 then M (1 + (f + 4) % 5) x else M 0 x := fun x => by
    unfold cg_und cg_cy
    by_cases hx : x < 345
    · rw [if_pos ⟨rfl, hx⟩, if_pos hx, cg_up_n (by omega), cg_up_n (by omega), show (f + 4) % 5 + 1 = 1 + (f + 4) % 5 by omega]
    · rw [if_neg (fun q => hx q.2), if_neg hx, cg_up_n (by decide), cg_up_n (by decide)]
  have nb0 : ∀ b, b ≠ 20 → b ≠ 26 → cg_unm (cg_und M f y) y b = cg_und M f y b := fun b q1 q2 => by unfold cg_unm; rw [cg_sb_n q1, cg_up_n q2]
  obtain ⟨gI, gS⟩ := hH 0 (by omega)
  have e20 : cg_unm (cg_und M f y) y 20 = cg_und M f y 0 := by
    unfold cg_unm
    rw [cg_sb_s, u0 21 (by decide) (by decide), u0 20 (by decide) (by decide)]
    funext x
    rw [u00 x]
    by_cases hx : x < 345
    · rw [cg_cpk_l hx, if_pos hx]
      have := gS x hx
      rw [show y + 1 - 1 - 0 = y by omega, show (f + 4 - 0) % 5 = (f + 4) % 5 by omega] at this
      exact this
    · rw [cg_cpk_n (by omega), if_neg hx, b1]
  refine ⟨(f + 4) % 5, y, L, nb, d, t, ⟨by omega, by omega, ?_, ?_, ?_⟩, ⟨?_, ?_, ?_⟩, ⟨?_, ?_, ?_, ?_, ?_⟩, ?_, fun i hi => ?_⟩
  · rw [nb0 14 (by decide) (by decide)]; exact u141
  · rw [nb0 14 (by decide) (by decide)]; exact u142
  · unfold cg_unm; rw [cg_sb_n (by decide), cg_up_s]
  · rw [e20, nb0 0 (by decide) (by decide)]
  · rw [nb0 23 (by decide) (by decide), nb0 15 (by decide) (by decide), u0 23 (by decide) (by decide), u0 15 (by decide) (by decide), b2]
  · rw [nb0 24 (by decide) (by decide), nb0 10 (by decide) (by decide), u0 24 (by decide) (by decide), u0 10 (by decide) (by decide), b3]
  · rw [nb0 13 (by decide) (by decide), u0 13 (by decide) (by decide)]; exact c1
  · unfold cg_unm; rw [cg_sb_n (by decide), cg_up_o (by decide), u0 26 (by decide) (by decide)]; exact c2
  · rw [nb0 10 (by decide) (by decide), u0 10 (by decide) (by decide)]; exact c3
  · rw [nb0 13 (by decide) (by decide), u0 13 (by decide) (by decide)]; exact c4
  · rw [nb0 13 (by decide) (by decide), u0 13 (by decide) (by decide)]; exact c5
  · rw [nb0 0 (by decide) (by decide)]
    refine cg_I_congr gI (fun x hx => ?_)
    rw [u00 x, if_pos hx, show (f + 4 - 0) % 5 = (f + 4) % 5 by omega]
  · have es : 1 + ((f + 4) % 5 + 4 - i) % 5 = 1 + (f + 4 - (i + 1)) % 5 := by omega
    rw [es, nb0 _ (by omega) (by omega), nb0 21 (by decide) (by decide), u0 _ (by omega) (by omega), u0 21 (by decide) (by decide)]
    obtain ⟨k1, k2⟩ := hH (i + 1) (by omega)
    refine ⟨k1, fun x hx => ?_⟩
    rw [show y - 1 - i = y + 1 - 1 - (i + 1) by omega]
    exact k2 x hx
theorem cg_J_app {M : cg_M} {f z L nb d v : Nat} {t : Nat → Nat} (h : cg_J0 M f z L nb d t) (hv : v < 128) (hL : L < 100) : cg_J (cg_up (cg_up (cg_up (cg_up M 10 L (nI v)) 13 1 (nI (L + 1))) 24 L (nI v)) 26 6 (nI (L + 1))) := by
  obtain ⟨⟨h1, h2, h3, h4, h5⟩, ⟨b1, b2, b3⟩, ⟨c1, c2, c3, c4, c5⟩, hI, hH⟩ := h
  generalize hN : cg_up (cg_up (cg_up (cg_up M 10 L (nI v)) 13 1 (nI (L + 1))) 24 L (nI v)) 26 6 (nI (L + 1)) = N
  have nb0 : ∀ b, b ≠ 10 → b ≠ 13 → b ≠ 24 → b ≠ 26 → N b = M b := fun b q1 q2 q3 q4 => by rw [← hN, cg_up_n q4, cg_up_n q3, cg_up_n q2, cg_up_n q1]
  have n10 : N 10 = upd (M 10) L (nI v) := by rw [← hN, cg_up_n (by decide), cg_up_n (by decide), cg_up_n (by decide), cg_up_sb0, cg_sb_s]
  have n24 : N 24 = upd (M 24) L (nI v) := by rw [← hN, cg_up_n (by decide), cg_up_sb0, cg_sb_s, cg_up_n (by decide), cg_up_n (by decide)]
  have n13 : ∀ x, x ≠ 1 → N 13 x = M 13 x := fun x hx => by rw [← hN, cg_up_n (by decide), cg_up_n (by decide), cg_up_o hx, cg_up_n (by decide)]
  refine ⟨f, z, L + 1, nb, d, fun p => if p = L then v else t p, ⟨h1, h2, ?_, ?_, ?_⟩, ⟨?_, ?_, ?_⟩, ⟨?_, ?_, ⟨by omega, fun p hp => ?_⟩, ?_, ?_⟩, ?_, fun i hi => ?_⟩
  · rw [nb0 14 (by decide) (by decide) (by decide) (by decide)]; exact h3
  · rw [nb0 14 (by decide) (by decide) (by decide) (by decide)]; exact h4
  · rw [← hN, cg_up_o (by decide), cg_up_n (by decide), cg_up_n (by decide), cg_up_n (by decide)]; exact h5
  · rw [nb0 20 (by decide) (by decide) (by decide) (by decide), nb0 0 (by decide) (by decide) (by decide) (by decide), b1]
  · rw [nb0 23 (by decide) (by decide) (by decide) (by decide), nb0 15 (by decide) (by decide) (by decide) (by decide), b2]
  · rw [n24, n10, b3]
  · rw [← hN, cg_up_n (by decide), cg_up_n (by decide), cg_up_s]
  · rw [← hN, cg_up_s]
  · rw [n10]
    by_cases e : p = L
    · subst e; rw [cg_us]; simp [hv]
    · rw [cg_un e]; simp only [if_neg e]; exact c3.2 p (by omega)
  · rw [n13 6 (by decide)]; exact c4
  · rw [n13 7 (by decide)]; exact c5
  · rw [nb0 0 (by decide) (by decide) (by decide) (by decide)]; exact hI
  · rw [nb0 _ (by omega) (by omega) (by omega) (by omega), nb0 21 (by decide) (by decide) (by decide) (by decide)]; exact hH i hi
theorem cg_J_clr {M : cg_M} {f z L nb d : Nat} {t : Nat → Nat} (h : cg_J0 M f z L nb d t) : cg_J (cg_up (cg_up M 13 1 (nI 0)) 26 6 (nI 0)) := by
  obtain ⟨⟨h1, h2, h3, h4, h5⟩, ⟨b1, b2, b3⟩, ⟨c1, c2, c3, c4, c5⟩, hI, hH⟩ := h
  generalize hN : cg_up (cg_up M 13 1 (nI 0)) 26 6 (nI 0) = N
  have nb0 : ∀ b, b ≠ 13 → b ≠ 26 → N b = M b := fun b q2 q4 => by rw [← hN, cg_up_n q4, cg_up_n q2]
  have n13 : ∀ x, x ≠ 1 → N 13 x = M 13 x := fun x hx => by rw [← hN, cg_up_n (by decide), cg_up_o hx]
  refine ⟨f, z, 0, nb, d, t, ⟨h1, h2, ?_, ?_, ?_⟩, ⟨?_, ?_, ?_⟩, ⟨?_, ?_, ⟨by omega, fun p hp => absurd hp (by omega)⟩, ?_, ?_⟩, ?_, fun i hi => ?_⟩
  · rw [nb0 14 (by decide) (by decide)]; exact h3
  · rw [nb0 14 (by decide) (by decide)]; exact h4
  · rw [← hN, cg_up_o (by decide), cg_up_n (by decide)]; exact h5
  · rw [nb0 20 (by decide) (by decide), nb0 0 (by decide) (by decide), b1]
  · rw [nb0 23 (by decide) (by decide), nb0 15 (by decide) (by decide), b2]
  · rw [nb0 24 (by decide) (by decide), nb0 10 (by decide) (by decide), b3]
  · rw [← hN, cg_up_n (by decide), cg_up_s]
  · rw [← hN, cg_up_s]
  · rw [n13 6 (by decide)]; exact c4
  · rw [n13 7 (by decide)]; exact c5
  · rw [nb0 0 (by decide) (by decide)]; exact hI
  · rw [nb0 _ (by omega) (by omega), nb0 21 (by decide) (by decide)]; exact hH i hi
theorem cg_xs_I {Lt Nm : Nat → Int32} : ∀ (m i n : Nat) (P : Nat → Int32), cg_I P → cg_I (cg_xs Lt Nm m i n P).2.2
  | 0, _, _, _, h => h
  | m + 1, i, n, P, h => by
    unfold cg_xs
    split
    · exact cg_cm_I h
    · exact cg_xs_I m (i + 1) _ _ (cg_cm_I h)
