/-! ===== the law's beginning ===== -/
/-! THE CLAIM OUT OF ONE WALK OF THE LAW'S BODY. Your part is whole_start (and what it stands on); all else here is the same for every law, but numbers. -/
def R_law : String := "ClientGuaranteesLaw"
def lw_P (b : Addr) (xs : List Int32) (args : Array Value) (s : State) : Prop := args = #[.ref b] ∧ s.IntsAt b xs ∧ xs.length ≤ 2560 ∧ (Jvm.Cond.and given_1 narrow_1).before args s = true
def lw_Q (_ : Array Value) (s : State) (o : Outcome) (t : State) : Prop := o = .returned (some (.int 1)) ∧ Framed s o t [] 600000 7302250
def lw_Z (below : List Frame) (a : Array Value) (s : State) : State → Prop := fun t => ∃ o, t.status = .running ∧ Ended t below o ∧ lw_Q a s o t
/-- the law's own end, with 1 on the stack, nothing written that was there before, its room as the claim has it -/
theorem lw_ret {p : Program} {l : Launch} {e : Env} {s : State} {m : MethodId} {below : List Frame} {meth : Method} {c : Code} {b : Nat} (hx : p.tables.exec = Jvm.exec) (hb : c.code = code) (hr : meth.sig.returnType = ret) (hlocks : meth.locks = false) {pc : Nat} {H : Heap} {ls : Array Slot} (hdg : decode code pc = .ok (.ireturn, 1)) : W p l e room_1 s m #[Value.ref b] below meth c H [] 600000 7302250 (lw_Z below #[Value.ref b] s) (F0 m pc ls [.int 1]) := by
  intro T hT X
  obtain ⟨fs, hret, hrun, hended, hW, hframe⟩ := X.leave (v := some (.int 1)) (hlocks := hlocks) (fun h => by rw [hr] at h; cases h)
  have hmeth' : T.vm.method? m = some meth := X.method'
  refine ⟨T.setFrames fs, ?_, .returned (some (.int 1)), hrun, hended, rfl, ⟨_, rfl⟩, hW, hframe⟩
  jvm_step X.here [X.here.top, hx, hb, hdg, hmeth', hr, ret, narrow_b1]
  (try refine ⟨rfl, ?_⟩); (try refine ⟨rfl, ?_⟩)
  first | (intro acts; rw [hret _ acts rfl rfl rfl]) | rw [hret _ _ rfl rfl rfl]
  exact Steps.refl _
/-- what holds at the law's entry: the machine, the code, the tables' words (any of lw_tbl by 'hts w (by decide +kernel)'), the script of L ints xs at the cell b, what the Statement gives of the start (any of its parts by flat_of_before) -/
def lw_At (p : Program) (s : State) (m : MethodId) (meth : Method) (c : Code) (b L : Nat) (xs : Nat → Int32) : Prop :=
  p.tables.exec = Jvm.exec ∧ c.code = code ∧ meth.sig.returnType = ret ∧ c.maxLocals = 4 ∧ s.vm.findClass R_law = some m.cls ∧ (∀ w ∈ lw_tbl, w.before #[Value.ref b] s = true) ∧ va_X b L xs s s.heap ∧ b < s.heap.size ∧ meth.locks = false ∧ (Jvm.Cond.and given_1 narrow_1).before #[Value.ref b] s = true
def ci_M0 : cg_M := fun _ _ => nI 0
theorem ci_in0 (n : Nat) (h : 0 < n) : cg_in (nI 0) n := ⟨0, h, rfl⟩
theorem ci_I0 : cg_I (ci_M0 0) := ⟨0, ⟨by decide, rfl, fun w hw => absurd hw (by omega)⟩, fun w hw => absurd hw (by omega), fun _ _ _ _ => ci_in0 _ (by decide), fun _ _ => ci_in0 _ (by decide), fun _ _ _ _ => ci_in0 _ (by decide)⟩
theorem ci_J0 : cg_J ci_M0 := ⟨0, 0, 0, 0, 0, fun _ => 0, ⟨by decide, by decide, rfl, rfl, rfl⟩, ⟨rfl, rfl, rfl⟩, ⟨rfl, rfl, ⟨by decide, fun p hp => absurd hp (by omega)⟩, rfl, rfl⟩, ci_I0, fun i hi => absurd hi (by omega)⟩
/-- where each label lies -/
def ci_ad (b hc : Nat) (u : ci_cU) (hr : Nat) (v : Nat → Nat) : cg_L → Nat := fun q => match q with
  | (0, 0, 0, _) => u.1.1
  | (0, 0, f + 1, r) => u.1.2 (f + 1) r
  | (0, k + 1, 0, _) => u.2.1.2.2.1 k
  | (0, k + 1, f + 1, r) => u.2.1.2.2.2 k (f + 1) r
  | (1, _, 0, _) => u.2.2.1.1
  | (1, _, 1, _) => u.2.2.1.2.1
  | (1, _, 3, _) => u.2.2.1.2.2.1
  | (1, _, 4, 0) => u.2.2.1.2.2.2.1
  | (1, _, 4, r + 1) => u.2.2.1.2.2.2.2 r
  | (2, _, 0, _) => u.2.1.1
  | (2, _, 1, _) => u.2.1.2.1
  | (3, _, 0, _) => hc
  | (3, _, 4, _) => u.2.2.2
  | (4, _, 0, _) => hr
  | (4, _, f + 1, _) => v (f + 1)
  | (9, _, _, _) => b
  | _ => 0
def ci_sl (k : Nat) : List cg_L := [(0, k, 0, 0), (0, k, 2, 0), (0, k, 3, 0), (0, k, 4, 0), (0, k, 5, 0), (0, k, 6, 0), (0, k, 7, 0), (0, k, 7, 1), (0, k, 7, 2), (0, k, 7, 3), (0, k, 8, 0), (0, k, 9, 0), (0, k, 10, 0), (0, k, 10, 1), (0, k, 10, 2), (0, k, 10, 3), (0, k, 10, 4), (0, k, 11, 0), (0, k, 11, 1), (0, k, 11, 2), (0, k, 11, 3), (0, k, 11, 4), (0, k, 12, 0)]
def ci_lb : List cg_L := ([(3, 0, 0, 0)] ++ ci_sl 0 ++ ([(2, 0, 0, 0), (2, 0, 1, 0)] ++ ci_sl 1 ++ ci_sl 2 ++ ci_sl 3 ++ ci_sl 4 ++ ci_sl 5) ++ ([(1, 0, 0, 0), (1, 0, 1, 0), (1, 0, 3, 0), (1, 0, 4, 0)] ++ (List.range 34).map (fun i => (1, 0, 4, i + 1))) ++ [(3, 0, 4, 0)]) ++ [(4, 0, 0, 0), (4, 0, 1, 0), (4, 0, 2, 0), (4, 0, 4, 0), (4, 0, 5, 0), (4, 0, 6, 0), (4, 0, 9, 0)]
set_option maxRecDepth 100000 in
theorem ci_lb_all : ∀ q ∈ cg_all, q ∈ ci_lb := by decide +kernel
section CIW
variable {D : va_G} {cI cJ cS : ClassId} {b hc hr : Nat} {u : ci_cU} {v : Nat → Nat}
abbrev ci_g (D : va_G) (cI cJ cS : ClassId) (b hc : Nat) (u : ci_cU) (hr : Nat) (v : Nat → Nat) : cg_G := (D, (cI, cJ, cS), ci_ad b hc u hr v)
abbrev ci_F (g : cg_G) : cg_L → Nat × va_E := fun q => (g.2.2 q, cg_ce g ci_M0 q)
set_option maxRecDepth 100000 in
set_option maxHeartbeats 4000000 in
theorem ci_w0 : (ci_sl 0).map (ci_F (ci_g D cI cJ cS b hc u hr v)) = ci_st cI cJ cS u.1.1 u.1.2 := rfl
set_option maxRecDepth 100000 in
set_option maxHeartbeats 4000000 in
theorem ci_w1 (k : Nat) : (ci_sl (k + 1)).map (ci_F (ci_g D cI cJ cS b hc u hr v)) = ci_st cI cJ cS (u.2.1.2.2.1 k) (u.2.1.2.2.2 k) := rfl
set_option maxRecDepth 100000 in
set_option maxHeartbeats 4000000 in
theorem ci_w2 : ([(1, 0, 0, 0), (1, 0, 1, 0), (1, 0, 3, 0), (1, 0, 4, 0)] ++ (List.range 34).map (fun i => ((1, 0, 4, i + 1) : cg_L))).map (ci_F (ci_g D cI cJ cS b hc u hr v)) = ci_sc cI cJ cS u.2.2.1.1 u.2.2.1.2 := rfl
set_option maxRecDepth 100000 in
set_option maxHeartbeats 4000000 in
theorem ci_w3 : [((2, 0, 0, 0) : cg_L), (2, 0, 1, 0)].map (ci_F (ci_g D cI cJ cS b hc u hr v)) = [(u.2.1.1, ci_o 0 [.ref u.2.1.2.1, .int (nI 0), .int (nI 0)]), (u.2.1.2.1, ci_h5 cS u.2.1.2.2.1)] := rfl
set_option maxRecDepth 100000 in
set_option maxHeartbeats 4000000 in
theorem ci_w4 : [((3, 0, 0, 0) : cg_L)].map (ci_F (ci_g D cI cJ cS b hc u hr v)) = [(hc, ci_o 3 [.ref u.1.1, .ref u.2.1.1, .ref u.2.2.1.1, .ref u.2.2.2])] := rfl
set_option maxRecDepth 100000 in
set_option maxHeartbeats 4000000 in
theorem ci_w5 : [((3, 0, 4, 0) : cg_L)].map (ci_F (ci_g D cI cJ cS b hc u hr v)) = [(u.2.2.2, ci_a cI 5)] := rfl
set_option maxRecDepth 100000 in
set_option maxHeartbeats 4000000 in
theorem ci_w6 : [((4, 0, 0, 0) : cg_L), (4, 0, 1, 0), (4, 0, 2, 0), (4, 0, 4, 0), (4, 0, 5, 0), (4, 0, 6, 0), (4, 0, 9, 0)].map (ci_F (ci_g D cI cJ cS b hc u hr v)) = ci_rf cI cJ cS hr v := rfl
set_option maxRecDepth 100000 in
set_option maxHeartbeats 4000000 in
theorem ci_world : ci_lb.map (ci_F (ci_g D cI cJ cS b hc u hr v)) = ci_cg cI cJ cS hc u ++ ci_rf cI cJ cS hr v := by
  unfold ci_lb
  rw [List.map_append, ci_w6, List.map_append, ci_w5, List.map_append, ci_w2, List.map_append, List.map_append, ci_w4, ci_w0, List.map_append, List.map_append, List.map_append, List.map_append, List.map_append, ci_w3, ci_w1 0, ci_w1 1, ci_w1 2, ci_w1 3, ci_w1 4]
  rfl
theorem ci_get {q : cg_L} (hq : cg_ok q = true) : ∃ i : Nat, (ci_cg cI cJ cS hc u ++ ci_rf cI cJ cS hr v)[i]? = some (ci_F (ci_g D cI cJ cS b hc u hr v) q) ∧ ci_lb[i]? = some q := by
  obtain ⟨i, hi⟩ := List.getElem?_of_mem (ci_lb_all q (cg_all_mem hq))
  exact ⟨i, by rw [← ci_world (D := D) (b := b), List.getElem?_map, hi]; rfl, hi⟩
theorem ci_H {H : Heap} (hP : va_P D vwCl (ci_cg cI cJ cS hc u ++ ci_rf cI cJ cS hr v) H) : cg_H (ci_g D cI cJ cS b hc u hr v) ci_M0 H := fun q hq => by
  obtain ⟨i, h1, -⟩ := ci_get (D := D) (b := b) hq
  exact hP i _ h1
theorem ci_inj {A : Nat → Prop} (hD : va_D A (ci_cg cI cJ cS hc u ++ ci_rf cI cJ cS hr v)) : cg_inj (ci_g D cI cJ cS b hc u hr v) := fun q r hq hr' he => by
  obtain ⟨i, h1, h2⟩ := ci_get (D := D) (b := b) hq
  obtain ⟨j, h3, h4⟩ := ci_get (D := D) (b := b) hr'
  have hij := hD.1 i j _ _ h1 h3 he
  subst hij
  exact Option.some.inj (h2.symm.trans h4)
theorem ci_own {A : Nat → Prop} (hD : va_D A (ci_cg cI cJ cS hc u ++ ci_rf cI cJ cS hr v)) {q : cg_L} (hq : cg_ok q = true) : A ((ci_g D cI cJ cS b hc u hr v).2.2 q) := by
  obtain ⟨i, h1, -⟩ := ci_get (D := D) (b := b) hq
  exact hD.2 i _ h1
end CIW
theorem inL3 : ∀ w ∈ u_ws RX3 TX3 4, w ∈ wsL_law := fun _ h => List.mem_append_left _ (List.mem_append_left _ (List.mem_append_left _ (List.mem_append_left _ (List.mem_append_left _ (List.mem_append_right _ h)))))
theorem inL4 : ∀ w ∈ u_ws RX4 TX4 10, w ∈ wsL_law := fun _ h => List.mem_append_left _ (List.mem_append_left _ (List.mem_append_left _ (List.mem_append_left _ (List.mem_append_right _ h))))
theorem ci_lv {ls : Array Slot} {g : cg_G} (h : lv_has ls 4 [(3, .int (nI 0)), (2, .ref (g.2.2 (4, 0, 0, 0))), (1, .ref (g.2.2 (3, 0, 0, 0))), (0, .ref (g.2.2 (9, 0, 0, 0)))]) : lv_has ls 4 (cg_lv g.2.2 0 [some (.inr (.inr (9, 0, 0, 0))), some (.inr (.inr (3, 0, 0, 0))), some (.inr (.inr (4, 0, 0, 0))), some (.inl (nI 0))]) := lv_sub h [3, 2, 1, 0] rfl
set_option maxRecDepth 100000 in
set_option maxHeartbeats 4000000 in
theorem whole_start {p : Program} {e : Env} {s : State} {m : MethodId} {below : List Frame} {meth : Method} {c : Code} (l : Launch) (hflags : l.flags = flags0) {b L : Nat} {xs : Nat → Int32} (hL : L ≤ 2560) (C0 : lw_At p s m meth c b L xs) : W p l e room_1 s m #[Value.ref b] below meth c s.heap [] 0 0 (lw_Z below #[Value.ref b] s) (entryFrame m ([Value.ref b] : List Value).toArray 4) := by
  obtain ⟨hx, hb, hr, hml, hown, hts0, hX, hbl, hlocks, hgv⟩ := id C0
  have hts : ∀ w ∈ wsL_law, w.before #[Value.ref b] s = true := fun w h => hts0 w (wsL_law_in w h)
  have hA : ∀ q : Nat, s.heap.size ≤ q → (fun q : Nat => s.heap.size ≤ q) q := fun _ h => h
  obtain ⟨c0, i0, hKn0⟩ := u_known (C := RX0) (T := TX0) (N := 3) (n := 3) hts0 wl_u0 (hts (.instantiable RX0 3) (by decide +kernel))
  obtain ⟨c1, i1, hKn1⟩ := u_known (C := RX1) (T := TX1) (N := 8) (n := 8) hts0 wl_u1 (hts (.instantiable RX1 8) (by decide +kernel))
  obtain ⟨c2, i2, hKn2⟩ := u_known (C := RX2) (T := TX2) (N := 12) (n := 12) hts0 wl_u2 (hts (.instantiable RX2 12) (by decide +kernel))
  obtain ⟨c3, i3, hKn3⟩ := u_known (C := RX3) (T := TX3) (N := 4) (n := 4) hts0 wl_u3 (hts (.instantiable RX3 4) (by decide +kernel))
  obtain ⟨c4, i4, hKn4⟩ := u_known (C := RX4) (T := TX4) (N := 10) (n := 10) hts0 wl_u4 (hts (.instantiable RX4 10) (by decide +kernel))
  obtain ⟨D, hKc⟩ : ∃ D : va_G, ∀ (k : Nat) (q : vw_C), vwCl[k]? = some q → u_Kn s q.1 q.2.1 q.2.2 (D.1 k) (D.2 k) := by
    refine ⟨(fun k => match k with | 0 => c0 | 1 => c1 | 2 => c2 | 3 => c3 | _ => c4, fun k => match k with | 0 => i0 | 1 => i1 | 2 => i2 | 3 => i3 | _ => i4), ?_⟩
    intro k q hq
    match k, hq with
    | 0, hq => cases hq; exact hKn0
    | 1, hq => cases hq; exact hKn1
    | 2, hq => cases hq; exact hKn2
    | 3, hq => cases hq; exact hKn3
    | 4, hq => cases hq; exact hKn4
    | k + 5, hq => simp [vwCl] at hq
  obtain ⟨cI, kI, compI, f1, f2, f3⟩ := Cond.arrayClass_spec (hts0 _ wl_aI)
  obtain ⟨compJ, cJ, kJ, g1, g2, g3, g4⟩ := Cond.arrayOver_specA (hts0 _ wl_aJ)
  obtain ⟨compS, cS, kS, e1, e2, e3, e4, e5⟩ := Cond.arrayOver_spec (hts0 _ wl_aS)
  have hZ : ci_K D cI cJ cS s := by
    refine ⟨⟨hKc, fun k q hk => ?_⟩, va_AOA.of (hts0 _ wl_aJ), va_AO.of (hts0 _ wl_aS), fun w hw => ?_⟩
    · match k, hk with
      | 0, hk => cases hk; exact ⟨fun n z => ⟨fun k h => (by cases h), kI, f2, compI, f3⟩, f1⟩
      | 1, hk => cases hk; exact ⟨fun n z => ⟨fun k h => (by cases h), kJ, g2, compJ, g3⟩, g4⟩
      | 2, hk => cases hk; exact ⟨fun n z => ⟨fun k h => (by cases h), kS, e3, compS, e4⟩, kS, compS, e3, e4, e1, e5⟩
      | k + 3, hk => simp at hk
    · have h1 := hts0 w (wl_n2 w hw)
      simp only [ci_nests, List.mem_cons, List.not_mem_nil, or_false] at hw
      rcases hw with rfl | rfl | rfl <;> exact va_Nw.of rfl h1
  have hN : cg_N s := fun w hw => by
    have h1 := hts0 w (wl_n1 w hw)
    simp only [cg_nests, List.mem_cons, List.not_mem_nil, or_false] at hw
    rcases hw with rfl | rfl | rfl | rfl | rfl | rfl | rfl | rfl <;> exact va_Nw.of rfl h1
  have hS : va_S (fun q : Nat => s.heap.size ≤ q) s.heap s.heap [] := va_S.rf
  have hP : va_P D vwCl [] s.heap := fun k q h => by simp at h
  have hD : va_D (fun q : Nat => s.heap.size ≤ q) [] := ⟨fun i j p q h => by simp at h, fun k q h => by simp at h⟩
  have hl := lv_entry ([.ref b]) (n := 4) (Nat.le_of_ble_eq_true rfl)
  rw [lg_entry_eq]
  generalize (lg_sl ([.ref b]) ++ List.replicate (4 - (lg_sl ([.ref b])).length) Slot.unset).toArray = ls at hl ⊢
  have hl : lv_has ls 4 [(0, .ref b)] := hl
  refine va_new (D := D) (cl := vwCl) (ci := 3) (fs := [.null, .null, .null, .null]) (C := RX3) (T := TX3) (N := 4) hx hb hts inL3 tyX3 tyX3_ok hown (hts (.classLink RL 7 RX3) (by decide +kernel)) (hts (.instantiable RX3 4) (by decide +kernel)) (hts (.initialized RX3) (by decide +kernel)) hZ.1 hP hD hS hA rfl (fun j hj => by rcases (show j = 0 ∨ j = 1 ∨ j = 2 ∨ j = 3 by omega) with rfl | rfl | rfl | rfl <;> rfl) (Nat.le_of_ble_eq_true rfl) (Nat.le_of_ble_eq_true rfl) dL_law_0 (fun hc H hP hD hS => ?_)
  refine lv_dup hx hb dL_law_3 rfl ?_
  refine ci_callI ⟨hx, hb, hml, hown, hts⟩ (ci_X3 l) (cwI 0 hts gL_law_X3_init rfl rfl rfl (hts (.initialized RX3) (by decide +kernel)) (hts (.methodLink RL 9 yX3_init) (by decide +kernel)) (hts (.instanceMethod yX3_init) (by decide +kernel)) rfl (by decide +kernel) ⟨Nat.le_of_ble_eq_true rfl, Nat.le_of_ble_eq_true rfl⟩) hZ hP hD hS hA hl.1 (Nat.le_of_ble_eq_true rfl) dL_law_4 ⟨Nat.le_of_ble_eq_true rfl, Nat.le_of_ble_eq_true rfl⟩ (fun u H locs hP hD hS => ?_)
  refine lv_astore_n (i := 1) (lv' := [(1, .ref hc), (0, .ref b)]) hx hb dL_law_7 rfl hl (by decide) rfl (fun ls hl => ?_)
  refine va_new (D := D) (cl := vwCl) (ci := 4) (fs := [.null, .null, .int (nI 0), .null, .null, .null, .int (nI 0), .int (nI 0), .null, .int (nI 0)]) (C := RX4) (T := TX4) (N := 10) hx hb hts inL4 tyX4 tyX4_ok hown (hts (.classLink RL 10 RX4) (by decide +kernel)) (hts (.instantiable RX4 10) (by decide +kernel)) (hts (.initialized RX4) (by decide +kernel)) hZ.1 hP hD hS hA rfl (fun j hj => by rcases (show j = 0 ∨ j = 1 ∨ j = 2 ∨ j = 3 ∨ j = 4 ∨ j = 5 ∨ j = 6 ∨ j = 7 ∨ j = 8 ∨ j = 9 by omega) with rfl | rfl | rfl | rfl | rfl | rfl | rfl | rfl | rfl | rfl <;> rfl) (Nat.le_of_ble_eq_true rfl) (Nat.le_of_ble_eq_true rfl) dL_law_8 (fun hr2 H hP hD hS => ?_)
  refine lv_dup hx hb dL_law_11 rfl ?_
  refine ci_callI ⟨hx, hb, hml, hown, hts⟩ (ci_X4 l) (cwI 0 hts gL_law_X4_init rfl rfl rfl (hts (.initialized RX4) (by decide +kernel)) (hts (.methodLink RL 12 yX4_init) (by decide +kernel)) (hts (.instanceMethod yX4_init) (by decide +kernel)) rfl (by decide +kernel) ⟨Nat.le_of_ble_eq_true rfl, Nat.le_of_ble_eq_true rfl⟩) hZ hP hD hS hA hl.1 (Nat.le_of_ble_eq_true rfl) dL_law_12 ⟨Nat.le_of_ble_eq_true rfl, Nat.le_of_ble_eq_true rfl⟩ (fun v H locs hP hD hS => ?_)
  refine lv_astore_n (i := 2) (lv' := [(2, .ref hr2), (1, .ref hc), (0, .ref b)]) hx hb dL_law_15 rfl hl (by decide) rfl (fun ls hl => ?_)
  refine lv_iconst (v := nI 0) hx hb dL_law_16 (by decide) ?_
  refine lv_istore_n (i := 3) (lv' := [(3, .int (nI 0)), (2, .ref hr2), (1, .ref hc), (0, .ref b)]) hx hb dL_law_17 rfl hl (by decide) rfl (fun ls hl => ?_)
  refine W.widen (k := 600000) (n := 7302250) (Nat.le_of_ble_eq_true rfl) (Nat.le_of_ble_eq_true rfl) ?_
  have hP : va_P D vwCl (ci_cg cI cJ cS hc u ++ ci_rf cI cJ cS hr2 v) H := hP
  have hD : va_D (fun q : Nat => s.heap.size ≤ q) (ci_cg cI cJ cS hc u ++ ci_rf cI cJ cS hr2 v) := hD
  let E : cg_E := (p, l, e, room_1, s, m, #[Value.ref b], below, meth, c, lw_Z below #[Value.ref b] s, ci_g D cI cJ cS b hc u hr2 v, fun q : Nat => s.heap.size ≤ q, 600000, 7302250)
  have C : cg_C E cL_law 4 RL wsL_law room_1 := ⟨hx, hb, hml, hown, hts, hZ.1, hN, ci_inj hD, fun q hq => ci_own hD hq, rfl, Nat.le_of_ble_eq_true rfl, Nat.le_of_ble_eq_true rfl⟩
  have X : cg_X E L xs := ⟨hX, hbl, Nat.not_le.mpr hbl⟩
  have hret : ∀ M ls, cg_W E M 804 ls [.inl (nI 1)] := by
    intro M ls0 H1 locs1 la hH1 hS1 hl1
    exact va_forget (fun q hq => hS1.2.2 q hq) (lw_ret hx hb hr hlocks dL_law_804)
  exact law_loop C X hL hret (L + 1) 0 ci_M0 (by omega) (by omega) ci_J0 H locs ls (ci_H hP) hS (by rw [hml]; exact ci_lv hl)
