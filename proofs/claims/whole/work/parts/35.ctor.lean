/-! ===== constructors: the layer ===== -/
def ci_nests : List Cond := [.methodLinkNest RX3 11 yX2_init RX3, .methodLinkNest RX3 25 yX1_init RX3, .methodLinkNest RX0 24 yX2_init RX3]
abbrev ci_tys (cI cJ cS : ClassId) : List (ClassId × FieldType) := [(cI, .int), (cJ, .array .int), (cS, .object RX2)]
/-- what a constructor knows of the tables -/
def ci_K (D : va_G) (cI cJ cS : ClassId) (U : State) : Prop := va_K D vwCl (ci_tys cI cJ cS) U ∧ va_AOA .int U ∧ va_AO RX2 U ∧ ∀ w ∈ ci_nests, va_Nw w U
theorem ci_K.moved {D : va_G} {cI cJ cS : ClassId} {s U : State} (hW : s.WarmedH U.vm) (h : ci_K D cI cJ cS s) : ci_K D cI cJ cS U := by
  refine ⟨va_K.moved hW.alike h.1, va_AOA.moved hW.alike h.2.1, va_AO.moved hW.alike h.2.2.1, fun w hw => ?_⟩
  have h1 := h.2.2.2 w hw
  simp only [ci_nests, List.mem_cons, List.not_mem_nil, or_false] at hw
  rcases hw with rfl | rfl | rfl <;> exact va_Nw.warmM hW h1
theorem ci_K.same {D : va_G} {cI cJ cS : ClassId} {s U : State} (hW : s.vm = U.vm) (h : ci_K D cI cJ cS s) : ci_K D cI cJ cS U := by
  have ha : s.vm.Alike U.vm := by rw [hW]; exact Vm.Alike.refl U.vm
  refine ⟨va_K.moved ha h.1, va_AOA.moved ha h.2.1, va_AO.moved ha h.2.2.1, fun w hw => ?_⟩
  have h1 := h.2.2.2 w hw
  simp only [ci_nests, List.mem_cons, List.not_mem_nil, or_false] at hw
  rcases hw with rfl | rfl | rfl <;> exact va_Nw.same rfl hW h1
theorem ci_D1 {A : Nat → Prop} {x : Nat × va_E} (h : A x.1) : va_D A [x] := by
  refine ⟨fun i j p q hi hj _ => ?_, fun k q hk => ?_⟩
  · have h1 : i < 1 := (List.getElem?_eq_some_iff.mp hi).1
    have h2 : j < 1 := (List.getElem?_eq_some_iff.mp hj).1
    omega
  · have h0 : k < 1 := (List.getElem?_eq_some_iff.mp hk).1
    rw [show k = 0 by omega] at hk
    cases hk
    exact h
/-- a constructor: from the object as new to a world -/
def ci_Met (l : Launch) (y : MethodName) (ws : List Cond) (rm : Room) (o : Nat × List Value) (mc ms : Nat) {T : Type} (Wd : ClassId → ClassId → ClassId → Nat → T → va_W) : Prop := ∀ (D : va_G) (cI cJ cS : ClassId) (h0 sz : Nat), Met l y ws rm (va_Pc [.ref h0] (fun U => U.heap.size = sz ∧ va_P D vwCl [(h0, .inr o)] U.heap ∧ ci_K D cI cJ cS U)) (va_Qv (fun _ : T => True) (fun u t => va_P D vwCl (Wd cI cJ cS h0 u) t.heap ∧ va_D (va_A [(h0, .inr o)] sz) (Wd cI cJ cS h0 u)) (va_A [(h0, .inr o)] sz)) mc ms (va_A [(h0, .inr o)] sz)
section CIR
variable {p : Program} {l : Launch} {e : Env} {R : Room} {s : State} {m : MethodId} {args : Array Value} {below : List Frame} {meth : Method} {c : Code} {H : Heap} {locs : List Loc} {cells slots : Nat} {Q : State → Prop}
variable {cc : ByteArray} {pc : Nat} {ls : Array Slot} {rest : List Value} {D : va_G} {A : Nat → Prop} {H0 : Heap} {ws : va_W} {cI cJ cS : ClassId} {q : Nat} {o : Nat × List Value}
theorem ci_at (hP : va_P D vwCl (ws ++ [(q, .inr o)]) H) : va_P D vwCl [(q, .inr o)] H := fun k x hx => by
  have h0 : k < 1 := (List.getElem?_eq_some_iff.mp hx).1
  rw [show k = 0 by omega] at hx
  cases hx
  exact hP ws.length _ (by rw [List.getElem?_append_right (Nat.le_refl _), Nat.sub_self]; rfl)
theorem ci_free (hD : va_D A (ws ++ [(q, .inr o)])) (hS : va_S A H0 H locs) (hA : ∀ q, H0.size ≤ q → A q) : ∀ a, va_A [(q, (.inr o : va_E))] H.size a → A a := fun a h => by
  rcases h with ⟨k, e, h⟩ | h
  · have h0 : k < 1 := (List.getElem?_eq_some_iff.mp h).1
    rw [show k = 0 by omega] at h
    have e1 : q = a := congrArg Prod.fst (Option.some.inj h)
    rw [← e1]
    exact hD.2 ws.length _ (by rw [List.getElem?_append_right (Nat.le_refl _), Nat.sub_self]; rfl)
  · exact hA a (Nat.le_trans hS.1 h)
theorem ci_join {w1 : va_W} {H1 : Heap} (hP : va_P D vwCl (ws ++ [(q, .inr o)]) H) (hD : va_D A (ws ++ [(q, .inr o)])) (hk : ∀ a : Nat, a < H.size → ¬ va_A [(q, (.inr o : va_E))] H.size a → H1[a]? = H[a]?) (hF : ∀ a, va_A [(q, (.inr o : va_E))] H.size a → A a) (hP1 : va_P D vwCl w1 H1) (hD1 : va_D (va_A [(q, (.inr o : va_E))] H.size) w1) : va_P D vwCl (ws ++ w1) H1 ∧ va_D A (ws ++ w1) := by
  have hl : ∀ (k : Nat) (x : Nat × va_E), ws[k]? = some x → (ws ++ [(q, (.inr o : va_E))])[k]? = some x := fun k x hx => by
    rw [List.getElem?_append_left (List.getElem?_eq_some_iff.mp hx).1]
    exact hx
  have hq : (ws ++ [(q, (.inr o : va_E))])[ws.length]? = some (q, .inr o) := by
    rw [List.getElem?_append_right (Nat.le_refl _), Nat.sub_self]
    rfl
  have ap : ∀ (k : Nat) (x : Nat × va_E), ws[k]? = some x → x.1 < H.size ∧ ¬ va_A [(q, (.inr o : va_E))] H.size x.1 := fun k x hx => by
    have h1 := (hP k x (hl k x hx)).lt
    refine ⟨h1, fun h => ?_⟩
    rcases h with ⟨k2, e, h⟩ | h
    · have h0 : k2 < 1 := (List.getElem?_eq_some_iff.mp h).1
      rw [show k2 = 0 by omega] at h
      have e1 : q = x.1 := congrArg Prod.fst (Option.some.inj h)
      have h3 := hD.1 k ws.length x _ (hl k x hx) hq e1.symm
      have h4 := (List.getElem?_eq_some_iff.mp hx).1
      omega
    · omega
  refine ⟨va_P.app (fun k x hx => (hP k x (hl k x hx)).kept (hk x.1 (ap k x hx).1 (ap k x hx).2)) hP1, va_D.app ⟨fun i j x y hi hj => hD.1 i j x y (hl i x hi) (hl j y hj), fun k x hx => hD.2 k x (hl k x hx)⟩ (hD1.weaken (fun k x _ h => hF x.1 h)) (fun i j x y hx hy hxy => ?_)⟩
  exact (ap i x hx).2 (by rw [hxy]; exact hD1.2 j y hy)
theorem ci_callI {T : Type} {Wd : ClassId → ClassId → ClassId → Nat → T → va_W} {y : MethodName} {wsy Ts : List Cond} {rm : Room} {mc ms index maxL nL : Nat} {bytes : ByteArray} {own : String} (S : CallFix p m c cc nL s args Ts own) (hM : ci_Met l y wsy rm o mc ms Wd) (cw : CallB R s args own index y bytes maxL none wsy rm mc ms 0 ∧ y.name = "<init>" ∧ (Cond.instanceMethod y).before args s = true) (hZ : ci_K D cI cJ cS s) (hP : va_P D vwCl (ws ++ [(q, .inr o)]) H) (hD : va_D A (ws ++ [(q, .inr o)])) (hS : va_S A H0 H locs) (hA : ∀ q, H0.size ≤ q → A q) (hls : ls.size = nL) (hr : (rest.map fun v => v.category).sum ≤ 8) (hdg : decode cc pc = .ok (.invokespecial index, 3)) (hf : cells + mc ≤ R.cells ∧ slots + ms ≤ R.slots)
    (kk : ∀ (u : T) (H1 : Heap) (locs1 : List Loc), va_P D vwCl (ws ++ Wd cI cJ cS q u) H1 → va_D A (ws ++ Wd cI cJ cS q u) → va_S A H0 H1 locs1 → W p l e R s m args below meth c H1 locs1 (cells + mc) (slots + ms) Q (F0 m (pc + 3) ls rest)) : W p l e R s m args below meth c H locs cells slots Q (F0 m pc ls (.ref q :: rest)) := by
  have hFc := ci_free hD hS hA
  have hPc := ci_at hP
  refine va_callv (va_runI (As := []) (rest := rest) S (hM D cI cJ cS q H.size) cw ⟨fun a U g mk q => by obtain ⟨q0, q1, qP, qK⟩ := q; exact ⟨q0, q1, qP, ci_K.same (s := U) (U := U.calling g mk a) rfl qK⟩, fun U hU hW => ⟨rfl, by rw [hU], by rw [hU]; exact hPc, hZ.moved hW⟩⟩ rfl rfl hls rfl (lv_room hr) hdg hf) hS (fun q _ h => hFc q h) hFc (fun u t H1 locs1 ht hvm hw hB hz1 hk1 hS => ?_)
  obtain ⟨hP1, hD1⟩ := hB
  rw [ht] at hP1
  obtain ⟨hP2, hD2⟩ := ci_join hP hD hk1 hFc hP1 hD1
  exact kk u H1 locs1 hP2 hD2 hS
theorem ci_callN {T : Type} {Wd : ClassId → ClassId → ClassId → Nat → T → va_W} {y : MethodName} {wsy Ts : List Cond} {rm : Room} {mc ms index maxL nL : Nat} {bytes : ByteArray} {own host : String} (S : CallFix p m c cc nL s args Ts own) (hM : ci_Met l y wsy rm o mc ms Wd) (cw : va_CN R s args own index y host bytes maxL none wsy rm mc ms 0 ∧ y.name = "<init>" ∧ (Cond.instanceMethod y).before args s = true) (hZ : ci_K D cI cJ cS s) (hP : va_P D vwCl (ws ++ [(q, .inr o)]) H) (hD : va_D A (ws ++ [(q, .inr o)])) (hS : va_S A H0 H locs) (hA : ∀ q, H0.size ≤ q → A q) (hls : ls.size = nL) (hr : (rest.map fun v => v.category).sum ≤ 8) (hdg : decode cc pc = .ok (.invokespecial index, 3)) (hf : cells + mc ≤ R.cells ∧ slots + ms ≤ R.slots)
    (kk : ∀ (u : T) (H1 : Heap) (locs1 : List Loc), va_P D vwCl (ws ++ Wd cI cJ cS q u) H1 → va_D A (ws ++ Wd cI cJ cS q u) → va_S A H0 H1 locs1 → W p l e R s m args below meth c H1 locs1 (cells + mc) (slots + ms) Q (F0 m (pc + 3) ls rest)) : W p l e R s m args below meth c H locs cells slots Q (F0 m pc ls (.ref q :: rest)) := by
  have hFc := ci_free hD hS hA
  have hPc := ci_at hP
  refine va_callv (va_runIN (As := []) (rest := rest) S (hM D cI cJ cS q H.size) cw ⟨fun a U g mk q => by obtain ⟨q0, q1, qP, qK⟩ := q; exact ⟨q0, q1, qP, ci_K.same (s := U) (U := U.calling g mk a) rfl qK⟩, fun U hU hW => ⟨rfl, by rw [hU], by rw [hU]; exact hPc, hZ.moved hW⟩⟩ rfl rfl hls rfl (lv_room hr) hdg hf) hS (fun q _ h => hFc q h) hFc (fun u t H1 locs1 ht hvm hw hB hz1 hk1 hS => ?_)
  obtain ⟨hP1, hD1⟩ := hB
  rw [ht] at hP1
  obtain ⟨hP2, hD2⟩ := ci_join hP hD hk1 hFc hP1 hD1
  exact kk u H1 locs1 hP2 hD2 hS
theorem ci_nn {n : Nat} (h : n < 2147483648) : ¬ nI n < 0 := Int32.not_lt.mpr (nI_pos' (by omega))
theorem ci_newa (hexec : p.tables.exec = Jvm.exec) (hb : c.code = cc) (harr : (Cond.arrayClass .int).before args s = true) (hZ : ci_K D cI cJ cS s) (hP : va_P D vwCl ws H) (hD : va_D A ws) (hS : va_S A H0 H locs) (hA : ∀ q, H0.size ≤ q → A q) {n : Nat} (hn : n < 100000) (hcells : cells + 1 ≤ R.cells) (hslots : slots + n ≤ R.slots) (hdg : decode cc pc = .ok (.newarray .int, 2))
    (kk : ∀ (q : Nat) (H1 : Heap), va_P D vwCl (ws ++ [(q, .inl (cI, n, .inl (fun _ => nI 0)))]) H1 → va_D A (ws ++ [(q, .inl (cI, n, .inl (fun _ => nI 0)))]) → va_S A H0 H1 locs → W p l e R s m args below meth c H1 locs (cells + 1) (slots + n) Q (F0 m (pc + 2) ls (.ref q :: rest))) : W p l e R s m args below meth c H locs cells slots Q (F0 m pc ls (.int (nI n) :: rest)) := by
  refine va_newa (atype := .int) (ty := .int) (a0 := (n, .inl (fun _ => nI 0))) hexec hb harr rfl hZ.1 hP hD hS hA (fun _ => rfl) (ci_nn (by omega)) (nI_clamp (by omega)) (by show n * 4 ≤ _; omega) hcells hslots hdg (fun q cA H1 hK1 hP1 hD1 hS1 => ?_)
  have e1 : s.vm.findClass ("[" ++ FieldType.int.toString) = some cA := (hK1.2 3 _ rfl).2
  have e2 : s.vm.findClass ("[" ++ FieldType.int.toString) = some cI := (hZ.1.2 0 _ rfl).2
  have e3 : cA = cI := Option.some.inj (e1.symm.trans e2)
  subst e3
  exact kk q H1 hP1 hD1 hS1
theorem ci_newq (hexec : p.tables.exec = Jvm.exec) (hb : c.code = cc) {own : String} {index : Nat} (hown : s.vm.findClass own = some m.cls) (hclink : (Cond.classLink own index RX2).before args s = true) (hZ : ci_K D cI cJ cS s) (hP : va_P D vwCl ws H) (hD : va_D A ws) (hS : va_S A H0 H locs) (hA : ∀ q, H0.size ≤ q → A q) {n : Nat} (hn : n < 100000) (hcells : cells + 1 ≤ R.cells) (hslots : slots + n ≤ R.slots) (hdg : decode cc pc = .ok (.anewarray index, 3))
    (kk : ∀ (q : Nat) (H1 : Heap), va_P D vwCl (ws ++ [(q, .inl (cS, n, .inr (.inr (.inr (.inr (fun _ => none))))))]) H1 → va_D A (ws ++ [(q, .inl (cS, n, .inr (.inr (.inr (.inr (fun _ => none))))))]) → va_S A H0 H1 locs → W p l e R s m args below meth c H1 locs (cells + 1) (slots + n) Q (F0 m (pc + 3) ls (.ref q :: rest))) : W p l e R s m args below meth c H locs cells slots Q (F0 m pc ls (.int (nI n) :: rest)) := by
  refine va_newq hexec hb hown hclink hZ.2.2.1 hZ.1 hP hD hS hA (ci_nn (by omega)) (nI_clamp (by omega)) (by omega) hcells hslots hdg (fun q cA H1 hK1 hP1 hD1 hS1 => ?_)
  obtain ⟨-, -, -, -, -, e1⟩ := (hK1.2 3 _ rfl).2
  obtain ⟨-, -, -, -, -, e2⟩ := (hZ.1.2 2 _ rfl).2
  have e3 : cA = cS := Option.some.inj (e1.symm.trans e2)
  subst e3
  exact kk q H1 hP1 hD1 hS1
theorem ci_mna (hexec : p.tables.exec = Jvm.exec) (hb : c.code = cc) {own : String} {index : Nat} (hown : s.vm.findClass own = some m.cls) (hclink : (Cond.classLink own index ("[" ++ (FieldType.array .int).toString)).before args s = true) (harr : (Cond.arrayClass .int).before args s = true) (hZ : ci_K D cI cJ cS s) (hP : va_P D vwCl ws H) (hD : va_D A ws) (hS : va_S A H0 H locs) (hA : ∀ q, H0.size ≤ q → A q) {n k : Nat} (hn : n < 100000) (hk : k < 100000) (hcells : cells + (1 + n) ≤ R.cells) (hslots : slots + (n + n * k) ≤ R.slots) (hdg : decode cc pc = .ok (.multianewarray index 2, 4))
    (kk : ∀ (q : Nat) (r : Nat → Nat) (H1 : Heap), va_P D vwCl (ws ++ ((q, .inl (cJ, n, .inr (.inr (.inr (.inr (fun i => if i < n then some (r i) else none)))))) :: (List.range n).map (fun i => (r i, .inl (cI, k, .inl (fun _ => nI 0)))))) H1 → va_D A (ws ++ ((q, .inl (cJ, n, .inr (.inr (.inr (.inr (fun i => if i < n then some (r i) else none)))))) :: (List.range n).map (fun i => (r i, .inl (cI, k, .inl (fun _ => nI 0)))))) → va_S A H0 H1 locs → W p l e R s m args below meth c H1 locs (cells + 1 + n) (slots + n + n * k) Q (F0 m (pc + 4) ls (.ref q :: rest))) : W p l e R s m args below meth c H locs cells slots Q (F0 m pc ls (.int (nI k) :: .int (nI n) :: rest)) := by
  have hcy : s.vm.findClass (FieldType.array .int).toString = some cI := (hZ.1.2 0 _ rfl).2
  have e0 : ws ++ va_pl [] (fun _ => (.inr (0, []) : va_E)) = ws := List.append_nil ws
  refine va_mna (X := ws) (L := []) (f := fun _ => .inr (0, [])) (ty := .int) (cy := cI) (z := (k, .inl (fun _ => nI 0))) hexec hb hown hclink hZ.2.1 harr hcy hZ.1 (by rw [e0]; exact hP) (by rw [e0]; exact hD) hS hA (ci_nn (by omega)) (ci_nn (by omega)) (nI_clamp (by omega)) (nI_clamp (by omega)) (by omega) (by show k * 4 ≤ _; omega) (by omega) rfl rfl hcells hslots (fun c => arrV_new c k (.int (nI 0))) hdg (fun q r cA H1 hi hnl hK1 hP1 hD1 hS1 => ?_)
  have e1 : s.vm.findClass ("[" ++ (FieldType.array .int).toString) = some cA := (hK1.2 3 _ rfl).2
  have e2 : s.vm.findClass ("[" ++ (FieldType.array .int).toString) = some cJ := (hZ.1.2 1 _ rfl).2
  have e3 : cA = cJ := Option.some.inj (e1.symm.trans e2)
  subst e3
  have e4 : va_pl ([] ++ (List.range n).map r) (vr_up (fun _ => (.inr (0, []) : va_E)) ((List.range n).map r) (.inl (cI, k, .inl (fun _ => nI 0)))) = (List.range n).map (fun i => (r i, (.inl (cI, k, .inl (fun _ => nI 0)) : va_E))) := by
    rw [← vr_rows (fun a _ h => by cases h)]
    show [] ++ _ = _
    rw [List.nil_append, List.map_map]
    rfl
  rw [e4, List.append_assoc] at hP1 hD1
  exact kk q r H1 hP1 hD1 hS1
end CIR
abbrev ci_a (cI : ClassId) (n : Nat) : va_E := .inl (cI, n, .inl (fun _ => nI 0))
abbrev ci_m (cJ : ClassId) (n : Nat) (r : Nat → Nat) : va_E := .inl (cJ, n, .inr (.inr (.inr (.inr (fun i => if i < n then some (r i) else none)))))
abbrev ci_o (c : Nat) (fs : List Value) : va_E := .inr (c, fs)
