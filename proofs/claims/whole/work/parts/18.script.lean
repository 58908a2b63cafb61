/-! ===== Script: the bytes ===== -/
/-- how many numbers stand behind a letter; 0: no letter of a command -/
def cg_na (v : Nat) : Nat := if v = 102 then 1 else if v = 103 ∨ v = 115 then 2 else if v = 114 then 3 else if v = 119 then 4 else 0
theorem cg_na_le (v : Nat) : cg_na v ≤ 4 := by unfold cg_na; (repeat' split) <;> omega
theorem cg_off : ∀ v : Nat, v < 128 → Op.lookupswitch.offset [(102, 51), (103, 53), (114, 55), (115, 53), (119, 57)] 59 (v : Int) = if v = 102 then 51 else if v = 103 ∨ v = 115 then 53 else if v = 114 then 55 else if v = 119 then 57 else 59 := by decide +kernel
def cg_i4 (B : Nat → Int32) (k : Nat) (c : Bool) (nb d : Nat) : Nat → Int32 := upd (upd (upd (upd B 4 (nI k)) 5 (cg_b c)) 6 (nI nb)) 7 (nI d)
def cg_pm (M : cg_M) (k : Nat) (c : Bool) (nb d : Nat) (Lt Nm : Nat → Int32) : cg_M := cg_sb (cg_sb (cg_sb M 11 Lt) 12 Nm) 13 (cg_i4 (M 13) k c nb d)
section CGPM
variable (M : cg_M) (k : Nat) (c : Bool) (nb d : Nat) (Lt Nm : Nat → Int32)
theorem cg_pm_4 : cg_pm M k c nb d Lt Nm 13 4 = nI k := by
  unfold cg_pm cg_i4
  rw [cg_sb_s, cg_un (by decide), cg_un (by decide), cg_un (by decide), cg_us]
theorem cg_pm_5 : cg_pm M k c nb d Lt Nm 13 5 = cg_b c := by
  unfold cg_pm cg_i4
  rw [cg_sb_s, cg_un (by decide), cg_un (by decide), cg_us]
theorem cg_pm_6 : cg_pm M k c nb d Lt Nm 13 6 = nI nb := by
  unfold cg_pm cg_i4
  rw [cg_sb_s, cg_un (by decide), cg_us]
theorem cg_pm_7 : cg_pm M k c nb d Lt Nm 13 7 = nI d := by
  unfold cg_pm cg_i4
  rw [cg_sb_s, cg_us]
theorem cg_pm_1 : cg_pm M k c nb d Lt Nm 13 1 = M 13 1 := by
  unfold cg_pm cg_i4
  rw [cg_sb_s, cg_un (by decide), cg_un (by decide), cg_un (by decide), cg_un (by decide)]
theorem cg_pm_11 : cg_pm M k c nb d Lt Nm 11 = Lt := by
  unfold cg_pm
  rw [cg_sb_n (by decide), cg_sb_n (by decide), cg_sb_s]
theorem cg_pm_12 : cg_pm M k c nb d Lt Nm 12 = Nm := by
  unfold cg_pm
  rw [cg_sb_n (by decide), cg_sb_s]
theorem cg_pm_n {b : Nat} (h1 : b ≠ 11) (h2 : b ≠ 12) (h3 : b ≠ 13) : cg_pm M k c nb d Lt Nm b = M b := by
  unfold cg_pm
  rw [cg_sb_n h3, cg_sb_n h2, cg_sb_n h1]
theorem cg_pm_10 : cg_pm M k c nb d Lt Nm 10 = M 10 := cg_pm_n M k c nb d Lt Nm (by decide) (by decide) (by decide)
theorem cg_ucomm {f : Nat → Int32} {a b : Nat} {x y : Int32} (h : a ≠ b) : upd (upd f a x) b y = upd (upd f b y) a x := by
  funext j
  by_cases h1 : j = a
  · subst h1; rw [cg_un h, cg_us, cg_us]
  · by_cases h2 : j = b
    · subst h2; rw [cg_us, cg_un h1, cg_us]
    · rw [cg_un h2, cg_un h1, cg_un h1, cg_un h2]
theorem cg_pm_u7 (e : Nat) : cg_up (cg_pm M k c nb d Lt Nm) 13 7 (nI e) = cg_pm M k c nb e Lt Nm := by
  unfold cg_pm
  rw [cg_up_sb]
  unfold cg_i4
  rw [cg_uu]
theorem cg_pm_u6 (e : Nat) : cg_up (cg_pm M k c nb d Lt Nm) 13 6 (nI e) = cg_pm M k c e d Lt Nm := by
  unfold cg_pm
  rw [cg_up_sb]
  unfold cg_i4
  rw [cg_ucomm (by decide), cg_uu]
theorem cg_pm_u5 (e : Bool) : cg_up (cg_pm M k c nb d Lt Nm) 13 5 (cg_b e) = cg_pm M k e nb d Lt Nm := by
  unfold cg_pm
  rw [cg_up_sb]
  unfold cg_i4
  rw [cg_ucomm (by decide), cg_ucomm (a := 6) (by decide), cg_uu]
theorem cg_pm_u50 : cg_up (cg_pm M k c nb d Lt Nm) 13 5 (nI 0) = cg_pm M k false nb d Lt Nm := cg_pm_u5 M k c nb d Lt Nm false
theorem cg_pm_u51 : cg_up (cg_pm M k c nb d Lt Nm) 13 5 (nI 1) = cg_pm M k true nb d Lt Nm := cg_pm_u5 M k c nb d Lt Nm true
theorem cg_pm_u4 (e : Nat) : cg_up (cg_pm M k c nb d Lt Nm) 13 4 (nI e) = cg_pm M e c nb d Lt Nm := by
  unfold cg_pm
  rw [cg_up_sb]
  unfold cg_i4
  rw [cg_ucomm (by decide), cg_ucomm (a := 6) (by decide), cg_ucomm (a := 5) (by decide), cg_uu]
theorem cg_sbc {M : cg_M} {a b : Nat} {P Q : Nat → Int32} (h : a ≠ b) : cg_sb (cg_sb M a P) b Q = cg_sb (cg_sb M b Q) a P := by
  funext j
  by_cases h1 : j = a
  · subst h1; rw [cg_sb_n h, cg_sb_s, cg_sb_s]
  · by_cases h2 : j = b
    · subst h2; rw [cg_sb_s, cg_sb_n h1, cg_sb_s]
    · rw [cg_sb_n h2, cg_sb_n h1, cg_sb_n h1, cg_sb_n h2]
theorem cg_pm_u12 (x : Nat) (v : Int32) : cg_up (cg_pm M k c nb d Lt Nm) 12 x v = cg_pm M k c nb d Lt (upd Nm x v) := by
  unfold cg_up
  rw [cg_pm_12]
  unfold cg_pm
  rw [cg_sbc (a := 13) (by decide), cg_sb_sb]
theorem cg_pm_u11 (x : Nat) (v : Int32) : cg_up (cg_pm M k c nb d Lt Nm) 11 x v = cg_pm M k c nb d (upd Lt x v) Nm := by
  unfold cg_up
  rw [cg_pm_11]
  unfold cg_pm
  rw [cg_sbc (a := 13) (by decide), cg_sbc (a := 12) (by decide), cg_sb_sb]
end CGPM
set_option maxRecDepth 100000 in
set_option maxHeartbeats 4000000 in
theorem sp_nA {M : cg_M} {v : Nat} (hv : v < 128) : cg_D yX1_numbersAfter wsX1_numbersAfter rmX1_numbersAfter [.inl (nI v)] M (some (.inl (nI (cg_na v)))) (M) := by
  rcases (show v = 102 ∨ v = 103 ∨ v = 115 ∨ v = 114 ∨ v = 119 ∨ (¬ v = 102 ∧ ¬ v = 103 ∧ ¬ v = 115 ∧ ¬ v = 114 ∧ ¬ v = 119) by omega) with rfl | rfl | rfl | rfl | rfl | ⟨h1, h2, h3, h4, h5⟩
  · refine cg_S_of (cc := cX1_numbersAfter) (maxL := 1) (ret := (some .int)) (ls0 := [some (.inl (nI 102))]) RX1 rfl (by decide) rfl rfl (Nat.le_of_ble_eq_true rfl) (fun E C X => ?_)
    refine cr_iload_n (pc := 0) C dX1_numbersAfter_0 rfl ?_
    refine cr_lookup (pc := 1) (tgt := 52) (off := 51) C dX1_numbersAfter_1 (by decide +kernel) (by decide) (by decide) ?_
    refine cr_iconst (pc := 52) (v := nI 1) C dX1_numbersAfter_52 (by decide) ?_
    refine cr_ireturn (pc := 53) C X dX1_numbersAfter_53 ?_
    exact ⟨rfl, rfl⟩
  · refine cg_S_of (cc := cX1_numbersAfter) (maxL := 1) (ret := (some .int)) (ls0 := [some (.inl (nI 103))]) RX1 rfl (by decide) rfl rfl (Nat.le_of_ble_eq_true rfl) (fun E C X => ?_)
    refine cr_iload_n (pc := 0) C dX1_numbersAfter_0 rfl ?_
    refine cr_lookup (pc := 1) (tgt := 54) (off := 53) C dX1_numbersAfter_1 (by decide +kernel) (by decide) (by decide) ?_
    refine cr_iconst (pc := 54) (v := nI 2) C dX1_numbersAfter_54 (by decide) ?_
    refine cr_ireturn (pc := 55) C X dX1_numbersAfter_55 ?_
    exact ⟨rfl, rfl⟩
  · refine cg_S_of (cc := cX1_numbersAfter) (maxL := 1) (ret := (some .int)) (ls0 := [some (.inl (nI 115))]) RX1 rfl (by decide) rfl rfl (Nat.le_of_ble_eq_true rfl) (fun E C X => ?_)
    refine cr_iload_n (pc := 0) C dX1_numbersAfter_0 rfl ?_
    refine cr_lookup (pc := 1) (tgt := 54) (off := 53) C dX1_numbersAfter_1 (by decide +kernel) (by decide) (by decide) ?_
    refine cr_iconst (pc := 54) (v := nI 2) C dX1_numbersAfter_54 (by decide) ?_
    refine cr_ireturn (pc := 55) C X dX1_numbersAfter_55 ?_
    exact ⟨rfl, rfl⟩
  · refine cg_S_of (cc := cX1_numbersAfter) (maxL := 1) (ret := (some .int)) (ls0 := [some (.inl (nI 114))]) RX1 rfl (by decide) rfl rfl (Nat.le_of_ble_eq_true rfl) (fun E C X => ?_)
    refine cr_iload_n (pc := 0) C dX1_numbersAfter_0 rfl ?_
    refine cr_lookup (pc := 1) (tgt := 56) (off := 55) C dX1_numbersAfter_1 (by decide +kernel) (by decide) (by decide) ?_
    refine cr_iconst (pc := 56) (v := nI 3) C dX1_numbersAfter_56 (by decide) ?_
    refine cr_ireturn (pc := 57) C X dX1_numbersAfter_57 ?_
    exact ⟨rfl, rfl⟩
  · refine cg_S_of (cc := cX1_numbersAfter) (maxL := 1) (ret := (some .int)) (ls0 := [some (.inl (nI 119))]) RX1 rfl (by decide) rfl rfl (Nat.le_of_ble_eq_true rfl) (fun E C X => ?_)
    refine cr_iload_n (pc := 0) C dX1_numbersAfter_0 rfl ?_
    refine cr_lookup (pc := 1) (tgt := 58) (off := 57) C dX1_numbersAfter_1 (by decide +kernel) (by decide) (by decide) ?_
    refine cr_iconst (pc := 58) (v := nI 4) C dX1_numbersAfter_58 (by decide) ?_
    refine cr_ireturn (pc := 59) C X dX1_numbersAfter_59 ?_
    exact ⟨rfl, rfl⟩
  · refine cg_S_of (cc := cX1_numbersAfter) (maxL := 1) (ret := (some .int)) (ls0 := [some (.inl (nI v))]) RX1 rfl (by decide) rfl rfl (Nat.le_of_ble_eq_true rfl) (fun E C X => ?_)
    refine cr_iload_n (pc := 0) C dX1_numbersAfter_0 rfl ?_
    refine cr_lookup (pc := 1) (tgt := 60) (off := 59) C dX1_numbersAfter_1 (by decide +kernel) (by rw [nI_toInt (by omega)]; exact (cg_off v hv).trans (by simp [h1, h2, h3, h4, h5])) (by decide) ?_
    refine cr_iconst (pc := 60) (v := nI 0) C dX1_numbersAfter_60 (by decide) ?_
    refine cr_ireturn (pc := 61) C X dX1_numbersAfter_61 ?_
    exact ⟨by simp [cg_na, h1, h2, h3, h4, h5], rfl⟩
set_option maxRecDepth 100000 in
set_option maxHeartbeats 4000000 in
theorem sp_beg0 {M : cg_M} {k nb d : Nat} {Lt Nm : Nat → Int32} {c : Bool} {v : Nat} (hv : v < 128) (h : cg_na v = 0) : cg_D yX1_beginsCommand wsX1_beginsCommand rmX1_beginsCommand [.inr (.inr (1, 0, 0, 0)), .inl (nI v)] (cg_pm M k c nb d Lt Nm) (some (.inl (nI 0))) (cg_pm M k c nb d Lt Nm) := by
  refine cg_S_of (cc := cX1_beginsCommand) (maxL := 2) (ret := (some .boolean)) (ls0 := [some (.inr (.inr (1, 0, 0, 0))), some (.inl (nI v))]) RX1 rfl (by decide) rfl rfl (Nat.le_of_ble_eq_true rfl) (fun E C X => ?_)
  refine cr_iload_n (pc := 0) C dX1_beginsCommand_0 rfl ?_
  refine cr_dS (pc := 1) C (sp_nA hv) rfl gX1_beginsCommand_X1_numbersAfter rfl dX1_beginsCommand_1 hsX1_numbersAfter rfl ⟨rfl, rfl, Nat.le_of_ble_eq_true rfl, Nat.le_of_ble_eq_true rfl⟩ (Nat.le_of_ble_eq_true rfl) rfl ?_
  rw [h]
  refine cr_if_eq_t (pc := 4) (tgt := 16) C dX1_beginsCommand_4 (by decide) (by decide) ?_
  refine cr_iconst (pc := 16) (v := nI 0) C dX1_beginsCommand_16 (by decide) ?_
  refine cr_zreturn (pc := 17) C X dX1_beginsCommand_17 (by first | exact Or.inr rfl | exact Or.inl rfl | assumption) ?_
  exact ⟨rfl, rfl⟩
set_option maxRecDepth 100000 in
set_option maxHeartbeats 4000000 in
theorem sp_beg1 {M : cg_M} {k nb d : Nat} {Lt Nm : Nat → Int32} {c : Bool} {v : Nat} (hv : v < 128) (h : cg_na v ≠ 0) (hk : k < 34) : cg_D yX1_beginsCommand wsX1_beginsCommand rmX1_beginsCommand [.inr (.inr (1, 0, 0, 0)), .inl (nI v)] (cg_pm M k c nb d Lt Nm) (some (.inl (nI 1))) (cg_pm M k true 0 0 (upd Lt k (nI v)) Nm) := by
  refine cg_S_of (cc := cX1_beginsCommand) (maxL := 2) (ret := (some .boolean)) (ls0 := [some (.inr (.inr (1, 0, 0, 0))), some (.inl (nI v))]) RX1 rfl (by decide) rfl rfl (Nat.le_of_ble_eq_true rfl) (fun E C X => ?_)
  refine cr_iload_n (pc := 0) C dX1_beginsCommand_0 rfl ?_
  refine cr_dS (pc := 1) C (sp_nA hv) rfl gX1_beginsCommand_X1_numbersAfter rfl dX1_beginsCommand_1 hsX1_numbersAfter rfl ⟨rfl, rfl, Nat.le_of_ble_eq_true rfl, Nat.le_of_ble_eq_true rfl⟩ (Nat.le_of_ble_eq_true rfl) rfl ?_
  refine cr_if_eq_f (pc := 4) (tgt := 16) C dX1_beginsCommand_4 (by decide) (nI_ne0 (by omega) (by have := cg_na_le v; omega)) ?_
  refine cr_aload_n (pc := 7) C dX1_beginsCommand_7 rfl ?_
  refine cr_geti (pc := 8) (c := 1) (k := 4) C (by first | rfl | assumption | (simp [cg_ok]; omega)) rfl (by decide) rfl rfl inX1_beginsCommand_X1 flX1_beginsCommand_27 dX1_beginsCommand_8 ?_
  rw [cg_pm_4]
  refine cr_bipush (pc := 11) (v := nI 34) C dX1_beginsCommand_11 (by decide) ?_
  refine cr_icmp_lt_t (pc := 13) (tgt := 18) C dX1_beginsCommand_13 (by decide) (nI_lt hk (by omega)) ?_
  refine cr_aload_n (pc := 18) C dX1_beginsCommand_18 rfl ?_
  refine cr_getr (pc := 19) (c := 1) (k := 2) C (by first | rfl | assumption | (simp [cg_ok]; omega)) rfl (by decide) rfl inX1_beginsCommand_X1 flX1_beginsCommand_19 dX1_beginsCommand_19 ?_
  refine cr_aload_n (pc := 22) C dX1_beginsCommand_22 rfl ?_
  refine cr_geti (pc := 23) (c := 1) (k := 4) C (by first | rfl | assumption | (simp [cg_ok]; omega)) rfl (by decide) rfl rfl inX1_beginsCommand_X1 flX1_beginsCommand_27 dX1_beginsCommand_23 ?_
  rw [cg_pm_4]
  refine cr_iload_n (pc := 26) C dX1_beginsCommand_26 rfl ?_
  refine cr_iastore (pc := 27) C rfl (by first | rfl | assumption | (simp [cg_ok]; omega)) (by omega) (by first | decide | omega) dX1_beginsCommand_27 ?_
  rw [cg_pm_u11]
  refine cr_aload_n (pc := 28) C dX1_beginsCommand_28 rfl ?_
  refine cr_iconst (pc := 29) (v := nI 1) C dX1_beginsCommand_29 (by decide) ?_
  refine cr_puti (pc := 30) (c := 1) (k := 5) C (by first | rfl | assumption | (simp [cg_ok]; omega)) rfl (by decide) rfl rfl inX1_beginsCommand_X1 flX1_beginsCommand_30 rfl (by first | rfl | decide) rfl dX1_beginsCommand_30 ?_
  rw [cg_pm_u51]
  refine cr_aload_n (pc := 33) C dX1_beginsCommand_33 rfl ?_
  refine cr_iconst (pc := 34) (v := nI 0) C dX1_beginsCommand_34 (by decide) ?_
  refine cr_puti (pc := 35) (c := 1) (k := 6) C (by first | rfl | assumption | (simp [cg_ok]; omega)) rfl (by decide) rfl rfl inX1_beginsCommand_X1 flX1_beginsCommand_34 rfl (by first | rfl | decide) rfl dX1_beginsCommand_35 ?_
  rw [cg_pm_u6]
  refine cr_aload_n (pc := 38) C dX1_beginsCommand_38 rfl ?_
  refine cr_iconst (pc := 39) (v := nI 0) C dX1_beginsCommand_39 (by decide) ?_
  refine cr_puti (pc := 40) (c := 1) (k := 7) C (by first | rfl | assumption | (simp [cg_ok]; omega)) rfl (by decide) rfl rfl inX1_beginsCommand_X1 flX1_beginsCommand_37 rfl (by first | rfl | decide) rfl dX1_beginsCommand_40 ?_
  rw [cg_pm_u7]
  refine cr_iconst (pc := 43) (v := nI 1) C dX1_beginsCommand_43 (by decide) ?_
  refine cr_zreturn (pc := 44) C X dX1_beginsCommand_44 (by first | exact Or.inr rfl | exact Or.inl rfl | assumption) ?_
  exact ⟨rfl, rfl⟩
set_option maxRecDepth 100000 in
set_option maxHeartbeats 4000000 in
theorem sp_ends0 {M : cg_M} {k nb d : Nat} {Lt Nm : Nat → Int32} {c : Bool} {l : Nat} (hk : k < 34) (hl : l < 128) (hL : Lt k = nI l) (h : nb < cg_na l) : cg_D yX1_endsCommand wsX1_endsCommand rmX1_endsCommand [.inr (.inr (1, 0, 0, 0))] (cg_pm M k c nb d Lt Nm) (some (.inl (nI 0))) (cg_pm M k c nb d Lt Nm) := by
  refine cg_S_of (cc := cX1_endsCommand) (maxL := 1) (ret := (some .boolean)) (ls0 := [some (.inr (.inr (1, 0, 0, 0)))]) RX1 rfl (by decide) rfl rfl (Nat.le_of_ble_eq_true rfl) (fun E C X => ?_)
  refine cr_aload_n (pc := 0) C dX1_endsCommand_0 rfl ?_
  refine cr_geti (pc := 1) (c := 1) (k := 6) C (by first | rfl | assumption | (simp [cg_ok]; omega)) rfl (by decide) rfl rfl inX1_endsCommand_X1 flX1_endsCommand_34 dX1_endsCommand_1 ?_
  rw [cg_pm_6]
  refine cr_aload_n (pc := 4) C dX1_endsCommand_4 rfl ?_
  refine cr_getr (pc := 5) (c := 1) (k := 2) C (by first | rfl | assumption | (simp [cg_ok]; omega)) rfl (by decide) rfl inX1_endsCommand_X1 flX1_endsCommand_19 dX1_endsCommand_5 ?_
  refine cr_aload_n (pc := 8) C dX1_endsCommand_8 rfl ?_
  refine cr_geti (pc := 9) (c := 1) (k := 4) C (by first | rfl | assumption | (simp [cg_ok]; omega)) rfl (by decide) rfl rfl inX1_endsCommand_X1 flX1_endsCommand_27 dX1_endsCommand_9 ?_
  rw [cg_pm_4]
  refine cr_iaload (pc := 12) C rfl (by first | rfl | assumption | (simp [cg_ok]; omega)) (by omega) (by first | decide | omega) dX1_endsCommand_12 ?_
  rw [cg_pm_11, hL]
  refine cr_dS (pc := 13) C (sp_nA hl) rfl gX1_endsCommand_X1_numbersAfter rfl dX1_endsCommand_13 hsX1_numbersAfter rfl ⟨rfl, rfl, Nat.le_of_ble_eq_true rfl, Nat.le_of_ble_eq_true rfl⟩ (Nat.le_of_ble_eq_true rfl) rfl ?_
  refine cr_icmp_ge_f (pc := 16) (tgt := 21) C dX1_endsCommand_16 (by decide) (nI_ge h (by have := cg_na_le l; omega)) ?_
  refine cr_iconst (pc := 19) (v := nI 0) C dX1_endsCommand_19 (by decide) ?_
  refine cr_zreturn (pc := 20) C X dX1_endsCommand_20 (by first | exact Or.inr rfl | exact Or.inl rfl | assumption) ?_
  exact ⟨rfl, rfl⟩
set_option maxRecDepth 100000 in
set_option maxHeartbeats 4000000 in
theorem sp_ends1 {M : cg_M} {k nb d : Nat} {Lt Nm : Nat → Int32} {c : Bool} {l : Nat} (hk : k < 34) (hl : l < 128) (hL : Lt k = nI l) (h : cg_na l ≤ nb) (hnb : nb ≤ 4) : cg_D yX1_endsCommand wsX1_endsCommand rmX1_endsCommand [.inr (.inr (1, 0, 0, 0))] (cg_pm M k c nb d Lt Nm) (some (.inl (nI 1))) (cg_pm M (k + 1) false nb d Lt Nm) := by
  refine cg_S_of (cc := cX1_endsCommand) (maxL := 1) (ret := (some .boolean)) (ls0 := [some (.inr (.inr (1, 0, 0, 0)))]) RX1 rfl (by decide) rfl rfl (Nat.le_of_ble_eq_true rfl) (fun E C X => ?_)
  refine cr_aload_n (pc := 0) C dX1_endsCommand_0 rfl ?_
  refine cr_geti (pc := 1) (c := 1) (k := 6) C (by first | rfl | assumption | (simp [cg_ok]; omega)) rfl (by decide) rfl rfl inX1_endsCommand_X1 flX1_endsCommand_34 dX1_endsCommand_1 ?_
  rw [cg_pm_6]
  refine cr_aload_n (pc := 4) C dX1_endsCommand_4 rfl ?_
  refine cr_getr (pc := 5) (c := 1) (k := 2) C (by first | rfl | assumption | (simp [cg_ok]; omega)) rfl (by decide) rfl inX1_endsCommand_X1 flX1_endsCommand_19 dX1_endsCommand_5 ?_
  refine cr_aload_n (pc := 8) C dX1_endsCommand_8 rfl ?_
  refine cr_geti (pc := 9) (c := 1) (k := 4) C (by first | rfl | assumption | (simp [cg_ok]; omega)) rfl (by decide) rfl rfl inX1_endsCommand_X1 flX1_endsCommand_27 dX1_endsCommand_9 ?_
  rw [cg_pm_4]
  refine cr_iaload (pc := 12) C rfl (by first | rfl | assumption | (simp [cg_ok]; omega)) (by omega) (by first | decide | omega) dX1_endsCommand_12 ?_
  rw [cg_pm_11, hL]
  refine cr_dS (pc := 13) C (sp_nA hl) rfl gX1_endsCommand_X1_numbersAfter rfl dX1_endsCommand_13 hsX1_numbersAfter rfl ⟨rfl, rfl, Nat.le_of_ble_eq_true rfl, Nat.le_of_ble_eq_true rfl⟩ (Nat.le_of_ble_eq_true rfl) rfl ?_
  refine cr_icmp_ge_t (pc := 16) (tgt := 21) C dX1_endsCommand_16 (by decide) (nI_le h (by omega)) ?_
  refine cr_aload_n (pc := 21) C dX1_endsCommand_21 rfl ?_
  refine cr_iconst (pc := 22) (v := nI 0) C dX1_endsCommand_22 (by decide) ?_
  refine cr_puti (pc := 23) (c := 1) (k := 5) C (by first | rfl | assumption | (simp [cg_ok]; omega)) rfl (by decide) rfl rfl inX1_endsCommand_X1 flX1_endsCommand_30 rfl (by first | rfl | decide) rfl dX1_endsCommand_23 ?_
  rw [cg_pm_u50]
  refine cr_aload_n (pc := 26) C dX1_endsCommand_26 rfl ?_
  refine cr_dup (pc := 27) C dX1_endsCommand_27 rfl ?_
  refine cr_geti (pc := 28) (c := 1) (k := 4) C (by first | rfl | assumption | (simp [cg_ok]; omega)) rfl (by decide) rfl rfl inX1_endsCommand_X1 flX1_endsCommand_27 dX1_endsCommand_28 ?_
  rw [cg_pm_4]
  refine cr_iconst (pc := 31) (v := nI 1) C dX1_endsCommand_31 (by decide) ?_
  refine cr_iadd_n (pc := 32) C dX1_endsCommand_32 ?_
  refine cr_puti (pc := 33) (c := 1) (k := 4) C (by first | rfl | assumption | (simp [cg_ok]; omega)) rfl (by decide) rfl rfl inX1_endsCommand_X1 flX1_endsCommand_27 rfl (by first | rfl | decide) rfl dX1_endsCommand_33 ?_
  rw [cg_pm_u4]
  refine cr_iconst (pc := 36) (v := nI 1) C dX1_endsCommand_36 (by decide) ?_
  refine cr_zreturn (pc := 37) C X dX1_endsCommand_37 (by first | exact Or.inr rfl | exact Or.inl rfl | assumption) ?_
  exact ⟨rfl, rfl⟩
set_option maxRecDepth 100000 in
set_option maxHeartbeats 4000000 in
theorem sp_dig2 {M : cg_M} {k nb d : Nat} {Lt Nm : Nat → Int32} {c : Bool} {x : Int32} (h : 2 ≤ d) (hd : d ≤ 2) : cg_D yX1_takesDigit wsX1_takesDigit rmX1_takesDigit [.inr (.inr (1, 0, 0, 0)), .inl (x)] (cg_pm M k c nb d Lt Nm) (some (.inl (nI 0))) (cg_pm M k c nb d Lt Nm) := by
  refine cg_S_of (cc := cX1_takesDigit) (maxL := 3) (ret := (some .boolean)) (ls0 := [some (.inr (.inr (1, 0, 0, 0))), some (.inl (x)), none]) RX1 rfl (by decide) rfl rfl (Nat.le_of_ble_eq_true rfl) (fun E C X => ?_)
  refine cr_aload_n (pc := 0) C dX1_takesDigit_0 rfl ?_
  refine cr_geti (pc := 1) (c := 1) (k := 7) C (by first | rfl | assumption | (simp [cg_ok]; omega)) rfl (by decide) rfl rfl inX1_takesDigit_X1 flX1_takesDigit_37 dX1_takesDigit_1 ?_
  rw [cg_pm_7]
  refine cr_iconst (pc := 4) (v := nI 2) C dX1_takesDigit_4 (by decide) ?_
  refine cr_icmp_lt_f (pc := 5) (tgt := 10) C dX1_takesDigit_5 (by decide) (nI_nlt h (by omega)) ?_
  refine cr_iconst (pc := 8) (v := nI 0) C dX1_takesDigit_8 (by decide) ?_
  refine cr_zreturn (pc := 9) C X dX1_takesDigit_9 (by first | exact Or.inr rfl | exact Or.inl rfl | assumption) ?_
  exact ⟨rfl, rfl⟩
set_option maxRecDepth 100000 in
set_option maxHeartbeats 4000000 in
theorem sp_dig0 {M : cg_M} {k nb d : Nat} {Lt Nm : Nat → Int32} {c : Bool} {x : Int32} {l : Nat} (hk : k < 34) (hl : l < 128) (hL : Lt k = nI l) (h : d = 0) (hn : cg_na l ≤ nb) (hnb : nb ≤ 4) : cg_D yX1_takesDigit wsX1_takesDigit rmX1_takesDigit [.inr (.inr (1, 0, 0, 0)), .inl (x)] (cg_pm M k c nb d Lt Nm) (some (.inl (nI 0))) (cg_pm M k c nb d Lt Nm) := by
  refine cg_S_of (cc := cX1_takesDigit) (maxL := 3) (ret := (some .boolean)) (ls0 := [some (.inr (.inr (1, 0, 0, 0))), some (.inl (x)), none]) RX1 rfl (by decide) rfl rfl (Nat.le_of_ble_eq_true rfl) (fun E C X => ?_)
  refine cr_aload_n (pc := 0) C dX1_takesDigit_0 rfl ?_
  refine cr_geti (pc := 1) (c := 1) (k := 7) C (by first | rfl | assumption | (simp [cg_ok]; omega)) rfl (by decide) rfl rfl inX1_takesDigit_X1 flX1_takesDigit_37 dX1_takesDigit_1 ?_
  rw [cg_pm_7]
  refine cr_iconst (pc := 4) (v := nI 2) C dX1_takesDigit_4 (by decide) ?_
  refine cr_icmp_lt_t (pc := 5) (tgt := 10) C dX1_takesDigit_5 (by decide) (by rw [h]; decide) ?_
  refine cr_aload_n (pc := 10) C dX1_takesDigit_10 rfl ?_
  refine cr_getr (pc := 11) (c := 1) (k := 3) C (by first | rfl | assumption | (simp [cg_ok]; omega)) rfl (by decide) rfl inX1_takesDigit_X1 flX1_takesDigit_24 dX1_takesDigit_11 ?_
  refine cr_aload_n (pc := 14) C dX1_takesDigit_14 rfl ?_
  refine cr_geti (pc := 15) (c := 1) (k := 4) C (by first | rfl | assumption | (simp [cg_ok]; omega)) rfl (by decide) rfl rfl inX1_takesDigit_X1 flX1_takesDigit_27 dX1_takesDigit_15 ?_
  rw [cg_pm_4]
  refine cr_aaload (pc := 18) C rfl (by first | rfl | assumption | (simp [cg_ok]; omega)) (by omega) (by first | decide | omega) dX1_takesDigit_18 ?_
  refine cr_astore_n2 (pc := 19) C dX1_takesDigit_19 (by decide) rfl ?_
  refine cr_aload_n (pc := 20) C dX1_takesDigit_20 rfl ?_
  refine cr_geti (pc := 21) (c := 1) (k := 7) C (by first | rfl | assumption | (simp [cg_ok]; omega)) rfl (by decide) rfl rfl inX1_takesDigit_X1 flX1_takesDigit_37 dX1_takesDigit_21 ?_
  rw [cg_pm_7]
  refine cr_if_ne_f (pc := 24) (tgt := 65) C dX1_takesDigit_24 (by decide) (by rw [h]; decide) ?_
  refine cr_aload_n (pc := 27) C dX1_takesDigit_27 rfl ?_
  refine cr_geti (pc := 28) (c := 1) (k := 6) C (by first | rfl | assumption | (simp [cg_ok]; omega)) rfl (by decide) rfl rfl inX1_takesDigit_X1 flX1_takesDigit_34 dX1_takesDigit_28 ?_
  rw [cg_pm_6]
  refine cr_aload_n (pc := 31) C dX1_takesDigit_31 rfl ?_
  refine cr_getr (pc := 32) (c := 1) (k := 2) C (by first | rfl | assumption | (simp [cg_ok]; omega)) rfl (by decide) rfl inX1_takesDigit_X1 flX1_takesDigit_19 dX1_takesDigit_32 ?_
  refine cr_aload_n (pc := 35) C dX1_takesDigit_35 rfl ?_
  refine cr_geti (pc := 36) (c := 1) (k := 4) C (by first | rfl | assumption | (simp [cg_ok]; omega)) rfl (by decide) rfl rfl inX1_takesDigit_X1 flX1_takesDigit_27 dX1_takesDigit_36 ?_
  rw [cg_pm_4]
  refine cr_iaload (pc := 39) C rfl (by first | rfl | assumption | (simp [cg_ok]; omega)) (by omega) (by first | decide | omega) dX1_takesDigit_39 ?_
  rw [cg_pm_11, hL]
  refine cr_dS (pc := 40) C (sp_nA hl) rfl gX1_takesDigit_X1_numbersAfter rfl dX1_takesDigit_40 hsX1_numbersAfter rfl ⟨rfl, rfl, Nat.le_of_ble_eq_true rfl, Nat.le_of_ble_eq_true rfl⟩ (Nat.le_of_ble_eq_true rfl) rfl ?_
  refine cr_icmp_lt_f (pc := 43) (tgt := 48) C dX1_takesDigit_43 (by decide) (nI_nlt hn (by omega)) ?_
  refine cr_iconst (pc := 46) (v := nI 0) C dX1_takesDigit_46 (by decide) ?_
  refine cr_zreturn (pc := 47) C X dX1_takesDigit_47 (by first | exact Or.inr rfl | exact Or.inl rfl | assumption) ?_
  exact ⟨rfl, rfl⟩
set_option maxRecDepth 100000 in
set_option maxHeartbeats 4000000 in
theorem sp_dig1 {M : cg_M} {k nb d : Nat} {Lt Nm : Nat → Int32} {c : Bool} {e : Nat} {l : Nat} (hk : k < 34) (hl : l < 128) (hL : Lt k = nI l) (h : d = 0) (hn : nb < cg_na l) : cg_D yX1_takesDigit wsX1_takesDigit rmX1_takesDigit [.inr (.inr (1, 0, 0, 0)), .inl (nI e)] (cg_pm M k c nb d Lt Nm) (some (.inl (nI 1))) (cg_pm M k c (nb + 1) 1 Lt (upd Nm (4 * k + nb) (nI e))) := by
  refine cg_S_of (cc := cX1_takesDigit) (maxL := 3) (ret := (some .boolean)) (ls0 := [some (.inr (.inr (1, 0, 0, 0))), some (.inl (nI e)), none]) RX1 rfl (by decide) rfl rfl (Nat.le_of_ble_eq_true rfl) (fun E C X => ?_)
  refine cr_aload_n (pc := 0) C dX1_takesDigit_0 rfl ?_
  refine cr_geti (pc := 1) (c := 1) (k := 7) C (by first | rfl | assumption | (simp [cg_ok]; omega)) rfl (by decide) rfl rfl inX1_takesDigit_X1 flX1_takesDigit_37 dX1_takesDigit_1 ?_
  rw [cg_pm_7]
  refine cr_iconst (pc := 4) (v := nI 2) C dX1_takesDigit_4 (by decide) ?_
  refine cr_icmp_lt_t (pc := 5) (tgt := 10) C dX1_takesDigit_5 (by decide) (by rw [h]; decide) ?_
  refine cr_aload_n (pc := 10) C dX1_takesDigit_10 rfl ?_
  refine cr_getr (pc := 11) (c := 1) (k := 3) C (by first | rfl | assumption | (simp [cg_ok]; omega)) rfl (by decide) rfl inX1_takesDigit_X1 flX1_takesDigit_24 dX1_takesDigit_11 ?_
  refine cr_aload_n (pc := 14) C dX1_takesDigit_14 rfl ?_
  refine cr_geti (pc := 15) (c := 1) (k := 4) C (by first | rfl | assumption | (simp [cg_ok]; omega)) rfl (by decide) rfl rfl inX1_takesDigit_X1 flX1_takesDigit_27 dX1_takesDigit_15 ?_
  rw [cg_pm_4]
  refine cr_aaload (pc := 18) C rfl (by first | rfl | assumption | (simp [cg_ok]; omega)) (by omega) (by first | decide | omega) dX1_takesDigit_18 ?_
  refine cr_astore_n2 (pc := 19) C dX1_takesDigit_19 (by decide) rfl ?_
  refine cr_aload_n (pc := 20) C dX1_takesDigit_20 rfl ?_
  refine cr_geti (pc := 21) (c := 1) (k := 7) C (by first | rfl | assumption | (simp [cg_ok]; omega)) rfl (by decide) rfl rfl inX1_takesDigit_X1 flX1_takesDigit_37 dX1_takesDigit_21 ?_
  rw [cg_pm_7]
  refine cr_if_ne_f (pc := 24) (tgt := 65) C dX1_takesDigit_24 (by decide) (by rw [h]; decide) ?_
  refine cr_aload_n (pc := 27) C dX1_takesDigit_27 rfl ?_
  refine cr_geti (pc := 28) (c := 1) (k := 6) C (by first | rfl | assumption | (simp [cg_ok]; omega)) rfl (by decide) rfl rfl inX1_takesDigit_X1 flX1_takesDigit_34 dX1_takesDigit_28 ?_
  rw [cg_pm_6]
  refine cr_aload_n (pc := 31) C dX1_takesDigit_31 rfl ?_
  refine cr_getr (pc := 32) (c := 1) (k := 2) C (by first | rfl | assumption | (simp [cg_ok]; omega)) rfl (by decide) rfl inX1_takesDigit_X1 flX1_takesDigit_19 dX1_takesDigit_32 ?_
  refine cr_aload_n (pc := 35) C dX1_takesDigit_35 rfl ?_
  refine cr_geti (pc := 36) (c := 1) (k := 4) C (by first | rfl | assumption | (simp [cg_ok]; omega)) rfl (by decide) rfl rfl inX1_takesDigit_X1 flX1_takesDigit_27 dX1_takesDigit_36 ?_
  rw [cg_pm_4]
  refine cr_iaload (pc := 39) C rfl (by first | rfl | assumption | (simp [cg_ok]; omega)) (by omega) (by first | decide | omega) dX1_takesDigit_39 ?_
  rw [cg_pm_11, hL]
  refine cr_dS (pc := 40) C (sp_nA hl) rfl gX1_takesDigit_X1_numbersAfter rfl dX1_takesDigit_40 hsX1_numbersAfter rfl ⟨rfl, rfl, Nat.le_of_ble_eq_true rfl, Nat.le_of_ble_eq_true rfl⟩ (Nat.le_of_ble_eq_true rfl) rfl ?_
  refine cr_icmp_lt_t (pc := 43) (tgt := 48) C dX1_takesDigit_43 (by decide) (nI_lt hn (by have := cg_na_le l; omega)) ?_
  refine cr_aload_n (pc := 48) C dX1_takesDigit_48 rfl ?_
  refine cr_aload_n (pc := 49) C dX1_takesDigit_49 rfl ?_
  refine cr_geti (pc := 50) (c := 1) (k := 6) C (by first | rfl | assumption | (simp [cg_ok]; omega)) rfl (by decide) rfl rfl inX1_takesDigit_X1 flX1_takesDigit_34 dX1_takesDigit_50 ?_
  rw [cg_pm_6]
  refine cr_iconst (pc := 53) (v := nI 0) C dX1_takesDigit_53 (by decide) ?_
  refine cr_iastore (pc := 54) C rfl (by first | rfl | assumption | (simp [cg_ok]; omega)) (by have := cg_na_le l; omega) (by first | decide | omega) dX1_takesDigit_54 ?_
  rw [cg_pm_u12]
  refine cr_aload_n (pc := 55) C dX1_takesDigit_55 rfl ?_
  refine cr_dup (pc := 56) C dX1_takesDigit_56 rfl ?_
  refine cr_geti (pc := 57) (c := 1) (k := 6) C (by first | rfl | assumption | (simp [cg_ok]; omega)) rfl (by decide) rfl rfl inX1_takesDigit_X1 flX1_takesDigit_34 dX1_takesDigit_57 ?_
  rw [cg_pm_6]
  refine cr_iconst (pc := 60) (v := nI 1) C dX1_takesDigit_60 (by decide) ?_
  refine cr_iadd_n (pc := 61) C dX1_takesDigit_61 ?_
  refine cr_puti (pc := 62) (c := 1) (k := 6) C (by first | rfl | assumption | (simp [cg_ok]; omega)) rfl (by decide) rfl rfl inX1_takesDigit_X1 flX1_takesDigit_34 rfl (by first | rfl | decide) rfl dX1_takesDigit_62 ?_
  try rw [cg_pm_u6]
  refine cr_aload_n (pc := 65) C dX1_takesDigit_65 rfl ?_
  refine cr_dup (pc := 66) C dX1_takesDigit_66 rfl ?_
  refine cr_geti (pc := 67) (c := 1) (k := 7) C (by first | rfl | assumption | (simp [cg_ok]; omega)) rfl (by decide) rfl rfl inX1_takesDigit_X1 flX1_takesDigit_37 dX1_takesDigit_67 ?_
  rw [cg_pm_7]
  refine cr_iconst (pc := 70) (v := nI 1) C dX1_takesDigit_70 (by decide) ?_
  refine cr_iadd_n (pc := 71) C dX1_takesDigit_71 ?_
  refine cr_puti (pc := 72) (c := 1) (k := 7) C (by first | rfl | assumption | (simp [cg_ok]; omega)) rfl (by decide) rfl rfl inX1_takesDigit_X1 flX1_takesDigit_37 rfl (by first | rfl | decide) rfl dX1_takesDigit_72 ?_
  rw [cg_pm_u7]
  refine cr_aload_n (pc := 75) C dX1_takesDigit_75 rfl ?_
  refine cr_aload_n (pc := 76) C dX1_takesDigit_76 rfl ?_
  refine cr_geti (pc := 77) (c := 1) (k := 6) C (by first | rfl | assumption | (simp [cg_ok]; omega)) rfl (by decide) rfl rfl inX1_takesDigit_X1 flX1_takesDigit_34 dX1_takesDigit_77 ?_
  rw [cg_pm_6]
  refine cr_iconst (pc := 80) (v := nI 1) C dX1_takesDigit_80 (by decide) ?_
  refine cr_isub (pc := 81) C dX1_takesDigit_81 ?_
  rw [pk_sub (by omega)]
  refine cr_bipush (pc := 82) (v := nI 10) C dX1_takesDigit_82 (by decide) ?_
  refine cr_aload_n (pc := 84) C dX1_takesDigit_84 rfl ?_
  refine cr_aload_n (pc := 85) C dX1_takesDigit_85 rfl ?_
  refine cr_geti (pc := 86) (c := 1) (k := 6) C (by first | rfl | assumption | (simp [cg_ok]; omega)) rfl (by decide) rfl rfl inX1_takesDigit_X1 flX1_takesDigit_34 dX1_takesDigit_86 ?_
  rw [cg_pm_6]
  refine cr_iconst (pc := 89) (v := nI 1) C dX1_takesDigit_89 (by decide) ?_
  refine cr_isub (pc := 90) C dX1_takesDigit_90 ?_
  rw [pk_sub (by omega)]
  refine cr_iaload (pc := 91) C rfl (by first | rfl | assumption | (simp [cg_ok]; omega)) (by have := cg_na_le l; omega) (by first | decide | omega) dX1_takesDigit_91 ?_
  rw [cg_pm_12]
  rw [show nb + 1 - 1 = nb by omega, cg_us]
  refine cr_imul_n (pc := 92) C dX1_takesDigit_92 ?_
  refine cr_iload_n (pc := 93) C dX1_takesDigit_93 rfl ?_
  refine cr_iadd_n (pc := 94) C dX1_takesDigit_94 ?_
  refine cr_iastore (pc := 95) C rfl (by first | rfl | assumption | (simp [cg_ok]; omega)) (by have := cg_na_le l; omega) (by first | decide | omega) dX1_takesDigit_95 ?_
  rw [cg_pm_u12]
  refine cr_iconst (pc := 96) (v := nI 1) C dX1_takesDigit_96 (by decide) ?_
  refine cr_zreturn (pc := 97) C X dX1_takesDigit_97 (by first | exact Or.inr rfl | exact Or.inl rfl | assumption) ?_
  subst h
  exact ⟨rfl, by rw [cg_uu]; simp⟩
set_option maxRecDepth 100000 in
set_option maxHeartbeats 4000000 in
theorem sp_digN {M : cg_M} {k nb d : Nat} {Lt Nm : Nat → Int32} {c : Bool} {e a b : Nat} (hk : k < 34) (h : d = 1) (hnb : nb = b + 1) (hb : b < 4) (ha : Nm (4 * k + b) = nI a) : cg_D yX1_takesDigit wsX1_takesDigit rmX1_takesDigit [.inr (.inr (1, 0, 0, 0)), .inl (nI e)] (cg_pm M k c nb d Lt Nm) (some (.inl (nI 1))) (cg_pm M k c nb 2 Lt (upd Nm (4 * k + b) (nI (10 * a + e)))) := by
  refine cg_S_of (cc := cX1_takesDigit) (maxL := 3) (ret := (some .boolean)) (ls0 := [some (.inr (.inr (1, 0, 0, 0))), some (.inl (nI e)), none]) RX1 rfl (by decide) rfl rfl (Nat.le_of_ble_eq_true rfl) (fun E C X => ?_)
  refine cr_aload_n (pc := 0) C dX1_takesDigit_0 rfl ?_
  refine cr_geti (pc := 1) (c := 1) (k := 7) C (by first | rfl | assumption | (simp [cg_ok]; omega)) rfl (by decide) rfl rfl inX1_takesDigit_X1 flX1_takesDigit_37 dX1_takesDigit_1 ?_
  rw [cg_pm_7]
  refine cr_iconst (pc := 4) (v := nI 2) C dX1_takesDigit_4 (by decide) ?_
  refine cr_icmp_lt_t (pc := 5) (tgt := 10) C dX1_takesDigit_5 (by decide) (by rw [h]; decide) ?_
  refine cr_aload_n (pc := 10) C dX1_takesDigit_10 rfl ?_
  refine cr_getr (pc := 11) (c := 1) (k := 3) C (by first | rfl | assumption | (simp [cg_ok]; omega)) rfl (by decide) rfl inX1_takesDigit_X1 flX1_takesDigit_24 dX1_takesDigit_11 ?_
  refine cr_aload_n (pc := 14) C dX1_takesDigit_14 rfl ?_
  refine cr_geti (pc := 15) (c := 1) (k := 4) C (by first | rfl | assumption | (simp [cg_ok]; omega)) rfl (by decide) rfl rfl inX1_takesDigit_X1 flX1_takesDigit_27 dX1_takesDigit_15 ?_
  rw [cg_pm_4]
  refine cr_aaload (pc := 18) C rfl (by first | rfl | assumption | (simp [cg_ok]; omega)) (by omega) (by first | decide | omega) dX1_takesDigit_18 ?_
  refine cr_astore_n2 (pc := 19) C dX1_takesDigit_19 (by decide) rfl ?_
  refine cr_aload_n (pc := 20) C dX1_takesDigit_20 rfl ?_
  refine cr_geti (pc := 21) (c := 1) (k := 7) C (by first | rfl | assumption | (simp [cg_ok]; omega)) rfl (by decide) rfl rfl inX1_takesDigit_X1 flX1_takesDigit_37 dX1_takesDigit_21 ?_
  rw [cg_pm_7]
  refine cr_if_ne_t (pc := 24) (tgt := 65) C dX1_takesDigit_24 (by decide) (by rw [h]; decide) ?_
  try rw [cg_pm_u6]
  refine cr_aload_n (pc := 65) C dX1_takesDigit_65 rfl ?_
  refine cr_dup (pc := 66) C dX1_takesDigit_66 rfl ?_
  refine cr_geti (pc := 67) (c := 1) (k := 7) C (by first | rfl | assumption | (simp [cg_ok]; omega)) rfl (by decide) rfl rfl inX1_takesDigit_X1 flX1_takesDigit_37 dX1_takesDigit_67 ?_
  rw [cg_pm_7]
  refine cr_iconst (pc := 70) (v := nI 1) C dX1_takesDigit_70 (by decide) ?_
  refine cr_iadd_n (pc := 71) C dX1_takesDigit_71 ?_
  refine cr_puti (pc := 72) (c := 1) (k := 7) C (by first | rfl | assumption | (simp [cg_ok]; omega)) rfl (by decide) rfl rfl inX1_takesDigit_X1 flX1_takesDigit_37 rfl (by first | rfl | decide) rfl dX1_takesDigit_72 ?_
  rw [cg_pm_u7]
  refine cr_aload_n (pc := 75) C dX1_takesDigit_75 rfl ?_
  refine cr_aload_n (pc := 76) C dX1_takesDigit_76 rfl ?_
  refine cr_geti (pc := 77) (c := 1) (k := 6) C (by first | rfl | assumption | (simp [cg_ok]; omega)) rfl (by decide) rfl rfl inX1_takesDigit_X1 flX1_takesDigit_34 dX1_takesDigit_77 ?_
  rw [cg_pm_6]
  refine cr_iconst (pc := 80) (v := nI 1) C dX1_takesDigit_80 (by decide) ?_
  refine cr_isub (pc := 81) C dX1_takesDigit_81 ?_
  rw [pk_sub (by omega)]
  refine cr_bipush (pc := 82) (v := nI 10) C dX1_takesDigit_82 (by decide) ?_
  refine cr_aload_n (pc := 84) C dX1_takesDigit_84 rfl ?_
  refine cr_aload_n (pc := 85) C dX1_takesDigit_85 rfl ?_
  refine cr_geti (pc := 86) (c := 1) (k := 6) C (by first | rfl | assumption | (simp [cg_ok]; omega)) rfl (by decide) rfl rfl inX1_takesDigit_X1 flX1_takesDigit_34 dX1_takesDigit_86 ?_
  rw [cg_pm_6]
  refine cr_iconst (pc := 89) (v := nI 1) C dX1_takesDigit_89 (by decide) ?_
  refine cr_isub (pc := 90) C dX1_takesDigit_90 ?_
  rw [pk_sub (by omega)]
  refine cr_iaload (pc := 91) C rfl (by first | rfl | assumption | (simp [cg_ok]; omega)) (by omega) (by first | decide | omega) dX1_takesDigit_91 ?_
  rw [cg_pm_12]
  rw [show nb - 1 = b by omega, ha]
  refine cr_imul_n (pc := 92) C dX1_takesDigit_92 ?_
  refine cr_iload_n (pc := 93) C dX1_takesDigit_93 rfl ?_
  refine cr_iadd_n (pc := 94) C dX1_takesDigit_94 ?_
  refine cr_iastore (pc := 95) C rfl (by first | rfl | assumption | (simp [cg_ok]; omega)) (by omega) (by first | decide | omega) dX1_takesDigit_95 ?_
  rw [cg_pm_u12]
  refine cr_iconst (pc := 96) (v := nI 1) C dX1_takesDigit_96 (by decide) ?_
  refine cr_zreturn (pc := 97) C X dX1_takesDigit_97 (by first | exact Or.inr rfl | exact Or.inl rfl | assumption) ?_
  subst h
  exact ⟨rfl, rfl⟩
set_option maxRecDepth 100000 in
set_option maxHeartbeats 4000000 in
theorem sp_acS {M : cg_M} {k nb d : Nat} {Lt Nm : Nat → Int32} {c : Bool} : cg_D yX1_accepts wsX1_accepts rmX1_accepts [.inr (.inr (1, 0, 0, 0)), .inl (nI 32)] (cg_pm M k c nb d Lt Nm) (some (.inl (nI 1))) (cg_pm M k c nb 0 Lt Nm) := by
  refine cg_S_of (cc := cX1_accepts) (maxL := 2) (ret := (some .boolean)) (ls0 := [some (.inr (.inr (1, 0, 0, 0))), some (.inl (nI 32))]) RX1 rfl (by decide) rfl rfl (Nat.le_of_ble_eq_true rfl) (fun E C X => ?_)
  refine cr_iload_n (pc := 0) C dX1_accepts_0 rfl ?_
  refine cr_bipush (pc := 1) (v := nI 32) C dX1_accepts_1 (by decide) ?_
  refine cr_icmp_ne_f (pc := 3) (tgt := 13) C dX1_accepts_3 (by decide) (by decide) ?_
  refine cr_aload_n (pc := 6) C dX1_accepts_6 rfl ?_
  refine cr_iconst (pc := 7) (v := nI 0) C dX1_accepts_7 (by decide) ?_
  refine cr_puti (pc := 8) (c := 1) (k := 7) C (by first | rfl | assumption | (simp [cg_ok]; omega)) rfl (by decide) rfl rfl inX1_accepts_X1 flX1_accepts_37 rfl (by first | rfl | decide) rfl dX1_accepts_8 ?_
  rw [cg_pm_u7]
  refine cr_iconst (pc := 11) (v := nI 1) C dX1_accepts_11 (by decide) ?_
  refine cr_zreturn (pc := 12) C X dX1_accepts_12 (by first | exact Or.inr rfl | exact Or.inl rfl | assumption) ?_
  exact ⟨rfl, rfl⟩
set_option maxRecDepth 100000 in
set_option maxHeartbeats 4000000 in
theorem sp_acB {M : cg_M} {k nb d : Nat} {Lt Nm : Nat → Int32} {v w : Nat} {M1 : cg_M} (hv : v < 128) (h32 : ¬ v = 32) (hw : w < 2) (H : cg_D yX1_beginsCommand wsX1_beginsCommand rmX1_beginsCommand [.inr (.inr (1, 0, 0, 0)), .inl (nI v)] (cg_pm M k false nb d Lt Nm) (some (.inl (nI w))) M1) : cg_D yX1_accepts wsX1_accepts rmX1_accepts [.inr (.inr (1, 0, 0, 0)), .inl (nI v)] (cg_pm M k false nb d Lt Nm) (some (.inl (nI w))) (M1) := by
  have hz : nI w = 0 ∨ nI w = 1 := by rcases (show w = 0 ∨ w = 1 by omega) with rfl | rfl <;> first | exact Or.inl rfl | exact Or.inr rfl
  refine cg_S_of (cc := cX1_accepts) (maxL := 2) (ret := (some .boolean)) (ls0 := [some (.inr (.inr (1, 0, 0, 0))), some (.inl (nI v))]) RX1 rfl (by decide) rfl rfl (Nat.le_of_ble_eq_true rfl) (fun E C X => ?_)
  refine cr_iload_n (pc := 0) C dX1_accepts_0 rfl ?_
  refine cr_bipush (pc := 1) (v := nI 32) C dX1_accepts_1 (by decide) ?_
  refine cr_icmp_ne_t (pc := 3) (tgt := 13) C dX1_accepts_3 (by decide) (fun q => h32 ((nI_eq (by omega) (by omega)).mp q)) ?_
  refine cr_aload_n (pc := 13) C dX1_accepts_13 rfl ?_
  refine cr_geti (pc := 14) (c := 1) (k := 5) C (by first | rfl | assumption | (simp [cg_ok]; omega)) rfl (by decide) rfl rfl inX1_accepts_X1 flX1_accepts_30 dX1_accepts_14 ?_
  rw [cg_pm_5]
  refine cr_if_ne_f (pc := 17) (tgt := 26) C dX1_accepts_17 (by decide) (by decide) ?_
  refine cr_aload_n (pc := 20) C dX1_accepts_20 rfl ?_
  refine cr_iload_n (pc := 21) C dX1_accepts_21 rfl ?_
  refine cr_dV (pc := 22) C (H) rfl gX1_accepts_X1_beginsCommand rfl dX1_accepts_22 (by first | rfl | assumption | (simp [cg_ok]; omega)) rfl hvX1_beginsCommand rfl ⟨rfl, rfl, Nat.le_of_ble_eq_true rfl, Nat.le_of_ble_eq_true rfl⟩ (Nat.le_of_ble_eq_true rfl) rfl ?_
  refine cr_zreturn (pc := 25) C X dX1_accepts_25 (by first | exact Or.inr rfl | exact Or.inl rfl | assumption) ?_
  exact ⟨rfl, rfl⟩
set_option maxRecDepth 100000 in
set_option maxHeartbeats 4000000 in
theorem sp_acE {M : cg_M} {k nb d : Nat} {Lt Nm : Nat → Int32} {w : Nat} {M1 : cg_M} (hw : w < 2) (H : cg_D yX1_endsCommand wsX1_endsCommand rmX1_endsCommand [.inr (.inr (1, 0, 0, 0))] (cg_pm M k true nb d Lt Nm) (some (.inl (nI w))) M1) : cg_D yX1_accepts wsX1_accepts rmX1_accepts [.inr (.inr (1, 0, 0, 0)), .inl (nI 59)] (cg_pm M k true nb d Lt Nm) (some (.inl (nI w))) (M1) := by
  have hz : nI w = 0 ∨ nI w = 1 := by rcases (show w = 0 ∨ w = 1 by omega) with rfl | rfl <;> first | exact Or.inl rfl | exact Or.inr rfl
  refine cg_S_of (cc := cX1_accepts) (maxL := 2) (ret := (some .boolean)) (ls0 := [some (.inr (.inr (1, 0, 0, 0))), some (.inl (nI 59))]) RX1 rfl (by decide) rfl rfl (Nat.le_of_ble_eq_true rfl) (fun E C X => ?_)
  refine cr_iload_n (pc := 0) C dX1_accepts_0 rfl ?_
  refine cr_bipush (pc := 1) (v := nI 32) C dX1_accepts_1 (by decide) ?_
  refine cr_icmp_ne_t (pc := 3) (tgt := 13) C dX1_accepts_3 (by decide) (by decide) ?_
  refine cr_aload_n (pc := 13) C dX1_accepts_13 rfl ?_
  refine cr_geti (pc := 14) (c := 1) (k := 5) C (by first | rfl | assumption | (simp [cg_ok]; omega)) rfl (by decide) rfl rfl inX1_accepts_X1 flX1_accepts_30 dX1_accepts_14 ?_
  rw [cg_pm_5]
  refine cr_if_ne_t (pc := 17) (tgt := 26) C dX1_accepts_17 (by decide) (by decide) ?_
  refine cr_iload_n (pc := 26) C dX1_accepts_26 rfl ?_
  refine cr_bipush (pc := 27) (v := nI 59) C dX1_accepts_27 (by decide) ?_
  refine cr_icmp_ne_f (pc := 29) (tgt := 37) C dX1_accepts_29 (by decide) (by decide) ?_
  refine cr_aload_n (pc := 32) C dX1_accepts_32 rfl ?_
  refine cr_dV (pc := 33) C (H) rfl gX1_accepts_X1_endsCommand rfl dX1_accepts_33 (by first | rfl | assumption | (simp [cg_ok]; omega)) rfl hvX1_endsCommand rfl ⟨rfl, rfl, Nat.le_of_ble_eq_true rfl, Nat.le_of_ble_eq_true rfl⟩ (Nat.le_of_ble_eq_true rfl) rfl ?_
  refine cr_zreturn (pc := 36) C X dX1_accepts_36 (by first | exact Or.inr rfl | exact Or.inl rfl | assumption) ?_
  exact ⟨rfl, rfl⟩
set_option maxRecDepth 100000 in
set_option maxHeartbeats 4000000 in
theorem sp_acD0 {M : cg_M} {k nb d : Nat} {Lt Nm : Nat → Int32} {v : Nat} {M1 : cg_M} (hv : 48 ≤ v) (hv2 : v ≤ 57) (H : cg_D yX1_takesDigit wsX1_takesDigit rmX1_takesDigit [.inr (.inr (1, 0, 0, 0)), .inl (nI (v - 48))] (cg_pm M k true nb d Lt Nm) (some (.inl (nI 0))) M1) : cg_D yX1_accepts wsX1_accepts rmX1_accepts [.inr (.inr (1, 0, 0, 0)), .inl (nI v)] (cg_pm M k true nb d Lt Nm) (some (.inl (nI 0))) (M1) := by
  refine cg_S_of (cc := cX1_accepts) (maxL := 2) (ret := (some .boolean)) (ls0 := [some (.inr (.inr (1, 0, 0, 0))), some (.inl (nI v))]) RX1 rfl (by decide) rfl rfl (Nat.le_of_ble_eq_true rfl) (fun E C X => ?_)
  refine cr_iload_n (pc := 0) C dX1_accepts_0 rfl ?_
  refine cr_bipush (pc := 1) (v := nI 32) C dX1_accepts_1 (by decide) ?_
  refine cr_icmp_ne_t (pc := 3) (tgt := 13) C dX1_accepts_3 (by decide) (fun q => absurd ((nI_eq (by omega) (by omega)).mp q) (by omega)) ?_
  refine cr_aload_n (pc := 13) C dX1_accepts_13 rfl ?_
  refine cr_geti (pc := 14) (c := 1) (k := 5) C (by first | rfl | assumption | (simp [cg_ok]; omega)) rfl (by decide) rfl rfl inX1_accepts_X1 flX1_accepts_30 dX1_accepts_14 ?_
  rw [cg_pm_5]
  refine cr_if_ne_t (pc := 17) (tgt := 26) C dX1_accepts_17 (by decide) (by decide) ?_
  refine cr_iload_n (pc := 26) C dX1_accepts_26 rfl ?_
  refine cr_bipush (pc := 27) (v := nI 59) C dX1_accepts_27 (by decide) ?_
  refine cr_icmp_ne_t (pc := 29) (tgt := 37) C dX1_accepts_29 (by decide) (fun q => absurd ((nI_eq (by omega) (by omega)).mp q) (by omega)) ?_
  refine cr_iload_n (pc := 37) C dX1_accepts_37 rfl ?_
  refine cr_bipush (pc := 38) (v := nI 48) C dX1_accepts_38 (by decide) ?_
  refine cr_icmp_lt_f (pc := 40) (tgt := 64) C dX1_accepts_40 (by decide) (nI_nlt hv (by omega)) ?_
  refine cr_iload_n (pc := 43) C dX1_accepts_43 rfl ?_
  refine cr_bipush (pc := 44) (v := nI 57) C dX1_accepts_44 (by decide) ?_
  refine cr_icmp_gt_f (pc := 46) (tgt := 64) C dX1_accepts_46 (by decide) (nI_nlt hv2 (by omega)) ?_
  refine cr_aload_n (pc := 49) C dX1_accepts_49 rfl ?_
  refine cr_iload_n (pc := 50) C dX1_accepts_50 rfl ?_
  refine cr_bipush (pc := 51) (v := nI 48) C dX1_accepts_51 (by decide) ?_
  refine cr_isub (pc := 53) C dX1_accepts_53 ?_
  rw [pk_sub hv]
  refine cr_dV (pc := 54) C (H) rfl gX1_accepts_X1_takesDigit rfl dX1_accepts_54 (by first | rfl | assumption | (simp [cg_ok]; omega)) rfl hvX1_takesDigit rfl ⟨rfl, rfl, Nat.le_of_ble_eq_true rfl, Nat.le_of_ble_eq_true rfl⟩ (Nat.le_of_ble_eq_true rfl) rfl ?_
  refine cr_if_eq_t (pc := 57) (tgt := 64) C dX1_accepts_57 (by decide) (by decide) ?_
  refine cr_iconst (pc := 64) (v := nI 0) C dX1_accepts_64 (by decide) ?_
  refine cr_zreturn (pc := 65) C X dX1_accepts_65 (by first | exact Or.inr rfl | exact Or.inl rfl | assumption) ?_
  exact ⟨rfl, rfl⟩
set_option maxRecDepth 100000 in
set_option maxHeartbeats 4000000 in
theorem sp_acD1 {M : cg_M} {k nb d : Nat} {Lt Nm : Nat → Int32} {v : Nat} {M1 : cg_M} (hv : 48 ≤ v) (hv2 : v ≤ 57) (H : cg_D yX1_takesDigit wsX1_takesDigit rmX1_takesDigit [.inr (.inr (1, 0, 0, 0)), .inl (nI (v - 48))] (cg_pm M k true nb d Lt Nm) (some (.inl (nI 1))) M1) : cg_D yX1_accepts wsX1_accepts rmX1_accepts [.inr (.inr (1, 0, 0, 0)), .inl (nI v)] (cg_pm M k true nb d Lt Nm) (some (.inl (nI 1))) (M1) := by
  refine cg_S_of (cc := cX1_accepts) (maxL := 2) (ret := (some .boolean)) (ls0 := [some (.inr (.inr (1, 0, 0, 0))), some (.inl (nI v))]) RX1 rfl (by decide) rfl rfl (Nat.le_of_ble_eq_true rfl) (fun E C X => ?_)
  refine cr_iload_n (pc := 0) C dX1_accepts_0 rfl ?_
  refine cr_bipush (pc := 1) (v := nI 32) C dX1_accepts_1 (by decide) ?_
  refine cr_icmp_ne_t (pc := 3) (tgt := 13) C dX1_accepts_3 (by decide) (fun q => absurd ((nI_eq (by omega) (by omega)).mp q) (by omega)) ?_
  refine cr_aload_n (pc := 13) C dX1_accepts_13 rfl ?_
  refine cr_geti (pc := 14) (c := 1) (k := 5) C (by first | rfl | assumption | (simp [cg_ok]; omega)) rfl (by decide) rfl rfl inX1_accepts_X1 flX1_accepts_30 dX1_accepts_14 ?_
  rw [cg_pm_5]
  refine cr_if_ne_t (pc := 17) (tgt := 26) C dX1_accepts_17 (by decide) (by decide) ?_
  refine cr_iload_n (pc := 26) C dX1_accepts_26 rfl ?_
  refine cr_bipush (pc := 27) (v := nI 59) C dX1_accepts_27 (by decide) ?_
  refine cr_icmp_ne_t (pc := 29) (tgt := 37) C dX1_accepts_29 (by decide) (fun q => absurd ((nI_eq (by omega) (by omega)).mp q) (by omega)) ?_
  refine cr_iload_n (pc := 37) C dX1_accepts_37 rfl ?_
  refine cr_bipush (pc := 38) (v := nI 48) C dX1_accepts_38 (by decide) ?_
  refine cr_icmp_lt_f (pc := 40) (tgt := 64) C dX1_accepts_40 (by decide) (nI_nlt hv (by omega)) ?_
  refine cr_iload_n (pc := 43) C dX1_accepts_43 rfl ?_
  refine cr_bipush (pc := 44) (v := nI 57) C dX1_accepts_44 (by decide) ?_
  refine cr_icmp_gt_f (pc := 46) (tgt := 64) C dX1_accepts_46 (by decide) (nI_nlt hv2 (by omega)) ?_
  refine cr_aload_n (pc := 49) C dX1_accepts_49 rfl ?_
  refine cr_iload_n (pc := 50) C dX1_accepts_50 rfl ?_
  refine cr_bipush (pc := 51) (v := nI 48) C dX1_accepts_51 (by decide) ?_
  refine cr_isub (pc := 53) C dX1_accepts_53 ?_
  rw [pk_sub hv]
  refine cr_dV (pc := 54) C (H) rfl gX1_accepts_X1_takesDigit rfl dX1_accepts_54 (by first | rfl | assumption | (simp [cg_ok]; omega)) rfl hvX1_takesDigit rfl ⟨rfl, rfl, Nat.le_of_ble_eq_true rfl, Nat.le_of_ble_eq_true rfl⟩ (Nat.le_of_ble_eq_true rfl) rfl ?_
  refine cr_if_eq_f (pc := 57) (tgt := 64) C dX1_accepts_57 (by decide) (by decide) ?_
  refine cr_iconst (pc := 60) (v := nI 1) C dX1_accepts_60 (by decide) ?_
  refine cr_goto (pc := 61) (tgt := 65) C dX1_accepts_61 (by decide) ?_
  refine cr_zreturn (pc := 65) C X dX1_accepts_65 (by first | exact Or.inr rfl | exact Or.inl rfl | assumption) ?_
  exact ⟨rfl, rfl⟩
set_option maxRecDepth 100000 in
set_option maxHeartbeats 4000000 in
theorem sp_acX {M : cg_M} {k nb d : Nat} {Lt Nm : Nat → Int32} {v : Nat} (hv : v < 128) (h1 : ¬ v = 32) (h2 : ¬ v = 59) (h3 : ¬ (48 ≤ v ∧ v ≤ 57)) : cg_D yX1_accepts wsX1_accepts rmX1_accepts [.inr (.inr (1, 0, 0, 0)), .inl (nI v)] (cg_pm M k true nb d Lt Nm) (some (.inl (nI 0))) (cg_pm M k true nb d Lt Nm) := by
  rcases Nat.lt_or_ge v 48 with h | h
  · refine cg_S_of (cc := cX1_accepts) (maxL := 2) (ret := (some .boolean)) (ls0 := [some (.inr (.inr (1, 0, 0, 0))), some (.inl (nI v))]) RX1 rfl (by decide) rfl rfl (Nat.le_of_ble_eq_true rfl) (fun E C X => ?_)
    refine cr_iload_n (pc := 0) C dX1_accepts_0 rfl ?_
    refine cr_bipush (pc := 1) (v := nI 32) C dX1_accepts_1 (by decide) ?_
    refine cr_icmp_ne_t (pc := 3) (tgt := 13) C dX1_accepts_3 (by decide) (fun q => h1 ((nI_eq (by omega) (by omega)).mp q)) ?_
    refine cr_aload_n (pc := 13) C dX1_accepts_13 rfl ?_
    refine cr_geti (pc := 14) (c := 1) (k := 5) C (by first | rfl | assumption | (simp [cg_ok]; omega)) rfl (by decide) rfl rfl inX1_accepts_X1 flX1_accepts_30 dX1_accepts_14 ?_
    rw [cg_pm_5]
    refine cr_if_ne_t (pc := 17) (tgt := 26) C dX1_accepts_17 (by decide) (by decide) ?_
    refine cr_iload_n (pc := 26) C dX1_accepts_26 rfl ?_
    refine cr_bipush (pc := 27) (v := nI 59) C dX1_accepts_27 (by decide) ?_
    refine cr_icmp_ne_t (pc := 29) (tgt := 37) C dX1_accepts_29 (by decide) (fun q => h2 ((nI_eq (by omega) (by omega)).mp q)) ?_
    refine cr_iload_n (pc := 37) C dX1_accepts_37 rfl ?_
    refine cr_bipush (pc := 38) (v := nI 48) C dX1_accepts_38 (by decide) ?_
    refine cr_icmp_lt_t (pc := 40) (tgt := 64) C dX1_accepts_40 (by decide) (nI_lt h (by omega)) ?_
    refine cr_iconst (pc := 64) (v := nI 0) C dX1_accepts_64 (by decide) ?_
    refine cr_zreturn (pc := 65) C X dX1_accepts_65 (by first | exact Or.inr rfl | exact Or.inl rfl | assumption) ?_
    exact ⟨rfl, rfl⟩
  · refine cg_S_of (cc := cX1_accepts) (maxL := 2) (ret := (some .boolean)) (ls0 := [some (.inr (.inr (1, 0, 0, 0))), some (.inl (nI v))]) RX1 rfl (by decide) rfl rfl (Nat.le_of_ble_eq_true rfl) (fun E C X => ?_)
    refine cr_iload_n (pc := 0) C dX1_accepts_0 rfl ?_
    refine cr_bipush (pc := 1) (v := nI 32) C dX1_accepts_1 (by decide) ?_
    refine cr_icmp_ne_t (pc := 3) (tgt := 13) C dX1_accepts_3 (by decide) (fun q => h1 ((nI_eq (by omega) (by omega)).mp q)) ?_
    refine cr_aload_n (pc := 13) C dX1_accepts_13 rfl ?_
    refine cr_geti (pc := 14) (c := 1) (k := 5) C (by first | rfl | assumption | (simp [cg_ok]; omega)) rfl (by decide) rfl rfl inX1_accepts_X1 flX1_accepts_30 dX1_accepts_14 ?_
    rw [cg_pm_5]
    refine cr_if_ne_t (pc := 17) (tgt := 26) C dX1_accepts_17 (by decide) (by decide) ?_
    refine cr_iload_n (pc := 26) C dX1_accepts_26 rfl ?_
    refine cr_bipush (pc := 27) (v := nI 59) C dX1_accepts_27 (by decide) ?_
    refine cr_icmp_ne_t (pc := 29) (tgt := 37) C dX1_accepts_29 (by decide) (fun q => h2 ((nI_eq (by omega) (by omega)).mp q)) ?_
    refine cr_iload_n (pc := 37) C dX1_accepts_37 rfl ?_
    refine cr_bipush (pc := 38) (v := nI 48) C dX1_accepts_38 (by decide) ?_
    refine cr_icmp_lt_f (pc := 40) (tgt := 64) C dX1_accepts_40 (by decide) (nI_nlt (by omega) (by omega)) ?_
    refine cr_iload_n (pc := 43) C dX1_accepts_43 rfl ?_
    refine cr_bipush (pc := 44) (v := nI 57) C dX1_accepts_44 (by decide) ?_
    refine cr_icmp_gt_t (pc := 46) (tgt := 64) C dX1_accepts_46 (by decide) (nI_lt (by omega) (by omega)) ?_
    refine cr_iconst (pc := 64) (v := nI 0) C dX1_accepts_64 (by decide) ?_
    refine cr_zreturn (pc := 65) C X dX1_accepts_65 (by first | exact Or.inr rfl | exact Or.inl rfl | assumption) ?_
    exact ⟨rfl, rfl⟩
