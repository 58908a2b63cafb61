/-! ===== State: valueAt, synchronize ===== -/
/-- the writes of a state: how many, their origins -/
def cg_Iw (P : Nat → Int32) (n : Nat) : Prop := n ≤ 60 ∧ P 12 = nI n ∧ ∀ w, w < n → ∃ o, o < 3 ∧ P (13 + 5 * w) = nI o
def cg_nl (P : Nat → Int32) (w : Nat) (o : Option Nat) : Bool := match o with
  | none => true
  | some l => cg_la P w l
def cg_lt (P : Nat → Int32) (r k : Nat) : Nat → Option Nat
  | 0 => none
  | w + 1 => if (decide (P (15 + 5 * w) = nI k) && (cg_kn P r w && cg_nl P w (cg_lt P r k w))) = true then some w else cg_lt P r k w
def cg_eo (o : Option Nat) : Int32 := match o with
  | none => -1
  | some l => nI l
def cg_vo (P : Nat → Int32) (o : Option Nat) : Int32 := match o with
  | none => nI 100
  | some l => P (16 + 5 * l)
def cg_vl (P : Nat → Int32) (r k n : Nat) : Int32 := cg_vo P (cg_lt P r k n)
theorem cg_lt_lt {P : Nat → Int32} {r k : Nat} : ∀ {w l : Nat}, cg_lt P r k w = some l → l < w
  | 0, l, h => by simp [cg_lt] at h
  | w + 1, l, h => by
    unfold cg_lt at h
    split at h
    · simp at h; omega
    · have := cg_lt_lt h; omega
theorem cg_nm1 {l : Nat} (h : l < 60) : ¬ nI l = -1 := by
  intro q
  have h1 : ¬ nI l < 0 := nI_pos (by omega)
  rw [q] at h1
  exact h1 (by decide)
set_option maxRecDepth 100000 in
set_option maxHeartbeats 4000000 in
theorem sp_valueAt {M : cg_M} {P : Nat → Int32} {r k n : Nat} (hr : r < 3) (hI : cg_Iw P n) : cg_D yX2_valueAt wsX2_valueAt rmX2_valueAt [.inr (.inr (0, 0, 0, 0)), .inl (nI r), .inl (nI k)] (cg_sb M 0 P) (some (.inl (cg_vl P r k n))) (cg_sb M 0 P) := by
  refine cg_S_of (cc := cX2_valueAt) (maxL := 5) (ret := (some .int)) (ls0 := [some (.inr (.inr (0, 0, 0, 0))), some (.inl (nI r)), some (.inl (nI k)), none, none]) RX2 rfl (by decide) rfl rfl (Nat.le_of_ble_eq_true rfl) (fun E C X => ?_)
  have loop : ∀ m w : Nat, w + m = n → cg_W E (cg_sb M 0 P) 5 [some (.inr (.inr (0, 0, 0, 0))), some (.inl (nI r)), some (.inl (nI k)), some (.inl (cg_eo (cg_lt P r k w))), some (.inl (nI w))] [] := by
    intro m
    induction m with
    | zero =>
      intro w hw
      have hwn : w = n := by omega
      subst hwn
      cases hl : cg_lt P r k w with
      | none =>
        refine cr_iload (pc := 5) C dX2_valueAt_5 rfl ?_
        refine cr_aload_n (pc := 7) C dX2_valueAt_7 rfl ?_
        refine cr_geti (pc := 8) (c := 2) (k := 0) C (by first | rfl | assumption | (simp [cg_ok]; omega)) rfl (by decide) rfl rfl inX2_valueAt_X2 flX2_valueAt_9 dX2_valueAt_8 ?_
        rw [cg_sb_s]
        refine cr_icmp_ge_t (pc := 11) (tgt := 59) C dX2_valueAt_11 (by decide) (by rw [hI.2.1]; exact Int32.le_refl _) ?_
        refine cr_iload_n (pc := 59) C dX2_valueAt_59 rfl ?_
        refine cr_iconst (pc := 60) (v := (-1)) C dX2_valueAt_60 (by decide) ?_
        refine cr_icmp_ne_f (pc := 61) (tgt := 69) C dX2_valueAt_61 (by decide) rfl ?_
        refine cr_bipush (pc := 64) (v := nI 100) C dX2_valueAt_64 (by decide) ?_
        refine cr_goto (pc := 66) (tgt := 75) C dX2_valueAt_66 (by decide) ?_
        refine cr_ireturn (pc := 75) C X dX2_valueAt_75 ?_
        exact ⟨by unfold cg_vl; rw [hl]; rfl, rfl⟩
      | some l =>
        have hl60 : l < 60 := by have := cg_lt_lt hl; have := hI.1; omega
        refine cr_iload (pc := 5) C dX2_valueAt_5 rfl ?_
        refine cr_aload_n (pc := 7) C dX2_valueAt_7 rfl ?_
        refine cr_geti (pc := 8) (c := 2) (k := 0) C (by first | rfl | assumption | (simp [cg_ok]; omega)) rfl (by decide) rfl rfl inX2_valueAt_X2 flX2_valueAt_9 dX2_valueAt_8 ?_
        rw [cg_sb_s]
        refine cr_icmp_ge_t (pc := 11) (tgt := 59) C dX2_valueAt_11 (by decide) (by rw [hI.2.1]; exact Int32.le_refl _) ?_
        refine cr_iload_n (pc := 59) C dX2_valueAt_59 rfl ?_
        refine cr_iconst (pc := 60) (v := (-1)) C dX2_valueAt_60 (by decide) ?_
        refine cr_icmp_ne_t (pc := 61) (tgt := 69) C dX2_valueAt_61 (by decide) (cg_nm1 hl60) ?_
        refine cr_aload_n (pc := 69) C dX2_valueAt_69 rfl ?_
        refine cr_getr (pc := 70) (c := 2) (k := 4) C (by first | rfl | assumption | (simp [cg_ok]; omega)) rfl (by decide) rfl inX2_valueAt_X2 flX2_valueAt_25 dX2_valueAt_70 ?_
        refine cr_iload_n (pc := 73) C dX2_valueAt_73 rfl ?_
        refine cr_iaload (pc := 74) C rfl (by first | rfl | assumption | (simp [cg_ok]; omega)) (by omega) (by first | decide | omega) dX2_valueAt_74 ?_
        rw [cg_sb_s]
        refine cr_ireturn (pc := 75) C X dX2_valueAt_75 ?_
        exact ⟨by unfold cg_vl; rw [hl]; rfl, rfl⟩
    | succ m ih =>
      intro w hw
      have hlt : w < n := by omega
      have hn60 := hI.1
      obtain ⟨o, ho, ho2⟩ := hI.2.2 w hlt
      cases hk : decide (P (15 + 5 * w) = nI k)
      · refine cr_iload (pc := 5) C dX2_valueAt_5 rfl ?_
        refine cr_aload_n (pc := 7) C dX2_valueAt_7 rfl ?_
        refine cr_geti (pc := 8) (c := 2) (k := 0) C (by first | rfl | assumption | (simp [cg_ok]; omega)) rfl (by decide) rfl rfl inX2_valueAt_X2 flX2_valueAt_9 dX2_valueAt_8 ?_
        rw [cg_sb_s]
        refine cr_icmp_ge_f (pc := 11) (tgt := 59) C dX2_valueAt_11 (by decide) (by rw [hI.2.1]; exact nI_ge hlt (by omega)) ?_
        refine cr_aload_n (pc := 14) C dX2_valueAt_14 rfl ?_
        refine cr_getr (pc := 15) (c := 2) (k := 3) C (by first | rfl | assumption | (simp [cg_ok]; omega)) rfl (by decide) rfl inX2_valueAt_X2 flX2_valueAt_22 dX2_valueAt_15 ?_
        refine cr_iload (pc := 18) C dX2_valueAt_18 rfl ?_
        refine cr_iaload (pc := 20) C rfl (by first | rfl | assumption | (simp [cg_ok]; omega)) (by omega) (by first | decide | omega) dX2_valueAt_20 ?_
        rw [cg_sb_s]
        refine cr_iload_n (pc := 21) C dX2_valueAt_21 rfl ?_
        refine cr_icmp_ne_t (pc := 22) (tgt := 53) C dX2_valueAt_22 (by decide) (of_decide_eq_false hk) ?_
        refine cr_iinc4 (pc := 53) C dX2_valueAt_53 (cg_inc1 _) (by decide) rfl ?_
        refine cr_goto (pc := 56) (tgt := 5) C dX2_valueAt_56 (by decide) ?_
        have e1 : cg_lt P r k (w + 1) = cg_lt P r k w := by simp [cg_lt, hk]
        rw [← e1]
        exact ih (w + 1) (by omega)
      · cases hkn : cg_kn P r w
        · refine cr_iload (pc := 5) C dX2_valueAt_5 rfl ?_
          refine cr_aload_n (pc := 7) C dX2_valueAt_7 rfl ?_
          refine cr_geti (pc := 8) (c := 2) (k := 0) C (by first | rfl | assumption | (simp [cg_ok]; omega)) rfl (by decide) rfl rfl inX2_valueAt_X2 flX2_valueAt_9 dX2_valueAt_8 ?_
          rw [cg_sb_s]
          refine cr_icmp_ge_f (pc := 11) (tgt := 59) C dX2_valueAt_11 (by decide) (by rw [hI.2.1]; exact nI_ge hlt (by omega)) ?_
          refine cr_aload_n (pc := 14) C dX2_valueAt_14 rfl ?_
          refine cr_getr (pc := 15) (c := 2) (k := 3) C (by first | rfl | assumption | (simp [cg_ok]; omega)) rfl (by decide) rfl inX2_valueAt_X2 flX2_valueAt_22 dX2_valueAt_15 ?_
          refine cr_iload (pc := 18) C dX2_valueAt_18 rfl ?_
          refine cr_iaload (pc := 20) C rfl (by first | rfl | assumption | (simp [cg_ok]; omega)) (by omega) (by first | decide | omega) dX2_valueAt_20 ?_
          rw [cg_sb_s]
          refine cr_iload_n (pc := 21) C dX2_valueAt_21 rfl ?_
          refine cr_icmp_ne_f (pc := 22) (tgt := 53) C dX2_valueAt_22 (by decide) (of_decide_eq_true hk) ?_
          refine cr_aload_n (pc := 25) C dX2_valueAt_25 rfl ?_
          refine cr_iload_n (pc := 26) C dX2_valueAt_26 rfl ?_
          refine cr_iload (pc := 27) C dX2_valueAt_27 rfl ?_
          refine cr_dV (pc := 29) C (sp_knows hr (by omega) ho ho2) rfl gX2_valueAt_X2_knows rfl dX2_valueAt_29 (by first | rfl | assumption | (simp [cg_ok]; omega)) rfl hvX2_knows rfl ⟨rfl, rfl, Nat.le_of_ble_eq_true rfl, Nat.le_of_ble_eq_true rfl⟩ (Nat.le_of_ble_eq_true rfl) rfl ?_
          rw [hkn]
          refine cr_if_eq_t (pc := 32) (tgt := 53) C dX2_valueAt_32 (by decide) (by decide) ?_
          refine cr_iinc4 (pc := 53) C dX2_valueAt_53 (cg_inc1 _) (by decide) rfl ?_
          refine cr_goto (pc := 56) (tgt := 5) C dX2_valueAt_56 (by decide) ?_
          have e1 : cg_lt P r k (w + 1) = cg_lt P r k w := by simp [cg_lt, hk, hkn]
          rw [← e1]
          exact ih (w + 1) (by omega)
        · cases hl : cg_lt P r k w with
          | none =>
            refine cr_iload (pc := 5) C dX2_valueAt_5 rfl ?_
            refine cr_aload_n (pc := 7) C dX2_valueAt_7 rfl ?_
            refine cr_geti (pc := 8) (c := 2) (k := 0) C (by first | rfl | assumption | (simp [cg_ok]; omega)) rfl (by decide) rfl rfl inX2_valueAt_X2 flX2_valueAt_9 dX2_valueAt_8 ?_
            rw [cg_sb_s]
            refine cr_icmp_ge_f (pc := 11) (tgt := 59) C dX2_valueAt_11 (by decide) (by rw [hI.2.1]; exact nI_ge hlt (by omega)) ?_
            refine cr_aload_n (pc := 14) C dX2_valueAt_14 rfl ?_
            refine cr_getr (pc := 15) (c := 2) (k := 3) C (by first | rfl | assumption | (simp [cg_ok]; omega)) rfl (by decide) rfl inX2_valueAt_X2 flX2_valueAt_22 dX2_valueAt_15 ?_
            refine cr_iload (pc := 18) C dX2_valueAt_18 rfl ?_
            refine cr_iaload (pc := 20) C rfl (by first | rfl | assumption | (simp [cg_ok]; omega)) (by omega) (by first | decide | omega) dX2_valueAt_20 ?_
            rw [cg_sb_s]
            refine cr_iload_n (pc := 21) C dX2_valueAt_21 rfl ?_
            refine cr_icmp_ne_f (pc := 22) (tgt := 53) C dX2_valueAt_22 (by decide) (of_decide_eq_true hk) ?_
            refine cr_aload_n (pc := 25) C dX2_valueAt_25 rfl ?_
            refine cr_iload_n (pc := 26) C dX2_valueAt_26 rfl ?_
            refine cr_iload (pc := 27) C dX2_valueAt_27 rfl ?_
            refine cr_dV (pc := 29) C (sp_knows hr (by omega) ho ho2) rfl gX2_valueAt_X2_knows rfl dX2_valueAt_29 (by first | rfl | assumption | (simp [cg_ok]; omega)) rfl hvX2_knows rfl ⟨rfl, rfl, Nat.le_of_ble_eq_true rfl, Nat.le_of_ble_eq_true rfl⟩ (Nat.le_of_ble_eq_true rfl) rfl ?_
            rw [hkn]
            refine cr_if_eq_f (pc := 32) (tgt := 53) C dX2_valueAt_32 (by decide) (by decide) ?_
            refine cr_iload_n (pc := 35) C dX2_valueAt_35 rfl ?_
            refine cr_iconst (pc := 36) (v := (-1)) C dX2_valueAt_36 (by decide) ?_
            refine cr_icmp_eq_t (pc := 37) (tgt := 50) C dX2_valueAt_37 (by decide) rfl ?_
            refine cr_iload (pc := 50) C dX2_valueAt_50 rfl ?_
            refine cr_istore_n3 (pc := 52) C dX2_valueAt_52 (by decide) rfl ?_
            refine cr_iinc4 (pc := 53) C dX2_valueAt_53 (cg_inc1 _) (by decide) rfl ?_
            refine cr_goto (pc := 56) (tgt := 5) C dX2_valueAt_56 (by decide) ?_
            have e1 : cg_lt P r k (w + 1) = some w := by simp [cg_lt, hk, hkn, hl, cg_nl]
            have e2 := ih (w + 1) (by omega)
            rw [e1] at e2
            exact e2
          | some l =>
            have hl60 : l < 60 := by have := cg_lt_lt hl; omega
            cases hla : cg_la P w l
            · refine cr_iload (pc := 5) C dX2_valueAt_5 rfl ?_
              refine cr_aload_n (pc := 7) C dX2_valueAt_7 rfl ?_
              refine cr_geti (pc := 8) (c := 2) (k := 0) C (by first | rfl | assumption | (simp [cg_ok]; omega)) rfl (by decide) rfl rfl inX2_valueAt_X2 flX2_valueAt_9 dX2_valueAt_8 ?_
              rw [cg_sb_s]
              refine cr_icmp_ge_f (pc := 11) (tgt := 59) C dX2_valueAt_11 (by decide) (by rw [hI.2.1]; exact nI_ge hlt (by omega)) ?_
              refine cr_aload_n (pc := 14) C dX2_valueAt_14 rfl ?_
              refine cr_getr (pc := 15) (c := 2) (k := 3) C (by first | rfl | assumption | (simp [cg_ok]; omega)) rfl (by decide) rfl inX2_valueAt_X2 flX2_valueAt_22 dX2_valueAt_15 ?_
              refine cr_iload (pc := 18) C dX2_valueAt_18 rfl ?_
              refine cr_iaload (pc := 20) C rfl (by first | rfl | assumption | (simp [cg_ok]; omega)) (by omega) (by first | decide | omega) dX2_valueAt_20 ?_
              rw [cg_sb_s]
              refine cr_iload_n (pc := 21) C dX2_valueAt_21 rfl ?_
              refine cr_icmp_ne_f (pc := 22) (tgt := 53) C dX2_valueAt_22 (by decide) (of_decide_eq_true hk) ?_
              refine cr_aload_n (pc := 25) C dX2_valueAt_25 rfl ?_
              refine cr_iload_n (pc := 26) C dX2_valueAt_26 rfl ?_
              refine cr_iload (pc := 27) C dX2_valueAt_27 rfl ?_
              refine cr_dV (pc := 29) C (sp_knows hr (by omega) ho ho2) rfl gX2_valueAt_X2_knows rfl dX2_valueAt_29 (by first | rfl | assumption | (simp [cg_ok]; omega)) rfl hvX2_knows rfl ⟨rfl, rfl, Nat.le_of_ble_eq_true rfl, Nat.le_of_ble_eq_true rfl⟩ (Nat.le_of_ble_eq_true rfl) rfl ?_
              rw [hkn]
              refine cr_if_eq_f (pc := 32) (tgt := 53) C dX2_valueAt_32 (by decide) (by decide) ?_
              refine cr_iload_n (pc := 35) C dX2_valueAt_35 rfl ?_
              refine cr_iconst (pc := 36) (v := (-1)) C dX2_valueAt_36 (by decide) ?_
              refine cr_icmp_eq_f (pc := 37) (tgt := 50) C dX2_valueAt_37 (by decide) (cg_nm1 hl60) ?_
              refine cr_aload_n (pc := 40) C dX2_valueAt_40 rfl ?_
              refine cr_iload (pc := 41) C dX2_valueAt_41 rfl ?_
              refine cr_iload_n (pc := 43) C dX2_valueAt_43 rfl ?_
              refine cr_dV (pc := 44) C (sp_isLater (by omega) hl60) rfl gX2_valueAt_X2_isLater rfl dX2_valueAt_44 (by first | rfl | assumption | (simp [cg_ok]; omega)) rfl hvX2_isLater rfl ⟨rfl, rfl, Nat.le_of_ble_eq_true rfl, Nat.le_of_ble_eq_true rfl⟩ (Nat.le_of_ble_eq_true rfl) rfl ?_
              rw [hla]
              refine cr_if_eq_t (pc := 47) (tgt := 53) C dX2_valueAt_47 (by decide) (by decide) ?_
              refine cr_iinc4 (pc := 53) C dX2_valueAt_53 (cg_inc1 _) (by decide) rfl ?_
              refine cr_goto (pc := 56) (tgt := 5) C dX2_valueAt_56 (by decide) ?_
              have e1 : cg_lt P r k (w + 1) = cg_lt P r k w := by simp [cg_lt, hk, hkn, hl, cg_nl, hla]
              rw [← hl, ← e1]
              exact ih (w + 1) (by omega)
            · refine cr_iload (pc := 5) C dX2_valueAt_5 rfl ?_
              refine cr_aload_n (pc := 7) C dX2_valueAt_7 rfl ?_
              refine cr_geti (pc := 8) (c := 2) (k := 0) C (by first | rfl | assumption | (simp [cg_ok]; omega)) rfl (by decide) rfl rfl inX2_valueAt_X2 flX2_valueAt_9 dX2_valueAt_8 ?_
              rw [cg_sb_s]
              refine cr_icmp_ge_f (pc := 11) (tgt := 59) C dX2_valueAt_11 (by decide) (by rw [hI.2.1]; exact nI_ge hlt (by omega)) ?_
              refine cr_aload_n (pc := 14) C dX2_valueAt_14 rfl ?_
              refine cr_getr (pc := 15) (c := 2) (k := 3) C (by first | rfl | assumption | (simp [cg_ok]; omega)) rfl (by decide) rfl inX2_valueAt_X2 flX2_valueAt_22 dX2_valueAt_15 ?_
              refine cr_iload (pc := 18) C dX2_valueAt_18 rfl ?_
              refine cr_iaload (pc := 20) C rfl (by first | rfl | assumption | (simp [cg_ok]; omega)) (by omega) (by first | decide | omega) dX2_valueAt_20 ?_
              rw [cg_sb_s]
              refine cr_iload_n (pc := 21) C dX2_valueAt_21 rfl ?_
              refine cr_icmp_ne_f (pc := 22) (tgt := 53) C dX2_valueAt_22 (by decide) (of_decide_eq_true hk) ?_
              refine cr_aload_n (pc := 25) C dX2_valueAt_25 rfl ?_
              refine cr_iload_n (pc := 26) C dX2_valueAt_26 rfl ?_
              refine cr_iload (pc := 27) C dX2_valueAt_27 rfl ?_
              refine cr_dV (pc := 29) C (sp_knows hr (by omega) ho ho2) rfl gX2_valueAt_X2_knows rfl dX2_valueAt_29 (by first | rfl | assumption | (simp [cg_ok]; omega)) rfl hvX2_knows rfl ⟨rfl, rfl, Nat.le_of_ble_eq_true rfl, Nat.le_of_ble_eq_true rfl⟩ (Nat.le_of_ble_eq_true rfl) rfl ?_
              rw [hkn]
              refine cr_if_eq_f (pc := 32) (tgt := 53) C dX2_valueAt_32 (by decide) (by decide) ?_
              refine cr_iload_n (pc := 35) C dX2_valueAt_35 rfl ?_
              refine cr_iconst (pc := 36) (v := (-1)) C dX2_valueAt_36 (by decide) ?_
              refine cr_icmp_eq_f (pc := 37) (tgt := 50) C dX2_valueAt_37 (by decide) (cg_nm1 hl60) ?_
              refine cr_aload_n (pc := 40) C dX2_valueAt_40 rfl ?_
              refine cr_iload (pc := 41) C dX2_valueAt_41 rfl ?_
              refine cr_iload_n (pc := 43) C dX2_valueAt_43 rfl ?_
              refine cr_dV (pc := 44) C (sp_isLater (by omega) hl60) rfl gX2_valueAt_X2_isLater rfl dX2_valueAt_44 (by first | rfl | assumption | (simp [cg_ok]; omega)) rfl hvX2_isLater rfl ⟨rfl, rfl, Nat.le_of_ble_eq_true rfl, Nat.le_of_ble_eq_true rfl⟩ (Nat.le_of_ble_eq_true rfl) rfl ?_
              rw [hla]
              refine cr_if_eq_f (pc := 47) (tgt := 53) C dX2_valueAt_47 (by decide) (by decide) ?_
              refine cr_iload (pc := 50) C dX2_valueAt_50 rfl ?_
              refine cr_istore_n3 (pc := 52) C dX2_valueAt_52 (by decide) rfl ?_
              refine cr_iinc4 (pc := 53) C dX2_valueAt_53 (cg_inc1 _) (by decide) rfl ?_
              refine cr_goto (pc := 56) (tgt := 5) C dX2_valueAt_56 (by decide) ?_
              have e1 : cg_lt P r k (w + 1) = some w := by simp [cg_lt, hk, hkn, hl, cg_nl, hla]
              have e2 := ih (w + 1) (by omega)
              rw [e1] at e2
              exact e2
  refine cr_iconst (pc := 0) (v := (-1)) C dX2_valueAt_0 (by decide) ?_
  refine cr_istore_n3 (pc := 1) C dX2_valueAt_1 (by decide) rfl ?_
  refine cr_iconst (pc := 2) (v := nI 0) C dX2_valueAt_2 (by decide) ?_
  refine cr_istore4 (pc := 3) C dX2_valueAt_3 (by decide) rfl ?_
  exact loop n 0 (by omega)
/-- how many writes came over, and the clock behind them -/
def cg_sy (P : Nat → Int32) (f t : Nat) : Nat → Nat × Int32
  | 0 => (0, P (9 + t))
  | w + 1 => if (cg_kn P f w && !cg_kn P t w) = true then ((cg_sy P f t w).1 + 1, cg_mx (cg_sy P f t w).2 (P (17 + 5 * w))) else cg_sy P f t w
theorem cg_kn_upd {P : Nat → Int32} {r w o t : Nat} {x : Int32} (hr : r < 3) (ho : o < 3) (ho2 : P (13 + 5 * w) = nI o) (ht : t < 3) : cg_kn (upd P (9 + t) x) r w = cg_kn P r w := by
  unfold cg_kn
  have e1 : upd P (9 + t) x (13 + 5 * w) = nI o := by rw [cg_un (by omega)]; exact ho2
  rw [e1, ho2, cg_clamp (by omega), cg_un (show 3 * r + o ≠ 9 + t by omega), cg_un (show 14 + 5 * w ≠ 9 + t by omega)]
theorem cg_sy_le (P : Nat → Int32) (f t : Nat) : ∀ w, (cg_sy P f t w).1 ≤ w
  | 0 => Nat.le_refl 0
  | w + 1 => by
    have := cg_sy_le P f t w
    unfold cg_sy
    split
    · simp; omega
    · omega
theorem cg_uu (P : Nat → Int32) (k : Nat) (x y : Int32) : upd (upd P k x) k y = upd P k y := by
  funext j
  by_cases h : j = k
  · subst h; rw [cg_us, cg_us]
  · rw [cg_un h, cg_un h, cg_un h]
theorem cg_uid (P : Nat → Int32) (k : Nat) : upd P k (P k) = P := by
  funext j
  by_cases h : j = k
  · subst h; rw [cg_us]
  · rw [cg_un h]
def cg_sp (P : Nat → Int32) (f t n : Nat) : Nat → Int32 := cg_mg (3 * f) (3 * t) (upd P (9 + t) (cg_sy P f t n).2)
set_option maxRecDepth 100000 in
set_option maxHeartbeats 4000000 in
theorem sp_sync1 {M : cg_M} {P : Nat → Int32} {f t n : Nat} (hf : f < 3) (ht : t < 3) (hne : f ≠ t) (hI : cg_Iw P n) : cg_D yX2_synchronize wsX2_synchronize rmX2_synchronize [.inr (.inr (0, 0, 0, 0)), .inl (nI f), .inl (nI t)] (cg_sb M 0 P) (some (.inl (nI (cg_sy P f t n).1))) (cg_sb M 0 (cg_sp P f t n)) := by
  refine cg_S_of (cc := cX2_synchronize) (maxL := 5) (ret := (some .int)) (ls0 := [some (.inr (.inr (0, 0, 0, 0))), some (.inl (nI f)), some (.inl (nI t)), none, none]) RX2 rfl (by decide) rfl rfl (Nat.le_of_ble_eq_true rfl) (fun E C X => ?_)
  have loop : ∀ m w : Nat, w + m = n → cg_W E (cg_sb M 0 (upd P (9 + t) (cg_sy P f t w).2)) 27 [some (.inr (.inr (0, 0, 0, 0))), some (.inl (nI f)), some (.inl (nI t)), some (.inl (nI (cg_sy P f t w).1)), some (.inl (nI w))] [] := by
    intro m
    induction m with
    | zero =>
      intro w hw
      have hwn : w = n := by omega
      subst hwn
      refine cr_iload (pc := 27) C dX2_synchronize_27 rfl ?_
      refine cr_aload_n (pc := 29) C dX2_synchronize_29 rfl ?_
      refine cr_geti (pc := 30) (c := 2) (k := 0) C (by first | rfl | assumption | (simp [cg_ok]; omega)) rfl (by decide) rfl rfl inX2_synchronize_X2 flX2_synchronize_9 dX2_synchronize_30 ?_
      rw [cg_sb_s]
      rw [cg_un (by omega), hI.2.1]
      refine cr_icmp_ge_t (pc := 33) (tgt := 87) C dX2_synchronize_33 (by decide) (Int32.le_refl _) ?_
      refine cr_aload_n (pc := 87) C dX2_synchronize_87 rfl ?_
      refine cr_getr (pc := 88) (c := 2) (k := 6) C (by first | rfl | assumption | (simp [cg_ok]; omega)) rfl (by decide) rfl inX2_synchronize_X2 flX2_synchronize_33 dX2_synchronize_88 ?_
      refine cr_iload_n (pc := 91) C dX2_synchronize_91 rfl ?_
      refine cr_aaload (pc := 92) C rfl (by first | rfl | assumption | (simp [cg_ok]; omega)) (by omega) (by first | decide | omega) dX2_synchronize_92 ?_
      refine cr_aload_n (pc := 93) C dX2_synchronize_93 rfl ?_
      refine cr_getr (pc := 94) (c := 2) (k := 6) C (by first | rfl | assumption | (simp [cg_ok]; omega)) rfl (by decide) rfl inX2_synchronize_X2 flX2_synchronize_33 dX2_synchronize_94 ?_
      refine cr_iload_n (pc := 97) C dX2_synchronize_97 rfl ?_
      refine cr_aaload (pc := 98) C rfl (by first | rfl | assumption | (simp [cg_ok]; omega)) (by omega) (by first | decide | omega) dX2_synchronize_98 ?_
      refine cr_dS (pc := 99) C (sp_merge (by simp [cg_ok]; omega) (by simp [cg_ok]; omega) rfl rfl) rfl gX2_synchronize_X2_merge rfl dX2_synchronize_99 hsX2_merge rfl ⟨rfl, rfl, Nat.le_of_ble_eq_true rfl, Nat.le_of_ble_eq_true rfl⟩ (Nat.le_of_ble_eq_true rfl) rfl ?_
      refine cr_iload_n (pc := 102) C dX2_synchronize_102 rfl ?_
      refine cr_ireturn (pc := 103) C X dX2_synchronize_103 ?_
      exact ⟨rfl, rfl⟩
    | succ m ih =>
      intro w hw
      have hlt : w < n := by omega
      have hn60 := hI.1
      obtain ⟨o, ho, ho2⟩ := hI.2.2 w hlt
      have ho3 : (upd P (9 + t) (cg_sy P f t w).2) (13 + 5 * w) = nI o := by rw [cg_un (by omega)]; exact ho2
      cases hkf : cg_kn P f w
      · refine cr_iload (pc := 27) C dX2_synchronize_27 rfl ?_
        refine cr_aload_n (pc := 29) C dX2_synchronize_29 rfl ?_
        refine cr_geti (pc := 30) (c := 2) (k := 0) C (by first | rfl | assumption | (simp [cg_ok]; omega)) rfl (by decide) rfl rfl inX2_synchronize_X2 flX2_synchronize_9 dX2_synchronize_30 ?_
        rw [cg_sb_s]
        rw [cg_un (by omega), hI.2.1]
        refine cr_icmp_ge_f (pc := 33) (tgt := 87) C dX2_synchronize_33 (by decide) (nI_ge hlt (by omega)) ?_
        refine cr_aload_n (pc := 36) C dX2_synchronize_36 rfl ?_
        refine cr_iload_n (pc := 37) C dX2_synchronize_37 rfl ?_
        refine cr_iload (pc := 38) C dX2_synchronize_38 rfl ?_
        refine cr_dV (pc := 40) C (sp_knows hf (by omega) ho ho3) rfl gX2_synchronize_X2_knows rfl dX2_synchronize_40 (by first | rfl | assumption | (simp [cg_ok]; omega)) rfl hvX2_knows rfl ⟨rfl, rfl, Nat.le_of_ble_eq_true rfl, Nat.le_of_ble_eq_true rfl⟩ (Nat.le_of_ble_eq_true rfl) rfl ?_
        rw [cg_kn_upd hf ho ho2 ht, hkf]
        refine cr_if_eq_t (pc := 43) (tgt := 81) C dX2_synchronize_43 (by decide) (by decide) ?_
        try rw [cg_uu]
        refine cr_iinc4 (pc := 81) C dX2_synchronize_81 (cg_inc1 _) (by decide) rfl ?_
        refine cr_goto (pc := 84) (tgt := 27) C dX2_synchronize_84 (by decide) ?_
        have e1 : cg_sy P f t (w + 1) = cg_sy P f t w := by simp [cg_sy, hkf]
        have e2 := ih (w + 1) (by omega)
        rw [e1] at e2
        exact e2
      · cases hkt : cg_kn P t w
        · refine cr_iload (pc := 27) C dX2_synchronize_27 rfl ?_
          refine cr_aload_n (pc := 29) C dX2_synchronize_29 rfl ?_
          refine cr_geti (pc := 30) (c := 2) (k := 0) C (by first | rfl | assumption | (simp [cg_ok]; omega)) rfl (by decide) rfl rfl inX2_synchronize_X2 flX2_synchronize_9 dX2_synchronize_30 ?_
          rw [cg_sb_s]
          rw [cg_un (by omega), hI.2.1]
          refine cr_icmp_ge_f (pc := 33) (tgt := 87) C dX2_synchronize_33 (by decide) (nI_ge hlt (by omega)) ?_
          refine cr_aload_n (pc := 36) C dX2_synchronize_36 rfl ?_
          refine cr_iload_n (pc := 37) C dX2_synchronize_37 rfl ?_
          refine cr_iload (pc := 38) C dX2_synchronize_38 rfl ?_
          refine cr_dV (pc := 40) C (sp_knows hf (by omega) ho ho3) rfl gX2_synchronize_X2_knows rfl dX2_synchronize_40 (by first | rfl | assumption | (simp [cg_ok]; omega)) rfl hvX2_knows rfl ⟨rfl, rfl, Nat.le_of_ble_eq_true rfl, Nat.le_of_ble_eq_true rfl⟩ (Nat.le_of_ble_eq_true rfl) rfl ?_
          rw [cg_kn_upd hf ho ho2 ht, hkf]
          refine cr_if_eq_f (pc := 43) (tgt := 81) C dX2_synchronize_43 (by decide) (by decide) ?_
          refine cr_aload_n (pc := 46) C dX2_synchronize_46 rfl ?_
          refine cr_iload_n (pc := 47) C dX2_synchronize_47 rfl ?_
          refine cr_iload (pc := 48) C dX2_synchronize_48 rfl ?_
          refine cr_dV (pc := 50) C (sp_knows ht (by omega) ho ho3) rfl gX2_synchronize_X2_knows rfl dX2_synchronize_50 (by first | rfl | assumption | (simp [cg_ok]; omega)) rfl hvX2_knows rfl ⟨rfl, rfl, Nat.le_of_ble_eq_true rfl, Nat.le_of_ble_eq_true rfl⟩ (Nat.le_of_ble_eq_true rfl) rfl ?_
          rw [cg_kn_upd ht ho ho2 ht, hkt]
          refine cr_if_ne_f (pc := 53) (tgt := 81) C dX2_synchronize_53 (by decide) (by decide) ?_
          refine cr_iinc3 (pc := 56) C dX2_synchronize_56 (cg_inc1 _) (by decide) rfl ?_
          refine cr_aload_n (pc := 59) C dX2_synchronize_59 rfl ?_
          refine cr_getr (pc := 60) (c := 2) (k := 7) C (by first | rfl | assumption | (simp [cg_ok]; omega)) rfl (by decide) rfl inX2_synchronize_X2 flX2_synchronize_36 dX2_synchronize_60 ?_
          refine cr_iload_n (pc := 63) C dX2_synchronize_63 rfl ?_
          refine cr_aload_n (pc := 64) C dX2_synchronize_64 rfl ?_
          refine cr_getr (pc := 65) (c := 2) (k := 7) C (by first | rfl | assumption | (simp [cg_ok]; omega)) rfl (by decide) rfl inX2_synchronize_X2 flX2_synchronize_36 dX2_synchronize_65 ?_
          refine cr_iload_n (pc := 68) C dX2_synchronize_68 rfl ?_
          refine cr_iaload (pc := 69) C rfl (by first | rfl | assumption | (simp [cg_ok]; omega)) (by omega) (by first | decide | omega) dX2_synchronize_69 ?_
          rw [cg_sb_s]
          rw [cg_us]
          refine cr_aload_n (pc := 70) C dX2_synchronize_70 rfl ?_
          refine cr_getr (pc := 71) (c := 2) (k := 5) C (by first | rfl | assumption | (simp [cg_ok]; omega)) rfl (by decide) rfl inX2_synchronize_X2 flX2_synchronize_28 dX2_synchronize_71 ?_
          refine cr_iload (pc := 74) C dX2_synchronize_74 rfl ?_
          refine cr_iaload (pc := 76) C rfl (by first | rfl | assumption | (simp [cg_ok]; omega)) (by omega) (by first | decide | omega) dX2_synchronize_76 ?_
          rw [cg_sb_s]
          rw [cg_un (by omega)]
          refine cr_max (pc := 77) C dX2_synchronize_77 mmX2_synchronize_max ⟨Nat.le_of_ble_eq_true rfl, Nat.le_of_ble_eq_true rfl⟩ (Nat.le_of_ble_eq_true rfl) ?_
          refine cr_iastore (pc := 80) C rfl (by first | rfl | assumption | (simp [cg_ok]; omega)) (by omega) (by first | decide | omega) dX2_synchronize_80 ?_
          rw [cg_up_sb]
          try rw [cg_uu]
          refine cr_iinc4 (pc := 81) C dX2_synchronize_81 (cg_inc1 _) (by decide) rfl ?_
          refine cr_goto (pc := 84) (tgt := 27) C dX2_synchronize_84 (by decide) ?_
          have e1 : cg_sy P f t (w + 1) = ((cg_sy P f t w).1 + 1, cg_mx (cg_sy P f t w).2 (P (17 + 5 * w))) := by simp [cg_sy, hkf, hkt]
          have e2 := ih (w + 1) (by omega)
          rw [e1] at e2
          exact e2
        · refine cr_iload (pc := 27) C dX2_synchronize_27 rfl ?_
          refine cr_aload_n (pc := 29) C dX2_synchronize_29 rfl ?_
          refine cr_geti (pc := 30) (c := 2) (k := 0) C (by first | rfl | assumption | (simp [cg_ok]; omega)) rfl (by decide) rfl rfl inX2_synchronize_X2 flX2_synchronize_9 dX2_synchronize_30 ?_
          rw [cg_sb_s]
          rw [cg_un (by omega), hI.2.1]
          refine cr_icmp_ge_f (pc := 33) (tgt := 87) C dX2_synchronize_33 (by decide) (nI_ge hlt (by omega)) ?_
          refine cr_aload_n (pc := 36) C dX2_synchronize_36 rfl ?_
          refine cr_iload_n (pc := 37) C dX2_synchronize_37 rfl ?_
          refine cr_iload (pc := 38) C dX2_synchronize_38 rfl ?_
          refine cr_dV (pc := 40) C (sp_knows hf (by omega) ho ho3) rfl gX2_synchronize_X2_knows rfl dX2_synchronize_40 (by first | rfl | assumption | (simp [cg_ok]; omega)) rfl hvX2_knows rfl ⟨rfl, rfl, Nat.le_of_ble_eq_true rfl, Nat.le_of_ble_eq_true rfl⟩ (Nat.le_of_ble_eq_true rfl) rfl ?_
          rw [cg_kn_upd hf ho ho2 ht, hkf]
          refine cr_if_eq_f (pc := 43) (tgt := 81) C dX2_synchronize_43 (by decide) (by decide) ?_
          refine cr_aload_n (pc := 46) C dX2_synchronize_46 rfl ?_
          refine cr_iload_n (pc := 47) C dX2_synchronize_47 rfl ?_
          refine cr_iload (pc := 48) C dX2_synchronize_48 rfl ?_
          refine cr_dV (pc := 50) C (sp_knows ht (by omega) ho ho3) rfl gX2_synchronize_X2_knows rfl dX2_synchronize_50 (by first | rfl | assumption | (simp [cg_ok]; omega)) rfl hvX2_knows rfl ⟨rfl, rfl, Nat.le_of_ble_eq_true rfl, Nat.le_of_ble_eq_true rfl⟩ (Nat.le_of_ble_eq_true rfl) rfl ?_
          rw [cg_kn_upd ht ho ho2 ht, hkt]
          refine cr_if_ne_t (pc := 53) (tgt := 81) C dX2_synchronize_53 (by decide) (by decide) ?_
          try rw [cg_uu]
          refine cr_iinc4 (pc := 81) C dX2_synchronize_81 (cg_inc1 _) (by decide) rfl ?_
          refine cr_goto (pc := 84) (tgt := 27) C dX2_synchronize_84 (by decide) ?_
          have e1 : cg_sy P f t (w + 1) = cg_sy P f t w := by simp [cg_sy, hkf, hkt]
          have e2 := ih (w + 1) (by omega)
          rw [e1] at e2
          exact e2
  refine cr_iload_n (pc := 0) C dX2_synchronize_0 rfl ?_
  refine cr_dN (pc := 1) C (sp_isReplica1 hf) rfl gX2_synchronize_X3_isReplica_n67 rfl dX2_synchronize_1 neX3_isReplica isX2_synchronize_X3_isReplica hsX3_isReplica rfl ⟨rfl, rfl, Nat.le_of_ble_eq_true rfl, Nat.le_of_ble_eq_true rfl⟩ (Nat.le_of_ble_eq_true rfl) rfl ?_
  refine cr_if_eq_f (pc := 4) (tgt := 19) C dX2_synchronize_4 (by decide) (by decide) ?_
  refine cr_iload_n (pc := 7) C dX2_synchronize_7 rfl ?_
  refine cr_dN (pc := 8) C (sp_isReplica1 ht) rfl gX2_synchronize_X3_isReplica_n67 rfl dX2_synchronize_8 neX3_isReplica isX2_synchronize_X3_isReplica hsX3_isReplica rfl ⟨rfl, rfl, Nat.le_of_ble_eq_true rfl, Nat.le_of_ble_eq_true rfl⟩ (Nat.le_of_ble_eq_true rfl) rfl ?_
  refine cr_if_eq_f (pc := 11) (tgt := 19) C dX2_synchronize_11 (by decide) (by decide) ?_
  refine cr_iload_n (pc := 14) C dX2_synchronize_14 rfl ?_
  refine cr_iload_n (pc := 15) C dX2_synchronize_15 rfl ?_
  refine cr_icmp_ne_t (pc := 16) (tgt := 22) C dX2_synchronize_16 (by decide) (fun q => hne ((nI_eq (by omega) (by omega)).mp q)) ?_
  refine cr_iconst (pc := 22) (v := nI 0) C dX2_synchronize_22 (by decide) ?_
  refine cr_istore_n3 (pc := 23) C dX2_synchronize_23 (by decide) rfl ?_
  refine cr_iconst (pc := 24) (v := nI 0) C dX2_synchronize_24 (by decide) ?_
  refine cr_istore4 (pc := 25) C dX2_synchronize_25 (by decide) rfl ?_
  refine cr_mem (M' := cg_sb M 0 (upd P (9 + t) (P (9 + t)))) (by rw [cg_uid]) ?_
  exact loop n 0 (by omega)
set_option maxRecDepth 100000 in
set_option maxHeartbeats 4000000 in
theorem sp_sync0 {M : cg_M} {P : Nat → Int32} {x y : Int32} (h : ¬ (cg_in x 3 ∧ cg_in y 3 ∧ x ≠ y)) : cg_D yX2_synchronize wsX2_synchronize rmX2_synchronize [.inr (.inr (0, 0, 0, 0)), .inl (x), .inl (y)] (cg_sb M 0 P) (some (.inl (-2))) ((cg_sb M 0 P)) := by
  rcases Classical.em (cg_in x 3) with ⟨f, hf, rfl⟩ | hx
  rcases Classical.em (cg_in y 3) with ⟨t, ht, rfl⟩ | hy
  · refine cg_S_of (cc := cX2_synchronize) (maxL := 5) (ret := (some .int)) (ls0 := [some (.inr (.inr (0, 0, 0, 0))), some (.inl (nI f)), some (.inl (nI t)), none, none]) RX2 rfl (by decide) rfl rfl (Nat.le_of_ble_eq_true rfl) (fun E C X => ?_)
    refine cr_iload_n (pc := 0) C dX2_synchronize_0 rfl ?_
    refine cr_dN (pc := 1) C (sp_isReplica1 hf) rfl gX2_synchronize_X3_isReplica_n67 rfl dX2_synchronize_1 neX3_isReplica isX2_synchronize_X3_isReplica hsX3_isReplica rfl ⟨rfl, rfl, Nat.le_of_ble_eq_true rfl, Nat.le_of_ble_eq_true rfl⟩ (Nat.le_of_ble_eq_true rfl) rfl ?_
    refine cr_if_eq_f (pc := 4) (tgt := 19) C dX2_synchronize_4 (by decide) (by decide) ?_
    refine cr_iload_n (pc := 7) C dX2_synchronize_7 rfl ?_
    refine cr_dN (pc := 8) C (sp_isReplica1 ht) rfl gX2_synchronize_X3_isReplica_n67 rfl dX2_synchronize_8 neX3_isReplica isX2_synchronize_X3_isReplica hsX3_isReplica rfl ⟨rfl, rfl, Nat.le_of_ble_eq_true rfl, Nat.le_of_ble_eq_true rfl⟩ (Nat.le_of_ble_eq_true rfl) rfl ?_
    refine cr_if_eq_f (pc := 11) (tgt := 19) C dX2_synchronize_11 (by decide) (by decide) ?_
    refine cr_iload_n (pc := 14) C dX2_synchronize_14 rfl ?_
    refine cr_iload_n (pc := 15) C dX2_synchronize_15 rfl ?_
    refine cr_icmp_ne_f (pc := 16) (tgt := 22) C dX2_synchronize_16 (by decide) (Classical.not_not.mp (fun z => h ⟨⟨_, hf, rfl⟩, ⟨_, ht, rfl⟩, z⟩)) ?_
    refine cr_bipush (pc := 19) (v := (-2)) C dX2_synchronize_19 (by decide) ?_
    refine cr_ireturn (pc := 21) C X dX2_synchronize_21 ?_
    exact ⟨rfl, rfl⟩
  · refine cg_S_of (cc := cX2_synchronize) (maxL := 5) (ret := (some .int)) (ls0 := [some (.inr (.inr (0, 0, 0, 0))), some (.inl (nI f)), some (.inl (y)), none, none]) RX2 rfl (by decide) rfl rfl (Nat.le_of_ble_eq_true rfl) (fun E C X => ?_)
    refine cr_iload_n (pc := 0) C dX2_synchronize_0 rfl ?_
    refine cr_dN (pc := 1) C (sp_isReplica1 hf) rfl gX2_synchronize_X3_isReplica_n67 rfl dX2_synchronize_1 neX3_isReplica isX2_synchronize_X3_isReplica hsX3_isReplica rfl ⟨rfl, rfl, Nat.le_of_ble_eq_true rfl, Nat.le_of_ble_eq_true rfl⟩ (Nat.le_of_ble_eq_true rfl) rfl ?_
    refine cr_if_eq_f (pc := 4) (tgt := 19) C dX2_synchronize_4 (by decide) (by decide) ?_
    refine cr_iload_n (pc := 7) C dX2_synchronize_7 rfl ?_
    refine cr_dN (pc := 8) C (sp_isReplica0 hy) rfl gX2_synchronize_X3_isReplica_n67 rfl dX2_synchronize_8 neX3_isReplica isX2_synchronize_X3_isReplica hsX3_isReplica rfl ⟨rfl, rfl, Nat.le_of_ble_eq_true rfl, Nat.le_of_ble_eq_true rfl⟩ (Nat.le_of_ble_eq_true rfl) rfl ?_
    refine cr_if_eq_t (pc := 11) (tgt := 19) C dX2_synchronize_11 (by decide) (by decide) ?_
    refine cr_bipush (pc := 19) (v := (-2)) C dX2_synchronize_19 (by decide) ?_
    refine cr_ireturn (pc := 21) C X dX2_synchronize_21 ?_
    exact ⟨rfl, rfl⟩
  · refine cg_S_of (cc := cX2_synchronize) (maxL := 5) (ret := (some .int)) (ls0 := [some (.inr (.inr (0, 0, 0, 0))), some (.inl (x)), some (.inl (y)), none, none]) RX2 rfl (by decide) rfl rfl (Nat.le_of_ble_eq_true rfl) (fun E C X => ?_)
    refine cr_iload_n (pc := 0) C dX2_synchronize_0 rfl ?_
    refine cr_dN (pc := 1) C (sp_isReplica0 hx) rfl gX2_synchronize_X3_isReplica_n67 rfl dX2_synchronize_1 neX3_isReplica isX2_synchronize_X3_isReplica hsX3_isReplica rfl ⟨rfl, rfl, Nat.le_of_ble_eq_true rfl, Nat.le_of_ble_eq_true rfl⟩ (Nat.le_of_ble_eq_true rfl) rfl ?_
    refine cr_if_eq_t (pc := 4) (tgt := 19) C dX2_synchronize_4 (by decide) (by decide) ?_
    refine cr_bipush (pc := 19) (v := (-2)) C dX2_synchronize_19 (by decide) ?_
    refine cr_ireturn (pc := 21) C X dX2_synchronize_21 ?_
    exact ⟨rfl, rfl⟩
