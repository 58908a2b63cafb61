/-! ===== pure words ===== -/
def cg_b (b : Bool) : Int32 := if b then nI 1 else nI 0
def cg_in (x : Int32) (n : Nat) : Prop := ∃ k : Nat, k < n ∧ x = nI k
theorem cg_b01 (b : Bool) : cg_b b = 0 ∨ cg_b b = 1 := by cases b <;> first | exact Or.inl rfl | exact Or.inr rfl
theorem cg_nin {x : Int32} {n : Nat} (h : ¬ cg_in x n) (hn : n < 2147483648) (h0 : ¬ x < nI 0) : nI n ≤ x := by
  rcases pk_ix x (n := n) (by omega) with q | q | q
  · exact absurd q h0
  · exact q
  · exact absurd q h
theorem cg_bitc : ∀ s, s < 16 → ∀ m, m < 4 → ((nI s >>> (nI m &&& 31)) &&& nI 1) = cg_b (Nat.testBit s m) := by decide +kernel
theorem cg_only : ∀ r, r < 3 → nI 1 <<< (nI r &&& 31) = nI (2 ^ r) := by decide +kernel
/-- knows: the write w at replica r -/
def cg_kn (P : Nat → Int32) (r w : Nat) : Bool := decide (P (14 + 5 * w) ≤ P (3 * r + (P (13 + 5 * w)).toNatClampNeg))
def cg_la (P : Nat → Int32) (w o : Nat) : Bool := decide (P (17 + 5 * o) < P (17 + 5 * w)) || (decide (P (17 + 5 * w) = P (17 + 5 * o)) && decide (P (13 + 5 * o) < P (13 + 5 * w)))
def cg_mx (x y : Int32) : Int32 := if x < y then y else x
def cg_g1 (P : Nat → Int32) (s o r : Nat) (a : Int32) : Int32 := if Nat.testBit s r then cg_mx a (P (3 * r + o)) else a
def cg_gc (P : Nat → Int32) (s o : Nat) : Int32 := cg_g1 P s o 2 (cg_g1 P s o 1 (cg_g1 P s o 0 (nI 0)))
/-- the set s covers the vector from place p on -/
def cg_cs (P : Nat → Int32) (s p : Nat) : Bool := decide (P p ≤ cg_gc P s 0) && (decide (P (p + 1) ≤ cg_gc P s 1) && decide (P (p + 2) ≤ cg_gc P s 2))
def cg_h0 (h : Int64) (x : Int32) : Int64 := 31 * h + x.toInt64
def cg_mxh (h : Int64) (f : Nat → Int32) : Nat → Int64
  | 0 => h
  | n + 1 => cg_h0 (cg_mxh h f n) (f n)
theorem cg_clamp {k : Nat} (h : k < 2147483648) : (nI k).toNatClampNeg = k := nI_clamp (by omega)
theorem cg_sb_sb (M : cg_M) (b : Nat) (P P' : Nat → Int32) : cg_sb (cg_sb M b P) b P' = cg_sb M b P' := by
  funext b'
  unfold cg_sb
  split <;> rfl
theorem cg_up_sb (M : cg_M) (b x : Nat) (v : Int32) (P : Nat → Int32) : cg_up (cg_sb M b P) b x v = cg_sb M b (upd P x v) := by
  unfold cg_up
  rw [cg_sb_sb, cg_sb_s]
theorem cg_up_sb0 (M : cg_M) (b x : Nat) (v : Int32) : cg_up M b x v = cg_sb M b (upd (M b) x v) := rfl
theorem cg_sb_id (M : cg_M) (b : Nat) : cg_sb M b (M b) = M := by
  funext b'
  unfold cg_sb
  split
  · rename_i h; rw [h]
  · rfl
theorem cg_us (f : Nat → Int32) (k : Nat) (x : Int32) : upd f k x k = x := by simp [upd]
theorem cg_un {f : Nat → Int32} {k j : Nat} {x : Int32} (h : j ≠ k) : upd f k x j = f j := by simp [upd, h]
