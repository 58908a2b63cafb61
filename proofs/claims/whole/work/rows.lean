section
-- ===== PART A: goes FIRST, ahead of the names: the tables' words, and 'selects' of the private methods out of them =====
/-- a private method of a class that the tables say can be made, by its rows of tables_1 -/
def lw_okq (q : MethodName × Nat) : Prop := (q.1.cls ≠ "java/lang/invoke/MethodHandle" ∧ q.1.cls ≠ "java/lang/invoke/VarHandle") ∧ Cond.instantiable q.1.cls q.2 ∈ tables_1 ∧ Cond.privateMethod q.1 ∈ tables_1 ∧ Cond.instanceMethod q.1 ∈ tables_1
theorem lw_p0 : lw_okq (⟨"ClientGuarantees", "endUndoable", "(I)I"⟩, 4) := ⟨⟨by decide +kernel, by decide +kernel⟩, List.mem_of_getElem? (i := 9) (by decide +kernel), List.mem_of_getElem? (i := 173) (by decide +kernel), List.mem_of_getElem? (i := 174) (by decide +kernel)⟩
theorem lw_p1 : lw_okq (⟨"ClientGuarantees", "counted", "(I)I"⟩, 4) := ⟨⟨by decide +kernel, by decide +kernel⟩, List.mem_of_getElem? (i := 9) (by decide +kernel), List.mem_of_getElem? (i := 182) (by decide +kernel), List.mem_of_getElem? (i := 183) (by decide +kernel)⟩
theorem lw_p2 : lw_okq (⟨"ClientGuarantees$State", "greatestCount", "(II)I"⟩, 12) := ⟨⟨by decide +kernel, by decide +kernel⟩, List.mem_of_getElem? (i := 17) (by decide +kernel), List.mem_of_getElem? (i := 232) (by decide +kernel), List.mem_of_getElem? (i := 233) (by decide +kernel)⟩
theorem lw_p3 : lw_okq (⟨"ClientGuarantees$State", "countBreaches", "(I)V"⟩, 12) := ⟨⟨by decide +kernel, by decide +kernel⟩, List.mem_of_getElem? (i := 17) (by decide +kernel), List.mem_of_getElem? (i := 242) (by decide +kernel), List.mem_of_getElem? (i := 243) (by decide +kernel)⟩
theorem lw_p4 : lw_okq (⟨"ClientGuarantees$State", "knows", "(II)Z"⟩, 12) := ⟨⟨by decide +kernel, by decide +kernel⟩, List.mem_of_getElem? (i := 17) (by decide +kernel), List.mem_of_getElem? (i := 253) (by decide +kernel), List.mem_of_getElem? (i := 254) (by decide +kernel)⟩
theorem lw_p5 : lw_okq (⟨"ClientGuarantees$State", "isLater", "(II)Z"⟩, 12) := ⟨⟨by decide +kernel, by decide +kernel⟩, List.mem_of_getElem? (i := 17) (by decide +kernel), List.mem_of_getElem? (i := 257) (by decide +kernel), List.mem_of_getElem? (i := 258) (by decide +kernel)⟩
theorem lw_p6 : lw_okq (⟨"ClientGuarantees$Script", "accepts", "(I)Z"⟩, 8) := ⟨⟨by decide +kernel, by decide +kernel⟩, List.mem_of_getElem? (i := 89) (by decide +kernel), List.mem_of_getElem? (i := 356) (by decide +kernel), List.mem_of_getElem? (i := 357) (by decide +kernel)⟩
theorem lw_p7 : lw_okq (⟨"ClientGuarantees$Script", "beginsCommand", "(I)Z"⟩, 8) := ⟨⟨by decide +kernel, by decide +kernel⟩, List.mem_of_getElem? (i := 89) (by decide +kernel), List.mem_of_getElem? (i := 360) (by decide +kernel), List.mem_of_getElem? (i := 361) (by decide +kernel)⟩
theorem lw_p8 : lw_okq (⟨"ClientGuarantees$Script", "endsCommand", "()Z"⟩, 8) := ⟨⟨by decide +kernel, by decide +kernel⟩, List.mem_of_getElem? (i := 89) (by decide +kernel), List.mem_of_getElem? (i := 367) (by decide +kernel), List.mem_of_getElem? (i := 368) (by decide +kernel)⟩
theorem lw_p9 : lw_okq (⟨"ClientGuarantees$Script", "takesDigit", "(I)Z"⟩, 8) := ⟨⟨by decide +kernel, by decide +kernel⟩, List.mem_of_getElem? (i := 89) (by decide +kernel), List.mem_of_getElem? (i := 371) (by decide +kernel), List.mem_of_getElem? (i := 372) (by decide +kernel)⟩
theorem lw_p10 : lw_okq (⟨"ClientGuarantees", "runCommand", "(I)I"⟩, 4) := ⟨⟨by decide +kernel, by decide +kernel⟩, List.mem_of_getElem? (i := 9) (by decide +kernel), List.mem_of_getElem? (i := 375) (by decide +kernel), List.mem_of_getElem? (i := 376) (by decide +kernel)⟩
theorem lw_p11 : lw_okq (⟨"ClientGuaranteesModel", "putsAside", "()V"⟩, 10) := ⟨⟨by decide +kernel, by decide +kernel⟩, List.mem_of_getElem? (i := 417) (by decide +kernel), List.mem_of_getElem? (i := 458) (by decide +kernel), List.mem_of_getElem? (i := 459) (by decide +kernel)⟩
theorem lw_p12 : lw_okq (⟨"ClientGuaranteesModel", "doesSet", "(II)I"⟩, 10) := ⟨⟨by decide +kernel, by decide +kernel⟩, List.mem_of_getElem? (i := 417) (by decide +kernel), List.mem_of_getElem? (i := 462) (by decide +kernel), List.mem_of_getElem? (i := 463) (by decide +kernel)⟩
theorem lw_p13 : lw_okq (⟨"ClientGuaranteesModel", "guarantees", "(I)I"⟩, 10) := ⟨⟨by decide +kernel, by decide +kernel⟩, List.mem_of_getElem? (i := 417) (by decide +kernel), List.mem_of_getElem? (i := 474) (by decide +kernel), List.mem_of_getElem? (i := 475) (by decide +kernel)⟩
theorem lw_p14 : lw_okq (⟨"ClientGuaranteesModel", "answered", "(I)I"⟩, 10) := ⟨⟨by decide +kernel, by decide +kernel⟩, List.mem_of_getElem? (i := 417) (by decide +kernel), List.mem_of_getElem? (i := 478) (by decide +kernel), List.mem_of_getElem? (i := 479) (by decide +kernel)⟩
theorem lw_p15 : lw_okq (⟨"ClientGuaranteesModel", "error", "(I)I"⟩, 10) := ⟨⟨by decide +kernel, by decide +kernel⟩, List.mem_of_getElem? (i := 417) (by decide +kernel), List.mem_of_getElem? (i := 482) (by decide +kernel), List.mem_of_getElem? (i := 483) (by decide +kernel)⟩
def lw_privs_1 : List (MethodName × Nat) := [(⟨"ClientGuarantees", "endUndoable", "(I)I"⟩, 4), (⟨"ClientGuarantees", "counted", "(I)I"⟩, 4), (⟨"ClientGuarantees$State", "greatestCount", "(II)I"⟩, 12), (⟨"ClientGuarantees$State", "countBreaches", "(I)V"⟩, 12), (⟨"ClientGuarantees$State", "knows", "(II)Z"⟩, 12), (⟨"ClientGuarantees$State", "isLater", "(II)Z"⟩, 12), (⟨"ClientGuarantees$Script", "accepts", "(I)Z"⟩, 8), (⟨"ClientGuarantees$Script", "beginsCommand", "(I)Z"⟩, 8), (⟨"ClientGuarantees$Script", "endsCommand", "()Z"⟩, 8), (⟨"ClientGuarantees$Script", "takesDigit", "(I)Z"⟩, 8), (⟨"ClientGuarantees", "runCommand", "(I)I"⟩, 4), (⟨"ClientGuaranteesModel", "putsAside", "()V"⟩, 10), (⟨"ClientGuaranteesModel", "doesSet", "(II)I"⟩, 10), (⟨"ClientGuaranteesModel", "guarantees", "(I)I"⟩, 10), (⟨"ClientGuaranteesModel", "answered", "(I)I"⟩, 10), (⟨"ClientGuaranteesModel", "error", "(I)I"⟩, 10)]
theorem lw_r1 : ∀ q ∈ lw_privs_1, lw_okq q := List.forall_mem_cons.mpr ⟨lw_p0, List.forall_mem_cons.mpr ⟨lw_p1, List.forall_mem_cons.mpr ⟨lw_p2, List.forall_mem_cons.mpr ⟨lw_p3, List.forall_mem_cons.mpr ⟨lw_p4, List.forall_mem_cons.mpr ⟨lw_p5, List.forall_mem_cons.mpr ⟨lw_p6, List.forall_mem_cons.mpr ⟨lw_p7, List.forall_mem_cons.mpr ⟨lw_p8, List.forall_mem_cons.mpr ⟨lw_p9, List.forall_mem_cons.mpr ⟨lw_p10, List.forall_mem_cons.mpr ⟨lw_p11, List.forall_mem_cons.mpr ⟨lw_p12, List.forall_mem_cons.mpr ⟨lw_p13, List.forall_mem_cons.mpr ⟨lw_p14, List.forall_mem_cons.mpr ⟨lw_p15, fun _ h => absurd h List.not_mem_nil⟩⟩⟩⟩⟩⟩⟩⟩⟩⟩⟩⟩⟩⟩⟩⟩
theorem lw_p16 : lw_okq (⟨"ClientGuaranteesModel", "savesAside", "()V"⟩, 10) := ⟨⟨by decide +kernel, by decide +kernel⟩, List.mem_of_getElem? (i := 417) (by decide +kernel), List.mem_of_getElem? (i := 486) (by decide +kernel), List.mem_of_getElem? (i := 487) (by decide +kernel)⟩
theorem lw_p17 : lw_okq (⟨"ClientGuaranteesModel", "doesForget", "(I)I"⟩, 10) := ⟨⟨by decide +kernel, by decide +kernel⟩, List.mem_of_getElem? (i := 417) (by decide +kernel), List.mem_of_getElem? (i := 494) (by decide +kernel), List.mem_of_getElem? (i := 495) (by decide +kernel)⟩
theorem lw_p18 : lw_okq (⟨"ClientGuaranteesModel", "doesRead", "(III)I"⟩, 10) := ⟨⟨by decide +kernel, by decide +kernel⟩, List.mem_of_getElem? (i := 417) (by decide +kernel), List.mem_of_getElem? (i := 514) (by decide +kernel), List.mem_of_getElem? (i := 515) (by decide +kernel)⟩
theorem lw_p19 : lw_okq (⟨"ClientGuaranteesModel", "breachesOfRead", "(II)I"⟩, 10) := ⟨⟨by decide +kernel, by decide +kernel⟩, List.mem_of_getElem? (i := 417) (by decide +kernel), List.mem_of_getElem? (i := 521) (by decide +kernel), List.mem_of_getElem? (i := 522) (by decide +kernel)⟩
theorem lw_p20 : lw_okq (⟨"ClientGuaranteesModel", "covers", "(II)Z"⟩, 10) := ⟨⟨by decide +kernel, by decide +kernel⟩, List.mem_of_getElem? (i := 417) (by decide +kernel), List.mem_of_getElem? (i := 525) (by decide +kernel), List.mem_of_getElem? (i := 526) (by decide +kernel)⟩
theorem lw_p21 : lw_okq (⟨"ClientGuaranteesModel", "countsBreaches", "(I)V"⟩, 10) := ⟨⟨by decide +kernel, by decide +kernel⟩, List.mem_of_getElem? (i := 417) (by decide +kernel), List.mem_of_getElem? (i := 529) (by decide +kernel), List.mem_of_getElem? (i := 530) (by decide +kernel)⟩
theorem lw_p22 : lw_okq (⟨"ClientGuaranteesModel", "valueAt", "(II)I"⟩, 10) := ⟨⟨by decide +kernel, by decide +kernel⟩, List.mem_of_getElem? (i := 417) (by decide +kernel), List.mem_of_getElem? (i := 533) (by decide +kernel), List.mem_of_getElem? (i := 534) (by decide +kernel)⟩
theorem lw_p23 : lw_okq (⟨"ClientGuaranteesModel", "isLater", "(II)Z"⟩, 10) := ⟨⟨by decide +kernel, by decide +kernel⟩, List.mem_of_getElem? (i := 417) (by decide +kernel), List.mem_of_getElem? (i := 537) (by decide +kernel), List.mem_of_getElem? (i := 538) (by decide +kernel)⟩
theorem lw_p24 : lw_okq (⟨"ClientGuaranteesModel", "doesWrite", "(IIII)I"⟩, 10) := ⟨⟨by decide +kernel, by decide +kernel⟩, List.mem_of_getElem? (i := 417) (by decide +kernel), List.mem_of_getElem? (i := 545) (by decide +kernel), List.mem_of_getElem? (i := 546) (by decide +kernel)⟩
theorem lw_p25 : lw_okq (⟨"ClientGuaranteesModel", "breachesOfWrite", "(II)I"⟩, 10) := ⟨⟨by decide +kernel, by decide +kernel⟩, List.mem_of_getElem? (i := 417) (by decide +kernel), List.mem_of_getElem? (i := 550) (by decide +kernel), List.mem_of_getElem? (i := 551) (by decide +kernel)⟩
theorem lw_p26 : lw_okq (⟨"ClientGuaranteesModel", "doesSync", "(II)I"⟩, 10) := ⟨⟨by decide +kernel, by decide +kernel⟩, List.mem_of_getElem? (i := 417) (by decide +kernel), List.mem_of_getElem? (i := 558) (by decide +kernel), List.mem_of_getElem? (i := 559) (by decide +kernel)⟩
theorem lw_p27 : lw_okq (⟨"ClientGuaranteesModel", "isReadBy", "(II)Z"⟩, 10) := ⟨⟨by decide +kernel, by decide +kernel⟩, List.mem_of_getElem? (i := 417) (by decide +kernel), List.mem_of_getElem? (i := 585) (by decide +kernel), List.mem_of_getElem? (i := 586) (by decide +kernel)⟩
theorem lw_p28 : lw_okq (⟨"ClientGuaranteesModel", "isCoveredBy", "(II)Z"⟩, 10) := ⟨⟨by decide +kernel, by decide +kernel⟩, List.mem_of_getElem? (i := 417) (by decide +kernel), List.mem_of_getElem? (i := 589) (by decide +kernel), List.mem_of_getElem? (i := 590) (by decide +kernel)⟩
theorem lw_p29 : lw_okq (⟨"ClientGuaranteesModel", "takesCommand", "()Z"⟩, 10) := ⟨⟨by decide +kernel, by decide +kernel⟩, List.mem_of_getElem? (i := 417) (by decide +kernel), List.mem_of_getElem? (i := 626) (by decide +kernel), List.mem_of_getElem? (i := 627) (by decide +kernel)⟩
theorem lw_p30 : lw_okq (⟨"ClientGuaranteesModel", "here", "()I"⟩, 10) := ⟨⟨by decide +kernel, by decide +kernel⟩, List.mem_of_getElem? (i := 417) (by decide +kernel), List.mem_of_getElem? (i := 630) (by decide +kernel), List.mem_of_getElem? (i := 631) (by decide +kernel)⟩
theorem lw_p31 : lw_okq (⟨"ClientGuaranteesModel", "takesNumber", "(I)Z"⟩, 10) := ⟨⟨by decide +kernel, by decide +kernel⟩, List.mem_of_getElem? (i := 417) (by decide +kernel), List.mem_of_getElem? (i := 637) (by decide +kernel), List.mem_of_getElem? (i := 638) (by decide +kernel)⟩
def lw_privs_2 : List (MethodName × Nat) := [(⟨"ClientGuaranteesModel", "savesAside", "()V"⟩, 10), (⟨"ClientGuaranteesModel", "doesForget", "(I)I"⟩, 10), (⟨"ClientGuaranteesModel", "doesRead", "(III)I"⟩, 10), (⟨"ClientGuaranteesModel", "breachesOfRead", "(II)I"⟩, 10), (⟨"ClientGuaranteesModel", "covers", "(II)Z"⟩, 10), (⟨"ClientGuaranteesModel", "countsBreaches", "(I)V"⟩, 10), (⟨"ClientGuaranteesModel", "valueAt", "(II)I"⟩, 10), (⟨"ClientGuaranteesModel", "isLater", "(II)Z"⟩, 10), (⟨"ClientGuaranteesModel", "doesWrite", "(IIII)I"⟩, 10), (⟨"ClientGuaranteesModel", "breachesOfWrite", "(II)I"⟩, 10), (⟨"ClientGuaranteesModel", "doesSync", "(II)I"⟩, 10), (⟨"ClientGuaranteesModel", "isReadBy", "(II)Z"⟩, 10), (⟨"ClientGuaranteesModel", "isCoveredBy", "(II)Z"⟩, 10), (⟨"ClientGuaranteesModel", "takesCommand", "()Z"⟩, 10), (⟨"ClientGuaranteesModel", "here", "()I"⟩, 10), (⟨"ClientGuaranteesModel", "takesNumber", "(I)Z"⟩, 10)]
theorem lw_r2 : ∀ q ∈ lw_privs_2, lw_okq q := List.forall_mem_cons.mpr ⟨lw_p16, List.forall_mem_cons.mpr ⟨lw_p17, List.forall_mem_cons.mpr ⟨lw_p18, List.forall_mem_cons.mpr ⟨lw_p19, List.forall_mem_cons.mpr ⟨lw_p20, List.forall_mem_cons.mpr ⟨lw_p21, List.forall_mem_cons.mpr ⟨lw_p22, List.forall_mem_cons.mpr ⟨lw_p23, List.forall_mem_cons.mpr ⟨lw_p24, List.forall_mem_cons.mpr ⟨lw_p25, List.forall_mem_cons.mpr ⟨lw_p26, List.forall_mem_cons.mpr ⟨lw_p27, List.forall_mem_cons.mpr ⟨lw_p28, List.forall_mem_cons.mpr ⟨lw_p29, List.forall_mem_cons.mpr ⟨lw_p30, List.forall_mem_cons.mpr ⟨lw_p31, fun _ h => absurd h List.not_mem_nil⟩⟩⟩⟩⟩⟩⟩⟩⟩⟩⟩⟩⟩⟩⟩⟩
theorem lw_p32 : lw_okq (⟨"ClientGuaranteesModel", "isDigit", "()Z"⟩, 10) := ⟨⟨by decide +kernel, by decide +kernel⟩, List.mem_of_getElem? (i := 417) (by decide +kernel), List.mem_of_getElem? (i := 643) (by decide +kernel), List.mem_of_getElem? (i := 644) (by decide +kernel)⟩
theorem lw_p33 : lw_okq (⟨"ClientGuaranteesModel", "doesCommand", "()I"⟩, 10) := ⟨⟨by decide +kernel, by decide +kernel⟩, List.mem_of_getElem? (i := 417) (by decide +kernel), List.mem_of_getElem? (i := 647) (by decide +kernel), List.mem_of_getElem? (i := 648) (by decide +kernel)⟩
def lw_privs_3 : List (MethodName × Nat) := [(⟨"ClientGuaranteesModel", "isDigit", "()Z"⟩, 10), (⟨"ClientGuaranteesModel", "doesCommand", "()I"⟩, 10)]
theorem lw_r3 : ∀ q ∈ lw_privs_3, lw_okq q := List.forall_mem_cons.mpr ⟨lw_p32, List.forall_mem_cons.mpr ⟨lw_p33, fun _ h => absurd h List.not_mem_nil⟩⟩
def lw_privs : List (MethodName × Nat) := lw_privs_1 ++ (lw_privs_2 ++ (lw_privs_3))
def lw_tbl : List Cond := k2_sels lw_privs ++ tables_1
theorem lw_privs_ok : ∀ q ∈ lw_privs, lw_okq q := by
  show ∀ q ∈ lw_privs_1 ++ (lw_privs_2 ++ (lw_privs_3)), lw_okq q
  exact List.forall_mem_append.mpr ⟨lw_r1, List.forall_mem_append.mpr ⟨lw_r2, lw_r3⟩⟩
end
section
/-! ===== BEGIN words of one list among another's, by their places ===== -/
theorem goodIn_r {big : List Cond} (ws : List Cond) (ps : List Nat) (hp : ws = ps.filterMap (fun i => big[i]?)) (h : ws.all goodWord = true) : GoodIn big ws := by
  intro w hw
  have h1 := List.all_eq_true.mp h w hw
  rw [hp] at hw
  obtain ⟨i, -, hi⟩ := List.mem_filterMap.mp hw
  have hm : w ∈ big := by first | exact List.mem_of_getElem? hi | exact List.getElem?_mem hi
  exact ⟨hm, good_of_word h1⟩
theorem goodIn_app {big a b : List Cond} (ha : GoodIn big a) (hb : GoodIn big b) : GoodIn big (a ++ b) := fun w h => (List.mem_append.mp h).elim (ha w) (hb w)
theorem goodIn_ca {big a b : List Cond} {c : Cond} (ha : GoodIn big (c :: a)) (hb : GoodIn big b) : GoodIn big (c :: (a ++ b)) := fun w h => (List.mem_cons.mp h).elim (fun e => ha w (List.mem_cons.mpr (Or.inl e))) (fun h => (List.mem_append.mp h).elim (fun h => ha w (List.mem_cons.mpr (Or.inr h))) (hb w))
theorem goodIn_sub {big ws : List Cond} (hm : ∀ w ∈ ws, w ∈ big) (h : ws.all goodWord = true) : GoodIn big ws := fun w hw => ⟨hm w hw, good_of_word (List.all_eq_true.mp h w hw)⟩
/-! ===== END ===== -/

/-! ===== BEGIN printed: names, fields, word lists, decode rows ===== -/
def RX0 : String := "ClientGuarantees$History"
def TX0 : u_T := fun k => match k with
  | 0 => ("ClientGuarantees$History", "slots", "[LClientGuarantees$State;", true)
  | 1 => ("ClientGuarantees$History", "free", "I", false)
  | _ => ("ClientGuarantees$History", "size", "I", false)
def tyX0 : Nat → FieldType := fun k => match k with
  | 0 => .array (.object "ClientGuarantees$State")
  | 1 => .int
  | _ => .int
abbrev wsX00 : List Cond := u_ws RX0 TX0 3
theorem nmX0 : ∀ a, a < 3 → ∀ b, b < 3 → a ≠ b → (TX0 a).2.1 ≠ (TX0 b).2.1 := by decide +kernel
theorem tyX0_ok : ∀ k, k < 3 → parseFieldDescriptor (TX0 k).2.2.1 = some (tyX0 k) := by decide +kernel
abbrev cX0_init : ByteArray := prog_2_method_1_code
def yX0_init : MethodName := ⟨RX0, "<init>", "()V"⟩
abbrev cX0_prepare : ByteArray := prog_2_method_2_code
def yX0_prepare : MethodName := ⟨RX0, "prepare", "(LClientGuarantees$State;)V"⟩
abbrev cX0_restorePrepared : ByteArray := prog_2_method_3_code
def yX0_restorePrepared : MethodName := ⟨RX0, "restorePrepared", "(LClientGuarantees$State;)V"⟩
abbrev cX0_keepPrepared : ByteArray := prog_2_method_4_code
def yX0_keepPrepared : MethodName := ⟨RX0, "keepPrepared", "()V"⟩
abbrev cX0_restoreNewest : ByteArray := prog_2_method_5_code
def yX0_restoreNewest : MethodName := ⟨RX0, "restoreNewest", "(LClientGuarantees$State;)Z"⟩
def RX1 : String := "ClientGuarantees$Script"
def TX1 : u_T := fun k => match k with
  | 0 => ("ClientGuarantees$Script", "text", "[I", true)
  | 1 => ("ClientGuarantees$Script", "length", "I", false)
  | 2 => ("ClientGuarantees$Script", "letters", "[I", true)
  | 3 => ("ClientGuarantees$Script", "numbers", "[[I", true)
  | 4 => ("ClientGuarantees$Script", "commands", "I", false)
  | 5 => ("ClientGuarantees$Script", "inCommand", "Z", false)
  | 6 => ("ClientGuarantees$Script", "numbersBegun", "I", false)
  | _ => ("ClientGuarantees$Script", "digits", "I", false)
def tyX1 : Nat → FieldType := fun k => match k with
  | 0 => .array .int
  | 1 => .int
  | 2 => .array .int
  | 3 => .array (.array .int)
  | 4 => .int
  | 5 => .boolean
  | 6 => .int
  | _ => .int
abbrev wsX10 : List Cond := u_ws RX1 TX1 8
theorem nmX1 : ∀ a, a < 8 → ∀ b, b < 8 → a ≠ b → (TX1 a).2.1 ≠ (TX1 b).2.1 := by decide +kernel
theorem tyX1_ok : ∀ k, k < 8 → parseFieldDescriptor (TX1 k).2.2.1 = some (tyX1 k) := by decide +kernel
abbrev cX1_init : ByteArray := prog_3_method_1_code
def yX1_init : MethodName := ⟨RX1, "<init>", "()V"⟩
abbrev cX1_add : ByteArray := prog_3_method_2_code
def yX1_add : MethodName := ⟨RX1, "add", "(I)I"⟩
abbrev cX1_parse : ByteArray := prog_3_method_3_code
def yX1_parse : MethodName := ⟨RX1, "parse", "()I"⟩
abbrev cX1_accepts : ByteArray := prog_3_method_4_code
def yX1_accepts : MethodName := ⟨RX1, "accepts", "(I)Z"⟩
abbrev cX1_beginsCommand : ByteArray := prog_3_method_5_code
def yX1_beginsCommand : MethodName := ⟨RX1, "beginsCommand", "(I)Z"⟩
abbrev cX1_endsCommand : ByteArray := prog_3_method_6_code
def yX1_endsCommand : MethodName := ⟨RX1, "endsCommand", "()Z"⟩
abbrev cX1_takesDigit : ByteArray := prog_3_method_7_code
def yX1_takesDigit : MethodName := ⟨RX1, "takesDigit", "(I)Z"⟩
abbrev cX1_numbersAfter : ByteArray := prog_3_method_8_code
def yX1_numbersAfter : MethodName := ⟨RX1, "numbersAfter", "(I)I"⟩
def RX2 : String := "ClientGuarantees$State"
def TX2 : u_T := fun k => match k with
  | 0 => ("ClientGuarantees$State", "writeTotal", "I", false)
  | 1 => ("ClientGuarantees$State", "origins", "[I", true)
  | 2 => ("ClientGuarantees$State", "sequences", "[I", true)
  | 3 => ("ClientGuarantees$State", "keys", "[I", true)
  | 4 => ("ClientGuarantees$State", "values", "[I", true)
  | 5 => ("ClientGuarantees$State", "timestamps", "[I", true)
  | 6 => ("ClientGuarantees$State", "counts", "[[I", true)
  | 7 => ("ClientGuarantees$State", "clocks", "[I", true)
  | 8 => ("ClientGuarantees$State", "guaranteeSets", "[I", true)
  | 9 => ("ClientGuarantees$State", "readVectors", "[[I", true)
  | 10 => ("ClientGuarantees$State", "writeVectors", "[[I", true)
  | _ => ("ClientGuarantees$State", "breachCounts", "[I", true)
def tyX2 : Nat → FieldType := fun k => match k with
  | 0 => .int
  | 1 => .array .int
  | 2 => .array .int
  | 3 => .array .int
  | 4 => .array .int
  | 5 => .array .int
  | 6 => .array (.array .int)
  | 7 => .array .int
  | 8 => .array .int
  | 9 => .array (.array .int)
  | 10 => .array (.array .int)
  | _ => .array .int
abbrev wsX20 : List Cond := u_ws RX2 TX2 12
theorem nmX2 : ∀ a, a < 12 → ∀ b, b < 12 → a ≠ b → (TX2 a).2.1 ≠ (TX2 b).2.1 := by decide +kernel
theorem tyX2_ok : ∀ k, k < 12 → parseFieldDescriptor (TX2 k).2.2.1 = some (tyX2 k) := by decide +kernel
abbrev cX2_init : ByteArray := prog_4_method_1_code
def yX2_init : MethodName := ⟨RX2, "<init>", "()V"⟩
abbrev cX2_copyFrom : ByteArray := prog_4_method_2_code
def yX2_copyFrom : MethodName := ⟨RX2, "copyFrom", "(LClientGuarantees$State;)V"⟩
abbrev cX2_changeGuarantees : ByteArray := prog_4_method_3_code
def yX2_changeGuarantees : MethodName := ⟨RX2, "changeGuarantees", "(II)I"⟩
abbrev cX2_clearVectors : ByteArray := prog_4_method_4_code
def yX2_clearVectors : MethodName := ⟨RX2, "clearVectors", "(I)I"⟩
abbrev cX2_readKey : ByteArray := prog_4_method_5_code
def yX2_readKey : MethodName := ⟨RX2, "readKey", "(III)I"⟩
abbrev cX2_writeKey : ByteArray := prog_4_method_6_code
def yX2_writeKey : MethodName := ⟨RX2, "writeKey", "(IIII)I"⟩
abbrev cX2_synchronize : ByteArray := prog_4_method_7_code
def yX2_synchronize : MethodName := ⟨RX2, "synchronize", "(II)I"⟩
abbrev cX2_isReadAllowed : ByteArray := prog_4_method_8_code
def yX2_isReadAllowed : MethodName := ⟨RX2, "isReadAllowed", "(II)Z"⟩
abbrev cX2_isWriteAllowed : ByteArray := prog_4_method_9_code
def yX2_isWriteAllowed : MethodName := ⟨RX2, "isWriteAllowed", "(II)Z"⟩
abbrev cX2_unmetByRead : ByteArray := prog_4_method_10_code
def yX2_unmetByRead : MethodName := ⟨RX2, "unmetByRead", "(II)I"⟩
abbrev cX2_unmetByWrite : ByteArray := prog_4_method_11_code
def yX2_unmetByWrite : MethodName := ⟨RX2, "unmetByWrite", "(II)I"⟩
abbrev cX2_covers : ByteArray := prog_4_method_12_code
def yX2_covers : MethodName := ⟨RX2, "covers", "(I[I)Z"⟩
abbrev cX2_greatestCount : ByteArray := prog_4_method_13_code
def yX2_greatestCount : MethodName := ⟨RX2, "greatestCount", "(II)I"⟩
abbrev cX2_valueAt : ByteArray := prog_4_method_14_code
def yX2_valueAt : MethodName := ⟨RX2, "valueAt", "(II)I"⟩
abbrev cX2_knows : ByteArray := prog_4_method_15_code
def yX2_knows : MethodName := ⟨RX2, "knows", "(II)Z"⟩
abbrev cX2_isLater : ByteArray := prog_4_method_16_code
def yX2_isLater : MethodName := ⟨RX2, "isLater", "(II)Z"⟩
abbrev cX2_countBreaches : ByteArray := prog_4_method_17_code
def yX2_countBreaches : MethodName := ⟨RX2, "countBreaches", "(I)V"⟩
abbrev cX2_mixInto : ByteArray := prog_4_method_18_code
def yX2_mixInto : MethodName := ⟨RX2, "mixInto", "(J)J"⟩
abbrev cX2_merge : ByteArray := prog_4_method_19_code
def yX2_merge : MethodName := ⟨RX2, "merge", "([I[I)V"⟩
abbrev cX2_copyRow : ByteArray := prog_4_method_20_code
def yX2_copyRow : MethodName := ⟨RX2, "copyRow", "([I[I)V"⟩
abbrev cX2_copyRows : ByteArray := prog_4_method_21_code
def yX2_copyRows : MethodName := ⟨RX2, "copyRows", "([[I[[I)V"⟩
def RX3 : String := "ClientGuarantees"
def TX3 : u_T := fun k => match k with
  | 0 => ("ClientGuarantees", "state", "LClientGuarantees$State;", true)
  | 1 => ("ClientGuarantees", "history", "LClientGuarantees$History;", true)
  | 2 => ("ClientGuarantees", "script", "LClientGuarantees$Script;", true)
  | _ => ("ClientGuarantees", "errors", "[I", true)
def tyX3 : Nat → FieldType := fun k => match k with
  | 0 => .object "ClientGuarantees$State"
  | 1 => .object "ClientGuarantees$History"
  | 2 => .object "ClientGuarantees$Script"
  | _ => .array .int
abbrev wsX30 : List Cond := u_ws RX3 TX3 4
theorem nmX3 : ∀ a, a < 4 → ∀ b, b < 4 → a ≠ b → (TX3 a).2.1 ≠ (TX3 b).2.1 := by decide +kernel
theorem tyX3_ok : ∀ k, k < 4 → parseFieldDescriptor (TX3 k).2.2.1 = some (tyX3 k) := by decide +kernel
abbrev cX3_init : ByteArray := prog_1_method_1_code
def yX3_init : MethodName := ⟨RX3, "<init>", "()V"⟩
abbrev cX3_setGuarantees : ByteArray := prog_1_method_2_code
def yX3_setGuarantees : MethodName := ⟨RX3, "setGuarantees", "(II)I"⟩
abbrev cX3_forget : ByteArray := prog_1_method_3_code
def yX3_forget : MethodName := ⟨RX3, "forget", "(I)I"⟩
abbrev cX3_readCount : ByteArray := prog_1_method_4_code
def yX3_readCount : MethodName := ⟨RX3, "readCount", "(II)I"⟩
abbrev cX3_writeCount : ByteArray := prog_1_method_5_code
def yX3_writeCount : MethodName := ⟨RX3, "writeCount", "(II)I"⟩
abbrev cX3_read : ByteArray := prog_1_method_6_code
def yX3_read : MethodName := ⟨RX3, "read", "(III)I"⟩
abbrev cX3_write : ByteArray := prog_1_method_7_code
def yX3_write : MethodName := ⟨RX3, "write", "(IIII)I"⟩
abbrev cX3_sync : ByteArray := prog_1_method_8_code
def yX3_sync : MethodName := ⟨RX3, "sync", "(II)I"⟩
abbrev cX3_readBreaches : ByteArray := prog_1_method_9_code
def yX3_readBreaches : MethodName := ⟨RX3, "readBreaches", "(II)I"⟩
abbrev cX3_writeBreaches : ByteArray := prog_1_method_10_code
def yX3_writeBreaches : MethodName := ⟨RX3, "writeBreaches", "(II)I"⟩
abbrev cX3_readableReplica : ByteArray := prog_1_method_11_code
def yX3_readableReplica : MethodName := ⟨RX3, "readableReplica", "(I)I"⟩
abbrev cX3_writableReplica : ByteArray := prog_1_method_12_code
def yX3_writableReplica : MethodName := ⟨RX3, "writableReplica", "(I)I"⟩
abbrev cX3_syncsForRead : ByteArray := prog_1_method_13_code
def yX3_syncsForRead : MethodName := ⟨RX3, "syncsForRead", "(II)I"⟩
abbrev cX3_count : ByteArray := prog_1_method_14_code
def yX3_count : MethodName := ⟨RX3, "count", "(II)I"⟩
abbrev cX3_clock : ByteArray := prog_1_method_15_code
def yX3_clock : MethodName := ⟨RX3, "clock", "(I)I"⟩
abbrev cX3_peek : ByteArray := prog_1_method_16_code
def yX3_peek : MethodName := ⟨RX3, "peek", "(II)I"⟩
abbrev cX3_compare : ByteArray := prog_1_method_17_code
def yX3_compare : MethodName := ⟨RX3, "compare", "(II)I"⟩
abbrev cX3_breaches : ByteArray := prog_1_method_18_code
def yX3_breaches : MethodName := ⟨RX3, "breaches", "(I)I"⟩
abbrev cX3_append : ByteArray := prog_1_method_19_code
def yX3_append : MethodName := ⟨RX3, "append", "(I)I"⟩
abbrev cX3_clearText : ByteArray := prog_1_method_20_code
def yX3_clearText : MethodName := ⟨RX3, "clearText", "()I"⟩
abbrev cX3_execute : ByteArray := prog_1_method_21_code
def yX3_execute : MethodName := ⟨RX3, "execute", "()I"⟩
abbrev cX3_undo : ByteArray := prog_1_method_22_code
def yX3_undo : MethodName := ⟨RX3, "undo", "()I"⟩
abbrev cX3_errorCount : ByteArray := prog_1_method_23_code
def yX3_errorCount : MethodName := ⟨RX3, "errorCount", "(I)I"⟩
abbrev cX3_writes : ByteArray := prog_1_method_24_code
def yX3_writes : MethodName := ⟨RX3, "writes", "()I"⟩
abbrev cX3_digest : ByteArray := prog_1_method_25_code
def yX3_digest : MethodName := ⟨RX3, "digest", "()J"⟩
abbrev cX3_runCommand : ByteArray := prog_1_method_26_code
def yX3_runCommand : MethodName := ⟨RX3, "runCommand", "(I)I"⟩
abbrev cX3_endUndoable : ByteArray := prog_1_method_27_code
def yX3_endUndoable : MethodName := ⟨RX3, "endUndoable", "(I)I"⟩
abbrev cX3_counted : ByteArray := prog_1_method_28_code
def yX3_counted : MethodName := ⟨RX3, "counted", "(I)I"⟩
abbrev cX3_isErrorCode : ByteArray := prog_1_method_29_code
def yX3_isErrorCode : MethodName := ⟨RX3, "isErrorCode", "(I)Z"⟩
abbrev cX3_isBelow : ByteArray := prog_1_method_30_code
def yX3_isBelow : MethodName := ⟨RX3, "isBelow", "(II)Z"⟩
abbrev cX3_isClient : ByteArray := prog_1_method_31_code
def yX3_isClient : MethodName := ⟨RX3, "isClient", "(I)Z"⟩
abbrev cX3_isReplica : ByteArray := prog_1_method_32_code
def yX3_isReplica : MethodName := ⟨RX3, "isReplica", "(I)Z"⟩
abbrev cX3_isKey : ByteArray := prog_1_method_33_code
def yX3_isKey : MethodName := ⟨RX3, "isKey", "(I)Z"⟩
abbrev cX3_only : ByteArray := prog_1_method_34_code
def yX3_only : MethodName := ⟨RX3, "only", "(I)I"⟩
abbrev cX3_contains : ByteArray := prog_1_method_35_code
def yX3_contains : MethodName := ⟨RX3, "contains", "(II)Z"⟩
abbrev cX3_mix : ByteArray := prog_1_method_36_code
def yX3_mix : MethodName := ⟨RX3, "mix", "(JI)J"⟩
abbrev cX3_mixAll : ByteArray := prog_1_method_37_code
def yX3_mixAll : MethodName := ⟨RX3, "mixAll", "(J[I)J"⟩
def RX4 : String := "ClientGuaranteesModel"
def TX4 : u_T := fun k => match k with
  | 0 => ("ClientGuaranteesModel", "all", "[I", true)
  | 1 => ("ClientGuaranteesModel", "saved", "[I", true)
  | 2 => ("ClientGuaranteesModel", "savedMany", "I", false)
  | 3 => ("ClientGuaranteesModel", "aside", "[I", true)
  | 4 => ("ClientGuaranteesModel", "errors", "[I", true)
  | 5 => ("ClientGuaranteesModel", "text", "[I", true)
  | 6 => ("ClientGuaranteesModel", "textLong", "I", false)
  | 7 => ("ClientGuaranteesModel", "at", "I", false)
  | 8 => ("ClientGuaranteesModel", "numbers", "[I", true)
  | _ => ("ClientGuaranteesModel", "command", "I", false)
def tyX4 : Nat → FieldType := fun k => match k with
  | 0 => .array .int
  | 1 => .array .int
  | 2 => .int
  | 3 => .array .int
  | 4 => .array .int
  | 5 => .array .int
  | 6 => .int
  | 7 => .int
  | 8 => .array .int
  | _ => .int
abbrev wsX40 : List Cond := u_ws RX4 TX4 10
theorem nmX4 : ∀ a, a < 10 → ∀ b, b < 10 → a ≠ b → (TX4 a).2.1 ≠ (TX4 b).2.1 := by decide +kernel
theorem tyX4_ok : ∀ k, k < 10 → parseFieldDescriptor (TX4 k).2.2.1 = some (tyX4 k) := by decide +kernel
abbrev cX4_init : ByteArray := prog_6_method_1_code
def yX4_init : MethodName := ⟨RX4, "<init>", "()V"⟩
abbrev cX4_in : ByteArray := prog_6_method_3_code
def yX4_in : MethodName := ⟨RX4, "in", "(JJJ)Z"⟩
abbrev cX4_error : ByteArray := prog_6_method_4_code
def yX4_error : MethodName := ⟨RX4, "error", "(I)I"⟩
abbrev cX4_answered : ByteArray := prog_6_method_5_code
def yX4_answered : MethodName := ⟨RX4, "answered", "(I)I"⟩
abbrev cX4_putsAside : ByteArray := prog_6_method_6_code
def yX4_putsAside : MethodName := ⟨RX4, "putsAside", "()V"⟩
abbrev cX4_savesAside : ByteArray := prog_6_method_7_code
def yX4_savesAside : MethodName := ⟨RX4, "savesAside", "()V"⟩
abbrev cX4_isClient : ByteArray := prog_6_method_8_code
def yX4_isClient : MethodName := ⟨RX4, "isClient", "(I)Z"⟩
abbrev cX4_isReplica : ByteArray := prog_6_method_9_code
def yX4_isReplica : MethodName := ⟨RX4, "isReplica", "(I)Z"⟩
abbrev cX4_isKey : ByteArray := prog_6_method_10_code
def yX4_isKey : MethodName := ⟨RX4, "isKey", "(I)Z"⟩
abbrev cX4_guarantees : ByteArray := prog_6_method_11_code
def yX4_guarantees : MethodName := ⟨RX4, "guarantees", "(I)I"⟩
abbrev cX4_doesSet : ByteArray := prog_6_method_12_code
def yX4_doesSet : MethodName := ⟨RX4, "doesSet", "(II)I"⟩
abbrev cX4_setGuarantees : ByteArray := prog_6_method_13_code
def yX4_setGuarantees : MethodName := ⟨RX4, "setGuarantees", "(II)I"⟩
abbrev cX4_doesForget : ByteArray := prog_6_method_14_code
def yX4_doesForget : MethodName := ⟨RX4, "doesForget", "(I)I"⟩
abbrev cX4_forget : ByteArray := prog_6_method_15_code
def yX4_forget : MethodName := ⟨RX4, "forget", "(I)I"⟩
abbrev cX4_readCount : ByteArray := prog_6_method_16_code
def yX4_readCount : MethodName := ⟨RX4, "readCount", "(II)I"⟩
abbrev cX4_writeCount : ByteArray := prog_6_method_17_code
def yX4_writeCount : MethodName := ⟨RX4, "writeCount", "(II)I"⟩
abbrev cX4_covers : ByteArray := prog_6_method_18_code
def yX4_covers : MethodName := ⟨RX4, "covers", "(II)Z"⟩
abbrev cX4_breachesOfRead : ByteArray := prog_6_method_19_code
def yX4_breachesOfRead : MethodName := ⟨RX4, "breachesOfRead", "(II)I"⟩
abbrev cX4_breachesOfWrite : ByteArray := prog_6_method_20_code
def yX4_breachesOfWrite : MethodName := ⟨RX4, "breachesOfWrite", "(II)I"⟩
abbrev cX4_countsBreaches : ByteArray := prog_6_method_21_code
def yX4_countsBreaches : MethodName := ⟨RX4, "countsBreaches", "(I)V"⟩
abbrev cX4_isLater : ByteArray := prog_6_method_22_code
def yX4_isLater : MethodName := ⟨RX4, "isLater", "(II)Z"⟩
abbrev cX4_valueAt : ByteArray := prog_6_method_23_code
def yX4_valueAt : MethodName := ⟨RX4, "valueAt", "(II)I"⟩
abbrev cX4_doesRead : ByteArray := prog_6_method_24_code
def yX4_doesRead : MethodName := ⟨RX4, "doesRead", "(III)I"⟩
abbrev cX4_read : ByteArray := prog_6_method_25_code
def yX4_read : MethodName := ⟨RX4, "read", "(III)I"⟩
abbrev cX4_doesWrite : ByteArray := prog_6_method_26_code
def yX4_doesWrite : MethodName := ⟨RX4, "doesWrite", "(IIII)I"⟩
abbrev cX4_write : ByteArray := prog_6_method_27_code
def yX4_write : MethodName := ⟨RX4, "write", "(IIII)I"⟩
abbrev cX4_doesSync : ByteArray := prog_6_method_28_code
def yX4_doesSync : MethodName := ⟨RX4, "doesSync", "(II)I"⟩
abbrev cX4_sync : ByteArray := prog_6_method_29_code
def yX4_sync : MethodName := ⟨RX4, "sync", "(II)I"⟩
abbrev cX4_readBreaches : ByteArray := prog_6_method_30_code
def yX4_readBreaches : MethodName := ⟨RX4, "readBreaches", "(II)I"⟩
abbrev cX4_writeBreaches : ByteArray := prog_6_method_31_code
def yX4_writeBreaches : MethodName := ⟨RX4, "writeBreaches", "(II)I"⟩
abbrev cX4_readableReplica : ByteArray := prog_6_method_32_code
def yX4_readableReplica : MethodName := ⟨RX4, "readableReplica", "(I)I"⟩
abbrev cX4_writableReplica : ByteArray := prog_6_method_33_code
def yX4_writableReplica : MethodName := ⟨RX4, "writableReplica", "(I)I"⟩
abbrev cX4_isCoveredBy : ByteArray := prog_6_method_34_code
def yX4_isCoveredBy : MethodName := ⟨RX4, "isCoveredBy", "(II)Z"⟩
abbrev cX4_isReadBy : ByteArray := prog_6_method_35_code
def yX4_isReadBy : MethodName := ⟨RX4, "isReadBy", "(II)Z"⟩
abbrev cX4_bits : ByteArray := prog_6_method_36_code
def yX4_bits : MethodName := ⟨RX4, "bits", "(I)I"⟩
abbrev cX4_syncsForRead : ByteArray := prog_6_method_37_code
def yX4_syncsForRead : MethodName := ⟨RX4, "syncsForRead", "(II)I"⟩
abbrev cX4_count : ByteArray := prog_6_method_38_code
def yX4_count : MethodName := ⟨RX4, "count", "(II)I"⟩
abbrev cX4_clock : ByteArray := prog_6_method_39_code
def yX4_clock : MethodName := ⟨RX4, "clock", "(I)I"⟩
abbrev cX4_peek : ByteArray := prog_6_method_40_code
def yX4_peek : MethodName := ⟨RX4, "peek", "(II)I"⟩
abbrev cX4_compare : ByteArray := prog_6_method_41_code
def yX4_compare : MethodName := ⟨RX4, "compare", "(II)I"⟩
abbrev cX4_breaches : ByteArray := prog_6_method_42_code
def yX4_breaches : MethodName := ⟨RX4, "breaches", "(I)I"⟩
abbrev cX4_append : ByteArray := prog_6_method_43_code
def yX4_append : MethodName := ⟨RX4, "append", "(I)I"⟩
abbrev cX4_clearText : ByteArray := prog_6_method_44_code
def yX4_clearText : MethodName := ⟨RX4, "clearText", "()I"⟩
abbrev cX4_here : ByteArray := prog_6_method_45_code
def yX4_here : MethodName := ⟨RX4, "here", "()I"⟩
abbrev cX4_isDigit : ByteArray := prog_6_method_46_code
def yX4_isDigit : MethodName := ⟨RX4, "isDigit", "()Z"⟩
abbrev cX4_takesNumber : ByteArray := prog_6_method_47_code
def yX4_takesNumber : MethodName := ⟨RX4, "takesNumber", "(I)Z"⟩
abbrev cX4_numbersOf : ByteArray := prog_6_method_48_code
def yX4_numbersOf : MethodName := ⟨RX4, "numbersOf", "(I)I"⟩
abbrev cX4_takesCommand : ByteArray := prog_6_method_49_code
def yX4_takesCommand : MethodName := ⟨RX4, "takesCommand", "()Z"⟩
abbrev cX4_doesCommand : ByteArray := prog_6_method_50_code
def yX4_doesCommand : MethodName := ⟨RX4, "doesCommand", "()I"⟩
abbrev cX4_execute : ByteArray := prog_6_method_51_code
def yX4_execute : MethodName := ⟨RX4, "execute", "()I"⟩
abbrev cX4_undo : ByteArray := prog_6_method_52_code
def yX4_undo : MethodName := ⟨RX4, "undo", "()I"⟩
abbrev cX4_errorCount : ByteArray := prog_6_method_53_code
def yX4_errorCount : MethodName := ⟨RX4, "errorCount", "(I)I"⟩
abbrev cX4_writes : ByteArray := prog_6_method_54_code
def yX4_writes : MethodName := ⟨RX4, "writes", "()I"⟩
abbrev cX4_digest : ByteArray := prog_6_method_55_code
def yX4_digest : MethodName := ⟨RX4, "digest", "()J"⟩
def RJ9 : String := "java/lang/Math"
def TJ9 : u_T := fun k => match k with
  | _ => ("", "", "", false)
def tyJ9 : Nat → FieldType := fun k => match k with
  | _ => .int
abbrev wsJ90 : List Cond := u_ws RJ9 TJ9 0
theorem nmJ9 : ∀ a, a < 0 → ∀ b, b < 0 → a ≠ b → (TJ9 a).2.1 ≠ (TJ9 b).2.1 := by decide +kernel
theorem tyJ9_ok : ∀ k, k < 0 → parseFieldDescriptor (TJ9 k).2.2.1 = some (tyJ9 k) := by decide +kernel
abbrev cJ9_max_7cf53 : ByteArray := prog_7_method_65_code
def yJ9_max_7cf53 : MethodName := ⟨RJ9, "max", "(II)I"⟩
abbrev cJ9_min_7cf53 : ByteArray := prog_7_method_69_code
def yJ9_min_7cf53 : MethodName := ⟨RJ9, "min", "(II)I"⟩
def RJ10 : String := "java/lang/System"
def TJ10 : u_T := fun k => match k with
  | _ => ("", "", "", false)
def tyJ10 : Nat → FieldType := fun k => match k with
  | _ => .int
abbrev wsJ100 : List Cond := u_ws RJ10 TJ10 0
theorem nmJ10 : ∀ a, a < 0 → ∀ b, b < 0 → a ≠ b → (TJ10 a).2.1 ≠ (TJ10 b).2.1 := by decide +kernel
theorem tyJ10_ok : ∀ k, k < 0 → parseFieldDescriptor (TJ10 k).2.2.1 = some (tyJ10 k) := by decide +kernel
def RL : String := "ClientGuaranteesLaw"
abbrev cL_law : ByteArray := code
def yL_law : MethodName := ⟨RL, "law", "([I)Z"⟩
def wsX2_init : List Cond := .code yX2_init cX2_init 1 none :: ([.methodLink RX2 3 objectInit, .instanceMethod objectInit, .code objectInit ⟨#[0xb1]⟩ 1 none, .fieldLink RX2 9 "ClientGuarantees$State" "writeTotal" "I", .arrayClass .int, .fieldLink RX2 15 "ClientGuarantees$State" "origins" "[I", .fieldLink RX2 19 "ClientGuarantees$State" "sequences" "[I", .fieldLink RX2 22 "ClientGuarantees$State" "keys" "[I", .fieldLink RX2 25 "ClientGuarantees$State" "values" "[I", .fieldLink RX2 28 "ClientGuarantees$State" "timestamps" "[I", .classLink RX2 31 "[[I", .fieldLink RX2 33 "ClientGuarantees$State" "counts" "[[I", .fieldLink RX2 36 "ClientGuarantees$State" "clocks" "[I", .fieldLink RX2 39 "ClientGuarantees$State" "guaranteeSets" "[I", .fieldLink RX2 42 "ClientGuarantees$State" "readVectors" "[[I", .fieldLink RX2 45 "ClientGuarantees$State" "writeVectors" "[[I", .fieldLink RX2 48 "ClientGuarantees$State" "breachCounts" "[I"] ++ wsX20)
def wsX0_init_r1 : List Cond := [Cond.methodLink RX0 3 objectInit, Cond.instanceMethod objectInit, Cond.code objectInit ⟨#[0xb1]⟩ 1 none, Cond.classLink RX0 11 RX2, Cond.fieldLink RX0 13 "ClientGuarantees$History" "slots" "[LClientGuarantees$State;", Cond.fieldLink RX0 17 "ClientGuarantees$History" "free" "I", Cond.fieldLink RX0 21 "ClientGuarantees$History" "size" "I", Cond.instantiable RX2 12, Cond.initialized RX2, Cond.instanceMethod yX2_init, Cond.code yX2_init cX2_init 1 none, Cond.methodLink RX2 3 objectInit, Cond.fieldLink RX2 9 "ClientGuarantees$State" "writeTotal" "I", Cond.arrayClass .int, Cond.fieldLink RX2 15 "ClientGuarantees$State" "origins" "[I", Cond.fieldLink RX2 19 "ClientGuarantees$State" "sequences" "[I", Cond.fieldLink RX2 22 "ClientGuarantees$State" "keys" "[I", Cond.fieldLink RX2 25 "ClientGuarantees$State" "values" "[I", Cond.fieldLink RX2 28 "ClientGuarantees$State" "timestamps" "[I", Cond.classLink RX2 31 "[[I", Cond.fieldLink RX2 33 "ClientGuarantees$State" "counts" "[[I", Cond.fieldLink RX2 36 "ClientGuarantees$State" "clocks" "[I", Cond.fieldLink RX2 39 "ClientGuarantees$State" "guaranteeSets" "[I", Cond.fieldLink RX2 42 "ClientGuarantees$State" "readVectors" "[[I"]
def wsX0_init_r2 : List Cond := [Cond.fieldLink RX2 45 "ClientGuarantees$State" "writeVectors" "[[I", Cond.fieldLink RX2 48 "ClientGuarantees$State" "breachCounts" "[I"]
def wsX0_init : List Cond := .code yX0_init cX0_init 2 none :: ((wsX0_init_r1 ++ wsX0_init_r2) ++ wsX00 ++ wsX20)
def wsX2_copyRow : List Cond := .code yX2_copyRow cX2_copyRow 2 none :: ([.methodLink RX2 123 Lib.Math.min.name, .static Lib.Math.min.name, .initialized "java/lang/Math", .code Lib.Math.min.name Lib.Math.min.code 2 (some .int), .methodLink RX2 126 arraycopyName, .native arraycopyName, .static arraycopyName, .initialized "java/lang/System"])
def wsX2_copyRows : List Cond := .code yX2_copyRows cX2_copyRows 3 none :: ([.methodLink RX2 51 yX2_copyRow, .static yX2_copyRow, .initialized RX2, .code yX2_copyRow cX2_copyRow 2 none, .methodLink RX2 123 Lib.Math.min.name, .static Lib.Math.min.name, .initialized "java/lang/Math", .code Lib.Math.min.name Lib.Math.min.code 2 (some .int), .methodLink RX2 126 arraycopyName, .native arraycopyName, .static arraycopyName, .initialized "java/lang/System"])
def wsX2_copyFrom_r1 : List Cond := [Cond.fieldLink RX2 9 "ClientGuarantees$State" "writeTotal" "I", Cond.fieldLink RX2 15 "ClientGuarantees$State" "origins" "[I", Cond.fieldLink RX2 19 "ClientGuarantees$State" "sequences" "[I", Cond.fieldLink RX2 22 "ClientGuarantees$State" "keys" "[I", Cond.fieldLink RX2 25 "ClientGuarantees$State" "values" "[I", Cond.fieldLink RX2 28 "ClientGuarantees$State" "timestamps" "[I", Cond.fieldLink RX2 33 "ClientGuarantees$State" "counts" "[[I", Cond.fieldLink RX2 36 "ClientGuarantees$State" "clocks" "[I", Cond.fieldLink RX2 39 "ClientGuarantees$State" "guaranteeSets" "[I", Cond.fieldLink RX2 42 "ClientGuarantees$State" "readVectors" "[[I", Cond.fieldLink RX2 45 "ClientGuarantees$State" "writeVectors" "[[I", Cond.fieldLink RX2 48 "ClientGuarantees$State" "breachCounts" "[I", Cond.methodLink RX2 51 yX2_copyRow, Cond.static yX2_copyRow, Cond.initialized RX2, Cond.code yX2_copyRow cX2_copyRow 2 none, Cond.methodLink RX2 123 Lib.Math.min.name, Cond.static Lib.Math.min.name, Cond.initialized "java/lang/Math", Cond.code Lib.Math.min.name Lib.Math.min.code 2 (some .int), Cond.methodLink RX2 126 arraycopyName, Cond.native arraycopyName, Cond.static arraycopyName, Cond.initialized "java/lang/System"]
def wsX2_copyFrom_r2 : List Cond := [Cond.methodLink RX2 55 yX2_copyRows, Cond.static yX2_copyRows, Cond.code yX2_copyRows cX2_copyRows 3 none]
def wsX2_copyFrom : List Cond := .code yX2_copyFrom cX2_copyFrom 2 none :: ((wsX2_copyFrom_r1 ++ wsX2_copyFrom_r2) ++ wsX20)
def wsX0_prepare_r1 : List Cond := [Cond.fieldLink RX0 13 "ClientGuarantees$History" "slots" "[LClientGuarantees$State;", Cond.fieldLink RX0 17 "ClientGuarantees$History" "free" "I", Cond.methodLink RX0 25 yX2_copyFrom, Cond.instanceMethod yX2_copyFrom, Cond.selects RX2 yX2_copyFrom yX2_copyFrom, Cond.initialized RX2, Cond.code yX2_copyFrom cX2_copyFrom 2 none, Cond.fieldLink RX2 9 "ClientGuarantees$State" "writeTotal" "I", Cond.fieldLink RX2 15 "ClientGuarantees$State" "origins" "[I", Cond.fieldLink RX2 19 "ClientGuarantees$State" "sequences" "[I", Cond.fieldLink RX2 22 "ClientGuarantees$State" "keys" "[I", Cond.fieldLink RX2 25 "ClientGuarantees$State" "values" "[I", Cond.fieldLink RX2 28 "ClientGuarantees$State" "timestamps" "[I", Cond.fieldLink RX2 33 "ClientGuarantees$State" "counts" "[[I", Cond.fieldLink RX2 36 "ClientGuarantees$State" "clocks" "[I", Cond.fieldLink RX2 39 "ClientGuarantees$State" "guaranteeSets" "[I", Cond.fieldLink RX2 42 "ClientGuarantees$State" "readVectors" "[[I", Cond.fieldLink RX2 45 "ClientGuarantees$State" "writeVectors" "[[I", Cond.fieldLink RX2 48 "ClientGuarantees$State" "breachCounts" "[I", Cond.methodLink RX2 51 yX2_copyRow, Cond.static yX2_copyRow, Cond.code yX2_copyRow cX2_copyRow 2 none, Cond.methodLink RX2 123 Lib.Math.min.name, Cond.static Lib.Math.min.name]
def wsX0_prepare_r2 : List Cond := [Cond.initialized "java/lang/Math", Cond.code Lib.Math.min.name Lib.Math.min.code 2 (some .int), Cond.methodLink RX2 126 arraycopyName, Cond.native arraycopyName, Cond.static arraycopyName, Cond.initialized "java/lang/System", Cond.methodLink RX2 55 yX2_copyRows, Cond.static yX2_copyRows, Cond.code yX2_copyRows cX2_copyRows 3 none]
def wsX0_prepare : List Cond := .code yX0_prepare cX0_prepare 2 none :: ((wsX0_prepare_r1 ++ wsX0_prepare_r2) ++ wsX00 ++ wsX20)
def wsX0_restorePrepared_r1 : List Cond := [Cond.fieldLink RX0 13 "ClientGuarantees$History" "slots" "[LClientGuarantees$State;", Cond.fieldLink RX0 17 "ClientGuarantees$History" "free" "I", Cond.methodLink RX0 25 yX2_copyFrom, Cond.instanceMethod yX2_copyFrom, Cond.selects RX2 yX2_copyFrom yX2_copyFrom, Cond.initialized RX2, Cond.code yX2_copyFrom cX2_copyFrom 2 none, Cond.fieldLink RX2 9 "ClientGuarantees$State" "writeTotal" "I", Cond.fieldLink RX2 15 "ClientGuarantees$State" "origins" "[I", Cond.fieldLink RX2 19 "ClientGuarantees$State" "sequences" "[I", Cond.fieldLink RX2 22 "ClientGuarantees$State" "keys" "[I", Cond.fieldLink RX2 25 "ClientGuarantees$State" "values" "[I", Cond.fieldLink RX2 28 "ClientGuarantees$State" "timestamps" "[I", Cond.fieldLink RX2 33 "ClientGuarantees$State" "counts" "[[I", Cond.fieldLink RX2 36 "ClientGuarantees$State" "clocks" "[I", Cond.fieldLink RX2 39 "ClientGuarantees$State" "guaranteeSets" "[I", Cond.fieldLink RX2 42 "ClientGuarantees$State" "readVectors" "[[I", Cond.fieldLink RX2 45 "ClientGuarantees$State" "writeVectors" "[[I", Cond.fieldLink RX2 48 "ClientGuarantees$State" "breachCounts" "[I", Cond.methodLink RX2 51 yX2_copyRow, Cond.static yX2_copyRow, Cond.code yX2_copyRow cX2_copyRow 2 none, Cond.methodLink RX2 123 Lib.Math.min.name, Cond.static Lib.Math.min.name]
def wsX0_restorePrepared_r2 : List Cond := [Cond.initialized "java/lang/Math", Cond.code Lib.Math.min.name Lib.Math.min.code 2 (some .int), Cond.methodLink RX2 126 arraycopyName, Cond.native arraycopyName, Cond.static arraycopyName, Cond.initialized "java/lang/System", Cond.methodLink RX2 55 yX2_copyRows, Cond.static yX2_copyRows, Cond.code yX2_copyRows cX2_copyRows 3 none]
def wsX0_restorePrepared : List Cond := .code yX0_restorePrepared cX0_restorePrepared 2 none :: ((wsX0_restorePrepared_r1 ++ wsX0_restorePrepared_r2) ++ wsX00 ++ wsX20)
def wsX0_keepPrepared : List Cond := .code yX0_keepPrepared cX0_keepPrepared 1 none :: ([.fieldLink RX0 17 "ClientGuarantees$History" "free" "I", .fieldLink RX0 21 "ClientGuarantees$History" "size" "I", .methodLink RX0 29 Lib.Math.min.name, .static Lib.Math.min.name, .initialized "java/lang/Math", .code Lib.Math.min.name Lib.Math.min.code 2 (some .int)] ++ wsX00)
def wsX0_restoreNewest_r1 : List Cond := [Cond.fieldLink RX0 21 "ClientGuarantees$History" "size" "I", Cond.fieldLink RX0 17 "ClientGuarantees$History" "free" "I", Cond.fieldLink RX0 13 "ClientGuarantees$History" "slots" "[LClientGuarantees$State;", Cond.methodLink RX0 25 yX2_copyFrom, Cond.instanceMethod yX2_copyFrom, Cond.selects RX2 yX2_copyFrom yX2_copyFrom, Cond.initialized RX2, Cond.code yX2_copyFrom cX2_copyFrom 2 none, Cond.fieldLink RX2 9 "ClientGuarantees$State" "writeTotal" "I", Cond.fieldLink RX2 15 "ClientGuarantees$State" "origins" "[I", Cond.fieldLink RX2 19 "ClientGuarantees$State" "sequences" "[I", Cond.fieldLink RX2 22 "ClientGuarantees$State" "keys" "[I", Cond.fieldLink RX2 25 "ClientGuarantees$State" "values" "[I", Cond.fieldLink RX2 28 "ClientGuarantees$State" "timestamps" "[I", Cond.fieldLink RX2 33 "ClientGuarantees$State" "counts" "[[I", Cond.fieldLink RX2 36 "ClientGuarantees$State" "clocks" "[I", Cond.fieldLink RX2 39 "ClientGuarantees$State" "guaranteeSets" "[I", Cond.fieldLink RX2 42 "ClientGuarantees$State" "readVectors" "[[I", Cond.fieldLink RX2 45 "ClientGuarantees$State" "writeVectors" "[[I", Cond.fieldLink RX2 48 "ClientGuarantees$State" "breachCounts" "[I", Cond.methodLink RX2 51 yX2_copyRow, Cond.static yX2_copyRow, Cond.code yX2_copyRow cX2_copyRow 2 none, Cond.methodLink RX2 123 Lib.Math.min.name]
def wsX0_restoreNewest_r2 : List Cond := [Cond.static Lib.Math.min.name, Cond.initialized "java/lang/Math", Cond.code Lib.Math.min.name Lib.Math.min.code 2 (some .int), Cond.methodLink RX2 126 arraycopyName, Cond.native arraycopyName, Cond.static arraycopyName, Cond.initialized "java/lang/System", Cond.methodLink RX2 55 yX2_copyRows, Cond.static yX2_copyRows, Cond.code yX2_copyRows cX2_copyRows 3 none]
def wsX0_restoreNewest : List Cond := .code yX0_restoreNewest cX0_restoreNewest 2 (some .boolean) :: ((wsX0_restoreNewest_r1 ++ wsX0_restoreNewest_r2) ++ wsX00 ++ wsX20)
def wsX1_init : List Cond := .code yX1_init cX1_init 1 none :: ([.methodLink RX1 3 objectInit, .instanceMethod objectInit, .code objectInit ⟨#[0xb1]⟩ 1 none, .arrayClass .int, .fieldLink RX1 9 "ClientGuarantees$Script" "text" "[I", .fieldLink RX1 15 "ClientGuarantees$Script" "length" "I", .fieldLink RX1 19 "ClientGuarantees$Script" "letters" "[I", .classLink RX1 22 "[[I", .fieldLink RX1 24 "ClientGuarantees$Script" "numbers" "[[I", .fieldLink RX1 27 "ClientGuarantees$Script" "commands" "I", .fieldLink RX1 30 "ClientGuarantees$Script" "inCommand" "Z", .fieldLink RX1 34 "ClientGuarantees$Script" "numbersBegun" "I", .fieldLink RX1 37 "ClientGuarantees$Script" "digits" "I"] ++ wsX10)
def wsX1_add : List Cond := .code yX1_add cX1_add 2 (some .int) :: ([.fieldLink RX1 15 "ClientGuarantees$Script" "length" "I", .fieldLink RX1 9 "ClientGuarantees$Script" "text" "[I"] ++ wsX10)
def wsX1_numbersAfter : List Cond := .code yX1_numbersAfter cX1_numbersAfter 1 (some .int) :: ([])
def wsX1_beginsCommand : List Cond := .code yX1_beginsCommand cX1_beginsCommand 2 (some .boolean) :: ([.fieldLink RX1 27 "ClientGuarantees$Script" "commands" "I", .fieldLink RX1 19 "ClientGuarantees$Script" "letters" "[I", .fieldLink RX1 30 "ClientGuarantees$Script" "inCommand" "Z", .fieldLink RX1 34 "ClientGuarantees$Script" "numbersBegun" "I", .fieldLink RX1 37 "ClientGuarantees$Script" "digits" "I", .methodLink RX1 54 yX1_numbersAfter, .static yX1_numbersAfter, .initialized RX1, .code yX1_numbersAfter cX1_numbersAfter 1 (some .int)] ++ wsX10)
def wsX1_endsCommand : List Cond := .code yX1_endsCommand cX1_endsCommand 1 (some .boolean) :: ([.fieldLink RX1 34 "ClientGuarantees$Script" "numbersBegun" "I", .fieldLink RX1 19 "ClientGuarantees$Script" "letters" "[I", .fieldLink RX1 27 "ClientGuarantees$Script" "commands" "I", .fieldLink RX1 30 "ClientGuarantees$Script" "inCommand" "Z", .methodLink RX1 54 yX1_numbersAfter, .static yX1_numbersAfter, .initialized RX1, .code yX1_numbersAfter cX1_numbersAfter 1 (some .int)] ++ wsX10)
def wsX1_takesDigit : List Cond := .code yX1_takesDigit cX1_takesDigit 3 (some .boolean) :: ([.fieldLink RX1 37 "ClientGuarantees$Script" "digits" "I", .fieldLink RX1 24 "ClientGuarantees$Script" "numbers" "[[I", .fieldLink RX1 27 "ClientGuarantees$Script" "commands" "I", .fieldLink RX1 34 "ClientGuarantees$Script" "numbersBegun" "I", .fieldLink RX1 19 "ClientGuarantees$Script" "letters" "[I", .methodLink RX1 54 yX1_numbersAfter, .static yX1_numbersAfter, .initialized RX1, .code yX1_numbersAfter cX1_numbersAfter 1 (some .int)] ++ wsX10)
def wsX1_accepts : List Cond := .code yX1_accepts cX1_accepts 2 (some .boolean) :: ([.fieldLink RX1 37 "ClientGuarantees$Script" "digits" "I", .fieldLink RX1 30 "ClientGuarantees$Script" "inCommand" "Z", .methodLink RX1 44 yX1_beginsCommand, .instanceMethod yX1_beginsCommand, .selects RX1 yX1_beginsCommand yX1_beginsCommand, .initialized RX1, .code yX1_beginsCommand cX1_beginsCommand 2 (some .boolean), .fieldLink RX1 27 "ClientGuarantees$Script" "commands" "I", .fieldLink RX1 19 "ClientGuarantees$Script" "letters" "[I", .fieldLink RX1 34 "ClientGuarantees$Script" "numbersBegun" "I", .methodLink RX1 54 yX1_numbersAfter, .static yX1_numbersAfter, .code yX1_numbersAfter cX1_numbersAfter 1 (some .int), .methodLink RX1 47 yX1_endsCommand, .instanceMethod yX1_endsCommand, .selects RX1 yX1_endsCommand yX1_endsCommand, .code yX1_endsCommand cX1_endsCommand 1 (some .boolean), .methodLink RX1 51 yX1_takesDigit, .instanceMethod yX1_takesDigit, .selects RX1 yX1_takesDigit yX1_takesDigit, .code yX1_takesDigit cX1_takesDigit 3 (some .boolean), .fieldLink RX1 24 "ClientGuarantees$Script" "numbers" "[[I"] ++ wsX10)
def wsX1_parse_r1 : List Cond := [Cond.fieldLink RX1 27 "ClientGuarantees$Script" "commands" "I", Cond.fieldLink RX1 30 "ClientGuarantees$Script" "inCommand" "Z", Cond.fieldLink RX1 15 "ClientGuarantees$Script" "length" "I", Cond.fieldLink RX1 9 "ClientGuarantees$Script" "text" "[I", Cond.methodLink RX1 40 yX1_accepts, Cond.instanceMethod yX1_accepts, Cond.selects RX1 yX1_accepts yX1_accepts, Cond.initialized RX1, Cond.code yX1_accepts cX1_accepts 2 (some .boolean), Cond.fieldLink RX1 37 "ClientGuarantees$Script" "digits" "I", Cond.methodLink RX1 44 yX1_beginsCommand, Cond.instanceMethod yX1_beginsCommand, Cond.selects RX1 yX1_beginsCommand yX1_beginsCommand, Cond.code yX1_beginsCommand cX1_beginsCommand 2 (some .boolean), Cond.fieldLink RX1 19 "ClientGuarantees$Script" "letters" "[I", Cond.fieldLink RX1 34 "ClientGuarantees$Script" "numbersBegun" "I", Cond.methodLink RX1 54 yX1_numbersAfter, Cond.static yX1_numbersAfter, Cond.code yX1_numbersAfter cX1_numbersAfter 1 (some .int), Cond.methodLink RX1 47 yX1_endsCommand, Cond.instanceMethod yX1_endsCommand, Cond.selects RX1 yX1_endsCommand yX1_endsCommand, Cond.code yX1_endsCommand cX1_endsCommand 1 (some .boolean), Cond.methodLink RX1 51 yX1_takesDigit]
def wsX1_parse_r2 : List Cond := [Cond.instanceMethod yX1_takesDigit, Cond.selects RX1 yX1_takesDigit yX1_takesDigit, Cond.code yX1_takesDigit cX1_takesDigit 3 (some .boolean), Cond.fieldLink RX1 24 "ClientGuarantees$Script" "numbers" "[[I"]
def wsX1_parse : List Cond := .code yX1_parse cX1_parse 2 (some .int) :: ((wsX1_parse_r1 ++ wsX1_parse_r2) ++ wsX10)
def wsX3_isBelow : List Cond := .code yX3_isBelow cX3_isBelow 2 (some .boolean) :: ([])
def wsX3_isClient : List Cond := .code yX3_isClient cX3_isClient 1 (some .boolean) :: ([.methodLink RX3 112 yX3_isBelow, .static yX3_isBelow, .initialized RX3, .code yX3_isBelow cX3_isBelow 2 (some .boolean)])
def wsX2_changeGuarantees : List Cond := .code yX2_changeGuarantees cX2_changeGuarantees 4 (some .int) :: ([.fieldLink RX2 39 "ClientGuarantees$State" "guaranteeSets" "[I", .static yX3_isClient, .initialized RX3, .code yX3_isClient cX3_isClient 1 (some .boolean), .methodLink RX3 112 yX3_isBelow, .static yX3_isBelow, .code yX3_isBelow cX3_isBelow 2 (some .boolean)] ++ wsX20)
def wsX2_clearVectors : List Cond := .code yX2_clearVectors cX2_clearVectors 4 (some .int) :: ([.fieldLink RX2 42 "ClientGuarantees$State" "readVectors" "[[I", .fieldLink RX2 45 "ClientGuarantees$State" "writeVectors" "[[I", .static yX3_isClient, .initialized RX3, .code yX3_isClient cX3_isClient 1 (some .boolean), .methodLink RX3 112 yX3_isBelow, .static yX3_isBelow, .code yX3_isBelow cX3_isBelow 2 (some .boolean)] ++ wsX20)
def wsX3_isReplica : List Cond := .code yX3_isReplica cX3_isReplica 1 (some .boolean) :: ([.methodLink RX3 112 yX3_isBelow, .static yX3_isBelow, .initialized RX3, .code yX3_isBelow cX3_isBelow 2 (some .boolean)])
def wsX3_isKey : List Cond := .code yX3_isKey cX3_isKey 1 (some .boolean) :: ([.methodLink RX3 112 yX3_isBelow, .static yX3_isBelow, .initialized RX3, .code yX3_isBelow cX3_isBelow 2 (some .boolean)])
def wsX3_only : List Cond := .code yX3_only cX3_only 1 (some .int) :: ([])
def wsX3_contains : List Cond := .code yX3_contains cX3_contains 2 (some .boolean) :: ([])
def wsX2_greatestCount : List Cond := .code yX2_greatestCount cX2_greatestCount 5 (some .int) :: ([.fieldLink RX2 33 "ClientGuarantees$State" "counts" "[[I", .methodLink RX2 97 Lib.Math.max.name, .static Lib.Math.max.name, .initialized "java/lang/Math", .code Lib.Math.max.name Lib.Math.max.code 2 (some .int), .static yX3_contains, .initialized RX3, .code yX3_contains cX3_contains 2 (some .boolean)] ++ wsX20)
def wsX2_covers : List Cond := .code yX2_covers cX2_covers 4 (some .boolean) :: ([.methodLink RX2 106 yX2_greatestCount, .instanceMethod yX2_greatestCount, .selects RX2 yX2_greatestCount yX2_greatestCount, .initialized RX2, .code yX2_greatestCount cX2_greatestCount 5 (some .int), .fieldLink RX2 33 "ClientGuarantees$State" "counts" "[[I", .methodLink RX2 97 Lib.Math.max.name, .static Lib.Math.max.name, .initialized "java/lang/Math", .code Lib.Math.max.name Lib.Math.max.code 2 (some .int), .static yX3_contains, .initialized RX3, .code yX3_contains cX3_contains 2 (some .boolean)] ++ wsX20)
def wsX2_unmetByRead : List Cond := .code yX2_unmetByRead cX2_unmetByRead 4 (some .int) :: ([.fieldLink RX2 45 "ClientGuarantees$State" "writeVectors" "[[I", .fieldLink RX2 42 "ClientGuarantees$State" "readVectors" "[[I", .methodLink RX2 102 yX2_covers, .instanceMethod yX2_covers, .selects RX2 yX2_covers yX2_covers, .initialized RX2, .code yX2_covers cX2_covers 4 (some .boolean), .methodLink RX2 106 yX2_greatestCount, .instanceMethod yX2_greatestCount, .selects RX2 yX2_greatestCount yX2_greatestCount, .code yX2_greatestCount cX2_greatestCount 5 (some .int), .fieldLink RX2 33 "ClientGuarantees$State" "counts" "[[I", .methodLink RX2 97 Lib.Math.max.name, .static Lib.Math.max.name, .initialized "java/lang/Math", .code Lib.Math.max.name Lib.Math.max.code 2 (some .int), .static yX3_contains, .initialized RX3, .code yX3_contains cX3_contains 2 (some .boolean)] ++ wsX20)
def wsX2_countBreaches : List Cond := .code yX2_countBreaches cX2_countBreaches 3 none :: ([.fieldLink RX2 48 "ClientGuarantees$State" "breachCounts" "[I", .static yX3_contains, .initialized RX3, .code yX3_contains cX3_contains 2 (some .boolean)] ++ wsX20)
def wsX2_merge : List Cond := .code yX2_merge cX2_merge 3 none :: ([.methodLink RX2 97 Lib.Math.max.name, .static Lib.Math.max.name, .initialized "java/lang/Math", .code Lib.Math.max.name Lib.Math.max.code 2 (some .int)])
def wsX2_knows : List Cond := .code yX2_knows cX2_knows 3 (some .boolean) :: ([.fieldLink RX2 19 "ClientGuarantees$State" "sequences" "[I", .fieldLink RX2 33 "ClientGuarantees$State" "counts" "[[I", .fieldLink RX2 15 "ClientGuarantees$State" "origins" "[I"] ++ wsX20)
def wsX2_isLater : List Cond := .code yX2_isLater cX2_isLater 3 (some .boolean) :: ([.fieldLink RX2 28 "ClientGuarantees$State" "timestamps" "[I", .fieldLink RX2 15 "ClientGuarantees$State" "origins" "[I"] ++ wsX20)
def wsX2_valueAt : List Cond := .code yX2_valueAt cX2_valueAt 5 (some .int) :: ([.fieldLink RX2 9 "ClientGuarantees$State" "writeTotal" "I", .fieldLink RX2 22 "ClientGuarantees$State" "keys" "[I", .fieldLink RX2 25 "ClientGuarantees$State" "values" "[I", .methodLink RX2 94 yX2_knows, .instanceMethod yX2_knows, .selects RX2 yX2_knows yX2_knows, .initialized RX2, .code yX2_knows cX2_knows 3 (some .boolean), .fieldLink RX2 19 "ClientGuarantees$State" "sequences" "[I", .fieldLink RX2 33 "ClientGuarantees$State" "counts" "[[I", .fieldLink RX2 15 "ClientGuarantees$State" "origins" "[I", .methodLink RX2 112 yX2_isLater, .instanceMethod yX2_isLater, .selects RX2 yX2_isLater yX2_isLater, .code yX2_isLater cX2_isLater 3 (some .boolean), .fieldLink RX2 28 "ClientGuarantees$State" "timestamps" "[I"] ++ wsX20)
def wsX2_readKey_r1 : List Cond := [Cond.fieldLink RX2 39 "ClientGuarantees$State" "guaranteeSets" "[I", Cond.fieldLink RX2 33 "ClientGuarantees$State" "counts" "[[I", Cond.fieldLink RX2 42 "ClientGuarantees$State" "readVectors" "[[I", Cond.static yX3_isClient, Cond.initialized RX3, Cond.code yX3_isClient cX3_isClient 1 (some .boolean), Cond.methodLink RX3 112 yX3_isBelow, Cond.static yX3_isBelow, Cond.code yX3_isBelow cX3_isBelow 2 (some .boolean), Cond.static yX3_isReplica, Cond.code yX3_isReplica cX3_isReplica 1 (some .boolean), Cond.static yX3_isKey, Cond.code yX3_isKey cX3_isKey 1 (some .boolean), Cond.static yX3_only, Cond.code yX3_only cX3_only 1 (some .int), Cond.methodLink RX2 77 yX2_unmetByRead, Cond.instanceMethod yX2_unmetByRead, Cond.selects RX2 yX2_unmetByRead yX2_unmetByRead, Cond.initialized RX2, Cond.code yX2_unmetByRead cX2_unmetByRead 4 (some .int), Cond.fieldLink RX2 45 "ClientGuarantees$State" "writeVectors" "[[I", Cond.methodLink RX2 102 yX2_covers, Cond.instanceMethod yX2_covers, Cond.selects RX2 yX2_covers yX2_covers]
def wsX2_readKey_r2 : List Cond := [Cond.code yX2_covers cX2_covers 4 (some .boolean), Cond.methodLink RX2 106 yX2_greatestCount, Cond.instanceMethod yX2_greatestCount, Cond.selects RX2 yX2_greatestCount yX2_greatestCount, Cond.code yX2_greatestCount cX2_greatestCount 5 (some .int), Cond.methodLink RX2 97 Lib.Math.max.name, Cond.static Lib.Math.max.name, Cond.initialized "java/lang/Math", Cond.code Lib.Math.max.name Lib.Math.max.code 2 (some .int), Cond.static yX3_contains, Cond.code yX3_contains cX3_contains 2 (some .boolean), Cond.methodLink RX2 81 yX2_countBreaches, Cond.instanceMethod yX2_countBreaches, Cond.selects RX2 yX2_countBreaches yX2_countBreaches, Cond.code yX2_countBreaches cX2_countBreaches 3 none, Cond.fieldLink RX2 48 "ClientGuarantees$State" "breachCounts" "[I", Cond.methodLink RX2 85 yX2_merge, Cond.static yX2_merge, Cond.code yX2_merge cX2_merge 3 none, Cond.methodLink RX2 88 yX2_valueAt, Cond.instanceMethod yX2_valueAt, Cond.selects RX2 yX2_valueAt yX2_valueAt, Cond.code yX2_valueAt cX2_valueAt 5 (some .int), Cond.fieldLink RX2 9 "ClientGuarantees$State" "writeTotal" "I"]
def wsX2_readKey_r3 : List Cond := [Cond.fieldLink RX2 22 "ClientGuarantees$State" "keys" "[I", Cond.fieldLink RX2 25 "ClientGuarantees$State" "values" "[I", Cond.methodLink RX2 94 yX2_knows, Cond.instanceMethod yX2_knows, Cond.selects RX2 yX2_knows yX2_knows, Cond.code yX2_knows cX2_knows 3 (some .boolean), Cond.fieldLink RX2 19 "ClientGuarantees$State" "sequences" "[I", Cond.fieldLink RX2 15 "ClientGuarantees$State" "origins" "[I", Cond.methodLink RX2 112 yX2_isLater, Cond.instanceMethod yX2_isLater, Cond.selects RX2 yX2_isLater yX2_isLater, Cond.code yX2_isLater cX2_isLater 3 (some .boolean), Cond.fieldLink RX2 28 "ClientGuarantees$State" "timestamps" "[I"]
def wsX2_readKey : List Cond := .code yX2_readKey cX2_readKey 5 (some .int) :: ((wsX2_readKey_r1 ++ (wsX2_readKey_r2 ++ wsX2_readKey_r3)) ++ wsX20)
def wsX2_unmetByWrite : List Cond := .code yX2_unmetByWrite cX2_unmetByWrite 4 (some .int) :: ([.fieldLink RX2 42 "ClientGuarantees$State" "readVectors" "[[I", .fieldLink RX2 45 "ClientGuarantees$State" "writeVectors" "[[I", .static yX3_only, .initialized RX3, .code yX3_only cX3_only 1 (some .int), .methodLink RX2 102 yX2_covers, .instanceMethod yX2_covers, .selects RX2 yX2_covers yX2_covers, .initialized RX2, .code yX2_covers cX2_covers 4 (some .boolean), .methodLink RX2 106 yX2_greatestCount, .instanceMethod yX2_greatestCount, .selects RX2 yX2_greatestCount yX2_greatestCount, .code yX2_greatestCount cX2_greatestCount 5 (some .int), .fieldLink RX2 33 "ClientGuarantees$State" "counts" "[[I", .methodLink RX2 97 Lib.Math.max.name, .static Lib.Math.max.name, .initialized "java/lang/Math", .code Lib.Math.max.name Lib.Math.max.code 2 (some .int), .static yX3_contains, .code yX3_contains cX3_contains 2 (some .boolean)] ++ wsX20)
def wsX2_writeKey_r1 : List Cond := [Cond.fieldLink RX2 39 "ClientGuarantees$State" "guaranteeSets" "[I", Cond.fieldLink RX2 9 "ClientGuarantees$State" "writeTotal" "I", Cond.fieldLink RX2 36 "ClientGuarantees$State" "clocks" "[I", Cond.fieldLink RX2 33 "ClientGuarantees$State" "counts" "[[I", Cond.fieldLink RX2 45 "ClientGuarantees$State" "writeVectors" "[[I", Cond.fieldLink RX2 15 "ClientGuarantees$State" "origins" "[I", Cond.fieldLink RX2 19 "ClientGuarantees$State" "sequences" "[I", Cond.fieldLink RX2 22 "ClientGuarantees$State" "keys" "[I", Cond.fieldLink RX2 25 "ClientGuarantees$State" "values" "[I", Cond.fieldLink RX2 28 "ClientGuarantees$State" "timestamps" "[I", Cond.static yX3_isClient, Cond.initialized RX3, Cond.code yX3_isClient cX3_isClient 1 (some .boolean), Cond.methodLink RX3 112 yX3_isBelow, Cond.static yX3_isBelow, Cond.code yX3_isBelow cX3_isBelow 2 (some .boolean), Cond.static yX3_isReplica, Cond.code yX3_isReplica cX3_isReplica 1 (some .boolean), Cond.static yX3_isKey, Cond.code yX3_isKey cX3_isKey 1 (some .boolean), Cond.methodLink RX2 91 yX2_unmetByWrite, Cond.instanceMethod yX2_unmetByWrite, Cond.selects RX2 yX2_unmetByWrite yX2_unmetByWrite, Cond.initialized RX2]
def wsX2_writeKey_r2 : List Cond := [Cond.code yX2_unmetByWrite cX2_unmetByWrite 4 (some .int), Cond.fieldLink RX2 42 "ClientGuarantees$State" "readVectors" "[[I", Cond.static yX3_only, Cond.code yX3_only cX3_only 1 (some .int), Cond.methodLink RX2 102 yX2_covers, Cond.instanceMethod yX2_covers, Cond.selects RX2 yX2_covers yX2_covers, Cond.code yX2_covers cX2_covers 4 (some .boolean), Cond.methodLink RX2 106 yX2_greatestCount, Cond.instanceMethod yX2_greatestCount, Cond.selects RX2 yX2_greatestCount yX2_greatestCount, Cond.code yX2_greatestCount cX2_greatestCount 5 (some .int), Cond.methodLink RX2 97 Lib.Math.max.name, Cond.static Lib.Math.max.name, Cond.initialized "java/lang/Math", Cond.code Lib.Math.max.name Lib.Math.max.code 2 (some .int), Cond.static yX3_contains, Cond.code yX3_contains cX3_contains 2 (some .boolean), Cond.methodLink RX2 81 yX2_countBreaches, Cond.instanceMethod yX2_countBreaches, Cond.selects RX2 yX2_countBreaches yX2_countBreaches, Cond.code yX2_countBreaches cX2_countBreaches 3 none, Cond.fieldLink RX2 48 "ClientGuarantees$State" "breachCounts" "[I"]
def wsX2_writeKey : List Cond := .code yX2_writeKey cX2_writeKey 6 (some .int) :: ((wsX2_writeKey_r1 ++ wsX2_writeKey_r2) ++ wsX20)
def wsX2_synchronize : List Cond := .code yX2_synchronize cX2_synchronize 5 (some .int) :: ([.fieldLink RX2 9 "ClientGuarantees$State" "writeTotal" "I", .fieldLink RX2 36 "ClientGuarantees$State" "clocks" "[I", .fieldLink RX2 28 "ClientGuarantees$State" "timestamps" "[I", .methodLink RX2 97 Lib.Math.max.name, .static Lib.Math.max.name, .initialized "java/lang/Math", .code Lib.Math.max.name Lib.Math.max.code 2 (some .int), .fieldLink RX2 33 "ClientGuarantees$State" "counts" "[[I", .static yX3_isReplica, .initialized RX3, .code yX3_isReplica cX3_isReplica 1 (some .boolean), .methodLink RX3 112 yX3_isBelow, .static yX3_isBelow, .code yX3_isBelow cX3_isBelow 2 (some .boolean), .methodLink RX2 94 yX2_knows, .instanceMethod yX2_knows, .selects RX2 yX2_knows yX2_knows, .initialized RX2, .code yX2_knows cX2_knows 3 (some .boolean), .fieldLink RX2 19 "ClientGuarantees$State" "sequences" "[I", .fieldLink RX2 15 "ClientGuarantees$State" "origins" "[I", .methodLink RX2 85 yX2_merge, .static yX2_merge, .code yX2_merge cX2_merge 3 none] ++ wsX20)
def wsX2_isReadAllowed : List Cond := .code yX2_isReadAllowed cX2_isReadAllowed 3 (some .boolean) :: ([.fieldLink RX2 39 "ClientGuarantees$State" "guaranteeSets" "[I", .methodLink RX2 77 yX2_unmetByRead, .instanceMethod yX2_unmetByRead, .selects RX2 yX2_unmetByRead yX2_unmetByRead, .initialized RX2, .code yX2_unmetByRead cX2_unmetByRead 4 (some .int), .fieldLink RX2 45 "ClientGuarantees$State" "writeVectors" "[[I", .fieldLink RX2 42 "ClientGuarantees$State" "readVectors" "[[I", .methodLink RX2 102 yX2_covers, .instanceMethod yX2_covers, .selects RX2 yX2_covers yX2_covers, .code yX2_covers cX2_covers 4 (some .boolean), .methodLink RX2 106 yX2_greatestCount, .instanceMethod yX2_greatestCount, .selects RX2 yX2_greatestCount yX2_greatestCount, .code yX2_greatestCount cX2_greatestCount 5 (some .int), .fieldLink RX2 33 "ClientGuarantees$State" "counts" "[[I", .methodLink RX2 97 Lib.Math.max.name, .static Lib.Math.max.name, .initialized "java/lang/Math", .code Lib.Math.max.name Lib.Math.max.code 2 (some .int), .static yX3_contains, .initialized RX3, .code yX3_contains cX3_contains 2 (some .boolean)] ++ wsX20)
def wsX2_isWriteAllowed_r1 : List Cond := [Cond.fieldLink RX2 39 "ClientGuarantees$State" "guaranteeSets" "[I", Cond.methodLink RX2 91 yX2_unmetByWrite, Cond.instanceMethod yX2_unmetByWrite, Cond.selects RX2 yX2_unmetByWrite yX2_unmetByWrite, Cond.initialized RX2, Cond.code yX2_unmetByWrite cX2_unmetByWrite 4 (some .int), Cond.fieldLink RX2 42 "ClientGuarantees$State" "readVectors" "[[I", Cond.fieldLink RX2 45 "ClientGuarantees$State" "writeVectors" "[[I", Cond.static yX3_only, Cond.initialized RX3, Cond.code yX3_only cX3_only 1 (some .int), Cond.methodLink RX2 102 yX2_covers, Cond.instanceMethod yX2_covers, Cond.selects RX2 yX2_covers yX2_covers, Cond.code yX2_covers cX2_covers 4 (some .boolean), Cond.methodLink RX2 106 yX2_greatestCount, Cond.instanceMethod yX2_greatestCount, Cond.selects RX2 yX2_greatestCount yX2_greatestCount, Cond.code yX2_greatestCount cX2_greatestCount 5 (some .int), Cond.fieldLink RX2 33 "ClientGuarantees$State" "counts" "[[I", Cond.methodLink RX2 97 Lib.Math.max.name, Cond.static Lib.Math.max.name, Cond.initialized "java/lang/Math", Cond.code Lib.Math.max.name Lib.Math.max.code 2 (some .int)]
def wsX2_isWriteAllowed_r2 : List Cond := [Cond.static yX3_contains, Cond.code yX3_contains cX3_contains 2 (some .boolean)]
def wsX2_isWriteAllowed : List Cond := .code yX2_isWriteAllowed cX2_isWriteAllowed 3 (some .boolean) :: ((wsX2_isWriteAllowed_r1 ++ wsX2_isWriteAllowed_r2) ++ wsX20)
def wsX3_mix : List Cond := .code yX3_mix cX3_mix 3 (some .long) :: ([.constantLong RX3 174 (31)])
def wsX3_mixAll : List Cond := .code yX3_mixAll cX3_mixAll 7 (some .long) :: ([.methodLink RX3 164 yX3_mix, .static yX3_mix, .initialized RX3, .code yX3_mix cX3_mix 3 (some .long), .constantLong RX3 174 (31)])
def wsX2_mixInto_r1 : List Cond := [Cond.fieldLink RX2 9 "ClientGuarantees$State" "writeTotal" "I", Cond.fieldLink RX2 33 "ClientGuarantees$State" "counts" "[[I", Cond.fieldLink RX2 36 "ClientGuarantees$State" "clocks" "[I", Cond.fieldLink RX2 39 "ClientGuarantees$State" "guaranteeSets" "[I", Cond.fieldLink RX2 42 "ClientGuarantees$State" "readVectors" "[[I", Cond.fieldLink RX2 45 "ClientGuarantees$State" "writeVectors" "[[I", Cond.fieldLink RX2 48 "ClientGuarantees$State" "breachCounts" "[I", Cond.static yX3_mix, Cond.initialized RX3, Cond.code yX3_mix cX3_mix 3 (some .long), Cond.constantLong RX3 174 (31), Cond.static yX3_mixAll, Cond.code yX3_mixAll cX3_mixAll 7 (some .long), Cond.methodLink RX3 164 yX3_mix, Cond.methodLink RX2 88 yX2_valueAt, Cond.instanceMethod yX2_valueAt, Cond.selects RX2 yX2_valueAt yX2_valueAt, Cond.initialized RX2, Cond.code yX2_valueAt cX2_valueAt 5 (some .int), Cond.fieldLink RX2 22 "ClientGuarantees$State" "keys" "[I", Cond.fieldLink RX2 25 "ClientGuarantees$State" "values" "[I", Cond.methodLink RX2 94 yX2_knows, Cond.instanceMethod yX2_knows, Cond.selects RX2 yX2_knows yX2_knows]
def wsX2_mixInto_r2 : List Cond := [Cond.code yX2_knows cX2_knows 3 (some .boolean), Cond.fieldLink RX2 19 "ClientGuarantees$State" "sequences" "[I", Cond.fieldLink RX2 15 "ClientGuarantees$State" "origins" "[I", Cond.methodLink RX2 112 yX2_isLater, Cond.instanceMethod yX2_isLater, Cond.selects RX2 yX2_isLater yX2_isLater, Cond.code yX2_isLater cX2_isLater 3 (some .boolean), Cond.fieldLink RX2 28 "ClientGuarantees$State" "timestamps" "[I"]
def wsX2_mixInto : List Cond := .code yX2_mixInto cX2_mixInto 5 (some .long) :: ((wsX2_mixInto_r1 ++ wsX2_mixInto_r2) ++ wsX20)
def wsX3_init_r1 : List Cond := [Cond.methodLink RX3 3 objectInit, Cond.instanceMethod objectInit, Cond.code objectInit ⟨#[0xb1]⟩ 1 none, Cond.classLink RX3 9 RX2, Cond.instantiable RX2 12, Cond.initialized RX2, Cond.fieldLink RX3 12 "ClientGuarantees" "state" "LClientGuarantees$State;", Cond.classLink RX3 16 RX0, Cond.instantiable RX0 3, Cond.initialized RX0, Cond.fieldLink RX3 19 "ClientGuarantees" "history" "LClientGuarantees$History;", Cond.classLink RX3 23 RX1, Cond.instantiable RX1 8, Cond.initialized RX1, Cond.fieldLink RX3 26 "ClientGuarantees" "script" "LClientGuarantees$Script;", Cond.arrayClass .int, Cond.fieldLink RX3 30 "ClientGuarantees" "errors" "[I", Cond.instanceMethod yX2_init, Cond.code yX2_init cX2_init 1 none, Cond.methodLink RX2 3 objectInit, Cond.fieldLink RX2 9 "ClientGuarantees$State" "writeTotal" "I", Cond.fieldLink RX2 15 "ClientGuarantees$State" "origins" "[I", Cond.fieldLink RX2 19 "ClientGuarantees$State" "sequences" "[I", Cond.fieldLink RX2 22 "ClientGuarantees$State" "keys" "[I"]
def wsX3_init_r2 : List Cond := [Cond.fieldLink RX2 25 "ClientGuarantees$State" "values" "[I", Cond.fieldLink RX2 28 "ClientGuarantees$State" "timestamps" "[I", Cond.classLink RX2 31 "[[I", Cond.fieldLink RX2 33 "ClientGuarantees$State" "counts" "[[I", Cond.fieldLink RX2 36 "ClientGuarantees$State" "clocks" "[I", Cond.fieldLink RX2 39 "ClientGuarantees$State" "guaranteeSets" "[I", Cond.fieldLink RX2 42 "ClientGuarantees$State" "readVectors" "[[I", Cond.fieldLink RX2 45 "ClientGuarantees$State" "writeVectors" "[[I", Cond.fieldLink RX2 48 "ClientGuarantees$State" "breachCounts" "[I", Cond.methodLink RX3 18 yX0_init, Cond.instanceMethod yX0_init, Cond.code yX0_init cX0_init 2 none, Cond.methodLink RX0 3 objectInit, Cond.classLink RX0 11 RX2, Cond.fieldLink RX0 13 "ClientGuarantees$History" "slots" "[LClientGuarantees$State;", Cond.fieldLink RX0 17 "ClientGuarantees$History" "free" "I", Cond.fieldLink RX0 21 "ClientGuarantees$History" "size" "I", Cond.instanceMethod yX1_init, Cond.code yX1_init cX1_init 1 none, Cond.methodLink RX1 3 objectInit, Cond.fieldLink RX1 9 "ClientGuarantees$Script" "text" "[I", Cond.fieldLink RX1 15 "ClientGuarantees$Script" "length" "I", Cond.fieldLink RX1 19 "ClientGuarantees$Script" "letters" "[I", Cond.classLink RX1 22 "[[I"]
def wsX3_init_r3 : List Cond := [Cond.fieldLink RX1 24 "ClientGuarantees$Script" "numbers" "[[I", Cond.fieldLink RX1 27 "ClientGuarantees$Script" "commands" "I", Cond.fieldLink RX1 30 "ClientGuarantees$Script" "inCommand" "Z", Cond.fieldLink RX1 34 "ClientGuarantees$Script" "numbersBegun" "I", Cond.fieldLink RX1 37 "ClientGuarantees$Script" "digits" "I"]
def wsX3_init : List Cond := .code yX3_init cX3_init 1 none :: ((wsX3_init_r1 ++ (wsX3_init_r2 ++ wsX3_init_r3)) ++ wsX20 ++ wsX30 ++ wsX00 ++ wsX10)
def wsX3_isErrorCode : List Cond := .code yX3_isErrorCode cX3_isErrorCode 1 (some .boolean) :: ([])
def wsX3_counted : List Cond := .code yX3_counted cX3_counted 2 (some .int) :: ([.fieldLink RX3 30 "ClientGuarantees" "errors" "[I", .methodLink RX3 148 yX3_isErrorCode, .static yX3_isErrorCode, .initialized RX3, .code yX3_isErrorCode cX3_isErrorCode 1 (some .boolean)] ++ wsX30)
def wsX3_endUndoable : List Cond := .code yX3_endUndoable cX3_endUndoable 2 (some .int) :: ([.fieldLink RX3 19 "ClientGuarantees" "history" "LClientGuarantees$History;", .methodLink RX3 138 yX0_keepPrepared, .instanceMethod yX0_keepPrepared, .selects RX0 yX0_keepPrepared yX0_keepPrepared, .initialized RX0, .code yX0_keepPrepared cX0_keepPrepared 1 none, .fieldLink RX0 17 "ClientGuarantees$History" "free" "I", .fieldLink RX0 21 "ClientGuarantees$History" "size" "I", .methodLink RX0 29 Lib.Math.min.name, .static Lib.Math.min.name, .initialized "java/lang/Math", .code Lib.Math.min.name Lib.Math.min.code 2 (some .int), .methodLink RX3 56 yX3_counted, .instanceMethod yX3_counted, .selects RX3 yX3_counted yX3_counted, .initialized RX3, .code yX3_counted cX3_counted 2 (some .int), .fieldLink RX3 30 "ClientGuarantees" "errors" "[I", .methodLink RX3 148 yX3_isErrorCode, .static yX3_isErrorCode, .code yX3_isErrorCode cX3_isErrorCode 1 (some .boolean)] ++ wsX30 ++ wsX00)
def wsX3_setGuarantees_r1 : List Cond := [Cond.fieldLink RX3 19 "ClientGuarantees" "history" "LClientGuarantees$History;", Cond.fieldLink RX3 12 "ClientGuarantees" "state" "LClientGuarantees$State;", Cond.methodLink RX3 34 yX0_prepare, Cond.instanceMethod yX0_prepare, Cond.selects RX0 yX0_prepare yX0_prepare, Cond.initialized RX0, Cond.code yX0_prepare cX0_prepare 2 none, Cond.fieldLink RX0 13 "ClientGuarantees$History" "slots" "[LClientGuarantees$State;", Cond.fieldLink RX0 17 "ClientGuarantees$History" "free" "I", Cond.methodLink RX0 25 yX2_copyFrom, Cond.instanceMethod yX2_copyFrom, Cond.selects RX2 yX2_copyFrom yX2_copyFrom, Cond.initialized RX2, Cond.code yX2_copyFrom cX2_copyFrom 2 none, Cond.fieldLink RX2 9 "ClientGuarantees$State" "writeTotal" "I", Cond.fieldLink RX2 15 "ClientGuarantees$State" "origins" "[I", Cond.fieldLink RX2 19 "ClientGuarantees$State" "sequences" "[I", Cond.fieldLink RX2 22 "ClientGuarantees$State" "keys" "[I", Cond.fieldLink RX2 25 "ClientGuarantees$State" "values" "[I", Cond.fieldLink RX2 28 "ClientGuarantees$State" "timestamps" "[I", Cond.fieldLink RX2 33 "ClientGuarantees$State" "counts" "[[I", Cond.fieldLink RX2 36 "ClientGuarantees$State" "clocks" "[I", Cond.fieldLink RX2 39 "ClientGuarantees$State" "guaranteeSets" "[I", Cond.fieldLink RX2 42 "ClientGuarantees$State" "readVectors" "[[I"]
def wsX3_setGuarantees_r2 : List Cond := [Cond.fieldLink RX2 45 "ClientGuarantees$State" "writeVectors" "[[I", Cond.fieldLink RX2 48 "ClientGuarantees$State" "breachCounts" "[I", Cond.methodLink RX2 51 yX2_copyRow, Cond.static yX2_copyRow, Cond.code yX2_copyRow cX2_copyRow 2 none, Cond.methodLink RX2 123 Lib.Math.min.name, Cond.static Lib.Math.min.name, Cond.initialized "java/lang/Math", Cond.code Lib.Math.min.name Lib.Math.min.code 2 (some .int), Cond.methodLink RX2 126 arraycopyName, Cond.native arraycopyName, Cond.static arraycopyName, Cond.initialized "java/lang/System", Cond.methodLink RX2 55 yX2_copyRows, Cond.static yX2_copyRows, Cond.code yX2_copyRows cX2_copyRows 3 none, Cond.methodLink RX3 38 yX2_changeGuarantees, Cond.instanceMethod yX2_changeGuarantees, Cond.selects RX2 yX2_changeGuarantees yX2_changeGuarantees, Cond.code yX2_changeGuarantees cX2_changeGuarantees 4 (some .int), Cond.static yX3_isClient, Cond.initialized RX3, Cond.code yX3_isClient cX3_isClient 1 (some .boolean), Cond.methodLink RX3 112 yX3_isBelow]
def wsX3_setGuarantees_r3 : List Cond := [Cond.static yX3_isBelow, Cond.code yX3_isBelow cX3_isBelow 2 (some .boolean), Cond.methodLink RX3 42 yX3_endUndoable, Cond.instanceMethod yX3_endUndoable, Cond.selects RX3 yX3_endUndoable yX3_endUndoable, Cond.code yX3_endUndoable cX3_endUndoable 2 (some .int), Cond.methodLink RX3 138 yX0_keepPrepared, Cond.instanceMethod yX0_keepPrepared, Cond.selects RX0 yX0_keepPrepared yX0_keepPrepared, Cond.code yX0_keepPrepared cX0_keepPrepared 1 none, Cond.fieldLink RX0 21 "ClientGuarantees$History" "size" "I", Cond.methodLink RX0 29 Lib.Math.min.name, Cond.methodLink RX3 56 yX3_counted, Cond.instanceMethod yX3_counted, Cond.selects RX3 yX3_counted yX3_counted, Cond.code yX3_counted cX3_counted 2 (some .int), Cond.fieldLink RX3 30 "ClientGuarantees" "errors" "[I", Cond.methodLink RX3 148 yX3_isErrorCode, Cond.static yX3_isErrorCode, Cond.code yX3_isErrorCode cX3_isErrorCode 1 (some .boolean)]
def wsX3_setGuarantees : List Cond := .code yX3_setGuarantees cX3_setGuarantees 3 (some .int) :: ((wsX3_setGuarantees_r1 ++ (wsX3_setGuarantees_r2 ++ wsX3_setGuarantees_r3)) ++ wsX30 ++ wsX00 ++ wsX20)
def wsX3_forget_r1 : List Cond := [Cond.fieldLink RX3 19 "ClientGuarantees" "history" "LClientGuarantees$History;", Cond.fieldLink RX3 12 "ClientGuarantees" "state" "LClientGuarantees$State;", Cond.methodLink RX3 34 yX0_prepare, Cond.instanceMethod yX0_prepare, Cond.selects RX0 yX0_prepare yX0_prepare, Cond.initialized RX0, Cond.code yX0_prepare cX0_prepare 2 none, Cond.fieldLink RX0 13 "ClientGuarantees$History" "slots" "[LClientGuarantees$State;", Cond.fieldLink RX0 17 "ClientGuarantees$History" "free" "I", Cond.methodLink RX0 25 yX2_copyFrom, Cond.instanceMethod yX2_copyFrom, Cond.selects RX2 yX2_copyFrom yX2_copyFrom, Cond.initialized RX2, Cond.code yX2_copyFrom cX2_copyFrom 2 none, Cond.fieldLink RX2 9 "ClientGuarantees$State" "writeTotal" "I", Cond.fieldLink RX2 15 "ClientGuarantees$State" "origins" "[I", Cond.fieldLink RX2 19 "ClientGuarantees$State" "sequences" "[I", Cond.fieldLink RX2 22 "ClientGuarantees$State" "keys" "[I", Cond.fieldLink RX2 25 "ClientGuarantees$State" "values" "[I", Cond.fieldLink RX2 28 "ClientGuarantees$State" "timestamps" "[I", Cond.fieldLink RX2 33 "ClientGuarantees$State" "counts" "[[I", Cond.fieldLink RX2 36 "ClientGuarantees$State" "clocks" "[I", Cond.fieldLink RX2 39 "ClientGuarantees$State" "guaranteeSets" "[I", Cond.fieldLink RX2 42 "ClientGuarantees$State" "readVectors" "[[I"]
def wsX3_forget_r2 : List Cond := [Cond.fieldLink RX2 45 "ClientGuarantees$State" "writeVectors" "[[I", Cond.fieldLink RX2 48 "ClientGuarantees$State" "breachCounts" "[I", Cond.methodLink RX2 51 yX2_copyRow, Cond.static yX2_copyRow, Cond.code yX2_copyRow cX2_copyRow 2 none, Cond.methodLink RX2 123 Lib.Math.min.name, Cond.static Lib.Math.min.name, Cond.initialized "java/lang/Math", Cond.code Lib.Math.min.name Lib.Math.min.code 2 (some .int), Cond.methodLink RX2 126 arraycopyName, Cond.native arraycopyName, Cond.static arraycopyName, Cond.initialized "java/lang/System", Cond.methodLink RX2 55 yX2_copyRows, Cond.static yX2_copyRows, Cond.code yX2_copyRows cX2_copyRows 3 none, Cond.methodLink RX3 46 yX2_clearVectors, Cond.instanceMethod yX2_clearVectors, Cond.selects RX2 yX2_clearVectors yX2_clearVectors, Cond.code yX2_clearVectors cX2_clearVectors 4 (some .int), Cond.static yX3_isClient, Cond.initialized RX3, Cond.code yX3_isClient cX3_isClient 1 (some .boolean), Cond.methodLink RX3 112 yX3_isBelow]
def wsX3_forget_r3 : List Cond := [Cond.static yX3_isBelow, Cond.code yX3_isBelow cX3_isBelow 2 (some .boolean), Cond.methodLink RX3 42 yX3_endUndoable, Cond.instanceMethod yX3_endUndoable, Cond.selects RX3 yX3_endUndoable yX3_endUndoable, Cond.code yX3_endUndoable cX3_endUndoable 2 (some .int), Cond.methodLink RX3 138 yX0_keepPrepared, Cond.instanceMethod yX0_keepPrepared, Cond.selects RX0 yX0_keepPrepared yX0_keepPrepared, Cond.code yX0_keepPrepared cX0_keepPrepared 1 none, Cond.fieldLink RX0 21 "ClientGuarantees$History" "size" "I", Cond.methodLink RX0 29 Lib.Math.min.name, Cond.methodLink RX3 56 yX3_counted, Cond.instanceMethod yX3_counted, Cond.selects RX3 yX3_counted yX3_counted, Cond.code yX3_counted cX3_counted 2 (some .int), Cond.fieldLink RX3 30 "ClientGuarantees" "errors" "[I", Cond.methodLink RX3 148 yX3_isErrorCode, Cond.static yX3_isErrorCode, Cond.code yX3_isErrorCode cX3_isErrorCode 1 (some .boolean)]
def wsX3_forget : List Cond := .code yX3_forget cX3_forget 2 (some .int) :: ((wsX3_forget_r1 ++ (wsX3_forget_r2 ++ wsX3_forget_r3)) ++ wsX30 ++ wsX00 ++ wsX20)
def wsX3_readCount : List Cond := .code yX3_readCount cX3_readCount 3 (some .int) :: ([.fieldLink RX3 12 "ClientGuarantees" "state" "LClientGuarantees$State;", .fieldLink RX3 59 "ClientGuarantees$State" "readVectors" "[[I", .methodLink RX3 49 yX3_isClient, .static yX3_isClient, .initialized RX3, .code yX3_isClient cX3_isClient 1 (some .boolean), .methodLink RX3 112 yX3_isBelow, .static yX3_isBelow, .code yX3_isBelow cX3_isBelow 2 (some .boolean), .methodLink RX3 53 yX3_isReplica, .static yX3_isReplica, .code yX3_isReplica cX3_isReplica 1 (some .boolean), .methodLink RX3 56 yX3_counted, .instanceMethod yX3_counted, .selects RX3 yX3_counted yX3_counted, .code yX3_counted cX3_counted 2 (some .int), .fieldLink RX3 30 "ClientGuarantees" "errors" "[I", .methodLink RX3 148 yX3_isErrorCode, .static yX3_isErrorCode, .code yX3_isErrorCode cX3_isErrorCode 1 (some .boolean)] ++ wsX30 ++ wsX20)
def wsX3_writeCount : List Cond := .code yX3_writeCount cX3_writeCount 3 (some .int) :: ([.fieldLink RX3 12 "ClientGuarantees" "state" "LClientGuarantees$State;", .fieldLink RX3 63 "ClientGuarantees$State" "writeVectors" "[[I", .methodLink RX3 49 yX3_isClient, .static yX3_isClient, .initialized RX3, .code yX3_isClient cX3_isClient 1 (some .boolean), .methodLink RX3 112 yX3_isBelow, .static yX3_isBelow, .code yX3_isBelow cX3_isBelow 2 (some .boolean), .methodLink RX3 53 yX3_isReplica, .static yX3_isReplica, .code yX3_isReplica cX3_isReplica 1 (some .boolean), .methodLink RX3 56 yX3_counted, .instanceMethod yX3_counted, .selects RX3 yX3_counted yX3_counted, .code yX3_counted cX3_counted 2 (some .int), .fieldLink RX3 30 "ClientGuarantees" "errors" "[I", .methodLink RX3 148 yX3_isErrorCode, .static yX3_isErrorCode, .code yX3_isErrorCode cX3_isErrorCode 1 (some .boolean)] ++ wsX30 ++ wsX20)
def wsX3_read_r1 : List Cond := [Cond.fieldLink RX3 19 "ClientGuarantees" "history" "LClientGuarantees$History;", Cond.fieldLink RX3 12 "ClientGuarantees" "state" "LClientGuarantees$State;", Cond.methodLink RX3 34 yX0_prepare, Cond.instanceMethod yX0_prepare, Cond.selects RX0 yX0_prepare yX0_prepare, Cond.initialized RX0, Cond.code yX0_prepare cX0_prepare 2 none, Cond.fieldLink RX0 13 "ClientGuarantees$History" "slots" "[LClientGuarantees$State;", Cond.fieldLink RX0 17 "ClientGuarantees$History" "free" "I", Cond.methodLink RX0 25 yX2_copyFrom, Cond.instanceMethod yX2_copyFrom, Cond.selects RX2 yX2_copyFrom yX2_copyFrom, Cond.initialized RX2, Cond.code yX2_copyFrom cX2_copyFrom 2 none, Cond.fieldLink RX2 9 "ClientGuarantees$State" "writeTotal" "I", Cond.fieldLink RX2 15 "ClientGuarantees$State" "origins" "[I", Cond.fieldLink RX2 19 "ClientGuarantees$State" "sequences" "[I", Cond.fieldLink RX2 22 "ClientGuarantees$State" "keys" "[I", Cond.fieldLink RX2 25 "ClientGuarantees$State" "values" "[I", Cond.fieldLink RX2 28 "ClientGuarantees$State" "timestamps" "[I", Cond.fieldLink RX2 33 "ClientGuarantees$State" "counts" "[[I", Cond.fieldLink RX2 36 "ClientGuarantees$State" "clocks" "[I", Cond.fieldLink RX2 39 "ClientGuarantees$State" "guaranteeSets" "[I", Cond.fieldLink RX2 42 "ClientGuarantees$State" "readVectors" "[[I"]
def wsX3_read_r2 : List Cond := [Cond.fieldLink RX2 45 "ClientGuarantees$State" "writeVectors" "[[I", Cond.fieldLink RX2 48 "ClientGuarantees$State" "breachCounts" "[I", Cond.methodLink RX2 51 yX2_copyRow, Cond.static yX2_copyRow, Cond.code yX2_copyRow cX2_copyRow 2 none, Cond.methodLink RX2 123 Lib.Math.min.name, Cond.static Lib.Math.min.name, Cond.initialized "java/lang/Math", Cond.code Lib.Math.min.name Lib.Math.min.code 2 (some .int), Cond.methodLink RX2 126 arraycopyName, Cond.native arraycopyName, Cond.static arraycopyName, Cond.initialized "java/lang/System", Cond.methodLink RX2 55 yX2_copyRows, Cond.static yX2_copyRows, Cond.code yX2_copyRows cX2_copyRows 3 none, Cond.methodLink RX3 66 yX2_readKey, Cond.instanceMethod yX2_readKey, Cond.selects RX2 yX2_readKey yX2_readKey, Cond.code yX2_readKey cX2_readKey 5 (some .int), Cond.static yX3_isClient, Cond.initialized RX3, Cond.code yX3_isClient cX3_isClient 1 (some .boolean), Cond.methodLink RX3 112 yX3_isBelow]
def wsX3_read_r3 : List Cond := [Cond.static yX3_isBelow, Cond.code yX3_isBelow cX3_isBelow 2 (some .boolean), Cond.static yX3_isReplica, Cond.code yX3_isReplica cX3_isReplica 1 (some .boolean), Cond.static yX3_isKey, Cond.code yX3_isKey cX3_isKey 1 (some .boolean), Cond.static yX3_only, Cond.code yX3_only cX3_only 1 (some .int), Cond.methodLink RX2 77 yX2_unmetByRead, Cond.instanceMethod yX2_unmetByRead, Cond.selects RX2 yX2_unmetByRead yX2_unmetByRead, Cond.code yX2_unmetByRead cX2_unmetByRead 4 (some .int), Cond.methodLink RX2 102 yX2_covers, Cond.instanceMethod yX2_covers, Cond.selects RX2 yX2_covers yX2_covers, Cond.code yX2_covers cX2_covers 4 (some .boolean), Cond.methodLink RX2 106 yX2_greatestCount, Cond.instanceMethod yX2_greatestCount, Cond.selects RX2 yX2_greatestCount yX2_greatestCount, Cond.code yX2_greatestCount cX2_greatestCount 5 (some .int), Cond.methodLink RX2 97 Lib.Math.max.name, Cond.static Lib.Math.max.name, Cond.code Lib.Math.max.name Lib.Math.max.code 2 (some .int), Cond.static yX3_contains]
def wsX3_read_r4 : List Cond := [Cond.code yX3_contains cX3_contains 2 (some .boolean), Cond.methodLink RX2 81 yX2_countBreaches, Cond.instanceMethod yX2_countBreaches, Cond.selects RX2 yX2_countBreaches yX2_countBreaches, Cond.code yX2_countBreaches cX2_countBreaches 3 none, Cond.methodLink RX2 85 yX2_merge, Cond.static yX2_merge, Cond.code yX2_merge cX2_merge 3 none, Cond.methodLink RX2 88 yX2_valueAt, Cond.instanceMethod yX2_valueAt, Cond.selects RX2 yX2_valueAt yX2_valueAt, Cond.code yX2_valueAt cX2_valueAt 5 (some .int), Cond.methodLink RX2 94 yX2_knows, Cond.instanceMethod yX2_knows, Cond.selects RX2 yX2_knows yX2_knows, Cond.code yX2_knows cX2_knows 3 (some .boolean), Cond.methodLink RX2 112 yX2_isLater, Cond.instanceMethod yX2_isLater, Cond.selects RX2 yX2_isLater yX2_isLater, Cond.code yX2_isLater cX2_isLater 3 (some .boolean), Cond.methodLink RX3 42 yX3_endUndoable, Cond.instanceMethod yX3_endUndoable, Cond.selects RX3 yX3_endUndoable yX3_endUndoable, Cond.code yX3_endUndoable cX3_endUndoable 2 (some .int)]
def wsX3_read_r5 : List Cond := [Cond.methodLink RX3 138 yX0_keepPrepared, Cond.instanceMethod yX0_keepPrepared, Cond.selects RX0 yX0_keepPrepared yX0_keepPrepared, Cond.code yX0_keepPrepared cX0_keepPrepared 1 none, Cond.fieldLink RX0 21 "ClientGuarantees$History" "size" "I", Cond.methodLink RX0 29 Lib.Math.min.name, Cond.methodLink RX3 56 yX3_counted, Cond.instanceMethod yX3_counted, Cond.selects RX3 yX3_counted yX3_counted, Cond.code yX3_counted cX3_counted 2 (some .int), Cond.fieldLink RX3 30 "ClientGuarantees" "errors" "[I", Cond.methodLink RX3 148 yX3_isErrorCode, Cond.static yX3_isErrorCode, Cond.code yX3_isErrorCode cX3_isErrorCode 1 (some .boolean)]
def wsX3_read : List Cond := .code yX3_read cX3_read 4 (some .int) :: ((wsX3_read_r1 ++ (wsX3_read_r2 ++ (wsX3_read_r3 ++ (wsX3_read_r4 ++ wsX3_read_r5)))) ++ wsX30 ++ wsX00 ++ wsX20)
def wsX3_write_r1 : List Cond := [Cond.fieldLink RX3 19 "ClientGuarantees" "history" "LClientGuarantees$History;", Cond.fieldLink RX3 12 "ClientGuarantees" "state" "LClientGuarantees$State;", Cond.methodLink RX3 34 yX0_prepare, Cond.instanceMethod yX0_prepare, Cond.selects RX0 yX0_prepare yX0_prepare, Cond.initialized RX0, Cond.code yX0_prepare cX0_prepare 2 none, Cond.fieldLink RX0 13 "ClientGuarantees$History" "slots" "[LClientGuarantees$State;", Cond.fieldLink RX0 17 "ClientGuarantees$History" "free" "I", Cond.methodLink RX0 25 yX2_copyFrom, Cond.instanceMethod yX2_copyFrom, Cond.selects RX2 yX2_copyFrom yX2_copyFrom, Cond.initialized RX2, Cond.code yX2_copyFrom cX2_copyFrom 2 none, Cond.fieldLink RX2 9 "ClientGuarantees$State" "writeTotal" "I", Cond.fieldLink RX2 15 "ClientGuarantees$State" "origins" "[I", Cond.fieldLink RX2 19 "ClientGuarantees$State" "sequences" "[I", Cond.fieldLink RX2 22 "ClientGuarantees$State" "keys" "[I", Cond.fieldLink RX2 25 "ClientGuarantees$State" "values" "[I", Cond.fieldLink RX2 28 "ClientGuarantees$State" "timestamps" "[I", Cond.fieldLink RX2 33 "ClientGuarantees$State" "counts" "[[I", Cond.fieldLink RX2 36 "ClientGuarantees$State" "clocks" "[I", Cond.fieldLink RX2 39 "ClientGuarantees$State" "guaranteeSets" "[I", Cond.fieldLink RX2 42 "ClientGuarantees$State" "readVectors" "[[I"]
def wsX3_write_r2 : List Cond := [Cond.fieldLink RX2 45 "ClientGuarantees$State" "writeVectors" "[[I", Cond.fieldLink RX2 48 "ClientGuarantees$State" "breachCounts" "[I", Cond.methodLink RX2 51 yX2_copyRow, Cond.static yX2_copyRow, Cond.code yX2_copyRow cX2_copyRow 2 none, Cond.methodLink RX2 123 Lib.Math.min.name, Cond.static Lib.Math.min.name, Cond.initialized "java/lang/Math", Cond.code Lib.Math.min.name Lib.Math.min.code 2 (some .int), Cond.methodLink RX2 126 arraycopyName, Cond.native arraycopyName, Cond.static arraycopyName, Cond.initialized "java/lang/System", Cond.methodLink RX2 55 yX2_copyRows, Cond.static yX2_copyRows, Cond.code yX2_copyRows cX2_copyRows 3 none, Cond.methodLink RX3 70 yX2_writeKey, Cond.instanceMethod yX2_writeKey, Cond.selects RX2 yX2_writeKey yX2_writeKey, Cond.code yX2_writeKey cX2_writeKey 6 (some .int), Cond.static yX3_isClient, Cond.initialized RX3, Cond.code yX3_isClient cX3_isClient 1 (some .boolean), Cond.methodLink RX3 112 yX3_isBelow]
def wsX3_write_r3 : List Cond := [Cond.static yX3_isBelow, Cond.code yX3_isBelow cX3_isBelow 2 (some .boolean), Cond.static yX3_isReplica, Cond.code yX3_isReplica cX3_isReplica 1 (some .boolean), Cond.static yX3_isKey, Cond.code yX3_isKey cX3_isKey 1 (some .boolean), Cond.methodLink RX2 91 yX2_unmetByWrite, Cond.instanceMethod yX2_unmetByWrite, Cond.selects RX2 yX2_unmetByWrite yX2_unmetByWrite, Cond.code yX2_unmetByWrite cX2_unmetByWrite 4 (some .int), Cond.static yX3_only, Cond.code yX3_only cX3_only 1 (some .int), Cond.methodLink RX2 102 yX2_covers, Cond.instanceMethod yX2_covers, Cond.selects RX2 yX2_covers yX2_covers, Cond.code yX2_covers cX2_covers 4 (some .boolean), Cond.methodLink RX2 106 yX2_greatestCount, Cond.instanceMethod yX2_greatestCount, Cond.selects RX2 yX2_greatestCount yX2_greatestCount, Cond.code yX2_greatestCount cX2_greatestCount 5 (some .int), Cond.methodLink RX2 97 Lib.Math.max.name, Cond.static Lib.Math.max.name, Cond.code Lib.Math.max.name Lib.Math.max.code 2 (some .int), Cond.static yX3_contains]
def wsX3_write_r4 : List Cond := [Cond.code yX3_contains cX3_contains 2 (some .boolean), Cond.methodLink RX2 81 yX2_countBreaches, Cond.instanceMethod yX2_countBreaches, Cond.selects RX2 yX2_countBreaches yX2_countBreaches, Cond.code yX2_countBreaches cX2_countBreaches 3 none, Cond.methodLink RX3 42 yX3_endUndoable, Cond.instanceMethod yX3_endUndoable, Cond.selects RX3 yX3_endUndoable yX3_endUndoable, Cond.code yX3_endUndoable cX3_endUndoable 2 (some .int), Cond.methodLink RX3 138 yX0_keepPrepared, Cond.instanceMethod yX0_keepPrepared, Cond.selects RX0 yX0_keepPrepared yX0_keepPrepared, Cond.code yX0_keepPrepared cX0_keepPrepared 1 none, Cond.fieldLink RX0 21 "ClientGuarantees$History" "size" "I", Cond.methodLink RX0 29 Lib.Math.min.name, Cond.methodLink RX3 56 yX3_counted, Cond.instanceMethod yX3_counted, Cond.selects RX3 yX3_counted yX3_counted, Cond.code yX3_counted cX3_counted 2 (some .int), Cond.fieldLink RX3 30 "ClientGuarantees" "errors" "[I", Cond.methodLink RX3 148 yX3_isErrorCode, Cond.static yX3_isErrorCode, Cond.code yX3_isErrorCode cX3_isErrorCode 1 (some .boolean)]
def wsX3_write : List Cond := .code yX3_write cX3_write 5 (some .int) :: ((wsX3_write_r1 ++ (wsX3_write_r2 ++ (wsX3_write_r3 ++ wsX3_write_r4))) ++ wsX30 ++ wsX00 ++ wsX20)
def wsX3_sync_r1 : List Cond := [Cond.fieldLink RX3 19 "ClientGuarantees" "history" "LClientGuarantees$History;", Cond.fieldLink RX3 12 "ClientGuarantees" "state" "LClientGuarantees$State;", Cond.methodLink RX3 34 yX0_prepare, Cond.instanceMethod yX0_prepare, Cond.selects RX0 yX0_prepare yX0_prepare, Cond.initialized RX0, Cond.code yX0_prepare cX0_prepare 2 none, Cond.fieldLink RX0 13 "ClientGuarantees$History" "slots" "[LClientGuarantees$State;", Cond.fieldLink RX0 17 "ClientGuarantees$History" "free" "I", Cond.methodLink RX0 25 yX2_copyFrom, Cond.instanceMethod yX2_copyFrom, Cond.selects RX2 yX2_copyFrom yX2_copyFrom, Cond.initialized RX2, Cond.code yX2_copyFrom cX2_copyFrom 2 none, Cond.fieldLink RX2 9 "ClientGuarantees$State" "writeTotal" "I", Cond.fieldLink RX2 15 "ClientGuarantees$State" "origins" "[I", Cond.fieldLink RX2 19 "ClientGuarantees$State" "sequences" "[I", Cond.fieldLink RX2 22 "ClientGuarantees$State" "keys" "[I", Cond.fieldLink RX2 25 "ClientGuarantees$State" "values" "[I", Cond.fieldLink RX2 28 "ClientGuarantees$State" "timestamps" "[I", Cond.fieldLink RX2 33 "ClientGuarantees$State" "counts" "[[I", Cond.fieldLink RX2 36 "ClientGuarantees$State" "clocks" "[I", Cond.fieldLink RX2 39 "ClientGuarantees$State" "guaranteeSets" "[I", Cond.fieldLink RX2 42 "ClientGuarantees$State" "readVectors" "[[I"]
def wsX3_sync_r2 : List Cond := [Cond.fieldLink RX2 45 "ClientGuarantees$State" "writeVectors" "[[I", Cond.fieldLink RX2 48 "ClientGuarantees$State" "breachCounts" "[I", Cond.methodLink RX2 51 yX2_copyRow, Cond.static yX2_copyRow, Cond.code yX2_copyRow cX2_copyRow 2 none, Cond.methodLink RX2 123 Lib.Math.min.name, Cond.static Lib.Math.min.name, Cond.initialized "java/lang/Math", Cond.code Lib.Math.min.name Lib.Math.min.code 2 (some .int), Cond.methodLink RX2 126 arraycopyName, Cond.native arraycopyName, Cond.static arraycopyName, Cond.initialized "java/lang/System", Cond.methodLink RX2 55 yX2_copyRows, Cond.static yX2_copyRows, Cond.code yX2_copyRows cX2_copyRows 3 none, Cond.methodLink RX3 74 yX2_synchronize, Cond.instanceMethod yX2_synchronize, Cond.selects RX2 yX2_synchronize yX2_synchronize, Cond.code yX2_synchronize cX2_synchronize 5 (some .int), Cond.methodLink RX2 97 Lib.Math.max.name, Cond.static Lib.Math.max.name, Cond.code Lib.Math.max.name Lib.Math.max.code 2 (some .int), Cond.static yX3_isReplica]
def wsX3_sync_r3 : List Cond := [Cond.initialized RX3, Cond.code yX3_isReplica cX3_isReplica 1 (some .boolean), Cond.methodLink RX3 112 yX3_isBelow, Cond.static yX3_isBelow, Cond.code yX3_isBelow cX3_isBelow 2 (some .boolean), Cond.methodLink RX2 94 yX2_knows, Cond.instanceMethod yX2_knows, Cond.selects RX2 yX2_knows yX2_knows, Cond.code yX2_knows cX2_knows 3 (some .boolean), Cond.methodLink RX2 85 yX2_merge, Cond.static yX2_merge, Cond.code yX2_merge cX2_merge 3 none, Cond.methodLink RX3 42 yX3_endUndoable, Cond.instanceMethod yX3_endUndoable, Cond.selects RX3 yX3_endUndoable yX3_endUndoable, Cond.code yX3_endUndoable cX3_endUndoable 2 (some .int), Cond.methodLink RX3 138 yX0_keepPrepared, Cond.instanceMethod yX0_keepPrepared, Cond.selects RX0 yX0_keepPrepared yX0_keepPrepared, Cond.code yX0_keepPrepared cX0_keepPrepared 1 none, Cond.fieldLink RX0 21 "ClientGuarantees$History" "size" "I", Cond.methodLink RX0 29 Lib.Math.min.name, Cond.methodLink RX3 56 yX3_counted, Cond.instanceMethod yX3_counted]
def wsX3_sync_r4 : List Cond := [Cond.selects RX3 yX3_counted yX3_counted, Cond.code yX3_counted cX3_counted 2 (some .int), Cond.fieldLink RX3 30 "ClientGuarantees" "errors" "[I", Cond.methodLink RX3 148 yX3_isErrorCode, Cond.static yX3_isErrorCode, Cond.code yX3_isErrorCode cX3_isErrorCode 1 (some .boolean)]
def wsX3_sync : List Cond := .code yX3_sync cX3_sync 3 (some .int) :: ((wsX3_sync_r1 ++ (wsX3_sync_r2 ++ (wsX3_sync_r3 ++ wsX3_sync_r4))) ++ wsX30 ++ wsX00 ++ wsX20)
def wsX3_readBreaches_r1 : List Cond := [Cond.fieldLink RX3 12 "ClientGuarantees" "state" "LClientGuarantees$State;", Cond.methodLink RX3 49 yX3_isClient, Cond.static yX3_isClient, Cond.initialized RX3, Cond.code yX3_isClient cX3_isClient 1 (some .boolean), Cond.methodLink RX3 112 yX3_isBelow, Cond.static yX3_isBelow, Cond.code yX3_isBelow cX3_isBelow 2 (some .boolean), Cond.methodLink RX3 53 yX3_isReplica, Cond.static yX3_isReplica, Cond.code yX3_isReplica cX3_isReplica 1 (some .boolean), Cond.methodLink RX3 56 yX3_counted, Cond.instanceMethod yX3_counted, Cond.selects RX3 yX3_counted yX3_counted, Cond.code yX3_counted cX3_counted 2 (some .int), Cond.fieldLink RX3 30 "ClientGuarantees" "errors" "[I", Cond.methodLink RX3 148 yX3_isErrorCode, Cond.static yX3_isErrorCode, Cond.code yX3_isErrorCode cX3_isErrorCode 1 (some .boolean), Cond.methodLink RX3 77 yX3_only, Cond.static yX3_only, Cond.code yX3_only cX3_only 1 (some .int), Cond.methodLink RX3 80 yX2_unmetByRead, Cond.instanceMethod yX2_unmetByRead]
def wsX3_readBreaches_r2 : List Cond := [Cond.selects RX2 yX2_unmetByRead yX2_unmetByRead, Cond.initialized RX2, Cond.code yX2_unmetByRead cX2_unmetByRead 4 (some .int), Cond.fieldLink RX2 45 "ClientGuarantees$State" "writeVectors" "[[I", Cond.fieldLink RX2 42 "ClientGuarantees$State" "readVectors" "[[I", Cond.methodLink RX2 102 yX2_covers, Cond.instanceMethod yX2_covers, Cond.selects RX2 yX2_covers yX2_covers, Cond.code yX2_covers cX2_covers 4 (some .boolean), Cond.methodLink RX2 106 yX2_greatestCount, Cond.instanceMethod yX2_greatestCount, Cond.selects RX2 yX2_greatestCount yX2_greatestCount, Cond.code yX2_greatestCount cX2_greatestCount 5 (some .int), Cond.fieldLink RX2 33 "ClientGuarantees$State" "counts" "[[I", Cond.methodLink RX2 97 Lib.Math.max.name, Cond.static Lib.Math.max.name, Cond.initialized "java/lang/Math", Cond.code Lib.Math.max.name Lib.Math.max.code 2 (some .int), Cond.static yX3_contains, Cond.code yX3_contains cX3_contains 2 (some .boolean)]
def wsX3_readBreaches : List Cond := .code yX3_readBreaches cX3_readBreaches 3 (some .int) :: ((wsX3_readBreaches_r1 ++ wsX3_readBreaches_r2) ++ wsX30 ++ wsX20)
def wsX3_writeBreaches_r1 : List Cond := [Cond.fieldLink RX3 12 "ClientGuarantees" "state" "LClientGuarantees$State;", Cond.methodLink RX3 49 yX3_isClient, Cond.static yX3_isClient, Cond.initialized RX3, Cond.code yX3_isClient cX3_isClient 1 (some .boolean), Cond.methodLink RX3 112 yX3_isBelow, Cond.static yX3_isBelow, Cond.code yX3_isBelow cX3_isBelow 2 (some .boolean), Cond.methodLink RX3 53 yX3_isReplica, Cond.static yX3_isReplica, Cond.code yX3_isReplica cX3_isReplica 1 (some .boolean), Cond.methodLink RX3 56 yX3_counted, Cond.instanceMethod yX3_counted, Cond.selects RX3 yX3_counted yX3_counted, Cond.code yX3_counted cX3_counted 2 (some .int), Cond.fieldLink RX3 30 "ClientGuarantees" "errors" "[I", Cond.methodLink RX3 148 yX3_isErrorCode, Cond.static yX3_isErrorCode, Cond.code yX3_isErrorCode cX3_isErrorCode 1 (some .boolean), Cond.methodLink RX3 83 yX2_unmetByWrite, Cond.instanceMethod yX2_unmetByWrite, Cond.selects RX2 yX2_unmetByWrite yX2_unmetByWrite, Cond.initialized RX2, Cond.code yX2_unmetByWrite cX2_unmetByWrite 4 (some .int)]
def wsX3_writeBreaches_r2 : List Cond := [Cond.fieldLink RX2 42 "ClientGuarantees$State" "readVectors" "[[I", Cond.fieldLink RX2 45 "ClientGuarantees$State" "writeVectors" "[[I", Cond.static yX3_only, Cond.code yX3_only cX3_only 1 (some .int), Cond.methodLink RX2 102 yX2_covers, Cond.instanceMethod yX2_covers, Cond.selects RX2 yX2_covers yX2_covers, Cond.code yX2_covers cX2_covers 4 (some .boolean), Cond.methodLink RX2 106 yX2_greatestCount, Cond.instanceMethod yX2_greatestCount, Cond.selects RX2 yX2_greatestCount yX2_greatestCount, Cond.code yX2_greatestCount cX2_greatestCount 5 (some .int), Cond.fieldLink RX2 33 "ClientGuarantees$State" "counts" "[[I", Cond.methodLink RX2 97 Lib.Math.max.name, Cond.static Lib.Math.max.name, Cond.initialized "java/lang/Math", Cond.code Lib.Math.max.name Lib.Math.max.code 2 (some .int), Cond.static yX3_contains, Cond.code yX3_contains cX3_contains 2 (some .boolean)]
def wsX3_writeBreaches : List Cond := .code yX3_writeBreaches cX3_writeBreaches 3 (some .int) :: ((wsX3_writeBreaches_r1 ++ wsX3_writeBreaches_r2) ++ wsX30 ++ wsX20)
def wsX3_readableReplica_r1 : List Cond := [Cond.fieldLink RX3 12 "ClientGuarantees" "state" "LClientGuarantees$State;", Cond.methodLink RX3 49 yX3_isClient, Cond.static yX3_isClient, Cond.initialized RX3, Cond.code yX3_isClient cX3_isClient 1 (some .boolean), Cond.methodLink RX3 112 yX3_isBelow, Cond.static yX3_isBelow, Cond.code yX3_isBelow cX3_isBelow 2 (some .boolean), Cond.methodLink RX3 56 yX3_counted, Cond.instanceMethod yX3_counted, Cond.selects RX3 yX3_counted yX3_counted, Cond.code yX3_counted cX3_counted 2 (some .int), Cond.fieldLink RX3 30 "ClientGuarantees" "errors" "[I", Cond.methodLink RX3 148 yX3_isErrorCode, Cond.static yX3_isErrorCode, Cond.code yX3_isErrorCode cX3_isErrorCode 1 (some .boolean), Cond.methodLink RX3 77 yX3_only, Cond.static yX3_only, Cond.code yX3_only cX3_only 1 (some .int), Cond.methodLink RX3 86 yX2_isReadAllowed, Cond.instanceMethod yX2_isReadAllowed, Cond.selects RX2 yX2_isReadAllowed yX2_isReadAllowed, Cond.initialized RX2, Cond.code yX2_isReadAllowed cX2_isReadAllowed 3 (some .boolean)]
def wsX3_readableReplica_r2 : List Cond := [Cond.fieldLink RX2 39 "ClientGuarantees$State" "guaranteeSets" "[I", Cond.methodLink RX2 77 yX2_unmetByRead, Cond.instanceMethod yX2_unmetByRead, Cond.selects RX2 yX2_unmetByRead yX2_unmetByRead, Cond.code yX2_unmetByRead cX2_unmetByRead 4 (some .int), Cond.fieldLink RX2 45 "ClientGuarantees$State" "writeVectors" "[[I", Cond.fieldLink RX2 42 "ClientGuarantees$State" "readVectors" "[[I", Cond.methodLink RX2 102 yX2_covers, Cond.instanceMethod yX2_covers, Cond.selects RX2 yX2_covers yX2_covers, Cond.code yX2_covers cX2_covers 4 (some .boolean), Cond.methodLink RX2 106 yX2_greatestCount, Cond.instanceMethod yX2_greatestCount, Cond.selects RX2 yX2_greatestCount yX2_greatestCount, Cond.code yX2_greatestCount cX2_greatestCount 5 (some .int), Cond.fieldLink RX2 33 "ClientGuarantees$State" "counts" "[[I", Cond.methodLink RX2 97 Lib.Math.max.name, Cond.static Lib.Math.max.name, Cond.initialized "java/lang/Math", Cond.code Lib.Math.max.name Lib.Math.max.code 2 (some .int), Cond.static yX3_contains, Cond.code yX3_contains cX3_contains 2 (some .boolean)]
def wsX3_readableReplica : List Cond := .code yX3_readableReplica cX3_readableReplica 3 (some .int) :: ((wsX3_readableReplica_r1 ++ wsX3_readableReplica_r2) ++ wsX30 ++ wsX20)
def wsX3_writableReplica_r1 : List Cond := [Cond.fieldLink RX3 12 "ClientGuarantees" "state" "LClientGuarantees$State;", Cond.methodLink RX3 49 yX3_isClient, Cond.static yX3_isClient, Cond.initialized RX3, Cond.code yX3_isClient cX3_isClient 1 (some .boolean), Cond.methodLink RX3 112 yX3_isBelow, Cond.static yX3_isBelow, Cond.code yX3_isBelow cX3_isBelow 2 (some .boolean), Cond.methodLink RX3 56 yX3_counted, Cond.instanceMethod yX3_counted, Cond.selects RX3 yX3_counted yX3_counted, Cond.code yX3_counted cX3_counted 2 (some .int), Cond.fieldLink RX3 30 "ClientGuarantees" "errors" "[I", Cond.methodLink RX3 148 yX3_isErrorCode, Cond.static yX3_isErrorCode, Cond.code yX3_isErrorCode cX3_isErrorCode 1 (some .boolean), Cond.methodLink RX3 90 yX2_isWriteAllowed, Cond.instanceMethod yX2_isWriteAllowed, Cond.selects RX2 yX2_isWriteAllowed yX2_isWriteAllowed, Cond.initialized RX2, Cond.code yX2_isWriteAllowed cX2_isWriteAllowed 3 (some .boolean), Cond.fieldLink RX2 39 "ClientGuarantees$State" "guaranteeSets" "[I", Cond.methodLink RX2 91 yX2_unmetByWrite, Cond.instanceMethod yX2_unmetByWrite]
def wsX3_writableReplica_r2 : List Cond := [Cond.selects RX2 yX2_unmetByWrite yX2_unmetByWrite, Cond.code yX2_unmetByWrite cX2_unmetByWrite 4 (some .int), Cond.fieldLink RX2 42 "ClientGuarantees$State" "readVectors" "[[I", Cond.fieldLink RX2 45 "ClientGuarantees$State" "writeVectors" "[[I", Cond.static yX3_only, Cond.code yX3_only cX3_only 1 (some .int), Cond.methodLink RX2 102 yX2_covers, Cond.instanceMethod yX2_covers, Cond.selects RX2 yX2_covers yX2_covers, Cond.code yX2_covers cX2_covers 4 (some .boolean), Cond.methodLink RX2 106 yX2_greatestCount, Cond.instanceMethod yX2_greatestCount, Cond.selects RX2 yX2_greatestCount yX2_greatestCount, Cond.code yX2_greatestCount cX2_greatestCount 5 (some .int), Cond.fieldLink RX2 33 "ClientGuarantees$State" "counts" "[[I", Cond.methodLink RX2 97 Lib.Math.max.name, Cond.static Lib.Math.max.name, Cond.initialized "java/lang/Math", Cond.code Lib.Math.max.name Lib.Math.max.code 2 (some .int), Cond.static yX3_contains, Cond.code yX3_contains cX3_contains 2 (some .boolean)]
def wsX3_writableReplica : List Cond := .code yX3_writableReplica cX3_writableReplica 3 (some .int) :: ((wsX3_writableReplica_r1 ++ wsX3_writableReplica_r2) ++ wsX30 ++ wsX20)
def wsX3_syncsForRead_r1 : List Cond := [Cond.fieldLink RX3 12 "ClientGuarantees" "state" "LClientGuarantees$State;", Cond.methodLink RX3 49 yX3_isClient, Cond.static yX3_isClient, Cond.initialized RX3, Cond.code yX3_isClient cX3_isClient 1 (some .boolean), Cond.methodLink RX3 112 yX3_isBelow, Cond.static yX3_isBelow, Cond.code yX3_isBelow cX3_isBelow 2 (some .boolean), Cond.methodLink RX3 53 yX3_isReplica, Cond.static yX3_isReplica, Cond.code yX3_isReplica cX3_isReplica 1 (some .boolean), Cond.methodLink RX3 56 yX3_counted, Cond.instanceMethod yX3_counted, Cond.selects RX3 yX3_counted yX3_counted, Cond.code yX3_counted cX3_counted 2 (some .int), Cond.fieldLink RX3 30 "ClientGuarantees" "errors" "[I", Cond.methodLink RX3 148 yX3_isErrorCode, Cond.static yX3_isErrorCode, Cond.code yX3_isErrorCode cX3_isErrorCode 1 (some .boolean), Cond.methodLink RX3 93 yX3_contains, Cond.static yX3_contains, Cond.code yX3_contains cX3_contains 2 (some .boolean), Cond.methodLink RX3 77 yX3_only, Cond.static yX3_only]
def wsX3_syncsForRead_r2 : List Cond := [Cond.code yX3_only cX3_only 1 (some .int), Cond.methodLink RX3 86 yX2_isReadAllowed, Cond.instanceMethod yX2_isReadAllowed, Cond.selects RX2 yX2_isReadAllowed yX2_isReadAllowed, Cond.initialized RX2, Cond.code yX2_isReadAllowed cX2_isReadAllowed 3 (some .boolean), Cond.fieldLink RX2 39 "ClientGuarantees$State" "guaranteeSets" "[I", Cond.methodLink RX2 77 yX2_unmetByRead, Cond.instanceMethod yX2_unmetByRead, Cond.selects RX2 yX2_unmetByRead yX2_unmetByRead, Cond.code yX2_unmetByRead cX2_unmetByRead 4 (some .int), Cond.fieldLink RX2 45 "ClientGuarantees$State" "writeVectors" "[[I", Cond.fieldLink RX2 42 "ClientGuarantees$State" "readVectors" "[[I", Cond.methodLink RX2 102 yX2_covers, Cond.instanceMethod yX2_covers, Cond.selects RX2 yX2_covers yX2_covers, Cond.code yX2_covers cX2_covers 4 (some .boolean), Cond.methodLink RX2 106 yX2_greatestCount, Cond.instanceMethod yX2_greatestCount, Cond.selects RX2 yX2_greatestCount yX2_greatestCount, Cond.code yX2_greatestCount cX2_greatestCount 5 (some .int), Cond.fieldLink RX2 33 "ClientGuarantees$State" "counts" "[[I", Cond.methodLink RX2 97 Lib.Math.max.name, Cond.static Lib.Math.max.name]
def wsX3_syncsForRead_r3 : List Cond := [Cond.initialized "java/lang/Math", Cond.code Lib.Math.max.name Lib.Math.max.code 2 (some .int)]
def wsX3_syncsForRead : List Cond := .code yX3_syncsForRead cX3_syncsForRead 4 (some .int) :: ((wsX3_syncsForRead_r1 ++ (wsX3_syncsForRead_r2 ++ wsX3_syncsForRead_r3)) ++ wsX30 ++ wsX20)
def wsX3_count : List Cond := .code yX3_count cX3_count 3 (some .int) :: ([.fieldLink RX3 12 "ClientGuarantees" "state" "LClientGuarantees$State;", .fieldLink RX3 96 "ClientGuarantees$State" "counts" "[[I", .methodLink RX3 53 yX3_isReplica, .static yX3_isReplica, .initialized RX3, .code yX3_isReplica cX3_isReplica 1 (some .boolean), .methodLink RX3 112 yX3_isBelow, .static yX3_isBelow, .code yX3_isBelow cX3_isBelow 2 (some .boolean), .methodLink RX3 56 yX3_counted, .instanceMethod yX3_counted, .selects RX3 yX3_counted yX3_counted, .code yX3_counted cX3_counted 2 (some .int), .fieldLink RX3 30 "ClientGuarantees" "errors" "[I", .methodLink RX3 148 yX3_isErrorCode, .static yX3_isErrorCode, .code yX3_isErrorCode cX3_isErrorCode 1 (some .boolean)] ++ wsX30 ++ wsX20)
def wsX3_clock : List Cond := .code yX3_clock cX3_clock 2 (some .int) :: ([.fieldLink RX3 12 "ClientGuarantees" "state" "LClientGuarantees$State;", .fieldLink RX3 99 "ClientGuarantees$State" "clocks" "[I", .methodLink RX3 53 yX3_isReplica, .static yX3_isReplica, .initialized RX3, .code yX3_isReplica cX3_isReplica 1 (some .boolean), .methodLink RX3 112 yX3_isBelow, .static yX3_isBelow, .code yX3_isBelow cX3_isBelow 2 (some .boolean), .methodLink RX3 56 yX3_counted, .instanceMethod yX3_counted, .selects RX3 yX3_counted yX3_counted, .code yX3_counted cX3_counted 2 (some .int), .fieldLink RX3 30 "ClientGuarantees" "errors" "[I", .methodLink RX3 148 yX3_isErrorCode, .static yX3_isErrorCode, .code yX3_isErrorCode cX3_isErrorCode 1 (some .boolean)] ++ wsX30 ++ wsX20)
def wsX3_peek_r1 : List Cond := [Cond.fieldLink RX3 12 "ClientGuarantees" "state" "LClientGuarantees$State;", Cond.methodLink RX3 53 yX3_isReplica, Cond.static yX3_isReplica, Cond.initialized RX3, Cond.code yX3_isReplica cX3_isReplica 1 (some .boolean), Cond.methodLink RX3 112 yX3_isBelow, Cond.static yX3_isBelow, Cond.code yX3_isBelow cX3_isBelow 2 (some .boolean), Cond.methodLink RX3 102 yX3_isKey, Cond.static yX3_isKey, Cond.code yX3_isKey cX3_isKey 1 (some .boolean), Cond.methodLink RX3 56 yX3_counted, Cond.instanceMethod yX3_counted, Cond.selects RX3 yX3_counted yX3_counted, Cond.code yX3_counted cX3_counted 2 (some .int), Cond.fieldLink RX3 30 "ClientGuarantees" "errors" "[I", Cond.methodLink RX3 148 yX3_isErrorCode, Cond.static yX3_isErrorCode, Cond.code yX3_isErrorCode cX3_isErrorCode 1 (some .boolean), Cond.methodLink RX3 105 yX2_valueAt, Cond.instanceMethod yX2_valueAt, Cond.selects RX2 yX2_valueAt yX2_valueAt, Cond.initialized RX2, Cond.code yX2_valueAt cX2_valueAt 5 (some .int)]
def wsX3_peek_r2 : List Cond := [Cond.fieldLink RX2 9 "ClientGuarantees$State" "writeTotal" "I", Cond.fieldLink RX2 22 "ClientGuarantees$State" "keys" "[I", Cond.fieldLink RX2 25 "ClientGuarantees$State" "values" "[I", Cond.methodLink RX2 94 yX2_knows, Cond.instanceMethod yX2_knows, Cond.selects RX2 yX2_knows yX2_knows, Cond.code yX2_knows cX2_knows 3 (some .boolean), Cond.fieldLink RX2 19 "ClientGuarantees$State" "sequences" "[I", Cond.fieldLink RX2 33 "ClientGuarantees$State" "counts" "[[I", Cond.fieldLink RX2 15 "ClientGuarantees$State" "origins" "[I", Cond.methodLink RX2 112 yX2_isLater, Cond.instanceMethod yX2_isLater, Cond.selects RX2 yX2_isLater yX2_isLater, Cond.code yX2_isLater cX2_isLater 3 (some .boolean), Cond.fieldLink RX2 28 "ClientGuarantees$State" "timestamps" "[I"]
def wsX3_peek : List Cond := .code yX3_peek cX3_peek 4 (some .int) :: ((wsX3_peek_r1 ++ wsX3_peek_r2) ++ wsX30 ++ wsX20)
def wsX3_compare_r1 : List Cond := [Cond.fieldLink RX3 12 "ClientGuarantees" "state" "LClientGuarantees$State;", Cond.fieldLink RX3 96 "ClientGuarantees$State" "counts" "[[I", Cond.methodLink RX3 53 yX3_isReplica, Cond.static yX3_isReplica, Cond.initialized RX3, Cond.code yX3_isReplica cX3_isReplica 1 (some .boolean), Cond.methodLink RX3 112 yX3_isBelow, Cond.static yX3_isBelow, Cond.code yX3_isBelow cX3_isBelow 2 (some .boolean), Cond.methodLink RX3 56 yX3_counted, Cond.instanceMethod yX3_counted, Cond.selects RX3 yX3_counted yX3_counted, Cond.code yX3_counted cX3_counted 2 (some .int), Cond.fieldLink RX3 30 "ClientGuarantees" "errors" "[I", Cond.methodLink RX3 148 yX3_isErrorCode, Cond.static yX3_isErrorCode, Cond.code yX3_isErrorCode cX3_isErrorCode 1 (some .boolean), Cond.methodLink RX3 77 yX3_only, Cond.static yX3_only, Cond.code yX3_only cX3_only 1 (some .int), Cond.methodLink RX3 108 yX2_covers, Cond.instanceMethod yX2_covers, Cond.selects RX2 yX2_covers yX2_covers, Cond.initialized RX2]
def wsX3_compare_r2 : List Cond := [Cond.code yX2_covers cX2_covers 4 (some .boolean), Cond.methodLink RX2 106 yX2_greatestCount, Cond.instanceMethod yX2_greatestCount, Cond.selects RX2 yX2_greatestCount yX2_greatestCount, Cond.code yX2_greatestCount cX2_greatestCount 5 (some .int), Cond.fieldLink RX2 33 "ClientGuarantees$State" "counts" "[[I", Cond.methodLink RX2 97 Lib.Math.max.name, Cond.static Lib.Math.max.name, Cond.initialized "java/lang/Math", Cond.code Lib.Math.max.name Lib.Math.max.code 2 (some .int), Cond.static yX3_contains, Cond.code yX3_contains cX3_contains 2 (some .boolean)]
def wsX3_compare : List Cond := .code yX3_compare cX3_compare 5 (some .int) :: ((wsX3_compare_r1 ++ wsX3_compare_r2) ++ wsX30 ++ wsX20)
def wsX3_breaches : List Cond := .code yX3_breaches cX3_breaches 2 (some .int) :: ([.fieldLink RX3 12 "ClientGuarantees" "state" "LClientGuarantees$State;", .fieldLink RX3 115 "ClientGuarantees$State" "breachCounts" "[I", .methodLink RX3 112 yX3_isBelow, .static yX3_isBelow, .initialized RX3, .code yX3_isBelow cX3_isBelow 2 (some .boolean), .methodLink RX3 56 yX3_counted, .instanceMethod yX3_counted, .selects RX3 yX3_counted yX3_counted, .code yX3_counted cX3_counted 2 (some .int), .fieldLink RX3 30 "ClientGuarantees" "errors" "[I", .methodLink RX3 148 yX3_isErrorCode, .static yX3_isErrorCode, .code yX3_isErrorCode cX3_isErrorCode 1 (some .boolean)] ++ wsX30 ++ wsX20)
def wsX3_append : List Cond := .code yX3_append cX3_append 2 (some .int) :: ([.fieldLink RX3 26 "ClientGuarantees" "script" "LClientGuarantees$Script;", .methodLink RX3 112 yX3_isBelow, .static yX3_isBelow, .initialized RX3, .code yX3_isBelow cX3_isBelow 2 (some .boolean), .methodLink RX3 56 yX3_counted, .instanceMethod yX3_counted, .selects RX3 yX3_counted yX3_counted, .code yX3_counted cX3_counted 2 (some .int), .fieldLink RX3 30 "ClientGuarantees" "errors" "[I", .methodLink RX3 148 yX3_isErrorCode, .static yX3_isErrorCode, .code yX3_isErrorCode cX3_isErrorCode 1 (some .boolean), .methodLink RX3 118 yX1_add, .instanceMethod yX1_add, .selects RX1 yX1_add yX1_add, .initialized RX1, .code yX1_add cX1_add 2 (some .int), .fieldLink RX1 15 "ClientGuarantees$Script" "length" "I", .fieldLink RX1 9 "ClientGuarantees$Script" "text" "[I"] ++ wsX30 ++ wsX10)
def wsX3_clearText : List Cond := .code yX3_clearText cX3_clearText 2 (some .int) :: ([.fieldLink RX3 26 "ClientGuarantees" "script" "LClientGuarantees$Script;", .fieldLink RX3 121 "ClientGuarantees$Script" "length" "I"] ++ wsX30 ++ wsX10)
def wsX3_runCommand_r1 : List Cond := [Cond.fieldLink RX3 26 "ClientGuarantees" "script" "LClientGuarantees$Script;", Cond.fieldLink RX3 168 "ClientGuarantees$Script" "numbers" "[[I", Cond.fieldLink RX3 171 "ClientGuarantees$Script" "letters" "[I", Cond.fieldLink RX3 12 "ClientGuarantees" "state" "LClientGuarantees$State;", Cond.methodLink RX3 38 yX2_changeGuarantees, Cond.instanceMethod yX2_changeGuarantees, Cond.selects RX2 yX2_changeGuarantees yX2_changeGuarantees, Cond.initialized RX2, Cond.code yX2_changeGuarantees cX2_changeGuarantees 4 (some .int), Cond.fieldLink RX2 39 "ClientGuarantees$State" "guaranteeSets" "[I", Cond.static yX3_isClient, Cond.initialized RX3, Cond.code yX3_isClient cX3_isClient 1 (some .boolean), Cond.methodLink RX3 112 yX3_isBelow, Cond.static yX3_isBelow, Cond.code yX3_isBelow cX3_isBelow 2 (some .boolean), Cond.methodLink RX3 66 yX2_readKey, Cond.instanceMethod yX2_readKey, Cond.selects RX2 yX2_readKey yX2_readKey, Cond.code yX2_readKey cX2_readKey 5 (some .int), Cond.fieldLink RX2 33 "ClientGuarantees$State" "counts" "[[I", Cond.fieldLink RX2 42 "ClientGuarantees$State" "readVectors" "[[I", Cond.static yX3_isReplica, Cond.code yX3_isReplica cX3_isReplica 1 (some .boolean)]
def wsX3_runCommand_r2 : List Cond := [Cond.static yX3_isKey, Cond.code yX3_isKey cX3_isKey 1 (some .boolean), Cond.static yX3_only, Cond.code yX3_only cX3_only 1 (some .int), Cond.methodLink RX2 77 yX2_unmetByRead, Cond.instanceMethod yX2_unmetByRead, Cond.selects RX2 yX2_unmetByRead yX2_unmetByRead, Cond.code yX2_unmetByRead cX2_unmetByRead 4 (some .int), Cond.fieldLink RX2 45 "ClientGuarantees$State" "writeVectors" "[[I", Cond.methodLink RX2 102 yX2_covers, Cond.instanceMethod yX2_covers, Cond.selects RX2 yX2_covers yX2_covers, Cond.code yX2_covers cX2_covers 4 (some .boolean), Cond.methodLink RX2 106 yX2_greatestCount, Cond.instanceMethod yX2_greatestCount, Cond.selects RX2 yX2_greatestCount yX2_greatestCount, Cond.code yX2_greatestCount cX2_greatestCount 5 (some .int), Cond.methodLink RX2 97 Lib.Math.max.name, Cond.static Lib.Math.max.name, Cond.initialized "java/lang/Math", Cond.code Lib.Math.max.name Lib.Math.max.code 2 (some .int), Cond.static yX3_contains, Cond.code yX3_contains cX3_contains 2 (some .boolean), Cond.methodLink RX2 81 yX2_countBreaches]
def wsX3_runCommand_r3 : List Cond := [Cond.instanceMethod yX2_countBreaches, Cond.selects RX2 yX2_countBreaches yX2_countBreaches, Cond.code yX2_countBreaches cX2_countBreaches 3 none, Cond.fieldLink RX2 48 "ClientGuarantees$State" "breachCounts" "[I", Cond.methodLink RX2 85 yX2_merge, Cond.static yX2_merge, Cond.code yX2_merge cX2_merge 3 none, Cond.methodLink RX2 88 yX2_valueAt, Cond.instanceMethod yX2_valueAt, Cond.selects RX2 yX2_valueAt yX2_valueAt, Cond.code yX2_valueAt cX2_valueAt 5 (some .int), Cond.fieldLink RX2 9 "ClientGuarantees$State" "writeTotal" "I", Cond.fieldLink RX2 22 "ClientGuarantees$State" "keys" "[I", Cond.fieldLink RX2 25 "ClientGuarantees$State" "values" "[I", Cond.methodLink RX2 94 yX2_knows, Cond.instanceMethod yX2_knows, Cond.selects RX2 yX2_knows yX2_knows, Cond.code yX2_knows cX2_knows 3 (some .boolean), Cond.fieldLink RX2 19 "ClientGuarantees$State" "sequences" "[I", Cond.fieldLink RX2 15 "ClientGuarantees$State" "origins" "[I", Cond.methodLink RX2 112 yX2_isLater, Cond.instanceMethod yX2_isLater, Cond.selects RX2 yX2_isLater yX2_isLater, Cond.code yX2_isLater cX2_isLater 3 (some .boolean)]
def wsX3_runCommand_r4 : List Cond := [Cond.fieldLink RX2 28 "ClientGuarantees$State" "timestamps" "[I", Cond.methodLink RX3 70 yX2_writeKey, Cond.instanceMethod yX2_writeKey, Cond.selects RX2 yX2_writeKey yX2_writeKey, Cond.code yX2_writeKey cX2_writeKey 6 (some .int), Cond.fieldLink RX2 36 "ClientGuarantees$State" "clocks" "[I", Cond.methodLink RX2 91 yX2_unmetByWrite, Cond.instanceMethod yX2_unmetByWrite, Cond.selects RX2 yX2_unmetByWrite yX2_unmetByWrite, Cond.code yX2_unmetByWrite cX2_unmetByWrite 4 (some .int), Cond.methodLink RX3 74 yX2_synchronize, Cond.instanceMethod yX2_synchronize, Cond.selects RX2 yX2_synchronize yX2_synchronize, Cond.code yX2_synchronize cX2_synchronize 5 (some .int), Cond.methodLink RX3 46 yX2_clearVectors, Cond.instanceMethod yX2_clearVectors, Cond.selects RX2 yX2_clearVectors yX2_clearVectors, Cond.code yX2_clearVectors cX2_clearVectors 4 (some .int)]
def wsX3_runCommand : List Cond := .code yX3_runCommand cX3_runCommand 3 (some .int) :: ((wsX3_runCommand_r1 ++ (wsX3_runCommand_r2 ++ (wsX3_runCommand_r3 ++ wsX3_runCommand_r4))) ++ wsX30 ++ wsX10 ++ wsX20)
def wsX3_execute_r1 : List Cond := [Cond.fieldLink RX3 26 "ClientGuarantees" "script" "LClientGuarantees$Script;", Cond.fieldLink RX3 19 "ClientGuarantees" "history" "LClientGuarantees$History;", Cond.fieldLink RX3 12 "ClientGuarantees" "state" "LClientGuarantees$State;", Cond.fieldLink RX3 129 "ClientGuarantees$Script" "commands" "I", Cond.methodLink RX3 125 yX1_parse, Cond.instanceMethod yX1_parse, Cond.selects RX1 yX1_parse yX1_parse, Cond.initialized RX1, Cond.code yX1_parse cX1_parse 2 (some .int), Cond.fieldLink RX1 27 "ClientGuarantees$Script" "commands" "I", Cond.fieldLink RX1 30 "ClientGuarantees$Script" "inCommand" "Z", Cond.fieldLink RX1 15 "ClientGuarantees$Script" "length" "I", Cond.fieldLink RX1 9 "ClientGuarantees$Script" "text" "[I", Cond.methodLink RX1 40 yX1_accepts, Cond.instanceMethod yX1_accepts, Cond.selects RX1 yX1_accepts yX1_accepts, Cond.code yX1_accepts cX1_accepts 2 (some .boolean), Cond.fieldLink RX1 37 "ClientGuarantees$Script" "digits" "I", Cond.methodLink RX1 44 yX1_beginsCommand, Cond.instanceMethod yX1_beginsCommand, Cond.selects RX1 yX1_beginsCommand yX1_beginsCommand, Cond.code yX1_beginsCommand cX1_beginsCommand 2 (some .boolean), Cond.fieldLink RX1 19 "ClientGuarantees$Script" "letters" "[I", Cond.fieldLink RX1 34 "ClientGuarantees$Script" "numbersBegun" "I"]
def wsX3_execute_r2 : List Cond := [Cond.methodLink RX1 54 yX1_numbersAfter, Cond.static yX1_numbersAfter, Cond.code yX1_numbersAfter cX1_numbersAfter 1 (some .int), Cond.methodLink RX1 47 yX1_endsCommand, Cond.instanceMethod yX1_endsCommand, Cond.selects RX1 yX1_endsCommand yX1_endsCommand, Cond.code yX1_endsCommand cX1_endsCommand 1 (some .boolean), Cond.methodLink RX1 51 yX1_takesDigit, Cond.instanceMethod yX1_takesDigit, Cond.selects RX1 yX1_takesDigit yX1_takesDigit, Cond.code yX1_takesDigit cX1_takesDigit 3 (some .boolean), Cond.fieldLink RX1 24 "ClientGuarantees$Script" "numbers" "[[I", Cond.methodLink RX3 34 yX0_prepare, Cond.instanceMethod yX0_prepare, Cond.selects RX0 yX0_prepare yX0_prepare, Cond.initialized RX0, Cond.code yX0_prepare cX0_prepare 2 none, Cond.fieldLink RX0 13 "ClientGuarantees$History" "slots" "[LClientGuarantees$State;", Cond.fieldLink RX0 17 "ClientGuarantees$History" "free" "I", Cond.methodLink RX0 25 yX2_copyFrom, Cond.instanceMethod yX2_copyFrom, Cond.selects RX2 yX2_copyFrom yX2_copyFrom, Cond.initialized RX2, Cond.code yX2_copyFrom cX2_copyFrom 2 none]
def wsX3_execute_r3 : List Cond := [Cond.fieldLink RX2 9 "ClientGuarantees$State" "writeTotal" "I", Cond.fieldLink RX2 15 "ClientGuarantees$State" "origins" "[I", Cond.fieldLink RX2 19 "ClientGuarantees$State" "sequences" "[I", Cond.fieldLink RX2 22 "ClientGuarantees$State" "keys" "[I", Cond.fieldLink RX2 25 "ClientGuarantees$State" "values" "[I", Cond.fieldLink RX2 28 "ClientGuarantees$State" "timestamps" "[I", Cond.fieldLink RX2 33 "ClientGuarantees$State" "counts" "[[I", Cond.fieldLink RX2 36 "ClientGuarantees$State" "clocks" "[I", Cond.fieldLink RX2 39 "ClientGuarantees$State" "guaranteeSets" "[I", Cond.fieldLink RX2 42 "ClientGuarantees$State" "readVectors" "[[I", Cond.fieldLink RX2 45 "ClientGuarantees$State" "writeVectors" "[[I", Cond.fieldLink RX2 48 "ClientGuarantees$State" "breachCounts" "[I", Cond.methodLink RX2 51 yX2_copyRow, Cond.static yX2_copyRow, Cond.code yX2_copyRow cX2_copyRow 2 none, Cond.methodLink RX2 123 Lib.Math.min.name, Cond.static Lib.Math.min.name, Cond.initialized "java/lang/Math", Cond.code Lib.Math.min.name Lib.Math.min.code 2 (some .int), Cond.methodLink RX2 126 arraycopyName, Cond.native arraycopyName, Cond.static arraycopyName, Cond.initialized "java/lang/System", Cond.methodLink RX2 55 yX2_copyRows]
def wsX3_execute_r4 : List Cond := [Cond.static yX2_copyRows, Cond.code yX2_copyRows cX2_copyRows 3 none, Cond.methodLink RX3 132 yX3_runCommand, Cond.instanceMethod yX3_runCommand, Cond.selects RX3 yX3_runCommand yX3_runCommand, Cond.initialized RX3, Cond.code yX3_runCommand cX3_runCommand 3 (some .int), Cond.fieldLink RX3 168 "ClientGuarantees$Script" "numbers" "[[I", Cond.fieldLink RX3 171 "ClientGuarantees$Script" "letters" "[I", Cond.methodLink RX3 38 yX2_changeGuarantees, Cond.instanceMethod yX2_changeGuarantees, Cond.selects RX2 yX2_changeGuarantees yX2_changeGuarantees, Cond.code yX2_changeGuarantees cX2_changeGuarantees 4 (some .int), Cond.static yX3_isClient, Cond.code yX3_isClient cX3_isClient 1 (some .boolean), Cond.methodLink RX3 112 yX3_isBelow, Cond.static yX3_isBelow, Cond.code yX3_isBelow cX3_isBelow 2 (some .boolean), Cond.methodLink RX3 66 yX2_readKey, Cond.instanceMethod yX2_readKey, Cond.selects RX2 yX2_readKey yX2_readKey, Cond.code yX2_readKey cX2_readKey 5 (some .int), Cond.static yX3_isReplica, Cond.code yX3_isReplica cX3_isReplica 1 (some .boolean)]
def wsX3_execute_r5 : List Cond := [Cond.static yX3_isKey, Cond.code yX3_isKey cX3_isKey 1 (some .boolean), Cond.static yX3_only, Cond.code yX3_only cX3_only 1 (some .int), Cond.methodLink RX2 77 yX2_unmetByRead, Cond.instanceMethod yX2_unmetByRead, Cond.selects RX2 yX2_unmetByRead yX2_unmetByRead, Cond.code yX2_unmetByRead cX2_unmetByRead 4 (some .int), Cond.methodLink RX2 102 yX2_covers, Cond.instanceMethod yX2_covers, Cond.selects RX2 yX2_covers yX2_covers, Cond.code yX2_covers cX2_covers 4 (some .boolean), Cond.methodLink RX2 106 yX2_greatestCount, Cond.instanceMethod yX2_greatestCount, Cond.selects RX2 yX2_greatestCount yX2_greatestCount, Cond.code yX2_greatestCount cX2_greatestCount 5 (some .int), Cond.methodLink RX2 97 Lib.Math.max.name, Cond.static Lib.Math.max.name, Cond.code Lib.Math.max.name Lib.Math.max.code 2 (some .int), Cond.static yX3_contains, Cond.code yX3_contains cX3_contains 2 (some .boolean), Cond.methodLink RX2 81 yX2_countBreaches, Cond.instanceMethod yX2_countBreaches, Cond.selects RX2 yX2_countBreaches yX2_countBreaches]
def wsX3_execute_r6 : List Cond := [Cond.code yX2_countBreaches cX2_countBreaches 3 none, Cond.methodLink RX2 85 yX2_merge, Cond.static yX2_merge, Cond.code yX2_merge cX2_merge 3 none, Cond.methodLink RX2 88 yX2_valueAt, Cond.instanceMethod yX2_valueAt, Cond.selects RX2 yX2_valueAt yX2_valueAt, Cond.code yX2_valueAt cX2_valueAt 5 (some .int), Cond.methodLink RX2 94 yX2_knows, Cond.instanceMethod yX2_knows, Cond.selects RX2 yX2_knows yX2_knows, Cond.code yX2_knows cX2_knows 3 (some .boolean), Cond.methodLink RX2 112 yX2_isLater, Cond.instanceMethod yX2_isLater, Cond.selects RX2 yX2_isLater yX2_isLater, Cond.code yX2_isLater cX2_isLater 3 (some .boolean), Cond.methodLink RX3 70 yX2_writeKey, Cond.instanceMethod yX2_writeKey, Cond.selects RX2 yX2_writeKey yX2_writeKey, Cond.code yX2_writeKey cX2_writeKey 6 (some .int), Cond.methodLink RX2 91 yX2_unmetByWrite, Cond.instanceMethod yX2_unmetByWrite, Cond.selects RX2 yX2_unmetByWrite yX2_unmetByWrite, Cond.code yX2_unmetByWrite cX2_unmetByWrite 4 (some .int)]
def wsX3_execute_r7 : List Cond := [Cond.methodLink RX3 74 yX2_synchronize, Cond.instanceMethod yX2_synchronize, Cond.selects RX2 yX2_synchronize yX2_synchronize, Cond.code yX2_synchronize cX2_synchronize 5 (some .int), Cond.methodLink RX3 46 yX2_clearVectors, Cond.instanceMethod yX2_clearVectors, Cond.selects RX2 yX2_clearVectors yX2_clearVectors, Cond.code yX2_clearVectors cX2_clearVectors 4 (some .int), Cond.methodLink RX3 135 yX0_restorePrepared, Cond.instanceMethod yX0_restorePrepared, Cond.selects RX0 yX0_restorePrepared yX0_restorePrepared, Cond.code yX0_restorePrepared cX0_restorePrepared 2 none, Cond.methodLink RX3 138 yX0_keepPrepared, Cond.instanceMethod yX0_keepPrepared, Cond.selects RX0 yX0_keepPrepared yX0_keepPrepared, Cond.code yX0_keepPrepared cX0_keepPrepared 1 none, Cond.fieldLink RX0 21 "ClientGuarantees$History" "size" "I", Cond.methodLink RX0 29 Lib.Math.min.name]
def wsX3_execute : List Cond := .code yX3_execute cX3_execute 5 (some .int) :: ((wsX3_execute_r1 ++ (wsX3_execute_r2 ++ (wsX3_execute_r3 ++ (wsX3_execute_r4 ++ (wsX3_execute_r5 ++ (wsX3_execute_r6 ++ wsX3_execute_r7)))))) ++ wsX30 ++ wsX10 ++ wsX00 ++ wsX20)
def wsX3_undo_r1 : List Cond := [Cond.fieldLink RX3 19 "ClientGuarantees" "history" "LClientGuarantees$History;", Cond.fieldLink RX3 12 "ClientGuarantees" "state" "LClientGuarantees$State;", Cond.fieldLink RX3 145 "ClientGuarantees$History" "size" "I", Cond.methodLink RX3 141 yX0_restoreNewest, Cond.instanceMethod yX0_restoreNewest, Cond.selects RX0 yX0_restoreNewest yX0_restoreNewest, Cond.initialized RX0, Cond.code yX0_restoreNewest cX0_restoreNewest 2 (some .boolean), Cond.fieldLink RX0 21 "ClientGuarantees$History" "size" "I", Cond.fieldLink RX0 17 "ClientGuarantees$History" "free" "I", Cond.fieldLink RX0 13 "ClientGuarantees$History" "slots" "[LClientGuarantees$State;", Cond.methodLink RX0 25 yX2_copyFrom, Cond.instanceMethod yX2_copyFrom, Cond.selects RX2 yX2_copyFrom yX2_copyFrom, Cond.initialized RX2, Cond.code yX2_copyFrom cX2_copyFrom 2 none, Cond.fieldLink RX2 9 "ClientGuarantees$State" "writeTotal" "I", Cond.fieldLink RX2 15 "ClientGuarantees$State" "origins" "[I", Cond.fieldLink RX2 19 "ClientGuarantees$State" "sequences" "[I", Cond.fieldLink RX2 22 "ClientGuarantees$State" "keys" "[I", Cond.fieldLink RX2 25 "ClientGuarantees$State" "values" "[I", Cond.fieldLink RX2 28 "ClientGuarantees$State" "timestamps" "[I", Cond.fieldLink RX2 33 "ClientGuarantees$State" "counts" "[[I", Cond.fieldLink RX2 36 "ClientGuarantees$State" "clocks" "[I"]
def wsX3_undo_r2 : List Cond := [Cond.fieldLink RX2 39 "ClientGuarantees$State" "guaranteeSets" "[I", Cond.fieldLink RX2 42 "ClientGuarantees$State" "readVectors" "[[I", Cond.fieldLink RX2 45 "ClientGuarantees$State" "writeVectors" "[[I", Cond.fieldLink RX2 48 "ClientGuarantees$State" "breachCounts" "[I", Cond.methodLink RX2 51 yX2_copyRow, Cond.static yX2_copyRow, Cond.code yX2_copyRow cX2_copyRow 2 none, Cond.methodLink RX2 123 Lib.Math.min.name, Cond.static Lib.Math.min.name, Cond.initialized "java/lang/Math", Cond.code Lib.Math.min.name Lib.Math.min.code 2 (some .int), Cond.methodLink RX2 126 arraycopyName, Cond.native arraycopyName, Cond.static arraycopyName, Cond.initialized "java/lang/System", Cond.methodLink RX2 55 yX2_copyRows, Cond.static yX2_copyRows, Cond.code yX2_copyRows cX2_copyRows 3 none, Cond.methodLink RX3 56 yX3_counted, Cond.instanceMethod yX3_counted, Cond.selects RX3 yX3_counted yX3_counted, Cond.initialized RX3, Cond.code yX3_counted cX3_counted 2 (some .int), Cond.fieldLink RX3 30 "ClientGuarantees" "errors" "[I"]
def wsX3_undo_r3 : List Cond := [Cond.methodLink RX3 148 yX3_isErrorCode, Cond.static yX3_isErrorCode, Cond.code yX3_isErrorCode cX3_isErrorCode 1 (some .boolean)]
def wsX3_undo : List Cond := .code yX3_undo cX3_undo 1 (some .int) :: ((wsX3_undo_r1 ++ (wsX3_undo_r2 ++ wsX3_undo_r3)) ++ wsX30 ++ wsX00 ++ wsX20)
def wsX3_errorCount : List Cond := .code yX3_errorCount cX3_errorCount 2 (some .int) :: ([.fieldLink RX3 30 "ClientGuarantees" "errors" "[I", .methodLink RX3 148 yX3_isErrorCode, .static yX3_isErrorCode, .initialized RX3, .code yX3_isErrorCode cX3_isErrorCode 1 (some .boolean), .methodLink RX3 56 yX3_counted, .instanceMethod yX3_counted, .selects RX3 yX3_counted yX3_counted, .code yX3_counted cX3_counted 2 (some .int)] ++ wsX30)
def wsX3_writes : List Cond := .code yX3_writes cX3_writes 1 (some .int) :: ([.fieldLink RX3 12 "ClientGuarantees" "state" "LClientGuarantees$State;", .fieldLink RX3 151 "ClientGuarantees$State" "writeTotal" "I"] ++ wsX30 ++ wsX20)
def wsX3_digest_r1 : List Cond := [Cond.constantLong RX3 154 (2647), Cond.fieldLink RX3 30 "ClientGuarantees" "errors" "[I", Cond.fieldLink RX3 12 "ClientGuarantees" "state" "LClientGuarantees$State;", Cond.fieldLink RX3 26 "ClientGuarantees" "script" "LClientGuarantees$Script;", Cond.fieldLink RX3 121 "ClientGuarantees$Script" "length" "I", Cond.fieldLink RX3 19 "ClientGuarantees" "history" "LClientGuarantees$History;", Cond.fieldLink RX3 145 "ClientGuarantees$History" "size" "I", Cond.methodLink RX3 156 yX3_mixAll, Cond.static yX3_mixAll, Cond.initialized RX3, Cond.code yX3_mixAll cX3_mixAll 7 (some .long), Cond.methodLink RX3 164 yX3_mix, Cond.static yX3_mix, Cond.code yX3_mix cX3_mix 3 (some .long), Cond.constantLong RX3 174 (31), Cond.methodLink RX3 160 yX2_mixInto, Cond.instanceMethod yX2_mixInto, Cond.selects RX2 yX2_mixInto yX2_mixInto, Cond.initialized RX2, Cond.code yX2_mixInto cX2_mixInto 5 (some .long), Cond.fieldLink RX2 9 "ClientGuarantees$State" "writeTotal" "I", Cond.fieldLink RX2 33 "ClientGuarantees$State" "counts" "[[I", Cond.fieldLink RX2 36 "ClientGuarantees$State" "clocks" "[I", Cond.fieldLink RX2 39 "ClientGuarantees$State" "guaranteeSets" "[I"]
def wsX3_digest_r2 : List Cond := [Cond.fieldLink RX2 42 "ClientGuarantees$State" "readVectors" "[[I", Cond.fieldLink RX2 45 "ClientGuarantees$State" "writeVectors" "[[I", Cond.fieldLink RX2 48 "ClientGuarantees$State" "breachCounts" "[I", Cond.methodLink RX2 88 yX2_valueAt, Cond.instanceMethod yX2_valueAt, Cond.selects RX2 yX2_valueAt yX2_valueAt, Cond.code yX2_valueAt cX2_valueAt 5 (some .int), Cond.fieldLink RX2 22 "ClientGuarantees$State" "keys" "[I", Cond.fieldLink RX2 25 "ClientGuarantees$State" "values" "[I", Cond.methodLink RX2 94 yX2_knows, Cond.instanceMethod yX2_knows, Cond.selects RX2 yX2_knows yX2_knows, Cond.code yX2_knows cX2_knows 3 (some .boolean), Cond.fieldLink RX2 19 "ClientGuarantees$State" "sequences" "[I", Cond.fieldLink RX2 15 "ClientGuarantees$State" "origins" "[I", Cond.methodLink RX2 112 yX2_isLater, Cond.instanceMethod yX2_isLater, Cond.selects RX2 yX2_isLater yX2_isLater, Cond.code yX2_isLater cX2_isLater 3 (some .boolean), Cond.fieldLink RX2 28 "ClientGuarantees$State" "timestamps" "[I"]
def wsX3_digest : List Cond := .code yX3_digest cX3_digest 3 (some .long) :: ((wsX3_digest_r1 ++ wsX3_digest_r2) ++ wsX30 ++ wsX10 ++ wsX00 ++ wsX20)
def wsX4_init : List Cond := .code yX4_init cX4_init 1 none :: ([.methodLink RX4 1 objectInit, .instanceMethod objectInit, .code objectInit ⟨#[0xb1]⟩ 1 none, .arrayClass .int, .fieldLink RX4 7 "ClientGuaranteesModel" "all" "[I", .fieldLink RX4 13 "ClientGuaranteesModel" "saved" "[I", .fieldLink RX4 16 "ClientGuaranteesModel" "aside" "[I", .fieldLink RX4 19 "ClientGuaranteesModel" "errors" "[I", .fieldLink RX4 22 "ClientGuaranteesModel" "text" "[I", .fieldLink RX4 25 "ClientGuaranteesModel" "numbers" "[I"] ++ wsX40)
def wsX4_in : List Cond := .code yX4_in cX4_in 6 (some .boolean) :: ([])
def wsX4_error : List Cond := .code yX4_error cX4_error 2 (some .int) :: ([.fieldLink RX4 19 "ClientGuaranteesModel" "errors" "[I"] ++ wsX40)
def wsX4_savesAside : List Cond := .code yX4_savesAside cX4_savesAside 2 none :: ([.fieldLink RX4 35 "ClientGuaranteesModel" "savedMany" "I", .fieldLink RX4 13 "ClientGuaranteesModel" "saved" "[I", .fieldLink RX4 16 "ClientGuaranteesModel" "aside" "[I"] ++ wsX40)
def wsX4_answered : List Cond := .code yX4_answered cX4_answered 2 (some .int) :: ([.methodLink RX4 28 yX4_error, .instanceMethod yX4_error, .selects RX4 yX4_error yX4_error, .initialized RX4, .code yX4_error cX4_error 2 (some .int), .fieldLink RX4 19 "ClientGuaranteesModel" "errors" "[I", .methodLink RX4 32 yX4_savesAside, .instanceMethod yX4_savesAside, .selects RX4 yX4_savesAside yX4_savesAside, .code yX4_savesAside cX4_savesAside 2 none, .fieldLink RX4 35 "ClientGuaranteesModel" "savedMany" "I", .fieldLink RX4 13 "ClientGuaranteesModel" "saved" "[I", .fieldLink RX4 16 "ClientGuaranteesModel" "aside" "[I"] ++ wsX40)
def wsX4_putsAside : List Cond := .code yX4_putsAside cX4_putsAside 2 none :: ([.fieldLink RX4 16 "ClientGuaranteesModel" "aside" "[I", .fieldLink RX4 7 "ClientGuaranteesModel" "all" "[I"] ++ wsX40)
def wsX4_isClient : List Cond := .code yX4_isClient cX4_isClient 1 (some .boolean) :: ([.constantLong RX4 39 (3), .methodLink RX4 41 yX4_in, .static yX4_in, .initialized RX4, .code yX4_in cX4_in 6 (some .boolean)])
def wsX4_isReplica : List Cond := .code yX4_isReplica cX4_isReplica 1 (some .boolean) :: ([.constantLong RX4 45 (2), .methodLink RX4 41 yX4_in, .static yX4_in, .initialized RX4, .code yX4_in cX4_in 6 (some .boolean)])
def wsX4_isKey : List Cond := .code yX4_isKey cX4_isKey 1 (some .boolean) :: ([.constantLong RX4 39 (3), .methodLink RX4 41 yX4_in, .static yX4_in, .initialized RX4, .code yX4_in cX4_in 6 (some .boolean)])
def wsX4_guarantees : List Cond := .code yX4_guarantees cX4_guarantees 2 (some .int) :: ([.fieldLink RX4 7 "ClientGuaranteesModel" "all" "[I"] ++ wsX40)
def wsX4_doesSet : List Cond := .code yX4_doesSet cX4_doesSet 4 (some .int) :: ([.constantLong RX4 51 (15), .fieldLink RX4 7 "ClientGuaranteesModel" "all" "[I", .methodLink RX4 47 yX4_isClient, .static yX4_isClient, .initialized RX4, .code yX4_isClient cX4_isClient 1 (some .boolean), .constantLong RX4 39 (3), .methodLink RX4 41 yX4_in, .static yX4_in, .code yX4_in cX4_in 6 (some .boolean), .methodLink RX4 53 yX4_guarantees, .instanceMethod yX4_guarantees, .selects RX4 yX4_guarantees yX4_guarantees, .code yX4_guarantees cX4_guarantees 2 (some .int)] ++ wsX40)
def wsX4_setGuarantees_r1 : List Cond := [Cond.methodLink RX4 56 yX4_putsAside, Cond.instanceMethod yX4_putsAside, Cond.selects RX4 yX4_putsAside yX4_putsAside, Cond.initialized RX4, Cond.code yX4_putsAside cX4_putsAside 2 none, Cond.fieldLink RX4 16 "ClientGuaranteesModel" "aside" "[I", Cond.fieldLink RX4 7 "ClientGuaranteesModel" "all" "[I", Cond.methodLink RX4 59 yX4_doesSet, Cond.instanceMethod yX4_doesSet, Cond.selects RX4 yX4_doesSet yX4_doesSet, Cond.code yX4_doesSet cX4_doesSet 4 (some .int), Cond.constantLong RX4 51 (15), Cond.methodLink RX4 47 yX4_isClient, Cond.static yX4_isClient, Cond.code yX4_isClient cX4_isClient 1 (some .boolean), Cond.constantLong RX4 39 (3), Cond.methodLink RX4 41 yX4_in, Cond.static yX4_in, Cond.code yX4_in cX4_in 6 (some .boolean), Cond.methodLink RX4 53 yX4_guarantees, Cond.instanceMethod yX4_guarantees, Cond.selects RX4 yX4_guarantees yX4_guarantees, Cond.code yX4_guarantees cX4_guarantees 2 (some .int), Cond.methodLink RX4 63 yX4_answered]
def wsX4_setGuarantees_r2 : List Cond := [Cond.instanceMethod yX4_answered, Cond.selects RX4 yX4_answered yX4_answered, Cond.code yX4_answered cX4_answered 2 (some .int), Cond.methodLink RX4 28 yX4_error, Cond.instanceMethod yX4_error, Cond.selects RX4 yX4_error yX4_error, Cond.code yX4_error cX4_error 2 (some .int), Cond.fieldLink RX4 19 "ClientGuaranteesModel" "errors" "[I", Cond.methodLink RX4 32 yX4_savesAside, Cond.instanceMethod yX4_savesAside, Cond.selects RX4 yX4_savesAside yX4_savesAside, Cond.code yX4_savesAside cX4_savesAside 2 none, Cond.fieldLink RX4 35 "ClientGuaranteesModel" "savedMany" "I", Cond.fieldLink RX4 13 "ClientGuaranteesModel" "saved" "[I"]
def wsX4_setGuarantees : List Cond := .code yX4_setGuarantees cX4_setGuarantees 3 (some .int) :: ((wsX4_setGuarantees_r1 ++ wsX4_setGuarantees_r2) ++ wsX40)
def wsX4_doesForget : List Cond := .code yX4_doesForget cX4_doesForget 4 (some .int) :: ([.fieldLink RX4 7 "ClientGuaranteesModel" "all" "[I", .methodLink RX4 47 yX4_isClient, .static yX4_isClient, .initialized RX4, .code yX4_isClient cX4_isClient 1 (some .boolean), .constantLong RX4 39 (3), .methodLink RX4 41 yX4_in, .static yX4_in, .code yX4_in cX4_in 6 (some .boolean)] ++ wsX40)
def wsX4_forget_r1 : List Cond := [Cond.methodLink RX4 56 yX4_putsAside, Cond.instanceMethod yX4_putsAside, Cond.selects RX4 yX4_putsAside yX4_putsAside, Cond.initialized RX4, Cond.code yX4_putsAside cX4_putsAside 2 none, Cond.fieldLink RX4 16 "ClientGuaranteesModel" "aside" "[I", Cond.fieldLink RX4 7 "ClientGuaranteesModel" "all" "[I", Cond.methodLink RX4 66 yX4_doesForget, Cond.instanceMethod yX4_doesForget, Cond.selects RX4 yX4_doesForget yX4_doesForget, Cond.code yX4_doesForget cX4_doesForget 4 (some .int), Cond.methodLink RX4 47 yX4_isClient, Cond.static yX4_isClient, Cond.code yX4_isClient cX4_isClient 1 (some .boolean), Cond.constantLong RX4 39 (3), Cond.methodLink RX4 41 yX4_in, Cond.static yX4_in, Cond.code yX4_in cX4_in 6 (some .boolean), Cond.methodLink RX4 63 yX4_answered, Cond.instanceMethod yX4_answered, Cond.selects RX4 yX4_answered yX4_answered, Cond.code yX4_answered cX4_answered 2 (some .int), Cond.methodLink RX4 28 yX4_error, Cond.instanceMethod yX4_error]
def wsX4_forget_r2 : List Cond := [Cond.selects RX4 yX4_error yX4_error, Cond.code yX4_error cX4_error 2 (some .int), Cond.fieldLink RX4 19 "ClientGuaranteesModel" "errors" "[I", Cond.methodLink RX4 32 yX4_savesAside, Cond.instanceMethod yX4_savesAside, Cond.selects RX4 yX4_savesAside yX4_savesAside, Cond.code yX4_savesAside cX4_savesAside 2 none, Cond.fieldLink RX4 35 "ClientGuaranteesModel" "savedMany" "I", Cond.fieldLink RX4 13 "ClientGuaranteesModel" "saved" "[I"]
def wsX4_forget : List Cond := .code yX4_forget cX4_forget 2 (some .int) :: ((wsX4_forget_r1 ++ wsX4_forget_r2) ++ wsX40)
def wsX4_readCount : List Cond := .code yX4_readCount cX4_readCount 3 (some .int) :: ([.fieldLink RX4 7 "ClientGuaranteesModel" "all" "[I", .methodLink RX4 47 yX4_isClient, .static yX4_isClient, .initialized RX4, .code yX4_isClient cX4_isClient 1 (some .boolean), .constantLong RX4 39 (3), .methodLink RX4 41 yX4_in, .static yX4_in, .code yX4_in cX4_in 6 (some .boolean), .methodLink RX4 69 yX4_isReplica, .static yX4_isReplica, .code yX4_isReplica cX4_isReplica 1 (some .boolean), .constantLong RX4 45 (2), .methodLink RX4 28 yX4_error, .instanceMethod yX4_error, .selects RX4 yX4_error yX4_error, .code yX4_error cX4_error 2 (some .int), .fieldLink RX4 19 "ClientGuaranteesModel" "errors" "[I"] ++ wsX40)
def wsX4_writeCount : List Cond := .code yX4_writeCount cX4_writeCount 3 (some .int) :: ([.fieldLink RX4 7 "ClientGuaranteesModel" "all" "[I", .methodLink RX4 47 yX4_isClient, .static yX4_isClient, .initialized RX4, .code yX4_isClient cX4_isClient 1 (some .boolean), .constantLong RX4 39 (3), .methodLink RX4 41 yX4_in, .static yX4_in, .code yX4_in cX4_in 6 (some .boolean), .methodLink RX4 69 yX4_isReplica, .static yX4_isReplica, .code yX4_isReplica cX4_isReplica 1 (some .boolean), .constantLong RX4 45 (2), .methodLink RX4 28 yX4_error, .instanceMethod yX4_error, .selects RX4 yX4_error yX4_error, .code yX4_error cX4_error 2 (some .int), .fieldLink RX4 19 "ClientGuaranteesModel" "errors" "[I"] ++ wsX40)
def wsX4_covers : List Cond := .code yX4_covers cX4_covers 5 (some .boolean) :: ([.fieldLink RX4 7 "ClientGuaranteesModel" "all" "[I"] ++ wsX40)
def wsX4_breachesOfRead : List Cond := .code yX4_breachesOfRead cX4_breachesOfRead 4 (some .int) :: ([.methodLink RX4 72 yX4_covers, .instanceMethod yX4_covers, .selects RX4 yX4_covers yX4_covers, .initialized RX4, .code yX4_covers cX4_covers 5 (some .boolean), .fieldLink RX4 7 "ClientGuaranteesModel" "all" "[I"] ++ wsX40)
def wsX4_breachesOfWrite : List Cond := .code yX4_breachesOfWrite cX4_breachesOfWrite 4 (some .int) :: ([.methodLink RX4 72 yX4_covers, .instanceMethod yX4_covers, .selects RX4 yX4_covers yX4_covers, .initialized RX4, .code yX4_covers cX4_covers 5 (some .boolean), .fieldLink RX4 7 "ClientGuaranteesModel" "all" "[I"] ++ wsX40)
def wsX4_countsBreaches : List Cond := .code yX4_countsBreaches cX4_countsBreaches 3 none :: ([.fieldLink RX4 7 "ClientGuaranteesModel" "all" "[I"] ++ wsX40)
def wsX4_isLater : List Cond := .code yX4_isLater cX4_isLater 5 (some .boolean) :: ([.fieldLink RX4 7 "ClientGuaranteesModel" "all" "[I"] ++ wsX40)
def wsX4_valueAt : List Cond := .code yX4_valueAt cX4_valueAt 7 (some .int) :: ([.fieldLink RX4 7 "ClientGuaranteesModel" "all" "[I", .methodLink RX4 76 yX4_isLater, .instanceMethod yX4_isLater, .selects RX4 yX4_isLater yX4_isLater, .initialized RX4, .code yX4_isLater cX4_isLater 5 (some .boolean)] ++ wsX40)
def wsX4_doesRead_r1 : List Cond := [Cond.fieldLink RX4 7 "ClientGuaranteesModel" "all" "[I", Cond.methodLink RX4 47 yX4_isClient, Cond.static yX4_isClient, Cond.initialized RX4, Cond.code yX4_isClient cX4_isClient 1 (some .boolean), Cond.constantLong RX4 39 (3), Cond.methodLink RX4 41 yX4_in, Cond.static yX4_in, Cond.code yX4_in cX4_in 6 (some .boolean), Cond.methodLink RX4 69 yX4_isReplica, Cond.static yX4_isReplica, Cond.code yX4_isReplica cX4_isReplica 1 (some .boolean), Cond.constantLong RX4 45 (2), Cond.methodLink RX4 79 yX4_isKey, Cond.static yX4_isKey, Cond.code yX4_isKey cX4_isKey 1 (some .boolean), Cond.methodLink RX4 82 yX4_breachesOfRead, Cond.instanceMethod yX4_breachesOfRead, Cond.selects RX4 yX4_breachesOfRead yX4_breachesOfRead, Cond.code yX4_breachesOfRead cX4_breachesOfRead 4 (some .int), Cond.methodLink RX4 72 yX4_covers, Cond.instanceMethod yX4_covers, Cond.selects RX4 yX4_covers yX4_covers, Cond.code yX4_covers cX4_covers 5 (some .boolean)]
def wsX4_doesRead_r2 : List Cond := [Cond.methodLink RX4 53 yX4_guarantees, Cond.instanceMethod yX4_guarantees, Cond.selects RX4 yX4_guarantees yX4_guarantees, Cond.code yX4_guarantees cX4_guarantees 2 (some .int), Cond.methodLink RX4 85 yX4_countsBreaches, Cond.instanceMethod yX4_countsBreaches, Cond.selects RX4 yX4_countsBreaches yX4_countsBreaches, Cond.code yX4_countsBreaches cX4_countsBreaches 3 none, Cond.methodLink RX4 89 yX4_valueAt, Cond.instanceMethod yX4_valueAt, Cond.selects RX4 yX4_valueAt yX4_valueAt, Cond.code yX4_valueAt cX4_valueAt 7 (some .int), Cond.methodLink RX4 76 yX4_isLater, Cond.instanceMethod yX4_isLater, Cond.selects RX4 yX4_isLater yX4_isLater, Cond.code yX4_isLater cX4_isLater 5 (some .boolean)]
def wsX4_doesRead : List Cond := .code yX4_doesRead cX4_doesRead 8 (some .int) :: ((wsX4_doesRead_r1 ++ wsX4_doesRead_r2) ++ wsX40)
def wsX4_read_r1 : List Cond := [Cond.methodLink RX4 56 yX4_putsAside, Cond.instanceMethod yX4_putsAside, Cond.selects RX4 yX4_putsAside yX4_putsAside, Cond.initialized RX4, Cond.code yX4_putsAside cX4_putsAside 2 none, Cond.fieldLink RX4 16 "ClientGuaranteesModel" "aside" "[I", Cond.fieldLink RX4 7 "ClientGuaranteesModel" "all" "[I", Cond.methodLink RX4 92 yX4_doesRead, Cond.instanceMethod yX4_doesRead, Cond.selects RX4 yX4_doesRead yX4_doesRead, Cond.code yX4_doesRead cX4_doesRead 8 (some .int), Cond.methodLink RX4 47 yX4_isClient, Cond.static yX4_isClient, Cond.code yX4_isClient cX4_isClient 1 (some .boolean), Cond.constantLong RX4 39 (3), Cond.methodLink RX4 41 yX4_in, Cond.static yX4_in, Cond.code yX4_in cX4_in 6 (some .boolean), Cond.methodLink RX4 69 yX4_isReplica, Cond.static yX4_isReplica, Cond.code yX4_isReplica cX4_isReplica 1 (some .boolean), Cond.constantLong RX4 45 (2), Cond.methodLink RX4 79 yX4_isKey, Cond.static yX4_isKey]
def wsX4_read_r2 : List Cond := [Cond.code yX4_isKey cX4_isKey 1 (some .boolean), Cond.methodLink RX4 82 yX4_breachesOfRead, Cond.instanceMethod yX4_breachesOfRead, Cond.selects RX4 yX4_breachesOfRead yX4_breachesOfRead, Cond.code yX4_breachesOfRead cX4_breachesOfRead 4 (some .int), Cond.methodLink RX4 72 yX4_covers, Cond.instanceMethod yX4_covers, Cond.selects RX4 yX4_covers yX4_covers, Cond.code yX4_covers cX4_covers 5 (some .boolean), Cond.methodLink RX4 53 yX4_guarantees, Cond.instanceMethod yX4_guarantees, Cond.selects RX4 yX4_guarantees yX4_guarantees, Cond.code yX4_guarantees cX4_guarantees 2 (some .int), Cond.methodLink RX4 85 yX4_countsBreaches, Cond.instanceMethod yX4_countsBreaches, Cond.selects RX4 yX4_countsBreaches yX4_countsBreaches, Cond.code yX4_countsBreaches cX4_countsBreaches 3 none, Cond.methodLink RX4 89 yX4_valueAt, Cond.instanceMethod yX4_valueAt, Cond.selects RX4 yX4_valueAt yX4_valueAt, Cond.code yX4_valueAt cX4_valueAt 7 (some .int), Cond.methodLink RX4 76 yX4_isLater, Cond.instanceMethod yX4_isLater, Cond.selects RX4 yX4_isLater yX4_isLater]
def wsX4_read_r3 : List Cond := [Cond.code yX4_isLater cX4_isLater 5 (some .boolean), Cond.methodLink RX4 63 yX4_answered, Cond.instanceMethod yX4_answered, Cond.selects RX4 yX4_answered yX4_answered, Cond.code yX4_answered cX4_answered 2 (some .int), Cond.methodLink RX4 28 yX4_error, Cond.instanceMethod yX4_error, Cond.selects RX4 yX4_error yX4_error, Cond.code yX4_error cX4_error 2 (some .int), Cond.fieldLink RX4 19 "ClientGuaranteesModel" "errors" "[I", Cond.methodLink RX4 32 yX4_savesAside, Cond.instanceMethod yX4_savesAside, Cond.selects RX4 yX4_savesAside yX4_savesAside, Cond.code yX4_savesAside cX4_savesAside 2 none, Cond.fieldLink RX4 35 "ClientGuaranteesModel" "savedMany" "I", Cond.fieldLink RX4 13 "ClientGuaranteesModel" "saved" "[I"]
def wsX4_read : List Cond := .code yX4_read cX4_read 4 (some .int) :: ((wsX4_read_r1 ++ (wsX4_read_r2 ++ wsX4_read_r3)) ++ wsX40)
def wsX4_doesWrite_r1 : List Cond := [Cond.constantLong RX4 96 (99), Cond.fieldLink RX4 7 "ClientGuaranteesModel" "all" "[I", Cond.methodLink RX4 47 yX4_isClient, Cond.static yX4_isClient, Cond.initialized RX4, Cond.code yX4_isClient cX4_isClient 1 (some .boolean), Cond.constantLong RX4 39 (3), Cond.methodLink RX4 41 yX4_in, Cond.static yX4_in, Cond.code yX4_in cX4_in 6 (some .boolean), Cond.methodLink RX4 69 yX4_isReplica, Cond.static yX4_isReplica, Cond.code yX4_isReplica cX4_isReplica 1 (some .boolean), Cond.constantLong RX4 45 (2), Cond.methodLink RX4 79 yX4_isKey, Cond.static yX4_isKey, Cond.code yX4_isKey cX4_isKey 1 (some .boolean), Cond.methodLink RX4 98 yX4_breachesOfWrite, Cond.instanceMethod yX4_breachesOfWrite, Cond.selects RX4 yX4_breachesOfWrite yX4_breachesOfWrite, Cond.code yX4_breachesOfWrite cX4_breachesOfWrite 4 (some .int), Cond.methodLink RX4 72 yX4_covers, Cond.instanceMethod yX4_covers, Cond.selects RX4 yX4_covers yX4_covers]
def wsX4_doesWrite_r2 : List Cond := [Cond.code yX4_covers cX4_covers 5 (some .boolean), Cond.methodLink RX4 53 yX4_guarantees, Cond.instanceMethod yX4_guarantees, Cond.selects RX4 yX4_guarantees yX4_guarantees, Cond.code yX4_guarantees cX4_guarantees 2 (some .int), Cond.methodLink RX4 85 yX4_countsBreaches, Cond.instanceMethod yX4_countsBreaches, Cond.selects RX4 yX4_countsBreaches yX4_countsBreaches, Cond.code yX4_countsBreaches cX4_countsBreaches 3 none]
def wsX4_doesWrite : List Cond := .code yX4_doesWrite cX4_doesWrite 8 (some .int) :: ((wsX4_doesWrite_r1 ++ wsX4_doesWrite_r2) ++ wsX40)
def wsX4_write_r1 : List Cond := [Cond.methodLink RX4 56 yX4_putsAside, Cond.instanceMethod yX4_putsAside, Cond.selects RX4 yX4_putsAside yX4_putsAside, Cond.initialized RX4, Cond.code yX4_putsAside cX4_putsAside 2 none, Cond.fieldLink RX4 16 "ClientGuaranteesModel" "aside" "[I", Cond.fieldLink RX4 7 "ClientGuaranteesModel" "all" "[I", Cond.methodLink RX4 101 yX4_doesWrite, Cond.instanceMethod yX4_doesWrite, Cond.selects RX4 yX4_doesWrite yX4_doesWrite, Cond.code yX4_doesWrite cX4_doesWrite 8 (some .int), Cond.constantLong RX4 96 (99), Cond.methodLink RX4 47 yX4_isClient, Cond.static yX4_isClient, Cond.code yX4_isClient cX4_isClient 1 (some .boolean), Cond.constantLong RX4 39 (3), Cond.methodLink RX4 41 yX4_in, Cond.static yX4_in, Cond.code yX4_in cX4_in 6 (some .boolean), Cond.methodLink RX4 69 yX4_isReplica, Cond.static yX4_isReplica, Cond.code yX4_isReplica cX4_isReplica 1 (some .boolean), Cond.constantLong RX4 45 (2), Cond.methodLink RX4 79 yX4_isKey]
def wsX4_write_r2 : List Cond := [Cond.static yX4_isKey, Cond.code yX4_isKey cX4_isKey 1 (some .boolean), Cond.methodLink RX4 98 yX4_breachesOfWrite, Cond.instanceMethod yX4_breachesOfWrite, Cond.selects RX4 yX4_breachesOfWrite yX4_breachesOfWrite, Cond.code yX4_breachesOfWrite cX4_breachesOfWrite 4 (some .int), Cond.methodLink RX4 72 yX4_covers, Cond.instanceMethod yX4_covers, Cond.selects RX4 yX4_covers yX4_covers, Cond.code yX4_covers cX4_covers 5 (some .boolean), Cond.methodLink RX4 53 yX4_guarantees, Cond.instanceMethod yX4_guarantees, Cond.selects RX4 yX4_guarantees yX4_guarantees, Cond.code yX4_guarantees cX4_guarantees 2 (some .int), Cond.methodLink RX4 85 yX4_countsBreaches, Cond.instanceMethod yX4_countsBreaches, Cond.selects RX4 yX4_countsBreaches yX4_countsBreaches, Cond.code yX4_countsBreaches cX4_countsBreaches 3 none, Cond.methodLink RX4 63 yX4_answered, Cond.instanceMethod yX4_answered, Cond.selects RX4 yX4_answered yX4_answered, Cond.code yX4_answered cX4_answered 2 (some .int), Cond.methodLink RX4 28 yX4_error, Cond.instanceMethod yX4_error]
def wsX4_write_r3 : List Cond := [Cond.selects RX4 yX4_error yX4_error, Cond.code yX4_error cX4_error 2 (some .int), Cond.fieldLink RX4 19 "ClientGuaranteesModel" "errors" "[I", Cond.methodLink RX4 32 yX4_savesAside, Cond.instanceMethod yX4_savesAside, Cond.selects RX4 yX4_savesAside yX4_savesAside, Cond.code yX4_savesAside cX4_savesAside 2 none, Cond.fieldLink RX4 35 "ClientGuaranteesModel" "savedMany" "I", Cond.fieldLink RX4 13 "ClientGuaranteesModel" "saved" "[I"]
def wsX4_write : List Cond := .code yX4_write cX4_write 5 (some .int) :: ((wsX4_write_r1 ++ (wsX4_write_r2 ++ wsX4_write_r3)) ++ wsX40)
def wsX4_doesSync : List Cond := .code yX4_doesSync cX4_doesSync 7 (some .int) :: ([.fieldLink RX4 7 "ClientGuaranteesModel" "all" "[I", .methodLink RX4 69 yX4_isReplica, .static yX4_isReplica, .initialized RX4, .code yX4_isReplica cX4_isReplica 1 (some .boolean), .constantLong RX4 45 (2), .methodLink RX4 41 yX4_in, .static yX4_in, .code yX4_in cX4_in 6 (some .boolean)] ++ wsX40)
def wsX4_sync_r1 : List Cond := [Cond.methodLink RX4 56 yX4_putsAside, Cond.instanceMethod yX4_putsAside, Cond.selects RX4 yX4_putsAside yX4_putsAside, Cond.initialized RX4, Cond.code yX4_putsAside cX4_putsAside 2 none, Cond.fieldLink RX4 16 "ClientGuaranteesModel" "aside" "[I", Cond.fieldLink RX4 7 "ClientGuaranteesModel" "all" "[I", Cond.methodLink RX4 105 yX4_doesSync, Cond.instanceMethod yX4_doesSync, Cond.selects RX4 yX4_doesSync yX4_doesSync, Cond.code yX4_doesSync cX4_doesSync 7 (some .int), Cond.methodLink RX4 69 yX4_isReplica, Cond.static yX4_isReplica, Cond.code yX4_isReplica cX4_isReplica 1 (some .boolean), Cond.constantLong RX4 45 (2), Cond.methodLink RX4 41 yX4_in, Cond.static yX4_in, Cond.code yX4_in cX4_in 6 (some .boolean), Cond.methodLink RX4 63 yX4_answered, Cond.instanceMethod yX4_answered, Cond.selects RX4 yX4_answered yX4_answered, Cond.code yX4_answered cX4_answered 2 (some .int), Cond.methodLink RX4 28 yX4_error, Cond.instanceMethod yX4_error]
def wsX4_sync_r2 : List Cond := [Cond.selects RX4 yX4_error yX4_error, Cond.code yX4_error cX4_error 2 (some .int), Cond.fieldLink RX4 19 "ClientGuaranteesModel" "errors" "[I", Cond.methodLink RX4 32 yX4_savesAside, Cond.instanceMethod yX4_savesAside, Cond.selects RX4 yX4_savesAside yX4_savesAside, Cond.code yX4_savesAside cX4_savesAside 2 none, Cond.fieldLink RX4 35 "ClientGuaranteesModel" "savedMany" "I", Cond.fieldLink RX4 13 "ClientGuaranteesModel" "saved" "[I"]
def wsX4_sync : List Cond := .code yX4_sync cX4_sync 3 (some .int) :: ((wsX4_sync_r1 ++ wsX4_sync_r2) ++ wsX40)
def wsX4_readBreaches_r1 : List Cond := [Cond.methodLink RX4 47 yX4_isClient, Cond.static yX4_isClient, Cond.initialized RX4, Cond.code yX4_isClient cX4_isClient 1 (some .boolean), Cond.constantLong RX4 39 (3), Cond.methodLink RX4 41 yX4_in, Cond.static yX4_in, Cond.code yX4_in cX4_in 6 (some .boolean), Cond.methodLink RX4 69 yX4_isReplica, Cond.static yX4_isReplica, Cond.code yX4_isReplica cX4_isReplica 1 (some .boolean), Cond.constantLong RX4 45 (2), Cond.methodLink RX4 82 yX4_breachesOfRead, Cond.instanceMethod yX4_breachesOfRead, Cond.selects RX4 yX4_breachesOfRead yX4_breachesOfRead, Cond.code yX4_breachesOfRead cX4_breachesOfRead 4 (some .int), Cond.methodLink RX4 72 yX4_covers, Cond.instanceMethod yX4_covers, Cond.selects RX4 yX4_covers yX4_covers, Cond.code yX4_covers cX4_covers 5 (some .boolean), Cond.fieldLink RX4 7 "ClientGuaranteesModel" "all" "[I", Cond.methodLink RX4 28 yX4_error, Cond.instanceMethod yX4_error, Cond.selects RX4 yX4_error yX4_error]
def wsX4_readBreaches_r2 : List Cond := [Cond.code yX4_error cX4_error 2 (some .int), Cond.fieldLink RX4 19 "ClientGuaranteesModel" "errors" "[I"]
def wsX4_readBreaches : List Cond := .code yX4_readBreaches cX4_readBreaches 3 (some .int) :: ((wsX4_readBreaches_r1 ++ wsX4_readBreaches_r2) ++ wsX40)
def wsX4_writeBreaches_r1 : List Cond := [Cond.methodLink RX4 47 yX4_isClient, Cond.static yX4_isClient, Cond.initialized RX4, Cond.code yX4_isClient cX4_isClient 1 (some .boolean), Cond.constantLong RX4 39 (3), Cond.methodLink RX4 41 yX4_in, Cond.static yX4_in, Cond.code yX4_in cX4_in 6 (some .boolean), Cond.methodLink RX4 69 yX4_isReplica, Cond.static yX4_isReplica, Cond.code yX4_isReplica cX4_isReplica 1 (some .boolean), Cond.constantLong RX4 45 (2), Cond.methodLink RX4 98 yX4_breachesOfWrite, Cond.instanceMethod yX4_breachesOfWrite, Cond.selects RX4 yX4_breachesOfWrite yX4_breachesOfWrite, Cond.code yX4_breachesOfWrite cX4_breachesOfWrite 4 (some .int), Cond.methodLink RX4 72 yX4_covers, Cond.instanceMethod yX4_covers, Cond.selects RX4 yX4_covers yX4_covers, Cond.code yX4_covers cX4_covers 5 (some .boolean), Cond.fieldLink RX4 7 "ClientGuaranteesModel" "all" "[I", Cond.methodLink RX4 28 yX4_error, Cond.instanceMethod yX4_error, Cond.selects RX4 yX4_error yX4_error]
def wsX4_writeBreaches_r2 : List Cond := [Cond.code yX4_error cX4_error 2 (some .int), Cond.fieldLink RX4 19 "ClientGuaranteesModel" "errors" "[I"]
def wsX4_writeBreaches : List Cond := .code yX4_writeBreaches cX4_writeBreaches 3 (some .int) :: ((wsX4_writeBreaches_r1 ++ wsX4_writeBreaches_r2) ++ wsX40)
def wsX4_readableReplica_r1 : List Cond := [Cond.methodLink RX4 47 yX4_isClient, Cond.static yX4_isClient, Cond.initialized RX4, Cond.code yX4_isClient cX4_isClient 1 (some .boolean), Cond.constantLong RX4 39 (3), Cond.methodLink RX4 41 yX4_in, Cond.static yX4_in, Cond.code yX4_in cX4_in 6 (some .boolean), Cond.methodLink RX4 28 yX4_error, Cond.instanceMethod yX4_error, Cond.selects RX4 yX4_error yX4_error, Cond.code yX4_error cX4_error 2 (some .int), Cond.fieldLink RX4 19 "ClientGuaranteesModel" "errors" "[I", Cond.methodLink RX4 82 yX4_breachesOfRead, Cond.instanceMethod yX4_breachesOfRead, Cond.selects RX4 yX4_breachesOfRead yX4_breachesOfRead, Cond.code yX4_breachesOfRead cX4_breachesOfRead 4 (some .int), Cond.methodLink RX4 72 yX4_covers, Cond.instanceMethod yX4_covers, Cond.selects RX4 yX4_covers yX4_covers, Cond.code yX4_covers cX4_covers 5 (some .boolean), Cond.fieldLink RX4 7 "ClientGuaranteesModel" "all" "[I", Cond.methodLink RX4 53 yX4_guarantees, Cond.instanceMethod yX4_guarantees]
def wsX4_readableReplica_r2 : List Cond := [Cond.selects RX4 yX4_guarantees yX4_guarantees, Cond.code yX4_guarantees cX4_guarantees 2 (some .int)]
def wsX4_readableReplica : List Cond := .code yX4_readableReplica cX4_readableReplica 3 (some .int) :: ((wsX4_readableReplica_r1 ++ wsX4_readableReplica_r2) ++ wsX40)
def wsX4_writableReplica_r1 : List Cond := [Cond.methodLink RX4 47 yX4_isClient, Cond.static yX4_isClient, Cond.initialized RX4, Cond.code yX4_isClient cX4_isClient 1 (some .boolean), Cond.constantLong RX4 39 (3), Cond.methodLink RX4 41 yX4_in, Cond.static yX4_in, Cond.code yX4_in cX4_in 6 (some .boolean), Cond.methodLink RX4 28 yX4_error, Cond.instanceMethod yX4_error, Cond.selects RX4 yX4_error yX4_error, Cond.code yX4_error cX4_error 2 (some .int), Cond.fieldLink RX4 19 "ClientGuaranteesModel" "errors" "[I", Cond.methodLink RX4 98 yX4_breachesOfWrite, Cond.instanceMethod yX4_breachesOfWrite, Cond.selects RX4 yX4_breachesOfWrite yX4_breachesOfWrite, Cond.code yX4_breachesOfWrite cX4_breachesOfWrite 4 (some .int), Cond.methodLink RX4 72 yX4_covers, Cond.instanceMethod yX4_covers, Cond.selects RX4 yX4_covers yX4_covers, Cond.code yX4_covers cX4_covers 5 (some .boolean), Cond.fieldLink RX4 7 "ClientGuaranteesModel" "all" "[I", Cond.methodLink RX4 53 yX4_guarantees, Cond.instanceMethod yX4_guarantees]
def wsX4_writableReplica_r2 : List Cond := [Cond.selects RX4 yX4_guarantees yX4_guarantees, Cond.code yX4_guarantees cX4_guarantees 2 (some .int)]
def wsX4_writableReplica : List Cond := .code yX4_writableReplica cX4_writableReplica 3 (some .int) :: ((wsX4_writableReplica_r1 ++ wsX4_writableReplica_r2) ++ wsX40)
def wsX4_isCoveredBy : List Cond := .code yX4_isCoveredBy cX4_isCoveredBy 8 (some .boolean) :: ([.fieldLink RX4 7 "ClientGuaranteesModel" "all" "[I"] ++ wsX40)
def wsX4_isReadBy : List Cond := .code yX4_isReadBy cX4_isReadBy 5 (some .boolean) :: ([.methodLink RX4 53 yX4_guarantees, .instanceMethod yX4_guarantees, .selects RX4 yX4_guarantees yX4_guarantees, .initialized RX4, .code yX4_guarantees cX4_guarantees 2 (some .int), .fieldLink RX4 7 "ClientGuaranteesModel" "all" "[I", .methodLink RX4 108 yX4_isCoveredBy, .instanceMethod yX4_isCoveredBy, .selects RX4 yX4_isCoveredBy yX4_isCoveredBy, .code yX4_isCoveredBy cX4_isCoveredBy 8 (some .boolean)] ++ wsX40)
def wsX4_bits : List Cond := .code yX4_bits cX4_bits 1 (some .int) :: ([])
def wsX4_syncsForRead_r1 : List Cond := [Cond.methodLink RX4 47 yX4_isClient, Cond.static yX4_isClient, Cond.initialized RX4, Cond.code yX4_isClient cX4_isClient 1 (some .boolean), Cond.constantLong RX4 39 (3), Cond.methodLink RX4 41 yX4_in, Cond.static yX4_in, Cond.code yX4_in cX4_in 6 (some .boolean), Cond.methodLink RX4 69 yX4_isReplica, Cond.static yX4_isReplica, Cond.code yX4_isReplica cX4_isReplica 1 (some .boolean), Cond.constantLong RX4 45 (2), Cond.methodLink RX4 28 yX4_error, Cond.instanceMethod yX4_error, Cond.selects RX4 yX4_error yX4_error, Cond.code yX4_error cX4_error 2 (some .int), Cond.fieldLink RX4 19 "ClientGuaranteesModel" "errors" "[I", Cond.methodLink RX4 111 yX4_bits, Cond.static yX4_bits, Cond.code yX4_bits cX4_bits 1 (some .int), Cond.methodLink RX4 114 yX4_isReadBy, Cond.instanceMethod yX4_isReadBy, Cond.selects RX4 yX4_isReadBy yX4_isReadBy, Cond.code yX4_isReadBy cX4_isReadBy 5 (some .boolean)]
def wsX4_syncsForRead_r2 : List Cond := [Cond.methodLink RX4 53 yX4_guarantees, Cond.instanceMethod yX4_guarantees, Cond.selects RX4 yX4_guarantees yX4_guarantees, Cond.code yX4_guarantees cX4_guarantees 2 (some .int), Cond.fieldLink RX4 7 "ClientGuaranteesModel" "all" "[I", Cond.methodLink RX4 108 yX4_isCoveredBy, Cond.instanceMethod yX4_isCoveredBy, Cond.selects RX4 yX4_isCoveredBy yX4_isCoveredBy, Cond.code yX4_isCoveredBy cX4_isCoveredBy 8 (some .boolean)]
def wsX4_syncsForRead : List Cond := .code yX4_syncsForRead cX4_syncsForRead 7 (some .int) :: ((wsX4_syncsForRead_r1 ++ wsX4_syncsForRead_r2) ++ wsX40)
def wsX4_count : List Cond := .code yX4_count cX4_count 3 (some .int) :: ([.fieldLink RX4 7 "ClientGuaranteesModel" "all" "[I", .methodLink RX4 69 yX4_isReplica, .static yX4_isReplica, .initialized RX4, .code yX4_isReplica cX4_isReplica 1 (some .boolean), .constantLong RX4 45 (2), .methodLink RX4 41 yX4_in, .static yX4_in, .code yX4_in cX4_in 6 (some .boolean), .methodLink RX4 28 yX4_error, .instanceMethod yX4_error, .selects RX4 yX4_error yX4_error, .code yX4_error cX4_error 2 (some .int), .fieldLink RX4 19 "ClientGuaranteesModel" "errors" "[I"] ++ wsX40)
def wsX4_clock : List Cond := .code yX4_clock cX4_clock 2 (some .int) :: ([.fieldLink RX4 7 "ClientGuaranteesModel" "all" "[I", .methodLink RX4 69 yX4_isReplica, .static yX4_isReplica, .initialized RX4, .code yX4_isReplica cX4_isReplica 1 (some .boolean), .constantLong RX4 45 (2), .methodLink RX4 41 yX4_in, .static yX4_in, .code yX4_in cX4_in 6 (some .boolean), .methodLink RX4 28 yX4_error, .instanceMethod yX4_error, .selects RX4 yX4_error yX4_error, .code yX4_error cX4_error 2 (some .int), .fieldLink RX4 19 "ClientGuaranteesModel" "errors" "[I"] ++ wsX40)
def wsX4_peek_r1 : List Cond := [Cond.methodLink RX4 69 yX4_isReplica, Cond.static yX4_isReplica, Cond.initialized RX4, Cond.code yX4_isReplica cX4_isReplica 1 (some .boolean), Cond.constantLong RX4 45 (2), Cond.methodLink RX4 41 yX4_in, Cond.static yX4_in, Cond.code yX4_in cX4_in 6 (some .boolean), Cond.methodLink RX4 79 yX4_isKey, Cond.static yX4_isKey, Cond.code yX4_isKey cX4_isKey 1 (some .boolean), Cond.constantLong RX4 39 (3), Cond.methodLink RX4 28 yX4_error, Cond.instanceMethod yX4_error, Cond.selects RX4 yX4_error yX4_error, Cond.code yX4_error cX4_error 2 (some .int), Cond.fieldLink RX4 19 "ClientGuaranteesModel" "errors" "[I", Cond.methodLink RX4 89 yX4_valueAt, Cond.instanceMethod yX4_valueAt, Cond.selects RX4 yX4_valueAt yX4_valueAt, Cond.code yX4_valueAt cX4_valueAt 7 (some .int), Cond.fieldLink RX4 7 "ClientGuaranteesModel" "all" "[I", Cond.methodLink RX4 76 yX4_isLater, Cond.instanceMethod yX4_isLater]
def wsX4_peek_r2 : List Cond := [Cond.selects RX4 yX4_isLater yX4_isLater, Cond.code yX4_isLater cX4_isLater 5 (some .boolean)]
def wsX4_peek : List Cond := .code yX4_peek cX4_peek 4 (some .int) :: ((wsX4_peek_r1 ++ wsX4_peek_r2) ++ wsX40)
def wsX4_compare : List Cond := .code yX4_compare cX4_compare 5 (some .int) :: ([.methodLink RX4 69 yX4_isReplica, .static yX4_isReplica, .initialized RX4, .code yX4_isReplica cX4_isReplica 1 (some .boolean), .constantLong RX4 45 (2), .methodLink RX4 41 yX4_in, .static yX4_in, .code yX4_in cX4_in 6 (some .boolean), .methodLink RX4 28 yX4_error, .instanceMethod yX4_error, .selects RX4 yX4_error yX4_error, .code yX4_error cX4_error 2 (some .int), .fieldLink RX4 19 "ClientGuaranteesModel" "errors" "[I", .methodLink RX4 72 yX4_covers, .instanceMethod yX4_covers, .selects RX4 yX4_covers yX4_covers, .code yX4_covers cX4_covers 5 (some .boolean), .fieldLink RX4 7 "ClientGuaranteesModel" "all" "[I"] ++ wsX40)
def wsX4_breaches : List Cond := .code yX4_breaches cX4_breaches 2 (some .int) :: ([.constantLong RX4 39 (3), .fieldLink RX4 7 "ClientGuaranteesModel" "all" "[I", .methodLink RX4 41 yX4_in, .static yX4_in, .initialized RX4, .code yX4_in cX4_in 6 (some .boolean), .methodLink RX4 28 yX4_error, .instanceMethod yX4_error, .selects RX4 yX4_error yX4_error, .code yX4_error cX4_error 2 (some .int), .fieldLink RX4 19 "ClientGuaranteesModel" "errors" "[I"] ++ wsX40)
def wsX4_append : List Cond := .code yX4_append cX4_append 2 (some .int) :: ([.constantLong RX4 117 (127), .fieldLink RX4 119 "ClientGuaranteesModel" "textLong" "I", .fieldLink RX4 22 "ClientGuaranteesModel" "text" "[I", .methodLink RX4 41 yX4_in, .static yX4_in, .initialized RX4, .code yX4_in cX4_in 6 (some .boolean), .methodLink RX4 28 yX4_error, .instanceMethod yX4_error, .selects RX4 yX4_error yX4_error, .code yX4_error cX4_error 2 (some .int), .fieldLink RX4 19 "ClientGuaranteesModel" "errors" "[I"] ++ wsX40)
def wsX4_clearText : List Cond := .code yX4_clearText cX4_clearText 2 (some .int) :: ([.fieldLink RX4 119 "ClientGuaranteesModel" "textLong" "I"] ++ wsX40)
def wsX4_here : List Cond := .code yX4_here cX4_here 1 (some .int) :: ([.fieldLink RX4 122 "ClientGuaranteesModel" "at" "I", .fieldLink RX4 119 "ClientGuaranteesModel" "textLong" "I", .fieldLink RX4 22 "ClientGuaranteesModel" "text" "[I"] ++ wsX40)
def wsX4_isDigit : List Cond := .code yX4_isDigit cX4_isDigit 1 (some .boolean) :: ([.fieldLink RX4 122 "ClientGuaranteesModel" "at" "I", .fieldLink RX4 119 "ClientGuaranteesModel" "textLong" "I", .fieldLink RX4 22 "ClientGuaranteesModel" "text" "[I", .constantLong RX4 125 (48), .constantLong RX4 127 (57), .methodLink RX4 41 yX4_in, .static yX4_in, .initialized RX4, .code yX4_in cX4_in 6 (some .boolean)] ++ wsX40)
def wsX4_takesNumber : List Cond := .code yX4_takesNumber cX4_takesNumber 4 (some .boolean) :: ([.constantLong RX4 125 (48), .constantLong RX4 127 (57), .fieldLink RX4 25 "ClientGuaranteesModel" "numbers" "[I", .fieldLink RX4 22 "ClientGuaranteesModel" "text" "[I", .fieldLink RX4 122 "ClientGuaranteesModel" "at" "I", .methodLink RX4 129 yX4_here, .instanceMethod yX4_here, .selects RX4 yX4_here yX4_here, .initialized RX4, .code yX4_here cX4_here 1 (some .int), .fieldLink RX4 119 "ClientGuaranteesModel" "textLong" "I", .methodLink RX4 41 yX4_in, .static yX4_in, .code yX4_in cX4_in 6 (some .boolean), .methodLink RX4 133 yX4_isDigit, .instanceMethod yX4_isDigit, .selects RX4 yX4_isDigit yX4_isDigit, .code yX4_isDigit cX4_isDigit 1 (some .boolean)] ++ wsX40)
def wsX4_numbersOf : List Cond := .code yX4_numbersOf cX4_numbersOf 1 (some .int) :: ([])
def wsX4_takesCommand_r1 : List Cond := [Cond.fieldLink RX4 137 "ClientGuaranteesModel" "command" "I", Cond.fieldLink RX4 122 "ClientGuaranteesModel" "at" "I", Cond.methodLink RX4 129 yX4_here, Cond.instanceMethod yX4_here, Cond.selects RX4 yX4_here yX4_here, Cond.initialized RX4, Cond.code yX4_here cX4_here 1 (some .int), Cond.fieldLink RX4 119 "ClientGuaranteesModel" "textLong" "I", Cond.fieldLink RX4 22 "ClientGuaranteesModel" "text" "[I", Cond.methodLink RX4 140 yX4_numbersOf, Cond.static yX4_numbersOf, Cond.code yX4_numbersOf cX4_numbersOf 1 (some .int), Cond.methodLink RX4 143 yX4_takesNumber, Cond.instanceMethod yX4_takesNumber, Cond.selects RX4 yX4_takesNumber yX4_takesNumber, Cond.code yX4_takesNumber cX4_takesNumber 4 (some .boolean), Cond.constantLong RX4 125 (48), Cond.constantLong RX4 127 (57), Cond.fieldLink RX4 25 "ClientGuaranteesModel" "numbers" "[I", Cond.methodLink RX4 41 yX4_in, Cond.static yX4_in, Cond.code yX4_in cX4_in 6 (some .boolean), Cond.methodLink RX4 133 yX4_isDigit, Cond.instanceMethod yX4_isDigit]
def wsX4_takesCommand_r2 : List Cond := [Cond.selects RX4 yX4_isDigit yX4_isDigit, Cond.code yX4_isDigit cX4_isDigit 1 (some .boolean)]
def wsX4_takesCommand : List Cond := .code yX4_takesCommand cX4_takesCommand 3 (some .boolean) :: ((wsX4_takesCommand_r1 ++ wsX4_takesCommand_r2) ++ wsX40)
def wsX4_doesCommand_r1 : List Cond := [Cond.fieldLink RX4 25 "ClientGuaranteesModel" "numbers" "[I", Cond.fieldLink RX4 137 "ClientGuaranteesModel" "command" "I", Cond.methodLink RX4 66 yX4_doesForget, Cond.instanceMethod yX4_doesForget, Cond.selects RX4 yX4_doesForget yX4_doesForget, Cond.initialized RX4, Cond.code yX4_doesForget cX4_doesForget 4 (some .int), Cond.fieldLink RX4 7 "ClientGuaranteesModel" "all" "[I", Cond.methodLink RX4 47 yX4_isClient, Cond.static yX4_isClient, Cond.code yX4_isClient cX4_isClient 1 (some .boolean), Cond.constantLong RX4 39 (3), Cond.methodLink RX4 41 yX4_in, Cond.static yX4_in, Cond.code yX4_in cX4_in 6 (some .boolean), Cond.methodLink RX4 59 yX4_doesSet, Cond.instanceMethod yX4_doesSet, Cond.selects RX4 yX4_doesSet yX4_doesSet, Cond.code yX4_doesSet cX4_doesSet 4 (some .int), Cond.constantLong RX4 51 (15), Cond.methodLink RX4 53 yX4_guarantees, Cond.instanceMethod yX4_guarantees, Cond.selects RX4 yX4_guarantees yX4_guarantees, Cond.code yX4_guarantees cX4_guarantees 2 (some .int)]
def wsX4_doesCommand_r2 : List Cond := [Cond.methodLink RX4 105 yX4_doesSync, Cond.instanceMethod yX4_doesSync, Cond.selects RX4 yX4_doesSync yX4_doesSync, Cond.code yX4_doesSync cX4_doesSync 7 (some .int), Cond.methodLink RX4 69 yX4_isReplica, Cond.static yX4_isReplica, Cond.code yX4_isReplica cX4_isReplica 1 (some .boolean), Cond.constantLong RX4 45 (2), Cond.methodLink RX4 92 yX4_doesRead, Cond.instanceMethod yX4_doesRead, Cond.selects RX4 yX4_doesRead yX4_doesRead, Cond.code yX4_doesRead cX4_doesRead 8 (some .int), Cond.methodLink RX4 79 yX4_isKey, Cond.static yX4_isKey, Cond.code yX4_isKey cX4_isKey 1 (some .boolean), Cond.methodLink RX4 82 yX4_breachesOfRead, Cond.instanceMethod yX4_breachesOfRead, Cond.selects RX4 yX4_breachesOfRead yX4_breachesOfRead, Cond.code yX4_breachesOfRead cX4_breachesOfRead 4 (some .int), Cond.methodLink RX4 72 yX4_covers, Cond.instanceMethod yX4_covers, Cond.selects RX4 yX4_covers yX4_covers, Cond.code yX4_covers cX4_covers 5 (some .boolean), Cond.methodLink RX4 85 yX4_countsBreaches]
def wsX4_doesCommand_r3 : List Cond := [Cond.instanceMethod yX4_countsBreaches, Cond.selects RX4 yX4_countsBreaches yX4_countsBreaches, Cond.code yX4_countsBreaches cX4_countsBreaches 3 none, Cond.methodLink RX4 89 yX4_valueAt, Cond.instanceMethod yX4_valueAt, Cond.selects RX4 yX4_valueAt yX4_valueAt, Cond.code yX4_valueAt cX4_valueAt 7 (some .int), Cond.methodLink RX4 76 yX4_isLater, Cond.instanceMethod yX4_isLater, Cond.selects RX4 yX4_isLater yX4_isLater, Cond.code yX4_isLater cX4_isLater 5 (some .boolean), Cond.methodLink RX4 101 yX4_doesWrite, Cond.instanceMethod yX4_doesWrite, Cond.selects RX4 yX4_doesWrite yX4_doesWrite, Cond.code yX4_doesWrite cX4_doesWrite 8 (some .int), Cond.constantLong RX4 96 (99), Cond.methodLink RX4 98 yX4_breachesOfWrite, Cond.instanceMethod yX4_breachesOfWrite, Cond.selects RX4 yX4_breachesOfWrite yX4_breachesOfWrite, Cond.code yX4_breachesOfWrite cX4_breachesOfWrite 4 (some .int)]
def wsX4_doesCommand : List Cond := .code yX4_doesCommand cX4_doesCommand 3 (some .int) :: ((wsX4_doesCommand_r1 ++ (wsX4_doesCommand_r2 ++ wsX4_doesCommand_r3)) ++ wsX40)
def wsX4_execute_r1 : List Cond := [Cond.fieldLink RX4 122 "ClientGuaranteesModel" "at" "I", Cond.fieldLink RX4 7 "ClientGuaranteesModel" "all" "[I", Cond.fieldLink RX4 16 "ClientGuaranteesModel" "aside" "[I", Cond.methodLink RX4 146 yX4_takesCommand, Cond.instanceMethod yX4_takesCommand, Cond.selects RX4 yX4_takesCommand yX4_takesCommand, Cond.initialized RX4, Cond.code yX4_takesCommand cX4_takesCommand 3 (some .boolean), Cond.fieldLink RX4 137 "ClientGuaranteesModel" "command" "I", Cond.methodLink RX4 129 yX4_here, Cond.instanceMethod yX4_here, Cond.selects RX4 yX4_here yX4_here, Cond.code yX4_here cX4_here 1 (some .int), Cond.fieldLink RX4 119 "ClientGuaranteesModel" "textLong" "I", Cond.fieldLink RX4 22 "ClientGuaranteesModel" "text" "[I", Cond.methodLink RX4 140 yX4_numbersOf, Cond.static yX4_numbersOf, Cond.code yX4_numbersOf cX4_numbersOf 1 (some .int), Cond.methodLink RX4 143 yX4_takesNumber, Cond.instanceMethod yX4_takesNumber, Cond.selects RX4 yX4_takesNumber yX4_takesNumber, Cond.code yX4_takesNumber cX4_takesNumber 4 (some .boolean), Cond.constantLong RX4 125 (48), Cond.constantLong RX4 127 (57)]
def wsX4_execute_r2 : List Cond := [Cond.fieldLink RX4 25 "ClientGuaranteesModel" "numbers" "[I", Cond.methodLink RX4 41 yX4_in, Cond.static yX4_in, Cond.code yX4_in cX4_in 6 (some .boolean), Cond.methodLink RX4 133 yX4_isDigit, Cond.instanceMethod yX4_isDigit, Cond.selects RX4 yX4_isDigit yX4_isDigit, Cond.code yX4_isDigit cX4_isDigit 1 (some .boolean), Cond.methodLink RX4 56 yX4_putsAside, Cond.instanceMethod yX4_putsAside, Cond.selects RX4 yX4_putsAside yX4_putsAside, Cond.code yX4_putsAside cX4_putsAside 2 none, Cond.methodLink RX4 149 yX4_doesCommand, Cond.instanceMethod yX4_doesCommand, Cond.selects RX4 yX4_doesCommand yX4_doesCommand, Cond.code yX4_doesCommand cX4_doesCommand 3 (some .int), Cond.methodLink RX4 66 yX4_doesForget, Cond.instanceMethod yX4_doesForget, Cond.selects RX4 yX4_doesForget yX4_doesForget, Cond.code yX4_doesForget cX4_doesForget 4 (some .int), Cond.methodLink RX4 47 yX4_isClient, Cond.static yX4_isClient, Cond.code yX4_isClient cX4_isClient 1 (some .boolean), Cond.constantLong RX4 39 (3)]
def wsX4_execute_r3 : List Cond := [Cond.methodLink RX4 59 yX4_doesSet, Cond.instanceMethod yX4_doesSet, Cond.selects RX4 yX4_doesSet yX4_doesSet, Cond.code yX4_doesSet cX4_doesSet 4 (some .int), Cond.constantLong RX4 51 (15), Cond.methodLink RX4 53 yX4_guarantees, Cond.instanceMethod yX4_guarantees, Cond.selects RX4 yX4_guarantees yX4_guarantees, Cond.code yX4_guarantees cX4_guarantees 2 (some .int), Cond.methodLink RX4 105 yX4_doesSync, Cond.instanceMethod yX4_doesSync, Cond.selects RX4 yX4_doesSync yX4_doesSync, Cond.code yX4_doesSync cX4_doesSync 7 (some .int), Cond.methodLink RX4 69 yX4_isReplica, Cond.static yX4_isReplica, Cond.code yX4_isReplica cX4_isReplica 1 (some .boolean), Cond.constantLong RX4 45 (2), Cond.methodLink RX4 92 yX4_doesRead, Cond.instanceMethod yX4_doesRead, Cond.selects RX4 yX4_doesRead yX4_doesRead, Cond.code yX4_doesRead cX4_doesRead 8 (some .int), Cond.methodLink RX4 79 yX4_isKey, Cond.static yX4_isKey, Cond.code yX4_isKey cX4_isKey 1 (some .boolean)]
def wsX4_execute_r4 : List Cond := [Cond.methodLink RX4 82 yX4_breachesOfRead, Cond.instanceMethod yX4_breachesOfRead, Cond.selects RX4 yX4_breachesOfRead yX4_breachesOfRead, Cond.code yX4_breachesOfRead cX4_breachesOfRead 4 (some .int), Cond.methodLink RX4 72 yX4_covers, Cond.instanceMethod yX4_covers, Cond.selects RX4 yX4_covers yX4_covers, Cond.code yX4_covers cX4_covers 5 (some .boolean), Cond.methodLink RX4 85 yX4_countsBreaches, Cond.instanceMethod yX4_countsBreaches, Cond.selects RX4 yX4_countsBreaches yX4_countsBreaches, Cond.code yX4_countsBreaches cX4_countsBreaches 3 none, Cond.methodLink RX4 89 yX4_valueAt, Cond.instanceMethod yX4_valueAt, Cond.selects RX4 yX4_valueAt yX4_valueAt, Cond.code yX4_valueAt cX4_valueAt 7 (some .int), Cond.methodLink RX4 76 yX4_isLater, Cond.instanceMethod yX4_isLater, Cond.selects RX4 yX4_isLater yX4_isLater, Cond.code yX4_isLater cX4_isLater 5 (some .boolean), Cond.methodLink RX4 101 yX4_doesWrite, Cond.instanceMethod yX4_doesWrite, Cond.selects RX4 yX4_doesWrite yX4_doesWrite, Cond.code yX4_doesWrite cX4_doesWrite 8 (some .int)]
def wsX4_execute_r5 : List Cond := [Cond.constantLong RX4 96 (99), Cond.methodLink RX4 98 yX4_breachesOfWrite, Cond.instanceMethod yX4_breachesOfWrite, Cond.selects RX4 yX4_breachesOfWrite yX4_breachesOfWrite, Cond.code yX4_breachesOfWrite cX4_breachesOfWrite 4 (some .int), Cond.methodLink RX4 32 yX4_savesAside, Cond.instanceMethod yX4_savesAside, Cond.selects RX4 yX4_savesAside yX4_savesAside, Cond.code yX4_savesAside cX4_savesAside 2 none, Cond.fieldLink RX4 35 "ClientGuaranteesModel" "savedMany" "I", Cond.fieldLink RX4 13 "ClientGuaranteesModel" "saved" "[I"]
def wsX4_execute : List Cond := .code yX4_execute cX4_execute 7 (some .int) :: ((wsX4_execute_r1 ++ (wsX4_execute_r2 ++ (wsX4_execute_r3 ++ (wsX4_execute_r4 ++ wsX4_execute_r5)))) ++ wsX40)
def wsX4_undo : List Cond := .code yX4_undo cX4_undo 2 (some .int) :: ([.fieldLink RX4 35 "ClientGuaranteesModel" "savedMany" "I", .fieldLink RX4 7 "ClientGuaranteesModel" "all" "[I", .fieldLink RX4 13 "ClientGuaranteesModel" "saved" "[I", .methodLink RX4 28 yX4_error, .instanceMethod yX4_error, .selects RX4 yX4_error yX4_error, .initialized RX4, .code yX4_error cX4_error 2 (some .int), .fieldLink RX4 19 "ClientGuaranteesModel" "errors" "[I"] ++ wsX40)
def wsX4_errorCount : List Cond := .code yX4_errorCount cX4_errorCount 2 (some .int) :: ([.constantLong RX4 152 (-6), .constantLong RX4 154 (-2), .fieldLink RX4 19 "ClientGuaranteesModel" "errors" "[I", .methodLink RX4 41 yX4_in, .static yX4_in, .initialized RX4, .code yX4_in cX4_in 6 (some .boolean), .methodLink RX4 28 yX4_error, .instanceMethod yX4_error, .selects RX4 yX4_error yX4_error, .code yX4_error cX4_error 2 (some .int)] ++ wsX40)
def wsX4_writes : List Cond := .code yX4_writes cX4_writes 1 (some .int) :: ([.fieldLink RX4 7 "ClientGuaranteesModel" "all" "[I"] ++ wsX40)
def wsX4_digest : List Cond := .code yX4_digest cX4_digest 5 (some .long) :: ([.constantLong RX4 156 (2647), .constantLong RX4 158 (31), .fieldLink RX4 19 "ClientGuaranteesModel" "errors" "[I", .fieldLink RX4 7 "ClientGuaranteesModel" "all" "[I", .fieldLink RX4 119 "ClientGuaranteesModel" "textLong" "I", .fieldLink RX4 35 "ClientGuaranteesModel" "savedMany" "I", .methodLink RX4 89 yX4_valueAt, .instanceMethod yX4_valueAt, .selects RX4 yX4_valueAt yX4_valueAt, .initialized RX4, .code yX4_valueAt cX4_valueAt 7 (some .int), .methodLink RX4 76 yX4_isLater, .instanceMethod yX4_isLater, .selects RX4 yX4_isLater yX4_isLater, .code yX4_isLater cX4_isLater 5 (some .boolean)] ++ wsX40)
def wsJ9_max_7cf53 : List Cond := .code yJ9_max_7cf53 cJ9_max_7cf53 2 (some .int) :: ([])
def wsJ9_min_7cf53 : List Cond := .code yJ9_min_7cf53 cJ9_min_7cf53 2 (some .int) :: ([])
def wsL_law_r1 : List Cond := [Cond.classLink RL 7 RX3, Cond.instantiable RX3 4, Cond.initialized RX3, Cond.classLink RL 10 RX4, Cond.instantiable RX4 10, Cond.initialized RX4, Cond.methodLink RL 9 yX3_init, Cond.instanceMethod yX3_init, Cond.code yX3_init cX3_init 1 none, Cond.methodLink RX3 3 objectInit, Cond.instanceMethod objectInit, Cond.code objectInit ⟨#[0xb1]⟩ 1 none, Cond.classLink RX3 9 RX2, Cond.instantiable RX2 12, Cond.initialized RX2, Cond.fieldLink RX3 12 "ClientGuarantees" "state" "LClientGuarantees$State;", Cond.classLink RX3 16 RX0, Cond.instantiable RX0 3, Cond.initialized RX0, Cond.fieldLink RX3 19 "ClientGuarantees" "history" "LClientGuarantees$History;", Cond.classLink RX3 23 RX1, Cond.instantiable RX1 8, Cond.initialized RX1, Cond.fieldLink RX3 26 "ClientGuarantees" "script" "LClientGuarantees$Script;"]
def wsL_law_r2 : List Cond := [Cond.arrayClass .int, Cond.fieldLink RX3 30 "ClientGuarantees" "errors" "[I", Cond.instanceMethod yX2_init, Cond.code yX2_init cX2_init 1 none, Cond.methodLink RX2 3 objectInit, Cond.fieldLink RX2 9 "ClientGuarantees$State" "writeTotal" "I", Cond.fieldLink RX2 15 "ClientGuarantees$State" "origins" "[I", Cond.fieldLink RX2 19 "ClientGuarantees$State" "sequences" "[I", Cond.fieldLink RX2 22 "ClientGuarantees$State" "keys" "[I", Cond.fieldLink RX2 25 "ClientGuarantees$State" "values" "[I", Cond.fieldLink RX2 28 "ClientGuarantees$State" "timestamps" "[I", Cond.classLink RX2 31 "[[I", Cond.fieldLink RX2 33 "ClientGuarantees$State" "counts" "[[I", Cond.fieldLink RX2 36 "ClientGuarantees$State" "clocks" "[I", Cond.fieldLink RX2 39 "ClientGuarantees$State" "guaranteeSets" "[I", Cond.fieldLink RX2 42 "ClientGuarantees$State" "readVectors" "[[I", Cond.fieldLink RX2 45 "ClientGuarantees$State" "writeVectors" "[[I", Cond.fieldLink RX2 48 "ClientGuarantees$State" "breachCounts" "[I", Cond.methodLink RX3 18 yX0_init, Cond.instanceMethod yX0_init, Cond.code yX0_init cX0_init 2 none, Cond.methodLink RX0 3 objectInit, Cond.classLink RX0 11 RX2, Cond.fieldLink RX0 13 "ClientGuarantees$History" "slots" "[LClientGuarantees$State;"]
def wsL_law_r3 : List Cond := [Cond.fieldLink RX0 17 "ClientGuarantees$History" "free" "I", Cond.fieldLink RX0 21 "ClientGuarantees$History" "size" "I", Cond.instanceMethod yX1_init, Cond.code yX1_init cX1_init 1 none, Cond.methodLink RX1 3 objectInit, Cond.fieldLink RX1 9 "ClientGuarantees$Script" "text" "[I", Cond.fieldLink RX1 15 "ClientGuarantees$Script" "length" "I", Cond.fieldLink RX1 19 "ClientGuarantees$Script" "letters" "[I", Cond.classLink RX1 22 "[[I", Cond.fieldLink RX1 24 "ClientGuarantees$Script" "numbers" "[[I", Cond.fieldLink RX1 27 "ClientGuarantees$Script" "commands" "I", Cond.fieldLink RX1 30 "ClientGuarantees$Script" "inCommand" "Z", Cond.fieldLink RX1 34 "ClientGuarantees$Script" "numbersBegun" "I", Cond.fieldLink RX1 37 "ClientGuarantees$Script" "digits" "I", Cond.methodLink RL 12 yX4_init, Cond.instanceMethod yX4_init, Cond.code yX4_init cX4_init 1 none, Cond.methodLink RX4 1 objectInit, Cond.fieldLink RX4 7 "ClientGuaranteesModel" "all" "[I", Cond.fieldLink RX4 13 "ClientGuaranteesModel" "saved" "[I", Cond.fieldLink RX4 16 "ClientGuaranteesModel" "aside" "[I", Cond.fieldLink RX4 19 "ClientGuaranteesModel" "errors" "[I", Cond.fieldLink RX4 22 "ClientGuaranteesModel" "text" "[I", Cond.fieldLink RX4 25 "ClientGuaranteesModel" "numbers" "[I"]
def wsL_law_r4 : List Cond := [Cond.methodLink RL 13 yX3_setGuarantees, Cond.instanceMethod yX3_setGuarantees, Cond.selects RX3 yX3_setGuarantees yX3_setGuarantees, Cond.code yX3_setGuarantees cX3_setGuarantees 3 (some .int), Cond.methodLink RX3 34 yX0_prepare, Cond.instanceMethod yX0_prepare, Cond.selects RX0 yX0_prepare yX0_prepare, Cond.code yX0_prepare cX0_prepare 2 none, Cond.methodLink RX0 25 yX2_copyFrom, Cond.instanceMethod yX2_copyFrom, Cond.selects RX2 yX2_copyFrom yX2_copyFrom, Cond.code yX2_copyFrom cX2_copyFrom 2 none, Cond.methodLink RX2 51 yX2_copyRow, Cond.static yX2_copyRow, Cond.code yX2_copyRow cX2_copyRow 2 none, Cond.methodLink RX2 123 Lib.Math.min.name, Cond.static Lib.Math.min.name, Cond.initialized "java/lang/Math", Cond.code Lib.Math.min.name Lib.Math.min.code 2 (some .int), Cond.methodLink RX2 126 arraycopyName, Cond.native arraycopyName, Cond.static arraycopyName, Cond.initialized "java/lang/System", Cond.methodLink RX2 55 yX2_copyRows]
def wsL_law_r5 : List Cond := [Cond.static yX2_copyRows, Cond.code yX2_copyRows cX2_copyRows 3 none, Cond.methodLink RX3 38 yX2_changeGuarantees, Cond.instanceMethod yX2_changeGuarantees, Cond.selects RX2 yX2_changeGuarantees yX2_changeGuarantees, Cond.code yX2_changeGuarantees cX2_changeGuarantees 4 (some .int), Cond.static yX3_isClient, Cond.code yX3_isClient cX3_isClient 1 (some .boolean), Cond.methodLink RX3 112 yX3_isBelow, Cond.static yX3_isBelow, Cond.code yX3_isBelow cX3_isBelow 2 (some .boolean), Cond.methodLink RX3 42 yX3_endUndoable, Cond.instanceMethod yX3_endUndoable, Cond.selects RX3 yX3_endUndoable yX3_endUndoable, Cond.code yX3_endUndoable cX3_endUndoable 2 (some .int), Cond.methodLink RX3 138 yX0_keepPrepared, Cond.instanceMethod yX0_keepPrepared, Cond.selects RX0 yX0_keepPrepared yX0_keepPrepared, Cond.code yX0_keepPrepared cX0_keepPrepared 1 none, Cond.methodLink RX0 29 Lib.Math.min.name, Cond.methodLink RX3 56 yX3_counted, Cond.instanceMethod yX3_counted, Cond.selects RX3 yX3_counted yX3_counted, Cond.code yX3_counted cX3_counted 2 (some .int)]
def wsL_law_r6 : List Cond := [Cond.methodLink RX3 148 yX3_isErrorCode, Cond.static yX3_isErrorCode, Cond.code yX3_isErrorCode cX3_isErrorCode 1 (some .boolean), Cond.methodLink RL 17 yX4_setGuarantees, Cond.instanceMethod yX4_setGuarantees, Cond.selects RX4 yX4_setGuarantees yX4_setGuarantees, Cond.code yX4_setGuarantees cX4_setGuarantees 3 (some .int), Cond.methodLink RX4 56 yX4_putsAside, Cond.instanceMethod yX4_putsAside, Cond.selects RX4 yX4_putsAside yX4_putsAside, Cond.code yX4_putsAside cX4_putsAside 2 none, Cond.methodLink RX4 59 yX4_doesSet, Cond.instanceMethod yX4_doesSet, Cond.selects RX4 yX4_doesSet yX4_doesSet, Cond.code yX4_doesSet cX4_doesSet 4 (some .int), Cond.constantLong RX4 51 (15), Cond.methodLink RX4 47 yX4_isClient, Cond.static yX4_isClient, Cond.code yX4_isClient cX4_isClient 1 (some .boolean), Cond.constantLong RX4 39 (3), Cond.methodLink RX4 41 yX4_in, Cond.static yX4_in, Cond.code yX4_in cX4_in 6 (some .boolean), Cond.methodLink RX4 53 yX4_guarantees]
def wsL_law_r7 : List Cond := [Cond.instanceMethod yX4_guarantees, Cond.selects RX4 yX4_guarantees yX4_guarantees, Cond.code yX4_guarantees cX4_guarantees 2 (some .int), Cond.methodLink RX4 63 yX4_answered, Cond.instanceMethod yX4_answered, Cond.selects RX4 yX4_answered yX4_answered, Cond.code yX4_answered cX4_answered 2 (some .int), Cond.methodLink RX4 28 yX4_error, Cond.instanceMethod yX4_error, Cond.selects RX4 yX4_error yX4_error, Cond.code yX4_error cX4_error 2 (some .int), Cond.methodLink RX4 32 yX4_savesAside, Cond.instanceMethod yX4_savesAside, Cond.selects RX4 yX4_savesAside yX4_savesAside, Cond.code yX4_savesAside cX4_savesAside 2 none, Cond.fieldLink RX4 35 "ClientGuaranteesModel" "savedMany" "I", Cond.methodLink RL 18 yX3_forget, Cond.instanceMethod yX3_forget, Cond.selects RX3 yX3_forget yX3_forget, Cond.code yX3_forget cX3_forget 2 (some .int), Cond.methodLink RX3 46 yX2_clearVectors, Cond.instanceMethod yX2_clearVectors, Cond.selects RX2 yX2_clearVectors yX2_clearVectors, Cond.code yX2_clearVectors cX2_clearVectors 4 (some .int)]
def wsL_law_r8 : List Cond := [Cond.methodLink RL 22 yX4_forget, Cond.instanceMethod yX4_forget, Cond.selects RX4 yX4_forget yX4_forget, Cond.code yX4_forget cX4_forget 2 (some .int), Cond.methodLink RX4 66 yX4_doesForget, Cond.instanceMethod yX4_doesForget, Cond.selects RX4 yX4_doesForget yX4_doesForget, Cond.code yX4_doesForget cX4_doesForget 4 (some .int), Cond.methodLink RL 23 yX3_readCount, Cond.instanceMethod yX3_readCount, Cond.selects RX3 yX3_readCount yX3_readCount, Cond.code yX3_readCount cX3_readCount 3 (some .int), Cond.fieldLink RX3 59 "ClientGuarantees$State" "readVectors" "[[I", Cond.methodLink RX3 49 yX3_isClient, Cond.methodLink RX3 53 yX3_isReplica, Cond.static yX3_isReplica, Cond.code yX3_isReplica cX3_isReplica 1 (some .boolean), Cond.methodLink RL 26 yX4_readCount, Cond.instanceMethod yX4_readCount, Cond.selects RX4 yX4_readCount yX4_readCount, Cond.code yX4_readCount cX4_readCount 3 (some .int), Cond.methodLink RX4 69 yX4_isReplica, Cond.static yX4_isReplica, Cond.code yX4_isReplica cX4_isReplica 1 (some .boolean)]
def wsL_law_r9 : List Cond := [Cond.constantLong RX4 45 (2), Cond.methodLink RL 27 yX3_writeCount, Cond.instanceMethod yX3_writeCount, Cond.selects RX3 yX3_writeCount yX3_writeCount, Cond.code yX3_writeCount cX3_writeCount 3 (some .int), Cond.fieldLink RX3 63 "ClientGuarantees$State" "writeVectors" "[[I", Cond.methodLink RL 30 yX4_writeCount, Cond.instanceMethod yX4_writeCount, Cond.selects RX4 yX4_writeCount yX4_writeCount, Cond.code yX4_writeCount cX4_writeCount 3 (some .int), Cond.methodLink RL 31 yX3_read, Cond.instanceMethod yX3_read, Cond.selects RX3 yX3_read yX3_read, Cond.code yX3_read cX3_read 4 (some .int), Cond.methodLink RX3 66 yX2_readKey, Cond.instanceMethod yX2_readKey, Cond.selects RX2 yX2_readKey yX2_readKey, Cond.code yX2_readKey cX2_readKey 5 (some .int), Cond.static yX3_isKey, Cond.code yX3_isKey cX3_isKey 1 (some .boolean), Cond.static yX3_only, Cond.code yX3_only cX3_only 1 (some .int), Cond.methodLink RX2 77 yX2_unmetByRead, Cond.instanceMethod yX2_unmetByRead]
def wsL_law_r10 : List Cond := [Cond.selects RX2 yX2_unmetByRead yX2_unmetByRead, Cond.code yX2_unmetByRead cX2_unmetByRead 4 (some .int), Cond.methodLink RX2 102 yX2_covers, Cond.instanceMethod yX2_covers, Cond.selects RX2 yX2_covers yX2_covers, Cond.code yX2_covers cX2_covers 4 (some .boolean), Cond.methodLink RX2 106 yX2_greatestCount, Cond.instanceMethod yX2_greatestCount, Cond.selects RX2 yX2_greatestCount yX2_greatestCount, Cond.code yX2_greatestCount cX2_greatestCount 5 (some .int), Cond.methodLink RX2 97 Lib.Math.max.name, Cond.static Lib.Math.max.name, Cond.code Lib.Math.max.name Lib.Math.max.code 2 (some .int), Cond.static yX3_contains, Cond.code yX3_contains cX3_contains 2 (some .boolean), Cond.methodLink RX2 81 yX2_countBreaches, Cond.instanceMethod yX2_countBreaches, Cond.selects RX2 yX2_countBreaches yX2_countBreaches, Cond.code yX2_countBreaches cX2_countBreaches 3 none, Cond.methodLink RX2 85 yX2_merge, Cond.static yX2_merge, Cond.code yX2_merge cX2_merge 3 none, Cond.methodLink RX2 88 yX2_valueAt, Cond.instanceMethod yX2_valueAt]
def wsL_law_r11 : List Cond := [Cond.selects RX2 yX2_valueAt yX2_valueAt, Cond.code yX2_valueAt cX2_valueAt 5 (some .int), Cond.methodLink RX2 94 yX2_knows, Cond.instanceMethod yX2_knows, Cond.selects RX2 yX2_knows yX2_knows, Cond.code yX2_knows cX2_knows 3 (some .boolean), Cond.methodLink RX2 112 yX2_isLater, Cond.instanceMethod yX2_isLater, Cond.selects RX2 yX2_isLater yX2_isLater, Cond.code yX2_isLater cX2_isLater 3 (some .boolean), Cond.methodLink RL 35 yX4_read, Cond.instanceMethod yX4_read, Cond.selects RX4 yX4_read yX4_read, Cond.code yX4_read cX4_read 4 (some .int), Cond.methodLink RX4 92 yX4_doesRead, Cond.instanceMethod yX4_doesRead, Cond.selects RX4 yX4_doesRead yX4_doesRead, Cond.code yX4_doesRead cX4_doesRead 8 (some .int), Cond.methodLink RX4 79 yX4_isKey, Cond.static yX4_isKey, Cond.code yX4_isKey cX4_isKey 1 (some .boolean), Cond.methodLink RX4 82 yX4_breachesOfRead, Cond.instanceMethod yX4_breachesOfRead, Cond.selects RX4 yX4_breachesOfRead yX4_breachesOfRead]
def wsL_law_r12 : List Cond := [Cond.code yX4_breachesOfRead cX4_breachesOfRead 4 (some .int), Cond.methodLink RX4 72 yX4_covers, Cond.instanceMethod yX4_covers, Cond.selects RX4 yX4_covers yX4_covers, Cond.code yX4_covers cX4_covers 5 (some .boolean), Cond.methodLink RX4 85 yX4_countsBreaches, Cond.instanceMethod yX4_countsBreaches, Cond.selects RX4 yX4_countsBreaches yX4_countsBreaches, Cond.code yX4_countsBreaches cX4_countsBreaches 3 none, Cond.methodLink RX4 89 yX4_valueAt, Cond.instanceMethod yX4_valueAt, Cond.selects RX4 yX4_valueAt yX4_valueAt, Cond.code yX4_valueAt cX4_valueAt 7 (some .int), Cond.methodLink RX4 76 yX4_isLater, Cond.instanceMethod yX4_isLater, Cond.selects RX4 yX4_isLater yX4_isLater, Cond.code yX4_isLater cX4_isLater 5 (some .boolean), Cond.methodLink RL 36 yX3_write, Cond.instanceMethod yX3_write, Cond.selects RX3 yX3_write yX3_write, Cond.code yX3_write cX3_write 5 (some .int), Cond.methodLink RX3 70 yX2_writeKey, Cond.instanceMethod yX2_writeKey, Cond.selects RX2 yX2_writeKey yX2_writeKey]
def wsL_law_r13 : List Cond := [Cond.code yX2_writeKey cX2_writeKey 6 (some .int), Cond.methodLink RX2 91 yX2_unmetByWrite, Cond.instanceMethod yX2_unmetByWrite, Cond.selects RX2 yX2_unmetByWrite yX2_unmetByWrite, Cond.code yX2_unmetByWrite cX2_unmetByWrite 4 (some .int), Cond.methodLink RL 40 yX4_write, Cond.instanceMethod yX4_write, Cond.selects RX4 yX4_write yX4_write, Cond.code yX4_write cX4_write 5 (some .int), Cond.methodLink RX4 101 yX4_doesWrite, Cond.instanceMethod yX4_doesWrite, Cond.selects RX4 yX4_doesWrite yX4_doesWrite, Cond.code yX4_doesWrite cX4_doesWrite 8 (some .int), Cond.constantLong RX4 96 (99), Cond.methodLink RX4 98 yX4_breachesOfWrite, Cond.instanceMethod yX4_breachesOfWrite, Cond.selects RX4 yX4_breachesOfWrite yX4_breachesOfWrite, Cond.code yX4_breachesOfWrite cX4_breachesOfWrite 4 (some .int), Cond.methodLink RL 41 yX3_sync, Cond.instanceMethod yX3_sync, Cond.selects RX3 yX3_sync yX3_sync, Cond.code yX3_sync cX3_sync 3 (some .int), Cond.methodLink RX3 74 yX2_synchronize, Cond.instanceMethod yX2_synchronize]
def wsL_law_r14 : List Cond := [Cond.selects RX2 yX2_synchronize yX2_synchronize, Cond.code yX2_synchronize cX2_synchronize 5 (some .int), Cond.methodLink RL 44 yX4_sync, Cond.instanceMethod yX4_sync, Cond.selects RX4 yX4_sync yX4_sync, Cond.code yX4_sync cX4_sync 3 (some .int), Cond.methodLink RX4 105 yX4_doesSync, Cond.instanceMethod yX4_doesSync, Cond.selects RX4 yX4_doesSync yX4_doesSync, Cond.code yX4_doesSync cX4_doesSync 7 (some .int), Cond.methodLink RL 45 yX3_readBreaches, Cond.instanceMethod yX3_readBreaches, Cond.selects RX3 yX3_readBreaches yX3_readBreaches, Cond.code yX3_readBreaches cX3_readBreaches 3 (some .int), Cond.methodLink RX3 77 yX3_only, Cond.methodLink RX3 80 yX2_unmetByRead, Cond.methodLink RL 48 yX4_readBreaches, Cond.instanceMethod yX4_readBreaches, Cond.selects RX4 yX4_readBreaches yX4_readBreaches, Cond.code yX4_readBreaches cX4_readBreaches 3 (some .int), Cond.methodLink RL 49 yX3_writeBreaches, Cond.instanceMethod yX3_writeBreaches, Cond.selects RX3 yX3_writeBreaches yX3_writeBreaches, Cond.code yX3_writeBreaches cX3_writeBreaches 3 (some .int)]
def wsL_law_r15 : List Cond := [Cond.methodLink RX3 83 yX2_unmetByWrite, Cond.methodLink RL 52 yX4_writeBreaches, Cond.instanceMethod yX4_writeBreaches, Cond.selects RX4 yX4_writeBreaches yX4_writeBreaches, Cond.code yX4_writeBreaches cX4_writeBreaches 3 (some .int), Cond.methodLink RL 53 yX3_readableReplica, Cond.instanceMethod yX3_readableReplica, Cond.selects RX3 yX3_readableReplica yX3_readableReplica, Cond.code yX3_readableReplica cX3_readableReplica 3 (some .int), Cond.methodLink RX3 86 yX2_isReadAllowed, Cond.instanceMethod yX2_isReadAllowed, Cond.selects RX2 yX2_isReadAllowed yX2_isReadAllowed, Cond.code yX2_isReadAllowed cX2_isReadAllowed 3 (some .boolean), Cond.methodLink RL 56 yX4_readableReplica, Cond.instanceMethod yX4_readableReplica, Cond.selects RX4 yX4_readableReplica yX4_readableReplica, Cond.code yX4_readableReplica cX4_readableReplica 3 (some .int), Cond.methodLink RL 57 yX3_writableReplica, Cond.instanceMethod yX3_writableReplica, Cond.selects RX3 yX3_writableReplica yX3_writableReplica, Cond.code yX3_writableReplica cX3_writableReplica 3 (some .int), Cond.methodLink RX3 90 yX2_isWriteAllowed, Cond.instanceMethod yX2_isWriteAllowed, Cond.selects RX2 yX2_isWriteAllowed yX2_isWriteAllowed]
def wsL_law_r16 : List Cond := [Cond.code yX2_isWriteAllowed cX2_isWriteAllowed 3 (some .boolean), Cond.methodLink RL 60 yX4_writableReplica, Cond.instanceMethod yX4_writableReplica, Cond.selects RX4 yX4_writableReplica yX4_writableReplica, Cond.code yX4_writableReplica cX4_writableReplica 3 (some .int), Cond.methodLink RL 61 yX3_syncsForRead, Cond.instanceMethod yX3_syncsForRead, Cond.selects RX3 yX3_syncsForRead yX3_syncsForRead, Cond.code yX3_syncsForRead cX3_syncsForRead 4 (some .int), Cond.methodLink RX3 93 yX3_contains, Cond.methodLink RL 64 yX4_syncsForRead, Cond.instanceMethod yX4_syncsForRead, Cond.selects RX4 yX4_syncsForRead yX4_syncsForRead, Cond.code yX4_syncsForRead cX4_syncsForRead 7 (some .int), Cond.methodLink RX4 111 yX4_bits, Cond.static yX4_bits, Cond.code yX4_bits cX4_bits 1 (some .int), Cond.methodLink RX4 114 yX4_isReadBy, Cond.instanceMethod yX4_isReadBy, Cond.selects RX4 yX4_isReadBy yX4_isReadBy, Cond.code yX4_isReadBy cX4_isReadBy 5 (some .boolean), Cond.methodLink RX4 108 yX4_isCoveredBy, Cond.instanceMethod yX4_isCoveredBy, Cond.selects RX4 yX4_isCoveredBy yX4_isCoveredBy]
def wsL_law_r17 : List Cond := [Cond.code yX4_isCoveredBy cX4_isCoveredBy 8 (some .boolean), Cond.methodLink RL 65 yX3_count, Cond.instanceMethod yX3_count, Cond.selects RX3 yX3_count yX3_count, Cond.code yX3_count cX3_count 3 (some .int), Cond.fieldLink RX3 96 "ClientGuarantees$State" "counts" "[[I", Cond.methodLink RL 68 yX4_count, Cond.instanceMethod yX4_count, Cond.selects RX4 yX4_count yX4_count, Cond.code yX4_count cX4_count 3 (some .int), Cond.methodLink RL 69 yX3_clock, Cond.instanceMethod yX3_clock, Cond.selects RX3 yX3_clock yX3_clock, Cond.code yX3_clock cX3_clock 2 (some .int), Cond.fieldLink RX3 99 "ClientGuarantees$State" "clocks" "[I", Cond.methodLink RL 72 yX4_clock, Cond.instanceMethod yX4_clock, Cond.selects RX4 yX4_clock yX4_clock, Cond.code yX4_clock cX4_clock 2 (some .int), Cond.methodLink RL 73 yX3_peek, Cond.instanceMethod yX3_peek, Cond.selects RX3 yX3_peek yX3_peek, Cond.code yX3_peek cX3_peek 4 (some .int), Cond.methodLink RX3 102 yX3_isKey]
def wsL_law_r18 : List Cond := [Cond.methodLink RX3 105 yX2_valueAt, Cond.methodLink RL 76 yX4_peek, Cond.instanceMethod yX4_peek, Cond.selects RX4 yX4_peek yX4_peek, Cond.code yX4_peek cX4_peek 4 (some .int), Cond.methodLink RL 77 yX3_compare, Cond.instanceMethod yX3_compare, Cond.selects RX3 yX3_compare yX3_compare, Cond.code yX3_compare cX3_compare 5 (some .int), Cond.methodLink RX3 108 yX2_covers, Cond.methodLink RL 80 yX4_compare, Cond.instanceMethod yX4_compare, Cond.selects RX4 yX4_compare yX4_compare, Cond.code yX4_compare cX4_compare 5 (some .int), Cond.methodLink RL 81 yX3_breaches, Cond.instanceMethod yX3_breaches, Cond.selects RX3 yX3_breaches yX3_breaches, Cond.code yX3_breaches cX3_breaches 2 (some .int), Cond.fieldLink RX3 115 "ClientGuarantees$State" "breachCounts" "[I", Cond.methodLink RL 84 yX4_breaches, Cond.instanceMethod yX4_breaches, Cond.selects RX4 yX4_breaches yX4_breaches, Cond.code yX4_breaches cX4_breaches 2 (some .int), Cond.methodLink RL 85 yX3_append]
def wsL_law_r19 : List Cond := [Cond.instanceMethod yX3_append, Cond.selects RX3 yX3_append yX3_append, Cond.code yX3_append cX3_append 2 (some .int), Cond.methodLink RX3 118 yX1_add, Cond.instanceMethod yX1_add, Cond.selects RX1 yX1_add yX1_add, Cond.code yX1_add cX1_add 2 (some .int), Cond.methodLink RL 88 yX4_append, Cond.instanceMethod yX4_append, Cond.selects RX4 yX4_append yX4_append, Cond.code yX4_append cX4_append 2 (some .int), Cond.constantLong RX4 117 (127), Cond.fieldLink RX4 119 "ClientGuaranteesModel" "textLong" "I", Cond.methodLink RL 89 yX3_clearText, Cond.instanceMethod yX3_clearText, Cond.selects RX3 yX3_clearText yX3_clearText, Cond.code yX3_clearText cX3_clearText 2 (some .int), Cond.fieldLink RX3 121 "ClientGuarantees$Script" "length" "I", Cond.methodLink RL 93 yX4_clearText, Cond.instanceMethod yX4_clearText, Cond.selects RX4 yX4_clearText yX4_clearText, Cond.code yX4_clearText cX4_clearText 2 (some .int), Cond.methodLink RL 94 yX3_execute, Cond.instanceMethod yX3_execute]
def wsL_law_r20 : List Cond := [Cond.selects RX3 yX3_execute yX3_execute, Cond.code yX3_execute cX3_execute 5 (some .int), Cond.fieldLink RX3 129 "ClientGuarantees$Script" "commands" "I", Cond.methodLink RX3 125 yX1_parse, Cond.instanceMethod yX1_parse, Cond.selects RX1 yX1_parse yX1_parse, Cond.code yX1_parse cX1_parse 2 (some .int), Cond.methodLink RX1 40 yX1_accepts, Cond.instanceMethod yX1_accepts, Cond.selects RX1 yX1_accepts yX1_accepts, Cond.code yX1_accepts cX1_accepts 2 (some .boolean), Cond.methodLink RX1 44 yX1_beginsCommand, Cond.instanceMethod yX1_beginsCommand, Cond.selects RX1 yX1_beginsCommand yX1_beginsCommand, Cond.code yX1_beginsCommand cX1_beginsCommand 2 (some .boolean), Cond.methodLink RX1 54 yX1_numbersAfter, Cond.static yX1_numbersAfter, Cond.code yX1_numbersAfter cX1_numbersAfter 1 (some .int), Cond.methodLink RX1 47 yX1_endsCommand, Cond.instanceMethod yX1_endsCommand, Cond.selects RX1 yX1_endsCommand yX1_endsCommand, Cond.code yX1_endsCommand cX1_endsCommand 1 (some .boolean), Cond.methodLink RX1 51 yX1_takesDigit, Cond.instanceMethod yX1_takesDigit]
def wsL_law_r21 : List Cond := [Cond.selects RX1 yX1_takesDigit yX1_takesDigit, Cond.code yX1_takesDigit cX1_takesDigit 3 (some .boolean), Cond.methodLink RX3 132 yX3_runCommand, Cond.instanceMethod yX3_runCommand, Cond.selects RX3 yX3_runCommand yX3_runCommand, Cond.code yX3_runCommand cX3_runCommand 3 (some .int), Cond.fieldLink RX3 168 "ClientGuarantees$Script" "numbers" "[[I", Cond.fieldLink RX3 171 "ClientGuarantees$Script" "letters" "[I", Cond.methodLink RX3 135 yX0_restorePrepared, Cond.instanceMethod yX0_restorePrepared, Cond.selects RX0 yX0_restorePrepared yX0_restorePrepared, Cond.code yX0_restorePrepared cX0_restorePrepared 2 none, Cond.methodLink RL 97 yX4_execute, Cond.instanceMethod yX4_execute, Cond.selects RX4 yX4_execute yX4_execute, Cond.code yX4_execute cX4_execute 7 (some .int), Cond.fieldLink RX4 122 "ClientGuaranteesModel" "at" "I", Cond.methodLink RX4 146 yX4_takesCommand, Cond.instanceMethod yX4_takesCommand, Cond.selects RX4 yX4_takesCommand yX4_takesCommand, Cond.code yX4_takesCommand cX4_takesCommand 3 (some .boolean), Cond.fieldLink RX4 137 "ClientGuaranteesModel" "command" "I", Cond.methodLink RX4 129 yX4_here, Cond.instanceMethod yX4_here]
def wsL_law_r22 : List Cond := [Cond.selects RX4 yX4_here yX4_here, Cond.code yX4_here cX4_here 1 (some .int), Cond.methodLink RX4 140 yX4_numbersOf, Cond.static yX4_numbersOf, Cond.code yX4_numbersOf cX4_numbersOf 1 (some .int), Cond.methodLink RX4 143 yX4_takesNumber, Cond.instanceMethod yX4_takesNumber, Cond.selects RX4 yX4_takesNumber yX4_takesNumber, Cond.code yX4_takesNumber cX4_takesNumber 4 (some .boolean), Cond.constantLong RX4 125 (48), Cond.constantLong RX4 127 (57), Cond.methodLink RX4 133 yX4_isDigit, Cond.instanceMethod yX4_isDigit, Cond.selects RX4 yX4_isDigit yX4_isDigit, Cond.code yX4_isDigit cX4_isDigit 1 (some .boolean), Cond.methodLink RX4 149 yX4_doesCommand, Cond.instanceMethod yX4_doesCommand, Cond.selects RX4 yX4_doesCommand yX4_doesCommand, Cond.code yX4_doesCommand cX4_doesCommand 3 (some .int), Cond.methodLink RL 98 yX3_undo, Cond.instanceMethod yX3_undo, Cond.selects RX3 yX3_undo yX3_undo, Cond.code yX3_undo cX3_undo 1 (some .int), Cond.fieldLink RX3 145 "ClientGuarantees$History" "size" "I"]
def wsL_law_r23 : List Cond := [Cond.methodLink RX3 141 yX0_restoreNewest, Cond.instanceMethod yX0_restoreNewest, Cond.selects RX0 yX0_restoreNewest yX0_restoreNewest, Cond.code yX0_restoreNewest cX0_restoreNewest 2 (some .boolean), Cond.methodLink RL 101 yX4_undo, Cond.instanceMethod yX4_undo, Cond.selects RX4 yX4_undo yX4_undo, Cond.code yX4_undo cX4_undo 2 (some .int), Cond.methodLink RL 102 yX3_errorCount, Cond.instanceMethod yX3_errorCount, Cond.selects RX3 yX3_errorCount yX3_errorCount, Cond.code yX3_errorCount cX3_errorCount 2 (some .int), Cond.methodLink RL 105 yX4_errorCount, Cond.instanceMethod yX4_errorCount, Cond.selects RX4 yX4_errorCount yX4_errorCount, Cond.code yX4_errorCount cX4_errorCount 2 (some .int), Cond.constantLong RX4 152 (-6), Cond.constantLong RX4 154 (-2), Cond.methodLink RL 106 yX3_writes, Cond.instanceMethod yX3_writes, Cond.selects RX3 yX3_writes yX3_writes, Cond.code yX3_writes cX3_writes 1 (some .int), Cond.fieldLink RX3 151 "ClientGuarantees$State" "writeTotal" "I", Cond.methodLink RL 109 yX4_writes]
def wsL_law_r24 : List Cond := [Cond.instanceMethod yX4_writes, Cond.selects RX4 yX4_writes yX4_writes, Cond.code yX4_writes cX4_writes 1 (some .int), Cond.methodLink RL 110 yX3_digest, Cond.instanceMethod yX3_digest, Cond.selects RX3 yX3_digest yX3_digest, Cond.code yX3_digest cX3_digest 3 (some .long), Cond.constantLong RX3 154 (2647), Cond.methodLink RX3 156 yX3_mixAll, Cond.static yX3_mixAll, Cond.code yX3_mixAll cX3_mixAll 7 (some .long), Cond.methodLink RX3 164 yX3_mix, Cond.static yX3_mix, Cond.code yX3_mix cX3_mix 3 (some .long), Cond.constantLong RX3 174 (31), Cond.methodLink RX3 160 yX2_mixInto, Cond.instanceMethod yX2_mixInto, Cond.selects RX2 yX2_mixInto yX2_mixInto, Cond.code yX2_mixInto cX2_mixInto 5 (some .long), Cond.methodLink RL 114 yX4_digest, Cond.instanceMethod yX4_digest, Cond.selects RX4 yX4_digest yX4_digest, Cond.code yX4_digest cX4_digest 5 (some .long), Cond.constantLong RX4 156 (2647)]
def wsL_law_r25 : List Cond := [Cond.constantLong RX4 158 (31)]
def wsL_law : List Cond := (wsL_law_r1 ++ (wsL_law_r2 ++ (wsL_law_r3 ++ (wsL_law_r4 ++ (wsL_law_r5 ++ (wsL_law_r6 ++ (wsL_law_r7 ++ (wsL_law_r8 ++ (wsL_law_r9 ++ (wsL_law_r10 ++ (wsL_law_r11 ++ (wsL_law_r12 ++ (wsL_law_r13 ++ (wsL_law_r14 ++ (wsL_law_r15 ++ (wsL_law_r16 ++ (wsL_law_r17 ++ (wsL_law_r18 ++ (wsL_law_r19 ++ (wsL_law_r20 ++ (wsL_law_r21 ++ (wsL_law_r22 ++ (wsL_law_r23 ++ (wsL_law_r24 ++ wsL_law_r25)))))))))))))))))))))))) ++ wsX30 ++ wsX40 ++ wsX20 ++ wsX00 ++ wsX10 ++ ([] : List Cond)
abbrev vwCl : List vw_C := [(RX0, TX0, 3), (RX1, TX1, 8), (RX2, TX2, 12), (RX3, TX3, 4), (RX4, TX4, 10)]
end
section
/-! ===== the layer, 1: labels, memory, cells ===== -/
/-- a label of a cell: kind (0 State, 1 Script, 2 History, 3 ClientGuarantees, 4 the reference), which one, field + 1 (0: the object), row + 1 (0: the array itself) -/
abbrev cg_L : Type := Nat × Nat × Nat × Nat
/-- the memory: block, place -/
abbrev cg_M : Type := Nat → Nat → Int32
abbrev cg_V : Type := Int32 ⊕ (Int64 ⊕ cg_L)
/-- geometry: numbers of classes and slots; the classes int[], int[][], State[]; the addresses -/
abbrev cg_G : Type := va_G × (ClassId × ClassId × ClassId) × (cg_L → Nat)
def cg_vv (ad : cg_L → Nat) (v : cg_V) : Value := match v with
  | .inl x => .int x
  | .inr (.inl x) => .long x
  | .inr (.inr q) => .ref (ad q)
/-- int arrays: block, length, places -/
def cg_ai (q : cg_L) : Option (Nat × Nat × (Nat → Nat)) := match q with
  | (0, k, 2, 0) => some (k, 60, fun j => 13 + 5 * j)
  | (0, k, 3, 0) => some (k, 60, fun j => 14 + 5 * j)
  | (0, k, 4, 0) => some (k, 60, fun j => 15 + 5 * j)
  | (0, k, 5, 0) => some (k, 60, fun j => 16 + 5 * j)
  | (0, k, 6, 0) => some (k, 60, fun j => 17 + 5 * j)
  | (0, k, 7, r + 1) => some (k, 3, fun j => 3 * r + j)
  | (0, k, 8, 0) => some (k, 3, fun j => 9 + j)
  | (0, k, 9, 0) => some (k, 4, fun j => 313 + 7 * j)
  | (0, k, 10, r + 1) => some (k, 3, fun j => 314 + 7 * r + j)
  | (0, k, 11, r + 1) => some (k, 3, fun j => 317 + 7 * r + j)
  | (0, k, 12, 0) => some (k, 4, fun j => 341 + j)
  | (1, _, 1, 0) => some (10, 100, fun j => j)
  | (1, _, 3, 0) => some (11, 34, fun j => j)
  | (1, _, 4, r + 1) => some (12, 4, fun j => 4 * r + j)
  | (3, _, 4, 0) => some (15, 5, fun j => j)
  | (4, _, 1, 0) => some (20, 345, fun j => j)
  | (4, _, 2, 0) => some (21, 1380, fun j => j)
  | (4, _, 4, 0) => some (22, 345, fun j => j)
  | (4, _, 5, 0) => some (23, 5, fun j => j)
  | (4, _, 6, 0) => some (24, 100, fun j => j)
  | (4, _, 9, 0) => some (25, 4, fun j => j)
  | _ => none
/-- arrays of references: length, elements -/
def cg_ri (q : cg_L) : Option (Nat × (Nat → cg_L)) := match q with
  | (0, k, 7, 0) => some (3, fun j => (0, k, 7, j + 1))
  | (0, k, 10, 0) => some (4, fun j => (0, k, 10, j + 1))
  | (0, k, 11, 0) => some (4, fun j => (0, k, 11, j + 1))
  | (1, k, 4, 0) => some (34, fun j => (1, k, 4, j + 1))
  | (2, _, 1, 0) => some (5, fun j => (0, j + 1, 0, 0))
  | _ => none
/-- objects: the number of the kind in vwCl -/
def cg_oi (q : cg_L) : Option Nat := match q with
  | (0, _, 0, 0) => some 2
  | (1, _, 0, 0) => some 1
  | (2, _, 0, 0) => some 0
  | (3, _, 0, 0) => some 3
  | (4, _, 0, 0) => some 4
  | _ => none
def cg_nf (c : Nat) : Nat := match c with
  | 0 => 3
  | 1 => 8
  | 2 => 12
  | 3 => 4
  | _ => 10
/-- fields that hold references -/
def cg_fr (q : cg_L) (j : Nat) : Option cg_L := match q, j with
  | (0, k, _, _), j + 1 => some (0, k, j + 2, 0)
  | (1, k, _, _), 0 => some (1, k, 1, 0)
  | (1, k, _, _), 2 => some (1, k, 3, 0)
  | (1, k, _, _), 3 => some (1, k, 4, 0)
  | (2, k, _, _), 0 => some (2, k, 1, 0)
  | (3, _, _, _), 0 => some (0, 0, 0, 0)
  | (3, _, _, _), 1 => some (2, 0, 0, 0)
  | (3, _, _, _), 2 => some (1, 0, 0, 0)
  | (3, k, _, _), 3 => some (3, k, 4, 0)
  | (4, k, _, _), 0 => some (4, k, 1, 0)
  | (4, k, _, _), 1 => some (4, k, 2, 0)
  | (4, k, _, _), 3 => some (4, k, 4, 0)
  | (4, k, _, _), 4 => some (4, k, 5, 0)
  | (4, k, _, _), 5 => some (4, k, 6, 0)
  | (4, k, _, _), 8 => some (4, k, 9, 0)
  | _, _ => none
/-- fields that hold ints: block, place -/
def cg_fi (q : cg_L) (j : Nat) : Nat × Nat := match q with
  | (0, k, _, _) => (k, 12)
  | (1, _, _, _) => (13, j)
  | (2, _, _, _) => (14, j)
  | (4, _, _, _) => (26, j)
  | _ => (99, j)
def cg_ok (q : cg_L) : Bool := match q with
  | (0, k, 7, r) => decide (k < 6) && decide (r < 4)
  | (0, k, 10, r) => decide (k < 6) && decide (r < 5)
  | (0, k, 11, r) => decide (k < 6) && decide (r < 5)
  | (0, k, f, r) => decide (k < 6) && (decide (f < 13) && !(f == 1)) && decide (r = 0)
  | (1, k, 4, r) => decide (k = 0) && decide (r < 35)
  | (1, k, f, r) => decide (k = 0) && (f == 0 || f == 1 || f == 3) && decide (r = 0)
  | (2, k, f, r) => decide (k = 0) && (f == 0 || f == 1) && decide (r = 0)
  | (3, k, f, r) => decide (k = 0) && (f == 0 || f == 4) && decide (r = 0)
  | (4, k, f, r) => decide (k = 0) && (f == 0 || f == 1 || f == 2 || f == 4 || f == 5 || f == 6 || f == 9) && decide (r = 0)
  | _ => false
def cg_fv (ad : cg_L → Nat) (M : cg_M) (q : cg_L) (j : Nat) : Value := match cg_fr q j with
  | some t => .ref (ad t)
  | none => .int (M (cg_fi q j).1 (cg_fi q j).2)
def cg_ce (g : cg_G) (M : cg_M) (q : cg_L) : va_E := match cg_oi q with
  | some c => .inr (c, (List.range (cg_nf c)).map (cg_fv g.2.2 M q))
  | none => match cg_ai q with
    | some (b, n, f) => .inl (g.2.1.1, n, .inl (fun j => M b (f j)))
    | none => match cg_ri q with
      | some (n, f) => .inl (if q.1 = 2 then g.2.1.2.2 else g.2.1.2.1, n, .inr (.inr (.inr (.inr (fun j => if j < n then some (g.2.2 (f j)) else none)))))
      | none => .inl (g.2.1.1, 0, .inl (fun _ => 0))
def cg_tys (g : cg_G) : List (ClassId × FieldType) := [(g.2.1.1, .int), (g.2.1.2.1, .array .int), (g.2.1.2.2, .object RX2)]
def cg_H (g : cg_G) (M : cg_M) (H : Heap) : Prop := ∀ q : cg_L, cg_ok q = true → va_at g.1 vwCl (g.2.2 q, cg_ce g M q) H
def cg_inj (g : cg_G) : Prop := ∀ q r : cg_L, cg_ok q = true → cg_ok r = true → g.2.2 q = g.2.2 r → q = r
/-- whose place it is -/
def cg_oS (k x : Nat) : cg_L × Nat :=
  if x < 9 then ((0, k, 7, x / 3 + 1), x % 3) else if x < 12 then ((0, k, 8, 0), x - 9) else if x = 12 then ((0, k, 0, 0), 0)
  else if x < 313 then ((0, k, 2 + (x - 13) % 5, 0), (x - 13) / 5)
  else if x < 341 then (if (x - 313) % 7 = 0 then ((0, k, 9, 0), (x - 313) / 7) else if (x - 313) % 7 < 4 then ((0, k, 10, (x - 313) / 7 + 1), (x - 313) % 7 - 1) else ((0, k, 11, (x - 313) / 7 + 1), (x - 313) % 7 - 4))
  else ((0, k, 12, 0), x - 341)
def cg_ow (b x : Nat) : cg_L × Nat := match b with
  | 10 => ((1, 0, 1, 0), x)
  | 11 => ((1, 0, 3, 0), x)
  | 12 => ((1, 0, 4, x / 4 + 1), x % 4)
  | 13 => ((1, 0, 0, 0), x)
  | 14 => ((2, 0, 0, 0), x)
  | 15 => ((3, 0, 4, 0), x)
  | 20 => ((4, 0, 1, 0), x)
  | 21 => ((4, 0, 2, 0), x)
  | 22 => ((4, 0, 4, 0), x)
  | 23 => ((4, 0, 5, 0), x)
  | 24 => ((4, 0, 6, 0), x)
  | 25 => ((4, 0, 9, 0), x)
  | 26 => ((4, 0, 0, 0), x)
  | k => cg_oS k x
theorem cg_ow_S {k : Nat} (h : k < 6) (x : Nat) : cg_ow k x = cg_oS k x := by
  match k, h with
  | 0, _ => rfl
  | 1, _ => rfl
  | 2, _ => rfl
  | 3, _ => rfl
  | 4, _ => rfl
  | 5, _ => rfl
  | k + 6, h => exact absurd h (by omega)
theorem cg_ok0 {k f r : Nat} (h : cg_ok (0, k, f, r) = true) : k < 6 := by
  unfold cg_ok at h
  split at h <;> simp_all
theorem cg_ow_ai {q : cg_L} {b n j : Nat} {f : Nat → Nat} (hq : cg_ok q = true) (h : cg_ai q = some (b, n, f)) (hj : j < n) : cg_ow b (f j) = (q, j) := by
  unfold cg_ai at h
  split at h <;> first | (cases h; done) | skip
  all_goals (obtain ⟨rfl, rfl, rfl⟩ := h)
  all_goals (try dsimp only)
  all_goals (first | (rw [cg_ow_S (cg_ok0 hq)]; unfold cg_oS; repeat' split) | skip)
  all_goals (first | omega | skip)
  all_goals (first | (simp only [Prod.mk.injEq, true_and, and_true]; omega) | skip)
  all_goals (simp [cg_ok] at hq; simp [cg_ow, hq]; try omega)
theorem cg_ow_fi {q : cg_L} {c j : Nat} (hq : cg_ok q = true) (h : cg_oi q = some c) (hj : j < cg_nf c) (hr : cg_fr q j = none) : cg_ow (cg_fi q j).1 (cg_fi q j).2 = (q, j) := by
  unfold cg_oi at h
  split at h <;> first | (cases h; done) | skip
  all_goals (obtain rfl := Option.some.inj h)
  · have hk := cg_ok0 hq
    match j, hr with
    | 0, _ => exact (cg_ow_S hk 12).trans rfl
    | j + 1, hr => simp [cg_fr] at hr
  · simp [cg_ok] at hq; subst hq; rfl
  · simp [cg_ok] at hq; subst hq; rfl
  · match j, hr, hj with
    | 0, hr, _ => simp [cg_fr] at hr
    | 1, hr, _ => simp [cg_fr] at hr
    | 2, hr, _ => simp [cg_fr] at hr
    | 3, hr, _ => simp [cg_fr] at hr
    | j + 4, _, hj => exact absurd hj (by simp [cg_nf])
  · simp [cg_ok] at hq; subst hq; rfl
/-- a block put anew; a place put anew -/
def cg_sb (M : cg_M) (b : Nat) (P : Nat → Int32) : cg_M := fun b' => if b' = b then P else M b'
def cg_up (M : cg_M) (b x : Nat) (v : Int32) : cg_M := cg_sb M b (upd (M b) x v)
theorem cg_sb_s (M : cg_M) (b : Nat) (P : Nat → Int32) : cg_sb M b P b = P := by simp [cg_sb]
theorem cg_sb_n {M : cg_M} {b b' : Nat} {P : Nat → Int32} (h : b' ≠ b) : cg_sb M b P b' = M b' := by simp [cg_sb, h]
theorem cg_up_at (M : cg_M) (b x : Nat) (v : Int32) (b' x' : Nat) : cg_up M b x v b' x' = if b' = b ∧ x' = x then v else M b' x' := by
  unfold cg_up cg_sb
  by_cases h : b' = b
  · subst h
    by_cases h2 : x' = x
    · subst h2; simp [upd]
    · simp [upd, h2]
  · simp [h]
theorem cg_up_ne {M : cg_M} {b x : Nat} {v : Int32} {b' x' : Nat} (h : cg_ow b' x' ≠ cg_ow b x) : cg_up M b x v b' x' = M b' x' := by
  rw [cg_up_at, if_neg]
  rintro ⟨rfl, rfl⟩
  exact h rfl
theorem cg_arrV {c : ClassId} {n : Nat} {f f' : Nat → Value} (h : ∀ j, j < n → f j = f' j) : arrV c n f = arrV c n f' := by
  unfold arrV
  congr 1
  apply Array.ext
  · simp
  · intro i h1 h2
    simp only [Array.getElem_ofFn]
    exact h i (by simpa using h1)
/-- a cell none of whose places has changed -/
theorem cg_at_same {g : cg_G} {M M' : cg_M} {q : cg_L} {H : Heap} (h : va_at g.1 vwCl (g.2.2 q, cg_ce g M q) H) (ha : ∀ b n f, cg_ai q = some (b, n, f) → ∀ j, j < n → M' b (f j) = M b (f j)) (hf : ∀ c j, cg_oi q = some c → j < cg_nf c → cg_fr q j = none → M' (cg_fi q j).1 (cg_fi q j).2 = M (cg_fi q j).1 (cg_fi q j).2) : va_at g.1 vwCl (g.2.2 q, cg_ce g M' q) H := by
  have e : va_at g.1 vwCl (g.2.2 q, cg_ce g M' q) H = va_at g.1 vwCl (g.2.2 q, cg_ce g M q) H := by
    unfold cg_ce
    cases ho : cg_oi q with
    | some c =>
      have : (List.range (cg_nf c)).map (cg_fv g.2.2 M' q) = (List.range (cg_nf c)).map (cg_fv g.2.2 M q) := by
        apply List.map_congr_left
        intro j hj
        unfold cg_fv
        cases hr : cg_fr q j with
        | some t => rfl
        | none => simp only []; rw [hf c j ho (List.mem_range.mp hj) hr]
      simp only [this]
    | none =>
      cases hai : cg_ai q with
      | some t =>
        obtain ⟨b, n, f⟩ := t
        simp only [va_at, vp_cell_i]
        rw [cg_arrV (f := fun j => Value.int (M' b (f j))) (f' := fun j => Value.int (M b (f j))) (fun j hj => by rw [ha b n f hai j hj])]
      | none => rfl
  rw [e]
  exact h
end
section
/-! ===== the layer, 2: the judgement, rows ===== -/
abbrev cg_E : Type := Program × Launch × Env × Room × State × MethodId × Array Value × List Frame × Method × Code × (State → Prop) × cg_G × (Nat → Prop) × Nat × Nat
/-- what stands in the frame's variables -/
def cg_lv (ad : cg_L → Nat) : Nat → List (Option cg_V) → List (Nat × Value)
  | _, [] => []
  | i, none :: r => cg_lv ad (i + 1) r
  | i, some v :: r => (i, cg_vv ad v) :: cg_lv ad (i + 1) r
theorem cg_lv_mem {ad : cg_L → Nat} {x : Nat × Value} : ∀ {ls : List (Option cg_V)} {i : Nat}, x ∈ cg_lv ad i ls ↔ ∃ (k : Nat) (v : cg_V), ls[k]? = some (some v) ∧ x = (i + k, cg_vv ad v)
  | [], i => by simp [cg_lv]
  | none :: r, i => by
    show x ∈ cg_lv ad (i + 1) r ↔ _
    rw [cg_lv_mem]
    constructor
    · rintro ⟨k, v, h1, h2⟩
      exact ⟨k + 1, v, by simpa using h1, by rw [h2]; congr 1; omega⟩
    · rintro ⟨k, v, h1, h2⟩
      match k, h1 with
      | 0, h1 => simp at h1
      | k + 1, h1 => exact ⟨k, v, by simpa using h1, by rw [h2]; congr 1; omega⟩
  | some w :: r, i => by
    show x ∈ (i, cg_vv ad w) :: cg_lv ad (i + 1) r ↔ _
    rw [List.mem_cons, cg_lv_mem]
    constructor
    · rintro (h | ⟨k, v, h1, h2⟩)
      · exact ⟨0, w, rfl, h⟩
      · exact ⟨k + 1, v, by simpa using h1, by rw [h2]; congr 1; omega⟩
    · rintro ⟨k, v, h1, h2⟩
      match k, h1 with
      | 0, h1 => left; simp at h1; subst h1; exact h2
      | k + 1, h1 => right; exact ⟨k, v, by simpa using h1, by rw [h2]; congr 1; omega⟩
theorem cg_lv_get {ad : cg_L → Nat} {la : Array Slot} {nL k : Nat} {ls : List (Option cg_V)} {v : cg_V} (h : lv_has la nL (cg_lv ad 0 ls)) (hk : ls[k]? = some (some v)) : la[k]? = some (.val (cg_vv ad v)) := by
  have := h.2.2 (0 + k, cg_vv ad v) (cg_lv_mem.mpr ⟨k, v, hk, rfl⟩)
  simpa using this
def cg_two (v : cg_V) : Bool := match v with
  | .inr (.inl _) => true
  | _ => false
theorem cg_cat (ad : cg_L → Nat) (v : cg_V) : ((cg_vv ad v).category == 2) = cg_two v := by
  rcases v with x | x | x <;> rfl
/-- no long stands just ahead of place i -/
def cg_free (ls : List (Option cg_V)) (i : Nat) : Bool := match i with
  | 0 => true
  | i + 1 => match ls[i]? with
    | some (some v) => !cg_two v
    | _ => true
theorem cg_lv_set {ad : cg_L → Nat} {la : Array Slot} {nL i : Nat} {ls : List (Option cg_V)} {v : cg_V} {lv : List (Nat × Value)} (h : lv_has la nL lv) (hlv : lv = (i, cg_vv ad v) :: (cg_lv ad 0 ls).filter (fun q => !(q.1 == i) && !(q.1 + 1 == i && q.2.category == 2))) (hf : cg_free ls i = true) : lv_has la nL (cg_lv ad 0 (ls.set i (some v))) := by
  refine ⟨h.1, h.2.1, fun x hx => h.2.2 x ?_⟩
  obtain ⟨k, w, h1, h2⟩ := cg_lv_mem.mp hx
  rw [hlv]
  by_cases hk : i = k
  · subst hk
    rw [List.getElem?_set] at h1
    split at h1
    · split at h1
      · simp at h1; subst h1; rw [h2]; simp
      · simp at h1
    · omega
  · rw [List.getElem?_set_ne hk] at h1
    refine List.mem_cons_of_mem _ (List.mem_filter.mpr ⟨cg_lv_mem.mpr ⟨k, w, h1, h2⟩, ?_⟩)
    subst h2
    simp only [Nat.zero_add, cg_cat]
    have : (k == i) = false := by simp; omega
    rw [this]
    simp only [Bool.not_false, Bool.true_and, Bool.not_eq_true', Bool.and_eq_false_imp, beq_iff_eq]
    intro hki
    subst hki
    simp only [cg_free, h1] at hf
    simpa using hf
theorem cg_lv_set2 {ad : cg_L → Nat} {la : Array Slot} {nL i : Nat} {ls : List (Option cg_V)} {v : cg_V} {lv : List (Nat × Value)} (h : lv_has la nL lv) (hlv : lv = (i, cg_vv ad v) :: (cg_lv ad 0 ls).filter (fun q => !(q.1 == i) && (!(q.1 == i + 1) && !(q.1 + 1 == i && q.2.category == 2)))) (hf : cg_free ls i = true) : lv_has la nL (cg_lv ad 0 ((ls.set i (some v)).set (i + 1) none)) := by
  refine ⟨h.1, h.2.1, fun x hx => h.2.2 x ?_⟩
  obtain ⟨k, w, h1, h2⟩ := cg_lv_mem.mp hx
  rw [hlv]
  have hk1 : i + 1 ≠ k := by
    rintro rfl
    rw [List.getElem?_set] at h1
    split at h1
    · split at h1 <;> simp at h1
    · omega
  rw [List.getElem?_set_ne hk1] at h1
  by_cases hk : i = k
  · subst hk
    rw [List.getElem?_set] at h1
    split at h1
    · split at h1
      · simp at h1; subst h1; rw [h2]; simp
      · simp at h1
    · omega
  · rw [List.getElem?_set_ne hk] at h1
    refine List.mem_cons_of_mem _ (List.mem_filter.mpr ⟨cg_lv_mem.mpr ⟨k, w, h1, h2⟩, ?_⟩)
    subst h2
    simp only [Nat.zero_add, cg_cat]
    have e1 : (k == i) = false := by simp; omega
    have e2 : (k == i + 1) = false := by simp; omega
    rw [e1, e2]
    simp only [Bool.not_false, Bool.true_and, Bool.not_eq_true', Bool.and_eq_false_imp, beq_iff_eq]
    intro hki
    subst hki
    simp only [cg_free, h1] at hf
    simpa using hf
def cg_nests : List Cond := [.methodLinkNest RX2 59 yX3_isClient RX3, .methodLinkNest RX2 63 yX3_isBelow RX3, .methodLinkNest RX2 67 yX3_isReplica RX3, .methodLinkNest RX2 70 yX3_isKey RX3, .methodLinkNest RX2 73 yX3_only RX3, .methodLinkNest RX2 109 yX3_contains RX3, .methodLinkNest RX2 115 yX3_mix RX3, .methodLinkNest RX2 119 yX3_mixAll RX3]
def cg_N (U : State) : Prop := ∀ w ∈ cg_nests, va_Nw w U
def cg_C (E : cg_E) (cc : ByteArray) (nL : Nat) (own : String) (Ts : List Cond) (rm : Room) : Prop := match E with
  | (p, _, _, R, s, m, args, _, _, c, _, g, A, cells, slots) => p.tables.exec = Jvm.exec ∧ c.code = cc ∧ c.maxLocals = nL ∧ s.vm.findClass own = some m.cls ∧ (∀ w ∈ Ts, w.before args s = true) ∧ va_K g.1 vwCl (cg_tys g) s ∧ cg_N s ∧ cg_inj g ∧ (∀ q : cg_L, cg_ok q = true → A (g.2.2 q)) ∧ R = rm ∧ cells ≤ R.cells ∧ slots ≤ R.slots
def cg_W (E : cg_E) (M : cg_M) (pc : Nat) (ls : List (Option cg_V)) (st : List cg_V) : Prop := match E with
  | (p, l, e, R, s, m, args, below, meth, c, Q, g, A, cells, slots) => ∀ (H : Heap) (locs : List Loc) (la : Array Slot), cg_H g M H → va_S A s.heap H locs → lv_has la c.maxLocals (cg_lv g.2.2 0 ls) → W p l e R s m args below meth c H locs cells slots Q (F0 m pc la (st.map (cg_vv g.2.2)))
/-- all labels -/
def cg_all : List cg_L := ((List.range 5).flatMap fun a => (List.range 6).flatMap fun k => (List.range 13).flatMap fun f => (List.range 35).map fun r => (a, k, f, r)).filter cg_ok
theorem cg_ok_lt {a k f r : Nat} (h : cg_ok (a, k, f, r) = true) : a < 5 ∧ k < 6 ∧ f < 13 ∧ r < 35 := by
  unfold cg_ok at h
  split at h <;> simp_all <;> omega
theorem cg_all_mem {q : cg_L} (h : cg_ok q = true) : q ∈ cg_all := by
  obtain ⟨a, k, f, r⟩ := q
  obtain ⟨h1, h2, h3, h4⟩ := cg_ok_lt h
  unfold cg_all
  refine List.mem_filter.mpr ⟨?_, h⟩
  simp only [List.mem_flatMap, List.mem_range, List.mem_map]
  exact ⟨a, h1, k, h2, f, h3, r, h4, rfl⟩
theorem cg_all_ok {q : cg_L} (h : q ∈ cg_all) : cg_ok q = true := (List.mem_filter.mp h).2
theorem cg_all_nd : cg_all.Nodup := by decide +kernel
def cg_wd (g : cg_G) (M : cg_M) : va_W := cg_all.map (fun q => (g.2.2 q, cg_ce g M q))
theorem cg_wd_at {g : cg_G} {M : cg_M} {q : cg_L} (h : cg_ok q = true) : ∃ i : Nat, (cg_wd g M)[i]? = some (g.2.2 q, cg_ce g M q) ∧ cg_all[i]? = some q := by
  obtain ⟨i, hi⟩ := List.getElem?_of_mem (cg_all_mem h)
  exact ⟨i, by unfold cg_wd; rw [List.getElem?_map, hi]; rfl, hi⟩
theorem cg_wd_P {g : cg_G} {M : cg_M} {H : Heap} (h : cg_H g M H) : va_P g.1 vwCl (cg_wd g M) H := by
  intro k x hx
  unfold cg_wd at hx
  rw [List.getElem?_map] at hx
  cases hq : cg_all[k]? with
  | none => rw [hq] at hx; simp at hx
  | some q => rw [hq] at hx; simp at hx; subst hx; exact h q (cg_all_ok (List.mem_of_getElem? hq))
theorem cg_wd_D {g : cg_G} {M : cg_M} {A : Nat → Prop} (hi : cg_inj g) (hA : ∀ q : cg_L, cg_ok q = true → A (g.2.2 q)) : va_D A (cg_wd g M) := by
  have at' : ∀ (k : Nat) (x : Nat × va_E), (cg_wd g M)[k]? = some x → ∃ q, cg_all[k]? = some q ∧ x.1 = g.2.2 q := by
    intro k x hx
    unfold cg_wd at hx
    rw [List.getElem?_map] at hx
    cases hq : cg_all[k]? with
    | none => rw [hq] at hx; simp at hx
    | some q => rw [hq] at hx; simp at hx; subst hx; exact ⟨q, rfl, rfl⟩
  refine ⟨fun i j x y hx hy he => ?_, fun k x hx => ?_⟩
  · obtain ⟨q, hq, e1⟩ := at' i x hx
    obtain ⟨r, hr, e2⟩ := at' j y hy
    have hqr : q = r := hi q r (cg_all_ok (List.mem_of_getElem? hq)) (cg_all_ok (List.mem_of_getElem? hr)) (by rw [← e1, ← e2, he])
    subst hqr
    obtain ⟨h1, h1'⟩ := List.getElem?_eq_some_iff.mp hq
    obtain ⟨h2, h2'⟩ := List.getElem?_eq_some_iff.mp hr
    exact (List.getElem_inj cg_all_nd).mp (h1'.trans h2'.symm)
  · obtain ⟨q, hq, e1⟩ := at' k x hx
    rw [e1]
    exact hA q (cg_all_ok (List.mem_of_getElem? hq))
/-- behind a write to one cell: the others as they were -/
theorem cg_wd_set {g : cg_G} {M : cg_M} {H : Heap} {q : cg_L} {i : Nat} {x : va_E} (hi : cg_all[i]? = some q) (h : va_P g.1 vwCl ((cg_wd g M).set i (g.2.2 q, x)) H) : va_at g.1 vwCl (g.2.2 q, x) H ∧ ∀ r, cg_ok r = true → r ≠ q → va_at g.1 vwCl (g.2.2 r, cg_ce g M r) H := by
  have hl : i < (cg_wd g M).length := by unfold cg_wd; rw [List.length_map]; exact (List.getElem?_eq_some_iff.mp hi).1
  refine ⟨h i _ (List.getElem?_set_self hl), fun r hr hne => ?_⟩
  obtain ⟨j, hj, hj2⟩ := cg_wd_at (g := g) (M := M) hr
  refine h j _ ?_
  rw [List.getElem?_set_ne ?_]
  · exact hj
  · rintro rfl
    exact hne (Option.some.inj (hj2.symm.trans hi))
theorem cg_H_up {g : cg_G} {M : cg_M} {H : Heap} {q : cg_L} {b x j : Nat} {v : Int32} (ho : cg_ow b x = (q, j)) (h1 : va_at g.1 vwCl (g.2.2 q, cg_ce g (cg_up M b x v) q) H) (h2 : ∀ r, cg_ok r = true → r ≠ q → va_at g.1 vwCl (g.2.2 r, cg_ce g M r) H) : cg_H g (cg_up M b x v) H := by
  intro r hr
  by_cases hq : r = q
  · rw [hq]; exact h1
  · refine cg_at_same (h2 r hr hq) (fun b' n f h j' hj => ?_) (fun c j' hc hj hn => ?_)
    · exact cg_up_ne (by rw [ho, cg_ow_ai hr h hj]; exact fun e => hq (congrArg Prod.fst e))
    · exact cg_up_ne (by rw [ho, cg_ow_fi hr hc hj hn]; exact fun e => hq (congrArg Prod.fst e))
section CGR

theorem cr_iconst {E : cg_E} {cc : ByteArray} {nL : Nat} {own : String} {Ts : List Cond} {rm : Room} (C : cg_C E cc nL own Ts rm) {M : cg_M} {pc : Nat} {ls : List (Option cg_V)} {rest : List cg_V} {n : Int} {v : Int32} (d : decode cc pc = .ok (.iconst n, 1)) (hv : Int32.ofInt n = v) (K : cg_W E M (pc + 1) ls (.inl v :: rest)) : cg_W E M pc ls (rest) := by
  obtain ⟨p, l, e, R, s, m, args, below, meth, c, Q, g, A, cells, slots⟩ := E
  intro H locs la hH hS hl
  exact lv_iconst C.1 C.2.1 d hv (K H locs la hH hS hl)
theorem cr_bipush {E : cg_E} {cc : ByteArray} {nL : Nat} {own : String} {Ts : List Cond} {rm : Room} (C : cg_C E cc nL own Ts rm) {M : cg_M} {pc : Nat} {ls : List (Option cg_V)} {rest : List cg_V} {n : Int} {v : Int32} (d : decode cc pc = .ok (.bipush n, 2)) (hv : (Int8.ofInt n).toInt32 = v) (K : cg_W E M (pc + 2) ls (.inl v :: rest)) : cg_W E M pc ls (rest) := by
  obtain ⟨p, l, e, R, s, m, args, below, meth, c, Q, g, A, cells, slots⟩ := E
  intro H locs la hH hS hl
  exact lv_bipush C.1 C.2.1 d hv (K H locs la hH hS hl)
theorem cr_sipush {E : cg_E} {cc : ByteArray} {nL : Nat} {own : String} {Ts : List Cond} {rm : Room} (C : cg_C E cc nL own Ts rm) {M : cg_M} {pc : Nat} {ls : List (Option cg_V)} {rest : List cg_V} {n : Int} {v : Int32} (d : decode cc pc = .ok (.sipush n, 3)) (hv : (Int16.ofInt n).toInt32 = v) (K : cg_W E M (pc + 3) ls (.inl v :: rest)) : cg_W E M pc ls (rest) := by
  obtain ⟨p, l, e, R, s, m, args, below, meth, c, Q, g, A, cells, slots⟩ := E
  intro H locs la hH hS hl
  exact lv_sipush C.1 C.2.1 d hv (K H locs la hH hS hl)
theorem cr_lconst {E : cg_E} {cc : ByteArray} {nL : Nat} {own : String} {Ts : List Cond} {rm : Room} (C : cg_C E cc nL own Ts rm) {M : cg_M} {pc : Nat} {ls : List (Option cg_V)} {rest : List cg_V} {n : Fin 2} {v : Int64} (d : decode cc pc = .ok (.lconst n, 1)) (hv : Int64.ofNat (n : Nat) = v) (K : cg_W E M (pc + 1) ls (.inr (.inl v) :: rest)) : cg_W E M pc ls (rest) := by
  obtain ⟨p, l, e, R, s, m, args, below, meth, c, Q, g, A, cells, slots⟩ := E
  intro H locs la hH hS hl
  exact lv_lconst C.1 C.2.1 d hv (K H locs la hH hS hl)
theorem cr_ldc2 {E : cg_E} {cc : ByteArray} {nL : Nat} {own : String} {Ts : List Cond} {rm : Room} (C : cg_C E cc nL own Ts rm) {M : cg_M} {pc : Nat} {ls : List (Option cg_V)} {rest : List cg_V} {index : Nat} {v : Int64} (d : decode cc pc = .ok (.ldc2_w index, 3)) (hw : Jvm.Cond.constantLong own index v ∈ Ts) (K : cg_W E M (pc + 3) ls (.inr (.inl v) :: rest)) : cg_W E M pc ls (rest) := by
  obtain ⟨p, l, e, R, s, m, args, below, meth, c, Q, g, A, cells, slots⟩ := E
  intro H locs la hH hS hl
  exact lv_ldc2 C.1 C.2.1 C.2.2.2.1 (C.2.2.2.2.1 _ hw) d (K H locs la hH hS hl)
theorem cr_iload_n {E : cg_E} {cc : ByteArray} {nL : Nat} {own : String} {Ts : List Cond} {rm : Room} (C : cg_C E cc nL own Ts rm) {M : cg_M} {pc : Nat} {ls : List (Option cg_V)} {rest : List cg_V} {k : Fin 4} {x : Int32} (d : decode cc pc = .ok (.iload_n k, 1)) (h : ls[(k : Nat)]? = some (some (.inl x))) (K : cg_W E M (pc + 1) ls (.inl x :: rest)) : cg_W E M pc ls (rest) := by
  obtain ⟨p, l, e, R, s, m, args, below, meth, c, Q, g, A, cells, slots⟩ := E
  intro H locs la hH hS hl
  exact lv_iload_n C.1 C.2.1 d rfl (cg_lv_get hl h) (K H locs la hH hS hl)
theorem cr_iload {E : cg_E} {cc : ByteArray} {nL : Nat} {own : String} {Ts : List Cond} {rm : Room} (C : cg_C E cc nL own Ts rm) {M : cg_M} {pc : Nat} {ls : List (Option cg_V)} {rest : List cg_V} {k : Nat} {x : Int32} (d : decode cc pc = .ok (.iload k, 2)) (h : ls[k]? = some (some (.inl x))) (K : cg_W E M (pc + 2) ls (.inl x :: rest)) : cg_W E M pc ls (rest) := by
  obtain ⟨p, l, e, R, s, m, args, below, meth, c, Q, g, A, cells, slots⟩ := E
  intro H locs la hH hS hl
  exact lv_iload C.1 C.2.1 d (cg_lv_get hl h) (K H locs la hH hS hl)
theorem cr_lload_n {E : cg_E} {cc : ByteArray} {nL : Nat} {own : String} {Ts : List Cond} {rm : Room} (C : cg_C E cc nL own Ts rm) {M : cg_M} {pc : Nat} {ls : List (Option cg_V)} {rest : List cg_V} {k : Fin 4} {x : Int64} (d : decode cc pc = .ok (.lload_n k, 1)) (h : ls[(k : Nat)]? = some (some (.inr (.inl x)))) (K : cg_W E M (pc + 1) ls (.inr (.inl x) :: rest)) : cg_W E M pc ls (rest) := by
  obtain ⟨p, l, e, R, s, m, args, below, meth, c, Q, g, A, cells, slots⟩ := E
  intro H locs la hH hS hl
  exact lv_lload_n C.1 C.2.1 d rfl (cg_lv_get hl h) (K H locs la hH hS hl)
theorem cr_lload {E : cg_E} {cc : ByteArray} {nL : Nat} {own : String} {Ts : List Cond} {rm : Room} (C : cg_C E cc nL own Ts rm) {M : cg_M} {pc : Nat} {ls : List (Option cg_V)} {rest : List cg_V} {k : Nat} {x : Int64} (d : decode cc pc = .ok (.lload k, 2)) (h : ls[k]? = some (some (.inr (.inl x)))) (K : cg_W E M (pc + 2) ls (.inr (.inl x) :: rest)) : cg_W E M pc ls (rest) := by
  obtain ⟨p, l, e, R, s, m, args, below, meth, c, Q, g, A, cells, slots⟩ := E
  intro H locs la hH hS hl
  exact lv_lload C.1 C.2.1 d (cg_lv_get hl h) (K H locs la hH hS hl)
theorem cr_aload_n {E : cg_E} {cc : ByteArray} {nL : Nat} {own : String} {Ts : List Cond} {rm : Room} (C : cg_C E cc nL own Ts rm) {M : cg_M} {pc : Nat} {ls : List (Option cg_V)} {rest : List cg_V} {k : Fin 4} {x : cg_L} (d : decode cc pc = .ok (.aload_n k, 1)) (h : ls[(k : Nat)]? = some (some (.inr (.inr x)))) (K : cg_W E M (pc + 1) ls (.inr (.inr x) :: rest)) : cg_W E M pc ls (rest) := by
  obtain ⟨p, l, e, R, s, m, args, below, meth, c, Q, g, A, cells, slots⟩ := E
  intro H locs la hH hS hl
  exact lv_aload_n C.1 C.2.1 d rfl (cg_lv_get hl h) (K H locs la hH hS hl)
theorem cr_aload {E : cg_E} {cc : ByteArray} {nL : Nat} {own : String} {Ts : List Cond} {rm : Room} (C : cg_C E cc nL own Ts rm) {M : cg_M} {pc : Nat} {ls : List (Option cg_V)} {rest : List cg_V} {k : Nat} {x : cg_L} (d : decode cc pc = .ok (.aload k, 2)) (h : ls[k]? = some (some (.inr (.inr x)))) (K : cg_W E M (pc + 2) ls (.inr (.inr x) :: rest)) : cg_W E M pc ls (rest) := by
  obtain ⟨p, l, e, R, s, m, args, below, meth, c, Q, g, A, cells, slots⟩ := E
  intro H locs la hH hS hl
  exact lv_aload C.1 C.2.1 d (cg_lv_get hl h) (K H locs la hH hS hl)
theorem cr_istore_n {E : cg_E} {cc : ByteArray} {nL : Nat} {own : String} {Ts : List Cond} {rm : Room} (C : cg_C E cc nL own Ts rm) {M : cg_M} {pc : Nat} {ls : List (Option cg_V)} {rest : List cg_V} {k : Fin 4} {x : Int32} (d : decode cc pc = .ok (.istore_n k, 1)) (hn : (k : Nat) < nL) (hf : cg_free ls k = true) (K : cg_W E M (pc + 1) (ls.set k (some (.inl x))) rest) : cg_W E M pc ls (.inl x :: rest) := by
  obtain ⟨p, l, e, R, s, m, args, below, meth, c, Q, g, A, cells, slots⟩ := E
  intro H locs la hH hS hl
  exact lv_istore_n C.1 C.2.1 d rfl hl (by rw [C.2.2.1]; exact hn) rfl (fun la hl => K H locs la hH hS (cg_lv_set hl rfl hf))
theorem cr_istore {E : cg_E} {cc : ByteArray} {nL : Nat} {own : String} {Ts : List Cond} {rm : Room} (C : cg_C E cc nL own Ts rm) {M : cg_M} {pc : Nat} {ls : List (Option cg_V)} {rest : List cg_V} {k : Nat} {x : Int32} (d : decode cc pc = .ok (.istore k, 2)) (hn : k < nL) (hf : cg_free ls k = true) (K : cg_W E M (pc + 2) (ls.set k (some (.inl x))) rest) : cg_W E M pc ls (.inl x :: rest) := by
  obtain ⟨p, l, e, R, s, m, args, below, meth, c, Q, g, A, cells, slots⟩ := E
  intro H locs la hH hS hl
  exact lv_istore C.1 C.2.1 d hl (by rw [C.2.2.1]; exact hn) rfl (fun la hl => K H locs la hH hS (cg_lv_set hl rfl hf))
theorem cr_astore_n {E : cg_E} {cc : ByteArray} {nL : Nat} {own : String} {Ts : List Cond} {rm : Room} (C : cg_C E cc nL own Ts rm) {M : cg_M} {pc : Nat} {ls : List (Option cg_V)} {rest : List cg_V} {k : Fin 4} {x : cg_L} (d : decode cc pc = .ok (.astore_n k, 1)) (hn : (k : Nat) < nL) (hf : cg_free ls k = true) (K : cg_W E M (pc + 1) (ls.set k (some (.inr (.inr x)))) rest) : cg_W E M pc ls (.inr (.inr x) :: rest) := by
  obtain ⟨p, l, e, R, s, m, args, below, meth, c, Q, g, A, cells, slots⟩ := E
  intro H locs la hH hS hl
  exact lv_astore_n C.1 C.2.1 d rfl hl (by rw [C.2.2.1]; exact hn) rfl (fun la hl => K H locs la hH hS (cg_lv_set (v := .inr (.inr x)) hl rfl hf))
theorem cr_astore {E : cg_E} {cc : ByteArray} {nL : Nat} {own : String} {Ts : List Cond} {rm : Room} (C : cg_C E cc nL own Ts rm) {M : cg_M} {pc : Nat} {ls : List (Option cg_V)} {rest : List cg_V} {k : Nat} {x : cg_L} (d : decode cc pc = .ok (.astore k, 2)) (hn : k < nL) (hf : cg_free ls k = true) (K : cg_W E M (pc + 2) (ls.set k (some (.inr (.inr x)))) rest) : cg_W E M pc ls (.inr (.inr x) :: rest) := by
  obtain ⟨p, l, e, R, s, m, args, below, meth, c, Q, g, A, cells, slots⟩ := E
  intro H locs la hH hS hl
  exact lv_astore C.1 C.2.1 d hl (by rw [C.2.2.1]; exact hn) rfl (fun la hl => K H locs la hH hS (cg_lv_set (v := .inr (.inr x)) hl rfl hf))
theorem cr_lstore_n {E : cg_E} {cc : ByteArray} {nL : Nat} {own : String} {Ts : List Cond} {rm : Room} (C : cg_C E cc nL own Ts rm) {M : cg_M} {pc : Nat} {ls : List (Option cg_V)} {rest : List cg_V} {k : Fin 4} {x : Int64} (d : decode cc pc = .ok (.lstore_n k, 1)) (hn : (k : Nat) + 1 < nL) (hf : cg_free ls k = true) (K : cg_W E M (pc + 1) ((ls.set k (some (.inr (.inl x)))).set (k + 1) none) rest) : cg_W E M pc ls (.inr (.inl x) :: rest) := by
  obtain ⟨p, l, e, R, s, m, args, below, meth, c, Q, g, A, cells, slots⟩ := E
  intro H locs la hH hS hl
  exact lv_lstore_n C.1 C.2.1 d rfl hl (by rw [C.2.2.1]; exact hn) rfl (fun la hl => K H locs la hH hS (cg_lv_set2 (v := .inr (.inl x)) hl rfl hf))
theorem cr_lstore {E : cg_E} {cc : ByteArray} {nL : Nat} {own : String} {Ts : List Cond} {rm : Room} (C : cg_C E cc nL own Ts rm) {M : cg_M} {pc : Nat} {ls : List (Option cg_V)} {rest : List cg_V} {k : Nat} {x : Int64} (d : decode cc pc = .ok (.lstore k, 2)) (hn : k + 1 < nL) (hf : cg_free ls k = true) (K : cg_W E M (pc + 2) ((ls.set k (some (.inr (.inl x)))).set (k + 1) none) rest) : cg_W E M pc ls (.inr (.inl x) :: rest) := by
  obtain ⟨p, l, e, R, s, m, args, below, meth, c, Q, g, A, cells, slots⟩ := E
  intro H locs la hH hS hl
  exact lv_lstore C.1 C.2.1 d hl (by rw [C.2.2.1]; exact hn) rfl (fun la hl => K H locs la hH hS (cg_lv_set2 (v := .inr (.inl x)) hl rfl hf))
theorem cr_iinc {E : cg_E} {cc : ByteArray} {nL : Nat} {own : String} {Ts : List Cond} {rm : Room} (C : cg_C E cc nL own Ts rm) {M : cg_M} {pc : Nat} {ls : List (Option cg_V)} {rest : List cg_V} {k : Nat} {n : Int} {x v : Int32} (d : decode cc pc = .ok (.iinc k n, 3)) (h : ls[k]? = some (some (.inl x))) (hv : x + Int32.ofInt n = v) (hn : k < nL) (hf : cg_free ls k = true) (K : cg_W E M (pc + 3) (ls.set k (some (.inl v))) rest) : cg_W E M pc ls rest := by
  obtain ⟨p, l, e, R, s, m, args, below, meth, c, Q, g, A, cells, slots⟩ := E
  intro H locs la hH hS hl
  obtain ⟨i, hi⟩ := List.getElem?_of_mem (cg_lv_mem (ad := g.2.2) (i := 0) |>.mpr ⟨k, .inl x, h, rfl⟩)
  rw [Nat.zero_add] at hi
  exact lv_iinc C.1 C.2.1 d hl hi hv (by rw [C.2.2.1]; exact hn) rfl (fun la hl => K H locs la hH hS (cg_lv_set hl rfl hf))
theorem cr_iadd {E : cg_E} {cc : ByteArray} {nL : Nat} {own : String} {Ts : List Cond} {rm : Room} (C : cg_C E cc nL own Ts rm) {M : cg_M} {pc : Nat} {ls : List (Option cg_V)} {rest : List cg_V} {x y : Int32} (d : decode cc pc = .ok (.iadd, 1)) (K : cg_W E M (pc + 1) ls (.inl (x + y) :: rest)) : cg_W E M pc ls (.inl y :: .inl x :: rest) := by
  obtain ⟨p, l, e, R, s, m, args, below, meth, c, Q, g, A, cells, slots⟩ := E
  intro H locs la hH hS hl
  exact lv_iadd C.1 C.2.1 d (K H locs la hH hS hl)
theorem cr_isub {E : cg_E} {cc : ByteArray} {nL : Nat} {own : String} {Ts : List Cond} {rm : Room} (C : cg_C E cc nL own Ts rm) {M : cg_M} {pc : Nat} {ls : List (Option cg_V)} {rest : List cg_V} {x y : Int32} (d : decode cc pc = .ok (.isub, 1)) (K : cg_W E M (pc + 1) ls (.inl (x - y) :: rest)) : cg_W E M pc ls (.inl y :: .inl x :: rest) := by
  obtain ⟨p, l, e, R, s, m, args, below, meth, c, Q, g, A, cells, slots⟩ := E
  intro H locs la hH hS hl
  exact lv_isub C.1 C.2.1 d (K H locs la hH hS hl)
theorem cr_imul {E : cg_E} {cc : ByteArray} {nL : Nat} {own : String} {Ts : List Cond} {rm : Room} (C : cg_C E cc nL own Ts rm) {M : cg_M} {pc : Nat} {ls : List (Option cg_V)} {rest : List cg_V} {x y : Int32} (d : decode cc pc = .ok (.imul, 1)) (K : cg_W E M (pc + 1) ls (.inl (x * y) :: rest)) : cg_W E M pc ls (.inl y :: .inl x :: rest) := by
  obtain ⟨p, l, e, R, s, m, args, below, meth, c, Q, g, A, cells, slots⟩ := E
  intro H locs la hH hS hl
  exact lv_imul C.1 C.2.1 d (K H locs la hH hS hl)
theorem cr_iand {E : cg_E} {cc : ByteArray} {nL : Nat} {own : String} {Ts : List Cond} {rm : Room} (C : cg_C E cc nL own Ts rm) {M : cg_M} {pc : Nat} {ls : List (Option cg_V)} {rest : List cg_V} {x y : Int32} (d : decode cc pc = .ok (.iand, 1)) (K : cg_W E M (pc + 1) ls (.inl (x &&& y) :: rest)) : cg_W E M pc ls (.inl y :: .inl x :: rest) := by
  obtain ⟨p, l, e, R, s, m, args, below, meth, c, Q, g, A, cells, slots⟩ := E
  intro H locs la hH hS hl
  exact lv_iand C.1 C.2.1 d (K H locs la hH hS hl)
theorem cr_ior {E : cg_E} {cc : ByteArray} {nL : Nat} {own : String} {Ts : List Cond} {rm : Room} (C : cg_C E cc nL own Ts rm) {M : cg_M} {pc : Nat} {ls : List (Option cg_V)} {rest : List cg_V} {x y : Int32} (d : decode cc pc = .ok (.ior, 1)) (K : cg_W E M (pc + 1) ls (.inl (x ||| y) :: rest)) : cg_W E M pc ls (.inl y :: .inl x :: rest) := by
  obtain ⟨p, l, e, R, s, m, args, below, meth, c, Q, g, A, cells, slots⟩ := E
  intro H locs la hH hS hl
  exact lv_ior C.1 C.2.1 d (K H locs la hH hS hl)
theorem cr_ishl {E : cg_E} {cc : ByteArray} {nL : Nat} {own : String} {Ts : List Cond} {rm : Room} (C : cg_C E cc nL own Ts rm) {M : cg_M} {pc : Nat} {ls : List (Option cg_V)} {rest : List cg_V} {x y : Int32} (d : decode cc pc = .ok (.ishl, 1)) (K : cg_W E M (pc + 1) ls (.inl (x <<< (y &&& 31)) :: rest)) : cg_W E M pc ls (.inl y :: .inl x :: rest) := by
  obtain ⟨p, l, e, R, s, m, args, below, meth, c, Q, g, A, cells, slots⟩ := E
  intro H locs la hH hS hl
  exact lv_ishl C.1 C.2.1 d (K H locs la hH hS hl)
theorem cr_ishr {E : cg_E} {cc : ByteArray} {nL : Nat} {own : String} {Ts : List Cond} {rm : Room} (C : cg_C E cc nL own Ts rm) {M : cg_M} {pc : Nat} {ls : List (Option cg_V)} {rest : List cg_V} {x y : Int32} (d : decode cc pc = .ok (.ishr, 1)) (K : cg_W E M (pc + 1) ls (.inl (x >>> (y &&& 31)) :: rest)) : cg_W E M pc ls (.inl y :: .inl x :: rest) := by
  obtain ⟨p, l, e, R, s, m, args, below, meth, c, Q, g, A, cells, slots⟩ := E
  intro H locs la hH hS hl
  exact lv_ishr C.1 C.2.1 d (K H locs la hH hS hl)
theorem cr_irem {E : cg_E} {cc : ByteArray} {nL : Nat} {own : String} {Ts : List Cond} {rm : Room} (C : cg_C E cc nL own Ts rm) {M : cg_M} {pc : Nat} {ls : List (Option cg_V)} {rest : List cg_V} {x y : Int32} (d : decode cc pc = .ok (.irem, 1)) (hne : ¬ y = 0) (K : cg_W E M (pc + 1) ls (.inl (x - x / y * y) :: rest)) : cg_W E M pc ls (.inl y :: .inl x :: rest) := by
  obtain ⟨p, l, e, R, s, m, args, below, meth, c, Q, g, A, cells, slots⟩ := E
  intro H locs la hH hS hl
  exact lv_irem C.1 C.2.1 d hne (K H locs la hH hS hl)
theorem cr_iadd_n {E : cg_E} {cc : ByteArray} {nL : Nat} {own : String} {Ts : List Cond} {rm : Room} (C : cg_C E cc nL own Ts rm) {M : cg_M} {pc : Nat} {ls : List (Option cg_V)} {rest : List cg_V} {a b : Nat} (d : decode cc pc = .ok (.iadd, 1)) (K : cg_W E M (pc + 1) ls (.inl (nI (a + b)) :: rest)) : cg_W E M pc ls (.inl (nI b) :: .inl (nI a) :: rest) := cr_iadd C d (by rw [nI_add]; exact K)
theorem cr_imul_n {E : cg_E} {cc : ByteArray} {nL : Nat} {own : String} {Ts : List Cond} {rm : Room} (C : cg_C E cc nL own Ts rm) {M : cg_M} {pc : Nat} {ls : List (Option cg_V)} {rest : List cg_V} {a b : Nat} (d : decode cc pc = .ok (.imul, 1)) (K : cg_W E M (pc + 1) ls (.inl (nI (a * b)) :: rest)) : cg_W E M pc ls (.inl (nI b) :: .inl (nI a) :: rest) := cr_imul C d (by rw [pk_mul]; exact K)
theorem cr_top {E : cg_E} {M : cg_M} {pc : Nat} {ls : List (Option cg_V)} {rest : List cg_V} {x y : Int32} (h : x = y) (K : cg_W E M pc ls (.inl y :: rest)) : cg_W E M pc ls (.inl x :: rest) := by rw [h]; exact K
theorem cr_mem {E : cg_E} {M M' : cg_M} {pc : Nat} {ls : List (Option cg_V)} {st : List cg_V} (h : M = M') (K : cg_W E M' pc ls st) : cg_W E M pc ls st := by rw [h]; exact K
theorem cr_pc {E : cg_E} {M : cg_M} {pc pc' : Nat} {ls : List (Option cg_V)} {st : List cg_V} (h : pc = pc') (K : cg_W E M pc' ls st) : cg_W E M pc ls st := by rw [h]; exact K
theorem cr_ladd {E : cg_E} {cc : ByteArray} {nL : Nat} {own : String} {Ts : List Cond} {rm : Room} (C : cg_C E cc nL own Ts rm) {M : cg_M} {pc : Nat} {ls : List (Option cg_V)} {rest : List cg_V} {x y : Int64} (d : decode cc pc = .ok (.ladd, 1)) (K : cg_W E M (pc + 1) ls (.inr (.inl (x + y)) :: rest)) : cg_W E M pc ls (.inr (.inl y) :: .inr (.inl x) :: rest) := by
  obtain ⟨p, l, e, R, s, m, args, below, meth, c, Q, g, A, cells, slots⟩ := E
  intro H locs la hH hS hl
  exact lv_ladd C.1 C.2.1 d (K H locs la hH hS hl)
theorem cr_lmul {E : cg_E} {cc : ByteArray} {nL : Nat} {own : String} {Ts : List Cond} {rm : Room} (C : cg_C E cc nL own Ts rm) {M : cg_M} {pc : Nat} {ls : List (Option cg_V)} {rest : List cg_V} {x y : Int64} (d : decode cc pc = .ok (.lmul, 1)) (K : cg_W E M (pc + 1) ls (.inr (.inl (x * y)) :: rest)) : cg_W E M pc ls (.inr (.inl y) :: .inr (.inl x) :: rest) := by
  obtain ⟨p, l, e, R, s, m, args, below, meth, c, Q, g, A, cells, slots⟩ := E
  intro H locs la hH hS hl
  exact lv_lmul C.1 C.2.1 d (K H locs la hH hS hl)
theorem cr_i2l {E : cg_E} {cc : ByteArray} {nL : Nat} {own : String} {Ts : List Cond} {rm : Room} (C : cg_C E cc nL own Ts rm) {M : cg_M} {pc : Nat} {ls : List (Option cg_V)} {rest : List cg_V} {x : Int32} (d : decode cc pc = .ok (.i2l, 1)) (K : cg_W E M (pc + 1) ls (.inr (.inl x.toInt64) :: rest)) : cg_W E M pc ls (.inl x :: rest) := by
  obtain ⟨p, l, e, R, s, m, args, below, meth, c, Q, g, A, cells, slots⟩ := E
  intro H locs la hH hS hl
  exact lv_i2l C.1 C.2.1 d rfl (K H locs la hH hS hl)
theorem cr_dup {E : cg_E} {cc : ByteArray} {nL : Nat} {own : String} {Ts : List Cond} {rm : Room} (C : cg_C E cc nL own Ts rm) {M : cg_M} {pc : Nat} {ls : List (Option cg_V)} {rest : List cg_V} {v : cg_V} (d : decode cc pc = .ok (.dup, 1)) (hv : cg_two v = false) (K : cg_W E M (pc + 1) ls (v :: v :: rest)) : cg_W E M pc ls (v :: rest) := by
  obtain ⟨p, l, e, R, s, m, args, below, meth, c, Q, g, A, cells, slots⟩ := E
  intro H locs la hH hS hl
  exact lv_dup C.1 C.2.1 d (by rcases v with x | x | x <;> first | rfl | cases hv) (K H locs la hH hS hl)
theorem cr_dup2 {E : cg_E} {cc : ByteArray} {nL : Nat} {own : String} {Ts : List Cond} {rm : Room} (C : cg_C E cc nL own Ts rm) {M : cg_M} {pc : Nat} {ls : List (Option cg_V)} {rest : List cg_V} {v w : cg_V} (d : decode cc pc = .ok (.dup2, 1)) (hv : cg_two v = false) (hw : cg_two w = false) (K : cg_W E M (pc + 1) ls (v :: w :: v :: w :: rest)) : cg_W E M pc ls (v :: w :: rest) := by
  obtain ⟨p, l, e, R, s, m, args, below, meth, c, Q, g, A, cells, slots⟩ := E
  intro H locs la hH hS hl
  exact lv_dup2_11 C.1 C.2.1 d (by rcases v with x | x | x <;> first | rfl | cases hv) (by rcases w with x | x | x <;> first | rfl | cases hw) (K H locs la hH hS hl)
theorem cr_icmp_eq {E : cg_E} {cc : ByteArray} {nL : Nat} {own : String} {Ts : List Cond} {rm : Room} (C : cg_C E cc nL own Ts rm) {M : cg_M} {pc : Nat} {ls : List (Option cg_V)} {rest : List cg_V} {x y : Int32} {off : Int} {tgt : Nat} (d : decode cc pc = .ok (.if_icmp .eq off, 3)) (ht : (pc : Int) + off = (tgt : Int)) (kt : x = y → cg_W E M tgt ls rest) (kf : ¬ x = y → cg_W E M (pc + 3) ls rest) : cg_W E M pc ls (.inl y :: .inl x :: rest) := by
  obtain ⟨p, l, e, R, s, m, args, below, meth, c, Q, g, A, cells, slots⟩ := E
  intro H locs la hH hS hl
  exact lv_icmp_eq C.1 C.2.1 d ht (fun h => kt h H locs la hH hS hl) (fun h => kf h H locs la hH hS hl)
theorem cr_icmp_eq_t {E : cg_E} {cc : ByteArray} {nL : Nat} {own : String} {Ts : List Cond} {rm : Room} (C : cg_C E cc nL own Ts rm) {M : cg_M} {pc : Nat} {ls : List (Option cg_V)} {rest : List cg_V} {x y : Int32} {off : Int} {tgt : Nat} (d : decode cc pc = .ok (.if_icmp .eq off, 3)) (ht : (pc : Int) + off = (tgt : Int)) (h : x = y) (K : cg_W E M tgt ls rest) : cg_W E M pc ls (.inl y :: .inl x :: rest) := cr_icmp_eq C d ht (fun _ => K) (fun h2 => absurd h (by first | exact h2 | exact fun h3 => absurd h2 h3))
theorem cr_icmp_eq_f {E : cg_E} {cc : ByteArray} {nL : Nat} {own : String} {Ts : List Cond} {rm : Room} (C : cg_C E cc nL own Ts rm) {M : cg_M} {pc : Nat} {ls : List (Option cg_V)} {rest : List cg_V} {x y : Int32} {off : Int} {tgt : Nat} (d : decode cc pc = .ok (.if_icmp .eq off, 3)) (ht : (pc : Int) + off = (tgt : Int)) (h : ¬ x = y) (K : cg_W E M (pc + 3) ls rest) : cg_W E M pc ls (.inl y :: .inl x :: rest) := cr_icmp_eq C d ht (fun h2 => absurd h2 (by first | exact h | exact fun h3 => absurd h h3)) (fun _ => K)
theorem cr_if_eq {E : cg_E} {cc : ByteArray} {nL : Nat} {own : String} {Ts : List Cond} {rm : Room} (C : cg_C E cc nL own Ts rm) {M : cg_M} {pc : Nat} {ls : List (Option cg_V)} {rest : List cg_V} {x : Int32} {off : Int} {tgt : Nat} (d : decode cc pc = .ok (.ifCond .eq off, 3)) (ht : (pc : Int) + off = (tgt : Int)) (kt : x = 0 → cg_W E M tgt ls rest) (kf : ¬ x = 0 → cg_W E M (pc + 3) ls rest) : cg_W E M pc ls (.inl x :: rest) := by
  obtain ⟨p, l, e, R, s, m, args, below, meth, c, Q, g, A, cells, slots⟩ := E
  intro H locs la hH hS hl
  exact lv_if_eq C.1 C.2.1 d ht (fun h => kt h H locs la hH hS hl) (fun h => kf h H locs la hH hS hl)
theorem cr_if_eq_t {E : cg_E} {cc : ByteArray} {nL : Nat} {own : String} {Ts : List Cond} {rm : Room} (C : cg_C E cc nL own Ts rm) {M : cg_M} {pc : Nat} {ls : List (Option cg_V)} {rest : List cg_V} {x : Int32} {off : Int} {tgt : Nat} (d : decode cc pc = .ok (.ifCond .eq off, 3)) (ht : (pc : Int) + off = (tgt : Int)) (h : x = 0) (K : cg_W E M tgt ls rest) : cg_W E M pc ls (.inl x :: rest) := cr_if_eq C d ht (fun _ => K) (fun h2 => absurd h (by first | exact h2 | exact fun h3 => absurd h2 h3))
theorem cr_if_eq_f {E : cg_E} {cc : ByteArray} {nL : Nat} {own : String} {Ts : List Cond} {rm : Room} (C : cg_C E cc nL own Ts rm) {M : cg_M} {pc : Nat} {ls : List (Option cg_V)} {rest : List cg_V} {x : Int32} {off : Int} {tgt : Nat} (d : decode cc pc = .ok (.ifCond .eq off, 3)) (ht : (pc : Int) + off = (tgt : Int)) (h : ¬ x = 0) (K : cg_W E M (pc + 3) ls rest) : cg_W E M pc ls (.inl x :: rest) := cr_if_eq C d ht (fun h2 => absurd h2 (by first | exact h | exact fun h3 => absurd h h3)) (fun _ => K)
theorem cr_icmp_ne {E : cg_E} {cc : ByteArray} {nL : Nat} {own : String} {Ts : List Cond} {rm : Room} (C : cg_C E cc nL own Ts rm) {M : cg_M} {pc : Nat} {ls : List (Option cg_V)} {rest : List cg_V} {x y : Int32} {off : Int} {tgt : Nat} (d : decode cc pc = .ok (.if_icmp .ne off, 3)) (ht : (pc : Int) + off = (tgt : Int)) (kt : ¬ x = y → cg_W E M tgt ls rest) (kf : x = y → cg_W E M (pc + 3) ls rest) : cg_W E M pc ls (.inl y :: .inl x :: rest) := by
  obtain ⟨p, l, e, R, s, m, args, below, meth, c, Q, g, A, cells, slots⟩ := E
  intro H locs la hH hS hl
  exact lv_icmp_ne C.1 C.2.1 d ht (fun h => kt h H locs la hH hS hl) (fun h => kf h H locs la hH hS hl)
theorem cr_icmp_ne_t {E : cg_E} {cc : ByteArray} {nL : Nat} {own : String} {Ts : List Cond} {rm : Room} (C : cg_C E cc nL own Ts rm) {M : cg_M} {pc : Nat} {ls : List (Option cg_V)} {rest : List cg_V} {x y : Int32} {off : Int} {tgt : Nat} (d : decode cc pc = .ok (.if_icmp .ne off, 3)) (ht : (pc : Int) + off = (tgt : Int)) (h : ¬ x = y) (K : cg_W E M tgt ls rest) : cg_W E M pc ls (.inl y :: .inl x :: rest) := cr_icmp_ne C d ht (fun _ => K) (fun h2 => absurd h (by first | exact h2 | exact fun h3 => absurd h2 h3))
theorem cr_icmp_ne_f {E : cg_E} {cc : ByteArray} {nL : Nat} {own : String} {Ts : List Cond} {rm : Room} (C : cg_C E cc nL own Ts rm) {M : cg_M} {pc : Nat} {ls : List (Option cg_V)} {rest : List cg_V} {x y : Int32} {off : Int} {tgt : Nat} (d : decode cc pc = .ok (.if_icmp .ne off, 3)) (ht : (pc : Int) + off = (tgt : Int)) (h : x = y) (K : cg_W E M (pc + 3) ls rest) : cg_W E M pc ls (.inl y :: .inl x :: rest) := cr_icmp_ne C d ht (fun h2 => absurd h2 (by first | exact h | exact fun h3 => absurd h h3)) (fun _ => K)
theorem cr_if_ne {E : cg_E} {cc : ByteArray} {nL : Nat} {own : String} {Ts : List Cond} {rm : Room} (C : cg_C E cc nL own Ts rm) {M : cg_M} {pc : Nat} {ls : List (Option cg_V)} {rest : List cg_V} {x : Int32} {off : Int} {tgt : Nat} (d : decode cc pc = .ok (.ifCond .ne off, 3)) (ht : (pc : Int) + off = (tgt : Int)) (kt : ¬ x = 0 → cg_W E M tgt ls rest) (kf : x = 0 → cg_W E M (pc + 3) ls rest) : cg_W E M pc ls (.inl x :: rest) := by
  obtain ⟨p, l, e, R, s, m, args, below, meth, c, Q, g, A, cells, slots⟩ := E
  intro H locs la hH hS hl
  exact lv_if_ne C.1 C.2.1 d ht (fun h => kt h H locs la hH hS hl) (fun h => kf h H locs la hH hS hl)
theorem cr_if_ne_t {E : cg_E} {cc : ByteArray} {nL : Nat} {own : String} {Ts : List Cond} {rm : Room} (C : cg_C E cc nL own Ts rm) {M : cg_M} {pc : Nat} {ls : List (Option cg_V)} {rest : List cg_V} {x : Int32} {off : Int} {tgt : Nat} (d : decode cc pc = .ok (.ifCond .ne off, 3)) (ht : (pc : Int) + off = (tgt : Int)) (h : ¬ x = 0) (K : cg_W E M tgt ls rest) : cg_W E M pc ls (.inl x :: rest) := cr_if_ne C d ht (fun _ => K) (fun h2 => absurd h (by first | exact h2 | exact fun h3 => absurd h2 h3))
theorem cr_if_ne_f {E : cg_E} {cc : ByteArray} {nL : Nat} {own : String} {Ts : List Cond} {rm : Room} (C : cg_C E cc nL own Ts rm) {M : cg_M} {pc : Nat} {ls : List (Option cg_V)} {rest : List cg_V} {x : Int32} {off : Int} {tgt : Nat} (d : decode cc pc = .ok (.ifCond .ne off, 3)) (ht : (pc : Int) + off = (tgt : Int)) (h : x = 0) (K : cg_W E M (pc + 3) ls rest) : cg_W E M pc ls (.inl x :: rest) := cr_if_ne C d ht (fun h2 => absurd h2 (by first | exact h | exact fun h3 => absurd h h3)) (fun _ => K)
theorem cr_icmp_lt {E : cg_E} {cc : ByteArray} {nL : Nat} {own : String} {Ts : List Cond} {rm : Room} (C : cg_C E cc nL own Ts rm) {M : cg_M} {pc : Nat} {ls : List (Option cg_V)} {rest : List cg_V} {x y : Int32} {off : Int} {tgt : Nat} (d : decode cc pc = .ok (.if_icmp .lt off, 3)) (ht : (pc : Int) + off = (tgt : Int)) (kt : x < y → cg_W E M tgt ls rest) (kf : ¬ x < y → cg_W E M (pc + 3) ls rest) : cg_W E M pc ls (.inl y :: .inl x :: rest) := by
  obtain ⟨p, l, e, R, s, m, args, below, meth, c, Q, g, A, cells, slots⟩ := E
  intro H locs la hH hS hl
  exact lv_icmp_lt C.1 C.2.1 d ht (fun h => kt h H locs la hH hS hl) (fun h => kf h H locs la hH hS hl)
theorem cr_icmp_lt_t {E : cg_E} {cc : ByteArray} {nL : Nat} {own : String} {Ts : List Cond} {rm : Room} (C : cg_C E cc nL own Ts rm) {M : cg_M} {pc : Nat} {ls : List (Option cg_V)} {rest : List cg_V} {x y : Int32} {off : Int} {tgt : Nat} (d : decode cc pc = .ok (.if_icmp .lt off, 3)) (ht : (pc : Int) + off = (tgt : Int)) (h : x < y) (K : cg_W E M tgt ls rest) : cg_W E M pc ls (.inl y :: .inl x :: rest) := cr_icmp_lt C d ht (fun _ => K) (fun h2 => absurd h (by first | exact h2 | exact fun h3 => absurd h2 h3))
theorem cr_icmp_lt_f {E : cg_E} {cc : ByteArray} {nL : Nat} {own : String} {Ts : List Cond} {rm : Room} (C : cg_C E cc nL own Ts rm) {M : cg_M} {pc : Nat} {ls : List (Option cg_V)} {rest : List cg_V} {x y : Int32} {off : Int} {tgt : Nat} (d : decode cc pc = .ok (.if_icmp .lt off, 3)) (ht : (pc : Int) + off = (tgt : Int)) (h : ¬ x < y) (K : cg_W E M (pc + 3) ls rest) : cg_W E M pc ls (.inl y :: .inl x :: rest) := cr_icmp_lt C d ht (fun h2 => absurd h2 (by first | exact h | exact fun h3 => absurd h h3)) (fun _ => K)
theorem cr_if_lt {E : cg_E} {cc : ByteArray} {nL : Nat} {own : String} {Ts : List Cond} {rm : Room} (C : cg_C E cc nL own Ts rm) {M : cg_M} {pc : Nat} {ls : List (Option cg_V)} {rest : List cg_V} {x : Int32} {off : Int} {tgt : Nat} (d : decode cc pc = .ok (.ifCond .lt off, 3)) (ht : (pc : Int) + off = (tgt : Int)) (kt : x < 0 → cg_W E M tgt ls rest) (kf : ¬ x < 0 → cg_W E M (pc + 3) ls rest) : cg_W E M pc ls (.inl x :: rest) := by
  obtain ⟨p, l, e, R, s, m, args, below, meth, c, Q, g, A, cells, slots⟩ := E
  intro H locs la hH hS hl
  exact lv_if_lt C.1 C.2.1 d ht (fun h => kt h H locs la hH hS hl) (fun h => kf h H locs la hH hS hl)
theorem cr_if_lt_t {E : cg_E} {cc : ByteArray} {nL : Nat} {own : String} {Ts : List Cond} {rm : Room} (C : cg_C E cc nL own Ts rm) {M : cg_M} {pc : Nat} {ls : List (Option cg_V)} {rest : List cg_V} {x : Int32} {off : Int} {tgt : Nat} (d : decode cc pc = .ok (.ifCond .lt off, 3)) (ht : (pc : Int) + off = (tgt : Int)) (h : x < 0) (K : cg_W E M tgt ls rest) : cg_W E M pc ls (.inl x :: rest) := cr_if_lt C d ht (fun _ => K) (fun h2 => absurd h (by first | exact h2 | exact fun h3 => absurd h2 h3))
theorem cr_if_lt_f {E : cg_E} {cc : ByteArray} {nL : Nat} {own : String} {Ts : List Cond} {rm : Room} (C : cg_C E cc nL own Ts rm) {M : cg_M} {pc : Nat} {ls : List (Option cg_V)} {rest : List cg_V} {x : Int32} {off : Int} {tgt : Nat} (d : decode cc pc = .ok (.ifCond .lt off, 3)) (ht : (pc : Int) + off = (tgt : Int)) (h : ¬ x < 0) (K : cg_W E M (pc + 3) ls rest) : cg_W E M pc ls (.inl x :: rest) := cr_if_lt C d ht (fun h2 => absurd h2 (by first | exact h | exact fun h3 => absurd h h3)) (fun _ => K)
theorem cr_icmp_ge {E : cg_E} {cc : ByteArray} {nL : Nat} {own : String} {Ts : List Cond} {rm : Room} (C : cg_C E cc nL own Ts rm) {M : cg_M} {pc : Nat} {ls : List (Option cg_V)} {rest : List cg_V} {x y : Int32} {off : Int} {tgt : Nat} (d : decode cc pc = .ok (.if_icmp .ge off, 3)) (ht : (pc : Int) + off = (tgt : Int)) (kt : y ≤ x → cg_W E M tgt ls rest) (kf : ¬ y ≤ x → cg_W E M (pc + 3) ls rest) : cg_W E M pc ls (.inl y :: .inl x :: rest) := by
  obtain ⟨p, l, e, R, s, m, args, below, meth, c, Q, g, A, cells, slots⟩ := E
  intro H locs la hH hS hl
  exact lv_icmp_ge C.1 C.2.1 d ht (fun h => kt h H locs la hH hS hl) (fun h => kf h H locs la hH hS hl)
theorem cr_icmp_ge_t {E : cg_E} {cc : ByteArray} {nL : Nat} {own : String} {Ts : List Cond} {rm : Room} (C : cg_C E cc nL own Ts rm) {M : cg_M} {pc : Nat} {ls : List (Option cg_V)} {rest : List cg_V} {x y : Int32} {off : Int} {tgt : Nat} (d : decode cc pc = .ok (.if_icmp .ge off, 3)) (ht : (pc : Int) + off = (tgt : Int)) (h : y ≤ x) (K : cg_W E M tgt ls rest) : cg_W E M pc ls (.inl y :: .inl x :: rest) := cr_icmp_ge C d ht (fun _ => K) (fun h2 => absurd h (by first | exact h2 | exact fun h3 => absurd h2 h3))
theorem cr_icmp_ge_f {E : cg_E} {cc : ByteArray} {nL : Nat} {own : String} {Ts : List Cond} {rm : Room} (C : cg_C E cc nL own Ts rm) {M : cg_M} {pc : Nat} {ls : List (Option cg_V)} {rest : List cg_V} {x y : Int32} {off : Int} {tgt : Nat} (d : decode cc pc = .ok (.if_icmp .ge off, 3)) (ht : (pc : Int) + off = (tgt : Int)) (h : ¬ y ≤ x) (K : cg_W E M (pc + 3) ls rest) : cg_W E M pc ls (.inl y :: .inl x :: rest) := cr_icmp_ge C d ht (fun h2 => absurd h2 (by first | exact h | exact fun h3 => absurd h h3)) (fun _ => K)
theorem cr_if_ge {E : cg_E} {cc : ByteArray} {nL : Nat} {own : String} {Ts : List Cond} {rm : Room} (C : cg_C E cc nL own Ts rm) {M : cg_M} {pc : Nat} {ls : List (Option cg_V)} {rest : List cg_V} {x : Int32} {off : Int} {tgt : Nat} (d : decode cc pc = .ok (.ifCond .ge off, 3)) (ht : (pc : Int) + off = (tgt : Int)) (kt : 0 ≤ x → cg_W E M tgt ls rest) (kf : ¬ 0 ≤ x → cg_W E M (pc + 3) ls rest) : cg_W E M pc ls (.inl x :: rest) := by
  obtain ⟨p, l, e, R, s, m, args, below, meth, c, Q, g, A, cells, slots⟩ := E
  intro H locs la hH hS hl
  exact lv_if_ge C.1 C.2.1 d ht (fun h => kt h H locs la hH hS hl) (fun h => kf h H locs la hH hS hl)
theorem cr_if_ge_t {E : cg_E} {cc : ByteArray} {nL : Nat} {own : String} {Ts : List Cond} {rm : Room} (C : cg_C E cc nL own Ts rm) {M : cg_M} {pc : Nat} {ls : List (Option cg_V)} {rest : List cg_V} {x : Int32} {off : Int} {tgt : Nat} (d : decode cc pc = .ok (.ifCond .ge off, 3)) (ht : (pc : Int) + off = (tgt : Int)) (h : 0 ≤ x) (K : cg_W E M tgt ls rest) : cg_W E M pc ls (.inl x :: rest) := cr_if_ge C d ht (fun _ => K) (fun h2 => absurd h (by first | exact h2 | exact fun h3 => absurd h2 h3))
theorem cr_if_ge_f {E : cg_E} {cc : ByteArray} {nL : Nat} {own : String} {Ts : List Cond} {rm : Room} (C : cg_C E cc nL own Ts rm) {M : cg_M} {pc : Nat} {ls : List (Option cg_V)} {rest : List cg_V} {x : Int32} {off : Int} {tgt : Nat} (d : decode cc pc = .ok (.ifCond .ge off, 3)) (ht : (pc : Int) + off = (tgt : Int)) (h : ¬ 0 ≤ x) (K : cg_W E M (pc + 3) ls rest) : cg_W E M pc ls (.inl x :: rest) := cr_if_ge C d ht (fun h2 => absurd h2 (by first | exact h | exact fun h3 => absurd h h3)) (fun _ => K)
theorem cr_icmp_gt {E : cg_E} {cc : ByteArray} {nL : Nat} {own : String} {Ts : List Cond} {rm : Room} (C : cg_C E cc nL own Ts rm) {M : cg_M} {pc : Nat} {ls : List (Option cg_V)} {rest : List cg_V} {x y : Int32} {off : Int} {tgt : Nat} (d : decode cc pc = .ok (.if_icmp .gt off, 3)) (ht : (pc : Int) + off = (tgt : Int)) (kt : y < x → cg_W E M tgt ls rest) (kf : ¬ y < x → cg_W E M (pc + 3) ls rest) : cg_W E M pc ls (.inl y :: .inl x :: rest) := by
  obtain ⟨p, l, e, R, s, m, args, below, meth, c, Q, g, A, cells, slots⟩ := E
  intro H locs la hH hS hl
  exact lv_icmp_gt C.1 C.2.1 d ht (fun h => kt h H locs la hH hS hl) (fun h => kf h H locs la hH hS hl)
theorem cr_icmp_gt_t {E : cg_E} {cc : ByteArray} {nL : Nat} {own : String} {Ts : List Cond} {rm : Room} (C : cg_C E cc nL own Ts rm) {M : cg_M} {pc : Nat} {ls : List (Option cg_V)} {rest : List cg_V} {x y : Int32} {off : Int} {tgt : Nat} (d : decode cc pc = .ok (.if_icmp .gt off, 3)) (ht : (pc : Int) + off = (tgt : Int)) (h : y < x) (K : cg_W E M tgt ls rest) : cg_W E M pc ls (.inl y :: .inl x :: rest) := cr_icmp_gt C d ht (fun _ => K) (fun h2 => absurd h (by first | exact h2 | exact fun h3 => absurd h2 h3))
theorem cr_icmp_gt_f {E : cg_E} {cc : ByteArray} {nL : Nat} {own : String} {Ts : List Cond} {rm : Room} (C : cg_C E cc nL own Ts rm) {M : cg_M} {pc : Nat} {ls : List (Option cg_V)} {rest : List cg_V} {x y : Int32} {off : Int} {tgt : Nat} (d : decode cc pc = .ok (.if_icmp .gt off, 3)) (ht : (pc : Int) + off = (tgt : Int)) (h : ¬ y < x) (K : cg_W E M (pc + 3) ls rest) : cg_W E M pc ls (.inl y :: .inl x :: rest) := cr_icmp_gt C d ht (fun h2 => absurd h2 (by first | exact h | exact fun h3 => absurd h h3)) (fun _ => K)
theorem cr_if_gt {E : cg_E} {cc : ByteArray} {nL : Nat} {own : String} {Ts : List Cond} {rm : Room} (C : cg_C E cc nL own Ts rm) {M : cg_M} {pc : Nat} {ls : List (Option cg_V)} {rest : List cg_V} {x : Int32} {off : Int} {tgt : Nat} (d : decode cc pc = .ok (.ifCond .gt off, 3)) (ht : (pc : Int) + off = (tgt : Int)) (kt : 0 < x → cg_W E M tgt ls rest) (kf : ¬ 0 < x → cg_W E M (pc + 3) ls rest) : cg_W E M pc ls (.inl x :: rest) := by
  obtain ⟨p, l, e, R, s, m, args, below, meth, c, Q, g, A, cells, slots⟩ := E
  intro H locs la hH hS hl
  exact lv_if_gt C.1 C.2.1 d ht (fun h => kt h H locs la hH hS hl) (fun h => kf h H locs la hH hS hl)
theorem cr_if_gt_t {E : cg_E} {cc : ByteArray} {nL : Nat} {own : String} {Ts : List Cond} {rm : Room} (C : cg_C E cc nL own Ts rm) {M : cg_M} {pc : Nat} {ls : List (Option cg_V)} {rest : List cg_V} {x : Int32} {off : Int} {tgt : Nat} (d : decode cc pc = .ok (.ifCond .gt off, 3)) (ht : (pc : Int) + off = (tgt : Int)) (h : 0 < x) (K : cg_W E M tgt ls rest) : cg_W E M pc ls (.inl x :: rest) := cr_if_gt C d ht (fun _ => K) (fun h2 => absurd h (by first | exact h2 | exact fun h3 => absurd h2 h3))
theorem cr_if_gt_f {E : cg_E} {cc : ByteArray} {nL : Nat} {own : String} {Ts : List Cond} {rm : Room} (C : cg_C E cc nL own Ts rm) {M : cg_M} {pc : Nat} {ls : List (Option cg_V)} {rest : List cg_V} {x : Int32} {off : Int} {tgt : Nat} (d : decode cc pc = .ok (.ifCond .gt off, 3)) (ht : (pc : Int) + off = (tgt : Int)) (h : ¬ 0 < x) (K : cg_W E M (pc + 3) ls rest) : cg_W E M pc ls (.inl x :: rest) := cr_if_gt C d ht (fun h2 => absurd h2 (by first | exact h | exact fun h3 => absurd h h3)) (fun _ => K)
theorem cr_icmp_le {E : cg_E} {cc : ByteArray} {nL : Nat} {own : String} {Ts : List Cond} {rm : Room} (C : cg_C E cc nL own Ts rm) {M : cg_M} {pc : Nat} {ls : List (Option cg_V)} {rest : List cg_V} {x y : Int32} {off : Int} {tgt : Nat} (d : decode cc pc = .ok (.if_icmp .le off, 3)) (ht : (pc : Int) + off = (tgt : Int)) (kt : x ≤ y → cg_W E M tgt ls rest) (kf : ¬ x ≤ y → cg_W E M (pc + 3) ls rest) : cg_W E M pc ls (.inl y :: .inl x :: rest) := by
  obtain ⟨p, l, e, R, s, m, args, below, meth, c, Q, g, A, cells, slots⟩ := E
  intro H locs la hH hS hl
  exact lv_icmp_le C.1 C.2.1 d ht (fun h => kt h H locs la hH hS hl) (fun h => kf h H locs la hH hS hl)
theorem cr_icmp_le_t {E : cg_E} {cc : ByteArray} {nL : Nat} {own : String} {Ts : List Cond} {rm : Room} (C : cg_C E cc nL own Ts rm) {M : cg_M} {pc : Nat} {ls : List (Option cg_V)} {rest : List cg_V} {x y : Int32} {off : Int} {tgt : Nat} (d : decode cc pc = .ok (.if_icmp .le off, 3)) (ht : (pc : Int) + off = (tgt : Int)) (h : x ≤ y) (K : cg_W E M tgt ls rest) : cg_W E M pc ls (.inl y :: .inl x :: rest) := cr_icmp_le C d ht (fun _ => K) (fun h2 => absurd h (by first | exact h2 | exact fun h3 => absurd h2 h3))
theorem cr_icmp_le_f {E : cg_E} {cc : ByteArray} {nL : Nat} {own : String} {Ts : List Cond} {rm : Room} (C : cg_C E cc nL own Ts rm) {M : cg_M} {pc : Nat} {ls : List (Option cg_V)} {rest : List cg_V} {x y : Int32} {off : Int} {tgt : Nat} (d : decode cc pc = .ok (.if_icmp .le off, 3)) (ht : (pc : Int) + off = (tgt : Int)) (h : ¬ x ≤ y) (K : cg_W E M (pc + 3) ls rest) : cg_W E M pc ls (.inl y :: .inl x :: rest) := cr_icmp_le C d ht (fun h2 => absurd h2 (by first | exact h | exact fun h3 => absurd h h3)) (fun _ => K)
theorem cr_if_le {E : cg_E} {cc : ByteArray} {nL : Nat} {own : String} {Ts : List Cond} {rm : Room} (C : cg_C E cc nL own Ts rm) {M : cg_M} {pc : Nat} {ls : List (Option cg_V)} {rest : List cg_V} {x : Int32} {off : Int} {tgt : Nat} (d : decode cc pc = .ok (.ifCond .le off, 3)) (ht : (pc : Int) + off = (tgt : Int)) (kt : x ≤ 0 → cg_W E M tgt ls rest) (kf : ¬ x ≤ 0 → cg_W E M (pc + 3) ls rest) : cg_W E M pc ls (.inl x :: rest) := by
  obtain ⟨p, l, e, R, s, m, args, below, meth, c, Q, g, A, cells, slots⟩ := E
  intro H locs la hH hS hl
  exact lv_if_le C.1 C.2.1 d ht (fun h => kt h H locs la hH hS hl) (fun h => kf h H locs la hH hS hl)
theorem cr_if_le_t {E : cg_E} {cc : ByteArray} {nL : Nat} {own : String} {Ts : List Cond} {rm : Room} (C : cg_C E cc nL own Ts rm) {M : cg_M} {pc : Nat} {ls : List (Option cg_V)} {rest : List cg_V} {x : Int32} {off : Int} {tgt : Nat} (d : decode cc pc = .ok (.ifCond .le off, 3)) (ht : (pc : Int) + off = (tgt : Int)) (h : x ≤ 0) (K : cg_W E M tgt ls rest) : cg_W E M pc ls (.inl x :: rest) := cr_if_le C d ht (fun _ => K) (fun h2 => absurd h (by first | exact h2 | exact fun h3 => absurd h2 h3))
theorem cr_if_le_f {E : cg_E} {cc : ByteArray} {nL : Nat} {own : String} {Ts : List Cond} {rm : Room} (C : cg_C E cc nL own Ts rm) {M : cg_M} {pc : Nat} {ls : List (Option cg_V)} {rest : List cg_V} {x : Int32} {off : Int} {tgt : Nat} (d : decode cc pc = .ok (.ifCond .le off, 3)) (ht : (pc : Int) + off = (tgt : Int)) (h : ¬ x ≤ 0) (K : cg_W E M (pc + 3) ls rest) : cg_W E M pc ls (.inl x :: rest) := cr_if_le C d ht (fun h2 => absurd h2 (by first | exact h | exact fun h3 => absurd h h3)) (fun _ => K)
theorem cr_goto {E : cg_E} {cc : ByteArray} {nL : Nat} {own : String} {Ts : List Cond} {rm : Room} (C : cg_C E cc nL own Ts rm) {M : cg_M} {pc : Nat} {ls : List (Option cg_V)} {rest : List cg_V} {off : Int} {tgt : Nat} (d : decode cc pc = .ok (.goto off, 3)) (ht : (pc : Int) + off = (tgt : Int)) (K : cg_W E M tgt ls rest) : cg_W E M pc ls (rest) := by
  obtain ⟨p, l, e, R, s, m, args, below, meth, c, Q, g, A, cells, slots⟩ := E
  intro H locs la hH hS hl
  exact lv_goto C.1 C.2.1 d ht (K H locs la hH hS hl)
theorem cr_lookup {E : cg_E} {cc : ByteArray} {nL : Nat} {own : String} {Ts : List Cond} {rm : Room} (C : cg_C E cc nL own Ts rm) {M : cg_M} {pc : Nat} {ls : List (Option cg_V)} {rest : List cg_V} {dflt : Int} {ps : Array (Int × Int)} {len : Nat} {x : Int32} {off : Int} {tgt : Nat} (d : decode cc pc = .ok (.lookupswitch dflt ps, len)) (hp : (ps.toList.zip (ps.toList.drop 1)).all (fun (a, next) => a.1 < next.1) = true) (ho : Op.lookupswitch.offset ps.toList dflt x.toInt = off) (ht : (pc : Int) + off = (tgt : Int)) (K : cg_W E M tgt ls rest) : cg_W E M pc ls (.inl x :: rest) := by
  obtain ⟨p, l, e, R, s, m, args, below, meth, c, Q, g, A, cells, slots⟩ := E
  intro H locs la hH hS hl
  exact lv_lookup C.1 C.2.1 d hp ho ht (K H locs la hH hS hl)
theorem cr_lcmp {E : cg_E} {cc : ByteArray} {nL : Nat} {own : String} {Ts : List Cond} {rm : Room} (C : cg_C E cc nL own Ts rm) {M : cg_M} {pc : Nat} {ls : List (Option cg_V)} {rest : List cg_V} {x y : Int64} (d : decode cc pc = .ok (.lcmp, 1)) (K : cg_W E M (pc + 1) ls (.inl (lg_cmp x y) :: rest)) : cg_W E M pc ls (.inr (.inl y) :: .inr (.inl x) :: rest) := by
  obtain ⟨p, l, e, R, s, m, args, below, meth, c, Q, g, A, cells, slots⟩ := E
  intro H locs la hH hS hl
  exact W.lcmp C.1 C.2.1 d (K H locs la hH hS hl)
end CGR
end
section
/-! ===== the layer, 3: fields, arrays, ends, calls ===== -/
def cg_T (c : Nat) : vw_C := match c with
  | 0 => (RX0, TX0, 3)
  | 1 => (RX1, TX1, 8)
  | 2 => (RX2, TX2, 12)
  | 3 => (RX3, TX3, 4)
  | _ => (RX4, TX4, 10)
def cg_ty (c : Nat) : Nat → FieldType := match c with
  | 0 => tyX0
  | 1 => tyX1
  | 2 => tyX2
  | 3 => tyX3
  | _ => tyX4
theorem cg_oi_lt {q : cg_L} {c : Nat} (h : cg_oi q = some c) : c < 5 := by
  unfold cg_oi at h
  split at h <;> first | (cases h; done) | (obtain rfl := Option.some.inj h; decide)
theorem cg_T_at {c : Nat} (h : c < 5) : vwCl[c]? = some (cg_T c) := by
  match c, h with
  | 0, _ => rfl
  | 1, _ => rfl
  | 2, _ => rfl
  | 3, _ => rfl
  | 4, _ => rfl
  | c + 5, h => exact absurd h (by omega)
theorem cg_T_nf {c : Nat} (h : c < 5) : (cg_T c).2.2 = cg_nf c := by
  match c, h with
  | 0, _ => rfl
  | 1, _ => rfl
  | 2, _ => rfl
  | 3, _ => rfl
  | 4, _ => rfl
  | c + 5, h => exact absurd h (by omega)
theorem cg_ty_ok {c : Nat} (h : c < 5) : ∀ k, k < (cg_T c).2.2 → parseFieldDescriptor ((cg_T c).2.1 k).2.2.1 = some (cg_ty c k) := by
  match c, h with
  | 0, _ => exact tyX0_ok
  | 1, _ => exact tyX1_ok
  | 2, _ => exact tyX2_ok
  | 3, _ => exact tyX3_ok
  | 4, _ => exact tyX4_ok
  | c + 5, h => exact absurd h (by omega)
theorem cg_nm {c : Nat} (h : c < 5) : ∀ a, a < (cg_T c).2.2 → ∀ b, b < (cg_T c).2.2 → a ≠ b → ((cg_T c).2.1 a).2.1 ≠ ((cg_T c).2.1 b).2.1 := by
  match c, h with
  | 0, _ => exact nmX0
  | 1, _ => exact nmX1
  | 2, _ => exact nmX2
  | 3, _ => exact nmX3
  | 4, _ => exact nmX4
  | c + 5, h => exact absurd h (by omega)
theorem cg_ce_o {g : cg_G} {M : cg_M} {q : cg_L} {c : Nat} (h : cg_oi q = some c) : cg_ce g M q = .inr (c, (List.range (cg_nf c)).map (cg_fv g.2.2 M q)) := by
  unfold cg_ce
  rw [h]
theorem cg_ai_oi {q : cg_L} {b n : Nat} {f : Nat → Nat} (h : cg_ai q = some (b, n, f)) : cg_oi q = none := by
  unfold cg_ai at h
  split at h <;> first | (cases h; done) | rfl
theorem cg_ri_oi {q : cg_L} {n : Nat} {f : Nat → cg_L} (h : cg_ri q = some (n, f)) : cg_oi q = none ∧ cg_ai q = none := by
  unfold cg_ri at h
  split at h <;> first | (cases h; done) | exact ⟨rfl, rfl⟩
theorem cg_ce_a {g : cg_G} {M : cg_M} {q : cg_L} {b n : Nat} {f : Nat → Nat} (h : cg_ai q = some (b, n, f)) : cg_ce g M q = .inl (g.2.1.1, n, .inl (fun j => M b (f j))) := by
  unfold cg_ce
  rw [cg_ai_oi h, h]
theorem cg_ce_r {g : cg_G} {M : cg_M} {q : cg_L} {n : Nat} {f : Nat → cg_L} (h : cg_ri q = some (n, f)) : cg_ce g M q = .inl (if q.1 = 2 then g.2.1.2.2 else g.2.1.2.1, n, .inr (.inr (.inr (.inr (fun j => if j < n then some (g.2.2 (f j)) else none))))) := by
  unfold cg_ce
  rw [(cg_ri_oi h).1, (cg_ri_oi h).2, h]
theorem cg_one {D : va_G} {cl : List vw_C} {x : Nat × va_E} {H : Heap} (h : va_at D cl x H) : va_P D cl [x] H := by
  intro k q hk
  match k, hk with
  | 0, hk => cases hk; exact h
  | k + 1, hk => simp at hk
section CGH
variable {E : cg_E} {cc : ByteArray} {nL : Nat} {own : String} {Ts : List Cond} {rm : Room} {M : cg_M} {pc : Nat} {ls : List (Option cg_V)} {rest : List cg_V}
theorem cr_get0 (C : cg_C E cc nL own Ts rm) {q : cg_L} {c k index : Nat} {v : cg_V} (hq : cg_ok q = true) (ho : cg_oi q = some c) (hk : k < cg_nf c) (hv : ∀ ad, cg_fv ad M q k = cg_vv ad v) (hin : ∀ w ∈ u_ws (cg_T c).1 (cg_T c).2.1 (cg_T c).2.2, w ∈ Ts) (hw : Cond.fieldLink own index ((cg_T c).2.1 k).1 ((cg_T c).2.1 k).2.1 ((cg_T c).2.1 k).2.2.1 ∈ Ts) (d : decode cc pc = .ok (.getfield index, 3)) (K : cg_W E M (pc + 3) ls (v :: rest)) : cg_W E M pc ls (.inr (.inr q) :: rest) := by
  obtain ⟨p, l, e, R, s, m, args, below, meth, c0, Q, g, A, cells, slots⟩ := E
  intro H locs la hH hS hl
  have h1 := hH q hq
  rw [cg_ce_o ho] at h1
  refine va_get (D := g.1) (cl := vwCl) (C := (cg_T c).1) (T := (cg_T c).2.1) (N := (cg_T c).2.2) C.1 C.2.1 C.2.2.2.2.1 hin C.2.2.2.1 C.2.2.2.2.2.1 (cg_one h1) 0 rfl (cg_T_at (cg_oi_lt ho)) k (by rw [cg_T_nf (cg_oi_lt ho)]; exact hk) (C.2.2.2.2.1 _ hw) (fun _ h => h) (v := cg_vv g.2.2 v) ?_ d (K H locs la hH hS hl)
  rw [List.getElem?_map, List.getElem?_range hk, ← hv]
  rfl
theorem cr_geti (C : cg_C E cc nL own Ts rm) {q : cg_L} {c k index b x : Nat} (hq : cg_ok q = true) (ho : cg_oi q = some c) (hk : k < cg_nf c) (hr : cg_fr q k = none) (hf : cg_fi q k = (b, x)) (hin : ∀ w ∈ u_ws (cg_T c).1 (cg_T c).2.1 (cg_T c).2.2, w ∈ Ts) (hw : Cond.fieldLink own index ((cg_T c).2.1 k).1 ((cg_T c).2.1 k).2.1 ((cg_T c).2.1 k).2.2.1 ∈ Ts) (d : decode cc pc = .ok (.getfield index, 3)) (K : cg_W E M (pc + 3) ls (.inl (M b x) :: rest)) : cg_W E M pc ls (.inr (.inr q) :: rest) :=
  cr_get0 C (v := .inl (M b x)) hq ho hk (fun ad => by unfold cg_fv; rw [hr, hf]; rfl) hin hw d K
theorem cr_getr (C : cg_C E cc nL own Ts rm) {q t : cg_L} {c k index : Nat} (hq : cg_ok q = true) (ho : cg_oi q = some c) (hk : k < cg_nf c) (hr : cg_fr q k = some t) (hin : ∀ w ∈ u_ws (cg_T c).1 (cg_T c).2.1 (cg_T c).2.2, w ∈ Ts) (hw : Cond.fieldLink own index ((cg_T c).2.1 k).1 ((cg_T c).2.1 k).2.1 ((cg_T c).2.1 k).2.2.1 ∈ Ts) (d : decode cc pc = .ok (.getfield index, 3)) (K : cg_W E M (pc + 3) ls (.inr (.inr t) :: rest)) : cg_W E M pc ls (.inr (.inr q) :: rest) :=
  cr_get0 C (v := .inr (.inr t)) hq ho hk (fun ad => by unfold cg_fv; rw [hr]; rfl) hin hw d K
theorem cr_puti (C : cg_C E cc nL own Ts rm) {q : cg_L} {c k index b x : Nat} {y : Int32} (hq : cg_ok q = true) (ho : cg_oi q = some c) (hk : k < cg_nf c) (hr : cg_fr q k = none) (hf : cg_fi q k = (b, x)) (hin : ∀ w ∈ u_ws (cg_T c).1 (cg_T c).2.1 (cg_T c).2.2, w ∈ Ts) (hw : Cond.fieldLink own index ((cg_T c).2.1 k).1 ((cg_T c).2.1 k).2.1 ((cg_T c).2.1 k).2.2.1 ∈ Ts) (hfin : ((cg_T c).2.1 k).2.2.2 = false) (hn : narrow (cg_ty c k) (.int y) = .int y) (hfit : fits (cg_ty c k) (.int y) = true) (d : decode cc pc = .ok (.putfield index, 3)) (K : cg_W E (cg_up M b x y) (pc + 3) ls rest) : cg_W E M pc ls (.inl y :: .inr (.inr q) :: rest) := by
  obtain ⟨p, l, e, R, s, m, args, below, meth, c0, Q, g, A, cells, slots⟩ := E
  intro H locs la hH hS hl
  obtain ⟨i, hi, hi2⟩ := cg_wd_at (g := g) (M := M) hq
  rw [cg_ce_o ho] at hi
  have hc := cg_oi_lt ho
  have hN : k < (cg_T c).2.2 := by rw [cg_T_nf hc]; exact hk
  refine va_put (D := g.1) (cl := vwCl) (C := (cg_T c).1) (T := (cg_T c).2.1) (N := (cg_T c).2.2) C.1 C.2.1 C.2.2.2.2.1 hin (cg_ty c) (cg_ty_ok hc) (cg_nm hc) C.2.2.2.1 C.2.2.2.2.2.1 (cg_wd_P hH) (cg_wd_D C.2.2.2.2.2.2.2.1 C.2.2.2.2.2.2.2.2.1) hS i hi (cg_T_at hc) k hN (C.2.2.2.2.1 _ hw) (fun _ h => h) hfin (cg_ty_ok hc k hN) hn hfit (by rw [List.length_map, List.length_range]; exact hk) d (fun H1 locs1 hP1 _ hS1 => K H1 locs1 la ?_ hS1 hl)
  obtain ⟨h1, h2⟩ := cg_wd_set hi2 hP1
  have how : cg_ow b x = (q, k) := by have := cg_ow_fi hq ho hk hr; rw [hf] at this; exact this
  refine cg_H_up how ?_ h2
  rw [cg_ce_o ho]
  have e : (List.range (cg_nf c)).map (cg_fv g.2.2 (cg_up M b x y) q) = ((List.range (cg_nf c)).map (cg_fv g.2.2 M q)).set k (.int y) := by
    apply List.ext_getElem?
    intro j
    by_cases hj : j < cg_nf c
    · rw [List.getElem?_map, List.getElem?_range hj]
      by_cases hjk : k = j
      · subst hjk
        rw [List.getElem?_set_self (by rw [List.length_map, List.length_range]; exact hk)]
        simp only [Option.map_some, cg_fv, hr, hf, cg_up_at, and_self, if_true]
      · rw [List.getElem?_set_ne hjk, List.getElem?_map, List.getElem?_range hj]
        simp only [Option.map_some, Option.some.injEq, cg_fv]
        cases hrj : cg_fr q j with
        | some t => rfl
        | none =>
          simp only [Value.int.injEq]
          refine cg_up_ne ?_
          rw [how, cg_ow_fi hq ho hj hrj]
          exact fun e => hjk (congrArg Prod.snd e).symm
    · rw [List.getElem?_eq_none (by rw [List.length_map, List.length_range]; omega), List.getElem?_eq_none (by rw [List.length_set, List.length_map, List.length_range]; omega)]
  rw [e]
  exact h1
theorem cr_iaload (C : cg_C E cc nL own Ts rm) {q : cg_L} {b n k : Nat} {f : Nat → Nat} (ha : cg_ai q = some (b, n, f)) (hq : cg_ok q = true) (hk : k < n) (hn : n < 2147483648) (d : decode cc pc = .ok (.iaload, 1)) (K : cg_W E M (pc + 1) ls (.inl (M b (f k)) :: rest)) : cg_W E M pc ls (.inl (nI k) :: .inr (.inr q) :: rest) := by
  obtain ⟨p, l, e, R, s, m, args, below, meth, c0, Q, g, A, cells, slots⟩ := E
  intro H locs la hH hS hl
  have h1 := hH q hq
  rw [cg_ce_a ha] at h1
  refine va_iald (D := g.1) (cl := vwCl) C.1 C.2.1 C.2.2.2.2.2.1 (cg_one h1) 0 0 rfl rfl (vp_in_nI hk hn) d ?_
  have hk2 : k < 2 ^ 31 := by omega
  rw [nI_clamp hk2]
  exact K H locs la hH hS hl
theorem cr_iastore (C : cg_C E cc nL own Ts rm) {q : cg_L} {b n k : Nat} {f : Nat → Nat} {y : Int32} (ha : cg_ai q = some (b, n, f)) (hq : cg_ok q = true) (hk : k < n) (hn : n < 2147483648) (d : decode cc pc = .ok (.iastore, 1)) (K : cg_W E (cg_up M b (f k) y) (pc + 1) ls rest) : cg_W E M pc ls (.inl y :: .inl (nI k) :: .inr (.inr q) :: rest) := by
  obtain ⟨p, l, e, R, s, m, args, below, meth, c0, Q, g, A, cells, slots⟩ := E
  intro H locs la hH hS hl
  obtain ⟨i, hi, hi2⟩ := cg_wd_at (g := g) (M := M) hq
  rw [cg_ce_a ha] at hi
  have hk2 : k < 2 ^ 31 := by omega
  refine va_iast (D := g.1) (cl := vwCl) C.1 C.2.1 C.2.2.2.2.2.1 (cg_wd_P hH) (cg_wd_D C.2.2.2.2.2.2.2.1 C.2.2.2.2.2.2.2.2.1) hS i 0 hi rfl (vp_in_nI hk hn) d (fun H1 locs1 hP1 _ hS1 => K H1 locs1 la ?_ hS1 hl)
  obtain ⟨h1, h2⟩ := cg_wd_set hi2 hP1
  refine cg_H_up (cg_ow_ai hq ha hk) ?_ h2
  rw [cg_ce_a ha]
  rw [nI_clamp hk2] at h1
  have e : va_at g.1 vwCl (g.2.2 q, .inl (g.2.1.1, n, .inl (fun j => cg_up M b (f k) y b (f j)))) H1 = va_at g.1 vwCl (g.2.2 q, .inl (g.2.1.1, n, .inl (upd (fun j => M b (f j)) k y))) H1 := by
    simp only [va_at, vp_cell_i]
    rw [cg_arrV (f := fun j => Value.int (cg_up M b (f k) y b (f j))) (f' := fun j => Value.int (upd (fun j => M b (f j)) k y j))]
    intro j hj
    by_cases hjk : j = k
    · subst hjk
      simp [cg_up_at, upd]
    · rw [cg_up_ne (by rw [cg_ow_ai hq ha hj, cg_ow_ai hq ha hk]; exact fun e => hjk (congrArg Prod.snd e))]
      simp [upd, hjk]
  rw [e]
  exact h1
theorem cr_aaload (C : cg_C E cc nL own Ts rm) {q : cg_L} {n k : Nat} {f : Nat → cg_L} (ha : cg_ri q = some (n, f)) (hq : cg_ok q = true) (hk : k < n) (hn : n < 2147483648) (d : decode cc pc = .ok (.aaload, 1)) (K : cg_W E M (pc + 1) ls (.inr (.inr (f k)) :: rest)) : cg_W E M pc ls (.inl (nI k) :: .inr (.inr q) :: rest) := by
  obtain ⟨p, l, e, R, s, m, args, below, meth, c0, Q, g, A, cells, slots⟩ := E
  intro H locs la hH hS hl
  have h1 := hH q hq
  rw [cg_ce_r ha] at h1
  have hk2 : k < 2 ^ 31 := by omega
  have hK := C.2.2.2.2.2.1
  have hin : ¬ ((nI k) < 0 ∨ n ≤ (nI k).toNatClampNeg) := vp_in_nI hk hn
  have hv : va_rf (if k < n then some (g.2.2 (f k)) else none) = cg_vv g.2.2 (.inr (.inr (f k))) := by rw [if_pos hk]; rfl
  have hv2 := K H locs la hH hS hl
  have h1 : H[g.2.2 q]? = some (arrV (if q.1 = 2 then g.2.1.2.2 else g.2.1.2.1) n (fun j => va_rf (if j < n then some (g.2.2 (f j)) else none))) := h1
  by_cases h2 : q.1 = 2
  · rw [if_pos h2] at h1
    refine W.aald (v := cg_vv g.2.2 (.inr (.inr (f k)))) (ty := .object RX2) C.1 C.2.1 h1 ((hK.2 2 _ rfl).1 n _) rfl (fun q => by cases q) (by rw [arrV_size]; exact hin) ?_ rfl rfl d hv2
    rw [nI_clamp hk2, arrV_read _ _ hk, hv]
  · rw [if_neg h2] at h1
    refine W.aald (v := cg_vv g.2.2 (.inr (.inr (f k)))) (ty := .array .int) C.1 C.2.1 h1 ((hK.2 1 _ rfl).1 n _) rfl (fun q => by cases q) (by rw [arrV_size]; exact hin) ?_ rfl rfl d hv2
    rw [nI_clamp hk2, arrV_read _ _ hk, hv]
theorem cr_alen (C : cg_C E cc nL own Ts rm) {q : cg_L} {b n : Nat} {f : Nat → Nat} (ha : cg_ai q = some (b, n, f)) (hq : cg_ok q = true) (d : decode cc pc = .ok (.arraylength, 1)) (K : cg_W E M (pc + 1) ls (.inl (nI n) :: rest)) : cg_W E M pc ls (.inr (.inr q) :: rest) := by
  obtain ⟨p, l, e, R, s, m, args, below, meth, c0, Q, g, A, cells, slots⟩ := E
  intro H locs la hH hS hl
  have h1 := hH q hq
  rw [cg_ce_a ha] at h1
  exact va_alen (D := g.1) (cl := vwCl) C.1 C.2.1 C.2.2.2.2.2.1 (cg_one h1) 0 0 rfl rfl (v := nI n) rfl d (K H locs la hH hS hl)
theorem cr_alenr (C : cg_C E cc nL own Ts rm) {q : cg_L} {n : Nat} {f : Nat → cg_L} (ha : cg_ri q = some (n, f)) (hq : cg_ok q = true) (h2 : ¬ q.1 = 2) (d : decode cc pc = .ok (.arraylength, 1)) (K : cg_W E M (pc + 1) ls (.inl (nI n) :: rest)) : cg_W E M pc ls (.inr (.inr q) :: rest) := by
  obtain ⟨p, l, e, R, s, m, args, below, meth, c0, Q, g, A, cells, slots⟩ := E
  intro H locs la hH hS hl
  have h1 := hH q hq
  rw [cg_ce_r ha, if_neg h2] at h1
  exact va_alen (D := g.1) (cl := vwCl) C.1 C.2.1 C.2.2.2.2.2.1 (cg_one h1) 0 1 rfl rfl (v := nI n) rfl d (K H locs la hH hS hl)
theorem cr_max (C : cg_C E cc nL own Ts rm) {x y : Int32} {index : Nat} (d : decode cc pc = .ok (.invokestatic index, 3)) (hw : Cond.methodLink own index Lib.Math.max.name ∈ Ts ∧ Cond.static Lib.Math.max.name ∈ Ts ∧ Cond.initialized "java/lang/Math" ∈ Ts ∧ Cond.code Lib.Math.max.name Lib.Math.max.code 2 (some .int) ∈ Ts) (hr : 1 ≤ rm.frames ∧ 21 ≤ rm.locals) (hst : (rest.map fun v => if cg_two v then 2 else 1).sum ≤ 8) (K : cg_W E M (pc + 3) ls (.inl (if x < y then y else x) :: rest)) : cg_W E M pc ls (.inl y :: .inl x :: rest) := by
  obtain ⟨p, l, e, R, s, m, args, below, meth, c0, Q, g, A, cells, slots⟩ := E
  intro H locs la hH hS hl
  have ht := C.2.2.2.2.1
  have hR : R = rm := C.2.2.2.2.2.2.2.2.2.1
  have hsum : ((rest.map (cg_vv g.2.2)).map fun v => v.category).sum = (rest.map fun v => if cg_two v then 2 else 1).sum := by
    rw [List.map_map]
    congr 1
    apply List.map_congr_left
    intro v _
    rcases v with x | x | x <;> rfl
  exact va_mmax C.1 C.2.1 hl.1.symm C.2.2.2.1 (ht _ hw.1) (ht _ hw.2.1) (ht _ hw.2.2.1) (ht _ hw.2.2.2) (by rw [hR]; exact hr.1) (by rw [hR, hsum]; have := hr.2; omega) C.2.2.2.2.2.2.2.2.2.2.1 C.2.2.2.2.2.2.2.2.2.2.2 d (K H locs la hH hS hl)
theorem cr_min (C : cg_C E cc nL own Ts rm) {x y : Int32} {index : Nat} (d : decode cc pc = .ok (.invokestatic index, 3)) (hw : Cond.methodLink own index Lib.Math.min.name ∈ Ts ∧ Cond.static Lib.Math.min.name ∈ Ts ∧ Cond.initialized "java/lang/Math" ∈ Ts ∧ Cond.code Lib.Math.min.name Lib.Math.min.code 2 (some .int) ∈ Ts) (hr : 1 ≤ rm.frames ∧ 21 ≤ rm.locals) (hst : (rest.map fun v => if cg_two v then 2 else 1).sum ≤ 8) (K : cg_W E M (pc + 3) ls (.inl (if y < x then y else x) :: rest)) : cg_W E M pc ls (.inl y :: .inl x :: rest) := by
  obtain ⟨p, l, e, R, s, m, args, below, meth, c0, Q, g, A, cells, slots⟩ := E
  intro H locs la hH hS hl
  have ht := C.2.2.2.2.1
  have hR : R = rm := C.2.2.2.2.2.2.2.2.2.1
  have hsum : ((rest.map (cg_vv g.2.2)).map fun v => v.category).sum = (rest.map fun v => if cg_two v then 2 else 1).sum := by
    rw [List.map_map]
    congr 1
    apply List.map_congr_left
    intro v _
    rcases v with x | x | x <;> rfl
  exact va_mmin C.1 C.2.1 hl.1.symm C.2.2.2.1 (ht _ hw.1) (ht _ hw.2.1) (ht _ hw.2.2.1) (ht _ hw.2.2.2) (by rw [hR]; exact hr.1) (by rw [hR, hsum]; have := hr.2; omega) C.2.2.2.2.2.2.2.2.2.2.1 C.2.2.2.2.2.2.2.2.2.2.2 d (K H locs la hH hS hl)
end CGH
/-! the contract of a method: from memory M and the arguments as it comes to an end with post -/
def cg_Ag (g : cg_G) : Nat → Prop := fun a => ∃ q : cg_L, cg_ok q = true ∧ a = g.2.2 q
def cg_Pre (g : cg_G) (as : List cg_V) (M : cg_M) : Array Value → State → Prop := va_Pc (as.map (cg_vv g.2.2)) (fun U => cg_H g M U.heap ∧ va_K g.1 vwCl (cg_tys g) U ∧ cg_N U ∧ cg_inj g)
def cg_Q (g : cg_G) (post : Option cg_V → cg_M → Prop) : Array Value → State → Outcome → State → Prop := fun _ st oc t => (∃ (v : Option cg_V) (M' : cg_M), oc = .returned (v.map (cg_vv g.2.2)) ∧ post v M' ∧ cg_H g M' t.heap) ∧ va_F (cg_Ag g) st t
def cg_S (y : MethodName) (ws : List Cond) (rm : Room) (as : List cg_V) (M : cg_M) (post : Option cg_V → cg_M → Prop) : Prop := ∀ (l : Launch) (g : cg_G), Met l y ws rm (cg_Pre g as M) (cg_Q g post) 0 0 (cg_Ag g)
/-- what the end of a method needs -/
def cg_R (E : cg_E) (ret : Option FieldType) (post : Option cg_V → cg_M → Prop) : Prop := match E with
  | (_, _, _, _, s, _, args, below, meth, _, Q, g, A, cells, slots) => meth.sig.returnType = ret ∧ meth.locks = false ∧ A = cg_Ag g ∧ Q = MQ below (cg_Q g post) args s cells slots (cg_Ag g)
theorem cg_N.moved {s U : State} (hW : s.WarmedH U.vm) (h : cg_N s) : cg_N U := by
  intro w hw
  have h1 := h w hw
  simp only [cg_nests, List.mem_cons, List.not_mem_nil, or_false] at hw
  rcases hw with rfl | rfl | rfl | rfl | rfl | rfl | rfl | rfl <;> exact va_Nw.warmM hW h1
theorem cg_N.same {s U : State} (hW : s.vm = U.vm) (h : cg_N s) : cg_N U := by
  intro w hw
  have h1 := h w hw
  simp only [cg_nests, List.mem_cons, List.not_mem_nil, or_false] at hw
  rcases hw with rfl | rfl | rfl | rfl | rfl | rfl | rfl | rfl <;> exact va_Nw.same rfl hW h1
theorem cg_blind (g : cg_G) (as : List cg_V) (M : cg_M) : FrameBlind (cg_Pre g as M) := fun a U g' mk q => by
  obtain ⟨q0, q1, q2, q3, q4⟩ := q
  exact ⟨q0, q1, va_K.moved (u := U) (U := U.calling g' mk a) (Vm.Alike.refl U.vm) q2, cg_N.same (s := U) (U := U.calling g' mk a) rfl q3, q4⟩
section CGE
variable {E : cg_E} {cc : ByteArray} {nL : Nat} {own : String} {Ts : List Cond} {rm : Room} {M : cg_M} {pc : Nat} {ls : List (Option cg_V)} {post : Option cg_V → cg_M → Prop}
theorem cr_ireturn (C : cg_C E cc nL own Ts rm) {x : Int32} (X : cg_R E (some .int) post) (d : decode cc pc = .ok (.ireturn, 1)) (h : post (some (.inl x)) M) : cg_W E M pc ls [.inl x] := by
  obtain ⟨p, l, e, R, s, m, args, below, meth, c0, Q, g, A, cells, slots⟩ := E
  intro H locs la hH hS hl
  obtain ⟨h1, hlocks, rfl, rfl⟩ := X
  exact W.iret C.1 C.2.1 h1 (fun t ht hW => ⟨⟨some (.inl x), M, rfl, h, by rw [ht]; exact hH⟩, hS.F ht⟩) (fun q hq => hS.2.2 q hq) d hlocks
theorem cr_zreturn (C : cg_C E cc nL own Ts rm) {x : Int32} (X : cg_R E (some .boolean) post) (d : decode cc pc = .ok (.ireturn, 1)) (hx : x = 0 ∨ x = 1) (h : post (some (.inl x)) M) : cg_W E M pc ls [.inl x] := by
  obtain ⟨p, l, e, R, s, m, args, below, meth, c0, Q, g, A, cells, slots⟩ := E
  intro H locs la hH hS hl
  obtain ⟨h1, hlocks, rfl, rfl⟩ := X
  exact W.zret C.1 C.2.1 h1 (by rcases hx with rfl | rfl <;> rfl) (fun t ht hW => ⟨⟨some (.inl x), M, rfl, h, by rw [ht]; exact hH⟩, hS.F ht⟩) (fun q hq => hS.2.2 q hq) d hlocks
theorem cr_lreturn (C : cg_C E cc nL own Ts rm) {x : Int64} (X : cg_R E (some .long) post) (d : decode cc pc = .ok (.lreturn, 1)) (h : post (some (.inr (.inl x))) M) : cg_W E M pc ls [.inr (.inl x)] := by
  obtain ⟨p, l, e, R, s, m, args, below, meth, c0, Q, g, A, cells, slots⟩ := E
  intro H locs la hH hS hl
  obtain ⟨h1, hlocks, rfl, rfl⟩ := X
  exact W.lret C.1 C.2.1 h1 (fun t ht hW => ⟨⟨some (.inr (.inl x)), M, rfl, h, by rw [ht]; exact hH⟩, hS.F ht⟩) (fun q hq => hS.2.2 q hq) d hlocks
theorem cr_return (C : cg_C E cc nL own Ts rm) (X : cg_R E none post) (d : decode cc pc = .ok (.return_, 1)) (h : post none M) : cg_W E M pc ls [] := by
  obtain ⟨p, l, e, R, s, m, args, below, meth, c0, Q, g, A, cells, slots⟩ := E
  intro H locs la hH hS hl
  obtain ⟨h1, hlocks, rfl, rfl⟩ := X
  exact W.vret C.1 C.2.1 h1 (fun t ht hW => ⟨⟨none, M, rfl, h, by rw [ht]; exact hH⟩, hS.F ht⟩) (fun q hq => hS.2.2 q hq) d hlocks
end CGE
/-- the frame's variables at a method's entry -/
def cg_en : List cg_V → List (Option cg_V)
  | [] => []
  | v :: r => if cg_two v then some v :: none :: cg_en r else some v :: cg_en r
theorem cg_en_lv (ad : cg_L → Nat) : ∀ (as : List cg_V) (i : Nat), lv_args i (as.map (cg_vv ad)) = cg_lv ad i (cg_en as)
  | [], _ => rfl
  | v :: r, i => by
    rcases v with x | x | x
    · show (i, _) :: lv_args (i + 1) _ = (i, _) :: cg_lv ad (i + 1) _
      rw [cg_en_lv ad r]
    · show (i, _) :: lv_args (i + 2) _ = (i, _) :: cg_lv ad (i + 1 + 1) _
      rw [cg_en_lv ad r]
    · show (i, _) :: lv_args (i + 1) _ = (i, _) :: cg_lv ad (i + 1) _
      rw [cg_en_lv ad r]
theorem cg_lv_pad (ad : cg_L → Nat) (n : Nat) : ∀ (ls : List (Option cg_V)) (i : Nat), cg_lv ad i (ls ++ List.replicate n none) = cg_lv ad i ls
  | [], i => by
    induction n generalizing i with
    | zero => rfl
    | succ n ih => exact ih (i + 1)
  | none :: r, i => cg_lv_pad ad n r (i + 1)
  | some v :: r, i => by
    show (i, cg_vv ad v) :: cg_lv ad (i + 1) (r ++ List.replicate n none) = (i, cg_vv ad v) :: cg_lv ad (i + 1) r
    rw [cg_lv_pad ad n r (i + 1)]
theorem cg_en_len (ad : cg_L → Nat) : ∀ as : List cg_V, (lg_sl (as.map (cg_vv ad))).length = (cg_en as).length
  | [] => rfl
  | v :: r => by
    have ih := cg_en_len ad r
    rcases v with x | x | x <;> simp [lg_sl, cg_en, cg_vv, cg_two, Value.category] at ih ⊢ <;> omega
theorem cg_S_of {y : MethodName} {cc : ByteArray} {maxL : Nat} {ret : Option FieldType} {ws ws' : List Cond} {rm : Room} {as : List cg_V} {M : cg_M} {post : Option cg_V → cg_M → Prop} {ls0 : List (Option cg_V)} (own : String) (hown : y.cls = own) (hy : plainName y.cls = true) (hw : ws = Cond.code y cc maxL ret :: ws') (hls : cg_en as ++ List.replicate (maxL - (cg_en as).length) none = ls0) (hlen : (cg_en as).length ≤ maxL)
    (body : ∀ E : cg_E, cg_C E cc maxL own ws rm → cg_R E ret post → cg_W E M 0 ls0 []) : cg_S y ws rm as M post := by
  intro l g
  refine Met.ofW (cc := cc) (maxL := maxL) (ret := ret) hy hw ?_
  intro p e s m args below meth c s₁ B hml hv
  obtain ⟨rfl, h1, h2, h3, h4⟩ := hv
  have hts := atoms_spec (ws := ws) B.pre
  have hown2 : s.vm.findClass y.cls = some m.cls := findClass_of_methodNamed B.named
  rw [hown] at hown2
  have hb := body (p, l, e, rm, s, m, (as.map (cg_vv g.2.2)).toArray, below, meth, c, MQ below (cg_Q g post) (as.map (cg_vv g.2.2)).toArray s 0 0 (cg_Ag g), g, cg_Ag g, 0, 0) ⟨B.exec, B.bytes, hml, hown2, hts, h2, h3, h4, fun q hq => ⟨q, hq, rfl⟩, rfl, Nat.zero_le _, Nat.zero_le _⟩ ⟨B.returns, B.notSynchronized, rfl, rfl⟩
  rw [lg_entry_eq]
  refine hb s.heap [] _ h1 va_S.rf ?_
  have hl := lv_entry (as.map (cg_vv g.2.2)) (n := maxL) (by rw [cg_en_len]; exact hlen)
  rw [cg_en_lv] at hl
  rw [← hls, cg_lv_pad]
  show lv_has _ c.maxLocals _
  rw [hml]
  exact hl
section CGC
variable {E : cg_E} {cc : ByteArray} {nL : Nat} {own : String} {Ts : List Cond} {rm : Room} {M : cg_M} {pc : Nat} {ls : List (Option cg_V)} {rest st : List cg_V} {post : Option cg_V → cg_M → Prop}
theorem cg_sum (ad : cg_L → Nat) (rest : List cg_V) : ((rest.map (cg_vv ad)).map fun v => v.category).sum = (rest.map fun v => if cg_two v then 2 else 1).sum := by
  rw [List.map_map]
  congr 1
  apply List.map_congr_left
  intro v _
  rcases v with x | x | x <;> rfl
/-- behind a call, whatever its kind -/
theorem cg_run {p : Program} {l : Launch} {e : Env} {R : Room} {s : State} {m : MethodId} {args : Array Value} {below : List Frame} {meth : Method} {c : Code} {Q : State → Prop} {g : cg_G} {A : Nat → Prop} {cells slots : Nat} {H : Heap} {locs : List Loc} {la : Array Slot} {st0 : List Value} {a : Array Value}
    (hr : va_Run p l e R s m args below meth c H locs cells slots 0 0 (F0 m pc la st0) (rest.map (cg_vv g.2.2)) (cg_Q g post a) (cg_Ag g)) (hS : va_S A s.heap H locs) (hA : ∀ q : cg_L, cg_ok q = true → A (g.2.2 q)) (hl : lv_has la c.maxLocals (cg_lv g.2.2 0 ls))
    (K : ∀ v M', post v M' → cg_W (p, l, e, R, s, m, args, below, meth, c, Q, g, A, cells, slots) M' (pc + 3) ls (v.toList ++ rest)) : W p l e R s m args below meth c H locs cells slots Q (F0 m pc la st0) := by
  intro T hT X
  obtain ⟨v, st₀, t, T', L, h0, X', hL, e1, e2, ⟨⟨w, M', hv, hp, hb⟩, hz, hk⟩, st⟩ := hr T hT X
  have hv : v = w.map (cg_vv g.2.2) := by simpa using hv
  rw [h0] at hz hk
  have hAg : ∀ q, cg_Ag g q → A q := fun q hq => by obtain ⟨x, hx, rfl⟩ := hq; exact hA x hx
  have hS1 : va_S A s.heap T'.heap (locs ++ L) := ⟨Nat.le_trans hS.1 (by rw [e1]; exact hz), fun q h1 h2 => by rw [e1, hk q (Nat.lt_of_lt_of_le h1 hS.1) (fun z => h2 (hAg q z))]; exact hS.2.1 q h1 h2, fun q hq => by
      rcases List.mem_append.mp hq with h | h
      · exact hS.2.2 q h
      · exact hAg _ (hL q h)⟩
  obtain ⟨t2, a1, b1⟩ := K w M' hp T'.heap (locs ++ L) la (by rw [e1]; exact hb) hS1 hl T' rfl X'
  refine ⟨t2, st t2 ?_, b1⟩
  have e3 : v.toList ++ rest.map (cg_vv g.2.2) = (w.toList ++ rest).map (cg_vv g.2.2) := by
    rw [hv, List.map_append]
    cases w <;> rfl
  show Steps _ _ _ (T'.setTop { F0 m pc la st0 with pc := pc + 3, stack := v.toList ++ rest.map (cg_vv g.2.2) }) t2
  rw [e3]
  exact a1
theorem cr_callV (C : cg_C E cc nL own Ts rm) {y : MethodName} {ws ws' : List Cond} {rm' : Room} {q : cg_L} {as : List cg_V} {index maxL n cN : Nat} {bytes : ByteArray} {ret : Option FieldType} (hSp : cg_S y ws rm' (.inr (.inr q) :: as) M post) (hst : st = as.reverse ++ .inr (.inr q) :: rest) (hG : GoodIn Ts (wsV own index (cg_T cN).1 y ws)) (hw : ws = Cond.code y bytes maxL ret :: ws') (d : decode cc pc = .ok (.invokevirtual index, 3)) (hq : cg_ok q = true) (ho : cg_oi q = some cN)
    (hd : y.cls = (cg_T cN).1 ∧ y.cls ≠ "java/lang/invoke/MethodHandle" ∧ y.cls ≠ "java/lang/invoke/VarHandle" ∧ (parseMethodDescriptor y.desc).map (fun d => d.parameters.length) = some n) (hn : as.length = n) (hr : rm'.cells = 0 ∧ rm'.slots = 0 ∧ rm'.frames + 1 ≤ rm.frames ∧ 8 + (maxL + 11) + rm'.locals ≤ rm.locals) (hsum : (rest.map fun v => if cg_two v then 2 else 1).sum ≤ 8)
    (K : ∀ v M', post v M' → cg_W E M' (pc + 3) ls (v.toList ++ rest)) : cg_W E M pc ls st := by
  obtain ⟨p, l, e, R, s, m, args, below, meth, c0, Q, g, A, cells, slots⟩ := E
  intro H locs la hH hS hl
  have hR : R = rm := C.2.2.2.2.2.2.2.2.2.1
  subst hR
  subst hst
  have h1 := hH q hq
  rw [cg_ce_o ho] at h1
  have hbnd := C.2.2.2.2.2.2.2.2.2.2
  refine cg_run (post := post) (rest := rest) (va_runV (As := as.map (cg_vv g.2.2)) (rest := rest.map (cg_vv g.2.2)) (b := g.2.2 q) ⟨C.1, C.2.1, C.2.2.1, C.2.2.2.1, C.2.2.2.2.1⟩ (hSp l g) (cwV n C.2.2.2.2.1 hG hw hr.1 hr.2.1 hd ⟨hr.2.2.1, hr.2.2.2⟩) ⟨cg_blind g _ M, va_recv C.2.2.2.2.2.1 (cg_one h1) (q0 := 0) (cg_T_at (cg_oi_lt ho)) rfl, fun U hU hW => ⟨rfl, by rw [hU]; exact hH, va_K.moved hW.alike C.2.2.2.2.2.1, C.2.2.2.2.2.2.1.moved hW, C.2.2.2.2.2.2.2.1⟩⟩ rfl (by rw [List.length_map]; exact hn) (hl.1.trans C.2.2.1) (by rw [List.map_append, List.map_reverse]; rfl) (by rw [cg_sum]; exact (show 2 * 0 + _ ≤ 8 by omega)) d ⟨hbnd.1, hbnd.2⟩) hS C.2.2.2.2.2.2.2.2.1 hl K
theorem cr_callS (C : cg_C E cc nL own Ts rm) {y : MethodName} {ws ws' : List Cond} {rm' : Room} {as : List cg_V} {index maxL n : Nat} {bytes : ByteArray} {ret : Option FieldType} (hSp : cg_S y ws rm' as M post) (hst : st = as.reverse ++ rest) (hG : GoodIn Ts (va_wsS own index y ws)) (hw : ws = Cond.code y bytes maxL ret :: ws') (d : decode cc pc = .ok (.invokestatic index, 3))
    (hd : y.cls ≠ "java/lang/invoke/MethodHandle" ∧ y.cls ≠ "java/lang/invoke/VarHandle" ∧ (parseMethodDescriptor y.desc).map (fun d => d.parameters.length) = some n) (hn : as.length = n) (hr : rm'.cells = 0 ∧ rm'.slots = 0 ∧ rm'.frames + 1 ≤ rm.frames ∧ 8 + (maxL + 11) + rm'.locals ≤ rm.locals) (hsum : (rest.map fun v => if cg_two v then 2 else 1).sum ≤ 8)
    (K : ∀ v M', post v M' → cg_W E M' (pc + 3) ls (v.toList ++ rest)) : cg_W E M pc ls st := by
  obtain ⟨p, l, e, R, s, m, args, below, meth, c0, Q, g, A, cells, slots⟩ := E
  intro H locs la hH hS hl
  have hR : R = rm := C.2.2.2.2.2.2.2.2.2.1
  subst hR
  subst hst
  have hbnd := C.2.2.2.2.2.2.2.2.2.2
  have ht := C.2.2.2.2.1
  have hG2 : GoodIn Ts ws := fun w h => hG w (by unfold va_wsS; exact List.mem_append_right _ h)
  have ok : ∀ w ∈ va_wsS own index y ws, w.before args s = true := fun w h => ht w (hG w h).1
  refine cg_run (post := post) (rest := rest) (va_runS (As := as.map (cg_vv g.2.2)) (rest := rest.map (cg_vv g.2.2)) ⟨C.1, C.2.1, C.2.2.1, C.2.2.2.1, C.2.2.2.2.1⟩ (hSp l g) ⟨callB_of n ht hG2 hw hr.1 hr.2.1 (ok _ (by simp [va_wsS])) (ok _ (by simp [va_wsS])) hd ⟨hr.2.2.1, hr.2.2.2⟩, ok _ (by simp [va_wsS])⟩ ⟨cg_blind g _ M, fun U hU hW => ⟨rfl, by rw [hU]; exact hH, va_K.moved hW.alike C.2.2.2.2.2.1, C.2.2.2.2.2.2.1.moved hW, C.2.2.2.2.2.2.2.1⟩⟩ rfl (by rw [List.length_map]; exact hn) (hl.1.trans C.2.2.1) (by rw [List.map_append, List.map_reverse]) (by rw [cg_sum]; exact (show 2 * 0 + _ ≤ 8 by omega)) d ⟨hbnd.1, hbnd.2⟩) hS C.2.2.2.2.2.2.2.2.1 hl K
theorem cr_callN (C : cg_C E cc nL own Ts rm) {y : MethodName} {host : String} {ws ws' : List Cond} {rm' : Room} {as : List cg_V} {index maxL n : Nat} {bytes : ByteArray} {ret : Option FieldType} (hSp : cg_S y ws rm' as M post) (hst : st = as.reverse ++ rest) (hG : GoodIn Ts ws) (hw : ws = Cond.code y bytes maxL ret :: ws') (d : decode cc pc = .ok (.invokestatic index, 3)) (hnw : Cond.methodLinkNest own index y host ∈ cg_nests) (hini : Cond.initialized y.cls ∈ Ts) (hstt : Cond.static y ∈ Ts)
    (hd : y.cls ≠ "java/lang/invoke/MethodHandle" ∧ y.cls ≠ "java/lang/invoke/VarHandle" ∧ (parseMethodDescriptor y.desc).map (fun d => d.parameters.length) = some n) (hn : as.length = n) (hr : rm'.cells = 0 ∧ rm'.slots = 0 ∧ rm'.frames + 1 ≤ rm.frames ∧ 8 + (maxL + 11) + rm'.locals ≤ rm.locals) (hsum : (rest.map fun v => if cg_two v then 2 else 1).sum ≤ 8)
    (K : ∀ v M', post v M' → cg_W E M' (pc + 3) ls (v.toList ++ rest)) : cg_W E M pc ls st := by
  obtain ⟨p, l, e, R, s, m, args, below, meth, c0, Q, g, A, cells, slots⟩ := E
  intro H locs la hH hS hl
  have hR : R = rm := C.2.2.2.2.2.2.2.2.2.1
  subst hR
  subst hst
  have hbnd := C.2.2.2.2.2.2.2.2.2.2
  have ht := C.2.2.2.2.1
  refine cg_run (post := post) (rest := rest) (va_runSN (As := as.map (cg_vv g.2.2)) (rest := rest.map (cg_vv g.2.2)) ⟨C.1, C.2.1, C.2.2.1, C.2.2.2.1, C.2.2.2.2.1⟩ (hSp l g) ⟨va_cnB n ht hG hw hr.1 hr.2.1 (C.2.2.2.2.2.2.1 _ hnw) (ht _ hini) hd ⟨hr.2.2.1, hr.2.2.2⟩, ht _ hstt, trivial⟩ ⟨cg_blind g _ M, fun U hU hW => ⟨rfl, by rw [hU]; exact hH, va_K.moved hW.alike C.2.2.2.2.2.1, C.2.2.2.2.2.2.1.moved hW, C.2.2.2.2.2.2.2.1⟩⟩ rfl (by rw [List.length_map]; exact hn) (hl.1.trans C.2.2.1) (by rw [List.map_append, List.map_reverse]) (by rw [cg_sum]; exact (show 2 * 0 + _ ≤ 8 by omega)) d ⟨hbnd.1, hbnd.2⟩) hS C.2.2.2.2.2.2.2.2.1 hl K
end CGC
end
section
/-! ===== calls with one answer ===== -/
def cg_D (y : MethodName) (ws : List Cond) (rm : Room) (as : List cg_V) (M : cg_M) (v : Option cg_V) (M1 : cg_M) : Prop := cg_S y ws rm as M (fun v' M' => v' = v ∧ M' = M1)
section CGD
variable {E : cg_E} {cc : ByteArray} {nL : Nat} {own : String} {Ts : List Cond} {rm : Room} {M M1 : cg_M} {pc : Nat} {ls : List (Option cg_V)} {rest st : List cg_V} {v : Option cg_V}
theorem cr_dV (C : cg_C E cc nL own Ts rm) {y : MethodName} {ws ws' : List Cond} {rm' : Room} {q : cg_L} {as : List cg_V} {index maxL n cN : Nat} {bytes : ByteArray} {ret : Option FieldType} {st2 : List cg_V} (hSp : cg_D y ws rm' (.inr (.inr q) :: as) M v M1) (hst : st = as.reverse ++ .inr (.inr q) :: rest) (hG : GoodIn Ts (wsV own index (cg_T cN).1 y ws)) (hw : ws = Cond.code y bytes maxL ret :: ws') (d : decode cc pc = .ok (.invokevirtual index, 3)) (hq : cg_ok q = true) (ho : cg_oi q = some cN)
    (hd : y.cls = (cg_T cN).1 ∧ y.cls ≠ "java/lang/invoke/MethodHandle" ∧ y.cls ≠ "java/lang/invoke/VarHandle" ∧ (parseMethodDescriptor y.desc).map (fun d => d.parameters.length) = some n) (hn : as.length = n) (hr : rm'.cells = 0 ∧ rm'.slots = 0 ∧ rm'.frames + 1 ≤ rm.frames ∧ 8 + (maxL + 11) + rm'.locals ≤ rm.locals) (hsum : (rest.map fun v => if cg_two v then 2 else 1).sum ≤ 8) (hst2 : v.toList ++ rest = st2)
    (K : cg_W E M1 (pc + 3) ls st2) : cg_W E M pc ls st :=
  cr_callV C hSp hst hG hw d hq ho hd hn hr hsum (fun v' M' h => by obtain ⟨rfl, rfl⟩ := h; rw [hst2]; exact K)
theorem cr_dS (C : cg_C E cc nL own Ts rm) {y : MethodName} {ws ws' : List Cond} {rm' : Room} {as : List cg_V} {index maxL n : Nat} {bytes : ByteArray} {ret : Option FieldType} {st2 : List cg_V} (hSp : cg_D y ws rm' as M v M1) (hst : st = as.reverse ++ rest) (hG : GoodIn Ts (va_wsS own index y ws)) (hw : ws = Cond.code y bytes maxL ret :: ws') (d : decode cc pc = .ok (.invokestatic index, 3))
    (hd : y.cls ≠ "java/lang/invoke/MethodHandle" ∧ y.cls ≠ "java/lang/invoke/VarHandle" ∧ (parseMethodDescriptor y.desc).map (fun d => d.parameters.length) = some n) (hn : as.length = n) (hr : rm'.cells = 0 ∧ rm'.slots = 0 ∧ rm'.frames + 1 ≤ rm.frames ∧ 8 + (maxL + 11) + rm'.locals ≤ rm.locals) (hsum : (rest.map fun v => if cg_two v then 2 else 1).sum ≤ 8) (hst2 : v.toList ++ rest = st2)
    (K : cg_W E M1 (pc + 3) ls st2) : cg_W E M pc ls st :=
  cr_callS C hSp hst hG hw d hd hn hr hsum (fun v' M' h => by obtain ⟨rfl, rfl⟩ := h; rw [hst2]; exact K)
theorem cr_dN (C : cg_C E cc nL own Ts rm) {y : MethodName} {host : String} {ws ws' : List Cond} {rm' : Room} {as : List cg_V} {index maxL n : Nat} {bytes : ByteArray} {ret : Option FieldType} {st2 : List cg_V} (hSp : cg_D y ws rm' as M v M1) (hst : st = as.reverse ++ rest) (hG : GoodIn Ts ws) (hw : ws = Cond.code y bytes maxL ret :: ws') (d : decode cc pc = .ok (.invokestatic index, 3)) (hnw : Cond.methodLinkNest own index y host ∈ cg_nests) (hini : Cond.initialized y.cls ∈ Ts ∧ Cond.static y ∈ Ts)
    (hd : y.cls ≠ "java/lang/invoke/MethodHandle" ∧ y.cls ≠ "java/lang/invoke/VarHandle" ∧ (parseMethodDescriptor y.desc).map (fun d => d.parameters.length) = some n) (hn : as.length = n) (hr : rm'.cells = 0 ∧ rm'.slots = 0 ∧ rm'.frames + 1 ≤ rm.frames ∧ 8 + (maxL + 11) + rm'.locals ≤ rm.locals) (hsum : (rest.map fun v => if cg_two v then 2 else 1).sum ≤ 8) (hst2 : v.toList ++ rest = st2)
    (K : cg_W E M1 (pc + 3) ls st2) : cg_W E M pc ls st :=
  cr_callN C hSp hst hG hw d hnw hini.1 hini.2 hd hn hr hsum (fun v' M' h => by obtain ⟨rfl, rfl⟩ := h; rw [hst2]; exact K)
end CGD
theorem cg_inc1 (a : Nat) : nI a + Int32.ofInt 1 = nI (a + 1) := nI_1 a
/-- what a copy of the first k places of one array to another leaves -/
def cg_cp (M : cg_M) (q2 : cg_L) (k b1 : Nat) (f1 : Nat → Nat) : cg_M := fun b x => if (cg_ow b x).1 = q2 ∧ (cg_ow b x).2 < k then M b1 (f1 (cg_ow b x).2) else M b x
theorem cr_copy {E : cg_E} {cc : ByteArray} {nL : Nat} {own : String} {Ts : List Cond} {rm : Room} (C : cg_C E cc nL own Ts rm) {M : cg_M} {pc : Nat} {ls : List (Option cg_V)} {q1 q2 : cg_L} {b1 b2 n1 n2 k index : Nat} {f1 f2 : Nat → Nat} (h1 : cg_ai q1 = some (b1, n1, f1)) (h2 : cg_ai q2 = some (b2, n2, f2)) (o1 : cg_ok q1 = true) (o2 : cg_ok q2 = true) (k1 : k ≤ n1) (k2 : k ≤ n2) (hb : n1 < 2147483648) (hw : Cond.methodLink own index arraycopyName ∈ Ts ∧ Cond.native arraycopyName ∈ Ts ∧ Cond.static arraycopyName ∈ Ts ∧ Cond.initialized "java/lang/System" ∈ Ts) (hr : 1 ≤ rm.frames ∧ 40 ≤ rm.locals) (d : decode cc pc = .ok (.invokestatic index, 3)) (K : cg_W E (cg_cp M q2 k b1 f1) (pc + 3) ls []) : cg_W E M pc ls [.inl (nI k), .inl (nI 0), .inr (.inr q2), .inl (nI 0), .inr (.inr q1)] := by
  obtain ⟨p, l, e, R, s, m, args, below, meth, c0, Q, g, A, cells, slots⟩ := E
  intro H locs la hH hS hl
  obtain ⟨i1, hi1, -⟩ := cg_wd_at (g := g) (M := M) o1
  obtain ⟨i2, hi2, hj2⟩ := cg_wd_at (g := g) (M := M) o2
  rw [cg_ce_a h1] at hi1
  rw [cg_ce_a h2] at hi2
  have ht := C.2.2.2.2.1
  have hR : R = rm := C.2.2.2.2.2.2.2.2.2.1
  have hk2 : k < 2 ^ 31 := by omega
  have e0 : (nI 0).toNatClampNeg = 0 := nI_clamp (by decide)
  refine va_copyi (D := g.1) (cl := vwCl) (rest := []) C.1 C.2.1 hl.1.symm C.2.2.2.1 (ht _ hw.1) (ht _ hw.2.1) (ht _ hw.2.2.1) (ht _ hw.2.2.2) C.2.2.2.2.2.1 (cg_wd_P hH) (cg_wd_D C.2.2.2.2.2.2.2.1 C.2.2.2.2.2.2.2.2.1) hS i1 i2 0 0 hi1 hi2 rfl rfl rfl (sp := nI 0) (dp := nI 0) (n := nI k) (by decide) (by decide) (nI_pos hk2) (by rw [e0, nI_clamp hk2]; omega) (by rw [e0, nI_clamp hk2]; omega) (fun _ _ => rfl) (by rw [hR]; exact hr.1) (by rw [hR]; have := hr.2; exact (show 0 + (5 + 2 + 11) ≤ rm.locals by omega)) d (fun H1 locs1 hP1 _ hS1 => K H1 locs1 la ?_ hS1 hl)
  obtain ⟨g1, g2⟩ := cg_wd_set hj2 hP1
  rw [e0, nI_clamp hk2] at g1
  intro r hr2
  by_cases hq : r = q2
  · subst hq
    rw [cg_ce_a h2]
    have e1 : va_at g.1 vwCl (g.2.2 r, .inl (g.2.1.1, n2, .inl (fun j => cg_cp M r k b1 f1 b2 (f2 j)))) H1 = va_at g.1 vwCl (g.2.2 r, .inl (g.2.1.1, n2, .inl (va_cpy (fun j => M b1 (f1 j)) (fun j => M b2 (f2 j)) 0 0 k))) H1 := by
      simp only [va_at, vp_cell_i]
      rw [cg_arrV (f := fun j => Value.int (cg_cp M r k b1 f1 b2 (f2 j))) (f' := fun j => Value.int (va_cpy (fun j => M b1 (f1 j)) (fun j => M b2 (f2 j)) 0 0 k j))]
      intro j hj
      unfold cg_cp va_cpy
      rw [cg_ow_ai o2 h2 hj]
      simp
    rw [e1]
    exact g1
  · refine cg_at_same (g2 r hr2 hq) (fun b' n f h j' hj => ?_) (fun c j' hc hj hn => ?_)
    · unfold cg_cp
      rw [if_neg]
      rw [cg_ow_ai hr2 h hj]
      exact fun z => hq z.1
    · unfold cg_cp
      rw [if_neg]
      rw [cg_ow_fi hr2 hc hj hn]
      exact fun z => hq z.1
end
section
set_option maxRecDepth 20000 in
theorem ggX0_init_X2_init : GoodIn wsX0_init wsX2_init := goodIn_r _ [11, 12, 2, 3, 13, 14, 15, 16, 17, 18, 19, 20, 21, 22, 23, 24, 25, 26, 30, 31, 32, 33, 34, 35, 36, 37, 38, 39, 40, 41] (by decide +kernel) (by decide +kernel)
set_option maxRecDepth 20000 in
theorem gX0_init_X2_init_n24 : GoodIn wsX0_init (wsX2_init) := ggX0_init_X2_init
theorem dX0_init_0 : decode cX0_init 0 = .ok (.aload_n 0, 1) := by decide +kernel
theorem dX0_init_1 : decode cX0_init 1 = .ok (.invokespecial 3, 3) := by decide +kernel
theorem dX0_init_4 : decode cX0_init 4 = .ok (.aload_n 0, 1) := by decide +kernel
theorem dX0_init_5 : decode cX0_init 5 = .ok (.iconst 5, 1) := by decide +kernel
theorem dX0_init_6 : decode cX0_init 6 = .ok (.anewarray 11, 3) := by decide +kernel
theorem dX0_init_9 : decode cX0_init 9 = .ok (.putfield 13, 3) := by decide +kernel
theorem dX0_init_12 : decode cX0_init 12 = .ok (.aload_n 0, 1) := by decide +kernel
theorem dX0_init_13 : decode cX0_init 13 = .ok (.iconst 0, 1) := by decide +kernel
theorem dX0_init_14 : decode cX0_init 14 = .ok (.putfield 17, 3) := by decide +kernel
theorem dX0_init_17 : decode cX0_init 17 = .ok (.aload_n 0, 1) := by decide +kernel
theorem dX0_init_18 : decode cX0_init 18 = .ok (.iconst 0, 1) := by decide +kernel
theorem dX0_init_19 : decode cX0_init 19 = .ok (.putfield 21, 3) := by decide +kernel
theorem dX0_init_22 : decode cX0_init 22 = .ok (.iconst 0, 1) := by decide +kernel
theorem dX0_init_23 : decode cX0_init 23 = .ok (.istore_n 1, 1) := by decide +kernel
theorem dX0_init_24 : decode cX0_init 24 = .ok (.iload_n 1, 1) := by decide +kernel
theorem dX0_init_25 : decode cX0_init 25 = .ok (.iconst 5, 1) := by decide +kernel
theorem dX0_init_26 : decode cX0_init 26 = .ok (.if_icmp .ge 22, 3) := by decide +kernel
theorem dX0_init_29 : decode cX0_init 29 = .ok (.aload_n 0, 1) := by decide +kernel
theorem dX0_init_30 : decode cX0_init 30 = .ok (.getfield 13, 3) := by decide +kernel
theorem dX0_init_33 : decode cX0_init 33 = .ok (.iload_n 1, 1) := by decide +kernel
theorem dX0_init_34 : decode cX0_init 34 = .ok (.new 11, 3) := by decide +kernel
theorem dX0_init_37 : decode cX0_init 37 = .ok (.dup, 1) := by decide +kernel
theorem dX0_init_38 : decode cX0_init 38 = .ok (.invokespecial 24, 3) := by decide +kernel
theorem dX0_init_41 : decode cX0_init 41 = .ok (.aastore, 1) := by decide +kernel
theorem dX0_init_42 : decode cX0_init 42 = .ok (.iinc 1 1, 3) := by decide +kernel
theorem dX0_init_45 : decode cX0_init 45 = .ok (.goto (-21), 3) := by decide +kernel
theorem dX0_init_48 : decode cX0_init 48 = .ok (.return_, 1) := by decide +kernel
set_option maxRecDepth 20000 in
theorem ggX0_prepare_X2_copyFrom : GoodIn wsX0_prepare wsX2_copyFrom := goodIn_r _ [7, 8, 9, 10, 11, 12, 13, 14, 15, 16, 17, 18, 19, 20, 21, 6, 22, 23, 24, 25, 26, 27, 28, 29, 30, 31, 32, 33, 37, 38, 39, 40, 41, 42, 43, 44, 45, 46, 47, 48] (by decide +kernel) (by decide +kernel)
set_option maxRecDepth 20000 in
theorem gX0_prepare_X2_copyFrom : GoodIn wsX0_prepare (wsV RX0 25 RX2 yX2_copyFrom wsX2_copyFrom) := goodIn_app (goodIn_of _ (by decide +kernel)) ggX0_prepare_X2_copyFrom
theorem dX0_prepare_0 : decode cX0_prepare 0 = .ok (.aload_n 0, 1) := by decide +kernel
theorem dX0_prepare_1 : decode cX0_prepare 1 = .ok (.getfield 13, 3) := by decide +kernel
theorem dX0_prepare_4 : decode cX0_prepare 4 = .ok (.aload_n 0, 1) := by decide +kernel
theorem dX0_prepare_5 : decode cX0_prepare 5 = .ok (.getfield 17, 3) := by decide +kernel
theorem dX0_prepare_8 : decode cX0_prepare 8 = .ok (.aaload, 1) := by decide +kernel
theorem dX0_prepare_9 : decode cX0_prepare 9 = .ok (.aload_n 1, 1) := by decide +kernel
theorem dX0_prepare_10 : decode cX0_prepare 10 = .ok (.invokevirtual 25, 3) := by decide +kernel
theorem dX0_prepare_13 : decode cX0_prepare 13 = .ok (.return_, 1) := by decide +kernel
set_option maxRecDepth 20000 in
theorem ggX0_restorePrepared_X2_copyFrom : GoodIn wsX0_restorePrepared wsX2_copyFrom := goodIn_r _ [7, 8, 9, 10, 11, 12, 13, 14, 15, 16, 17, 18, 19, 20, 21, 6, 22, 23, 24, 25, 26, 27, 28, 29, 30, 31, 32, 33, 37, 38, 39, 40, 41, 42, 43, 44, 45, 46, 47, 48] (by decide +kernel) (by decide +kernel)
set_option maxRecDepth 20000 in
theorem gX0_restorePrepared_X2_copyFrom : GoodIn wsX0_restorePrepared (wsV RX0 25 RX2 yX2_copyFrom wsX2_copyFrom) := goodIn_app (goodIn_of _ (by decide +kernel)) ggX0_restorePrepared_X2_copyFrom
theorem dX0_restorePrepared_0 : decode cX0_restorePrepared 0 = .ok (.aload_n 1, 1) := by decide +kernel
theorem dX0_restorePrepared_1 : decode cX0_restorePrepared 1 = .ok (.aload_n 0, 1) := by decide +kernel
theorem dX0_restorePrepared_2 : decode cX0_restorePrepared 2 = .ok (.getfield 13, 3) := by decide +kernel
theorem dX0_restorePrepared_5 : decode cX0_restorePrepared 5 = .ok (.aload_n 0, 1) := by decide +kernel
theorem dX0_restorePrepared_6 : decode cX0_restorePrepared 6 = .ok (.getfield 17, 3) := by decide +kernel
theorem dX0_restorePrepared_9 : decode cX0_restorePrepared 9 = .ok (.aaload, 1) := by decide +kernel
theorem dX0_restorePrepared_10 : decode cX0_restorePrepared 10 = .ok (.invokevirtual 25, 3) := by decide +kernel
theorem dX0_restorePrepared_13 : decode cX0_restorePrepared 13 = .ok (.return_, 1) := by decide +kernel
theorem dX0_keepPrepared_0 : decode cX0_keepPrepared 0 = .ok (.aload_n 0, 1) := by decide +kernel
theorem dX0_keepPrepared_1 : decode cX0_keepPrepared 1 = .ok (.aload_n 0, 1) := by decide +kernel
theorem dX0_keepPrepared_2 : decode cX0_keepPrepared 2 = .ok (.getfield 17, 3) := by decide +kernel
theorem dX0_keepPrepared_5 : decode cX0_keepPrepared 5 = .ok (.iconst 1, 1) := by decide +kernel
theorem dX0_keepPrepared_6 : decode cX0_keepPrepared 6 = .ok (.iadd, 1) := by decide +kernel
theorem dX0_keepPrepared_7 : decode cX0_keepPrepared 7 = .ok (.iconst 5, 1) := by decide +kernel
theorem dX0_keepPrepared_8 : decode cX0_keepPrepared 8 = .ok (.irem, 1) := by decide +kernel
theorem dX0_keepPrepared_9 : decode cX0_keepPrepared 9 = .ok (.putfield 17, 3) := by decide +kernel
theorem dX0_keepPrepared_12 : decode cX0_keepPrepared 12 = .ok (.aload_n 0, 1) := by decide +kernel
theorem dX0_keepPrepared_13 : decode cX0_keepPrepared 13 = .ok (.aload_n 0, 1) := by decide +kernel
theorem dX0_keepPrepared_14 : decode cX0_keepPrepared 14 = .ok (.getfield 21, 3) := by decide +kernel
theorem dX0_keepPrepared_17 : decode cX0_keepPrepared 17 = .ok (.iconst 1, 1) := by decide +kernel
theorem dX0_keepPrepared_18 : decode cX0_keepPrepared 18 = .ok (.iadd, 1) := by decide +kernel
theorem dX0_keepPrepared_19 : decode cX0_keepPrepared 19 = .ok (.iconst 4, 1) := by decide +kernel
theorem dX0_keepPrepared_20 : decode cX0_keepPrepared 20 = .ok (.invokestatic 29, 3) := by decide +kernel
theorem dX0_keepPrepared_23 : decode cX0_keepPrepared 23 = .ok (.putfield 21, 3) := by decide +kernel
theorem dX0_keepPrepared_26 : decode cX0_keepPrepared 26 = .ok (.return_, 1) := by decide +kernel
set_option maxRecDepth 20000 in
theorem ggX0_restoreNewest_X2_copyFrom : GoodIn wsX0_restoreNewest wsX2_copyFrom := goodIn_r _ [8, 9, 10, 11, 12, 13, 14, 15, 16, 17, 18, 19, 20, 21, 22, 7, 23, 24, 25, 26, 27, 28, 29, 30, 31, 32, 33, 34, 38, 39, 40, 41, 42, 43, 44, 45, 46, 47, 48, 49] (by decide +kernel) (by decide +kernel)
set_option maxRecDepth 20000 in
theorem gX0_restoreNewest_X2_copyFrom : GoodIn wsX0_restoreNewest (wsV RX0 25 RX2 yX2_copyFrom wsX2_copyFrom) := goodIn_app (goodIn_of _ (by decide +kernel)) ggX0_restoreNewest_X2_copyFrom
theorem dX0_restoreNewest_0 : decode cX0_restoreNewest 0 = .ok (.aload_n 0, 1) := by decide +kernel
theorem dX0_restoreNewest_1 : decode cX0_restoreNewest 1 = .ok (.getfield 21, 3) := by decide +kernel
theorem dX0_restoreNewest_4 : decode cX0_restoreNewest 4 = .ok (.ifCond .ne 5, 3) := by decide +kernel
theorem dX0_restoreNewest_7 : decode cX0_restoreNewest 7 = .ok (.iconst 0, 1) := by decide +kernel
theorem dX0_restoreNewest_8 : decode cX0_restoreNewest 8 = .ok (.ireturn, 1) := by decide +kernel
theorem dX0_restoreNewest_9 : decode cX0_restoreNewest 9 = .ok (.aload_n 0, 1) := by decide +kernel
theorem dX0_restoreNewest_10 : decode cX0_restoreNewest 10 = .ok (.aload_n 0, 1) := by decide +kernel
theorem dX0_restoreNewest_11 : decode cX0_restoreNewest 11 = .ok (.getfield 17, 3) := by decide +kernel
theorem dX0_restoreNewest_14 : decode cX0_restoreNewest 14 = .ok (.iconst 5, 1) := by decide +kernel
theorem dX0_restoreNewest_15 : decode cX0_restoreNewest 15 = .ok (.iadd, 1) := by decide +kernel
theorem dX0_restoreNewest_16 : decode cX0_restoreNewest 16 = .ok (.iconst 1, 1) := by decide +kernel
theorem dX0_restoreNewest_17 : decode cX0_restoreNewest 17 = .ok (.isub, 1) := by decide +kernel
theorem dX0_restoreNewest_18 : decode cX0_restoreNewest 18 = .ok (.iconst 5, 1) := by decide +kernel
theorem dX0_restoreNewest_19 : decode cX0_restoreNewest 19 = .ok (.irem, 1) := by decide +kernel
theorem dX0_restoreNewest_20 : decode cX0_restoreNewest 20 = .ok (.putfield 17, 3) := by decide +kernel
theorem dX0_restoreNewest_23 : decode cX0_restoreNewest 23 = .ok (.aload_n 0, 1) := by decide +kernel
theorem dX0_restoreNewest_24 : decode cX0_restoreNewest 24 = .ok (.dup, 1) := by decide +kernel
theorem dX0_restoreNewest_25 : decode cX0_restoreNewest 25 = .ok (.getfield 21, 3) := by decide +kernel
theorem dX0_restoreNewest_28 : decode cX0_restoreNewest 28 = .ok (.iconst 1, 1) := by decide +kernel
theorem dX0_restoreNewest_29 : decode cX0_restoreNewest 29 = .ok (.isub, 1) := by decide +kernel
theorem dX0_restoreNewest_30 : decode cX0_restoreNewest 30 = .ok (.putfield 21, 3) := by decide +kernel
theorem dX0_restoreNewest_33 : decode cX0_restoreNewest 33 = .ok (.aload_n 1, 1) := by decide +kernel
theorem dX0_restoreNewest_34 : decode cX0_restoreNewest 34 = .ok (.aload_n 0, 1) := by decide +kernel
theorem dX0_restoreNewest_35 : decode cX0_restoreNewest 35 = .ok (.getfield 13, 3) := by decide +kernel
theorem dX0_restoreNewest_38 : decode cX0_restoreNewest 38 = .ok (.aload_n 0, 1) := by decide +kernel
theorem dX0_restoreNewest_39 : decode cX0_restoreNewest 39 = .ok (.getfield 17, 3) := by decide +kernel
theorem dX0_restoreNewest_42 : decode cX0_restoreNewest 42 = .ok (.aaload, 1) := by decide +kernel
theorem dX0_restoreNewest_43 : decode cX0_restoreNewest 43 = .ok (.invokevirtual 25, 3) := by decide +kernel
theorem dX0_restoreNewest_46 : decode cX0_restoreNewest 46 = .ok (.iconst 1, 1) := by decide +kernel
theorem dX0_restoreNewest_47 : decode cX0_restoreNewest 47 = .ok (.ireturn, 1) := by decide +kernel
theorem dX1_init_0 : decode cX1_init 0 = .ok (.aload_n 0, 1) := by decide +kernel
theorem dX1_init_1 : decode cX1_init 1 = .ok (.invokespecial 3, 3) := by decide +kernel
theorem dX1_init_4 : decode cX1_init 4 = .ok (.aload_n 0, 1) := by decide +kernel
theorem dX1_init_5 : decode cX1_init 5 = .ok (.bipush 100, 2) := by decide +kernel
theorem dX1_init_7 : decode cX1_init 7 = .ok (.newarray .int, 2) := by decide +kernel
theorem dX1_init_9 : decode cX1_init 9 = .ok (.putfield 9, 3) := by decide +kernel
theorem dX1_init_12 : decode cX1_init 12 = .ok (.aload_n 0, 1) := by decide +kernel
theorem dX1_init_13 : decode cX1_init 13 = .ok (.iconst 0, 1) := by decide +kernel
theorem dX1_init_14 : decode cX1_init 14 = .ok (.putfield 15, 3) := by decide +kernel
theorem dX1_init_17 : decode cX1_init 17 = .ok (.aload_n 0, 1) := by decide +kernel
theorem dX1_init_18 : decode cX1_init 18 = .ok (.bipush 34, 2) := by decide +kernel
theorem dX1_init_20 : decode cX1_init 20 = .ok (.newarray .int, 2) := by decide +kernel
theorem dX1_init_22 : decode cX1_init 22 = .ok (.putfield 19, 3) := by decide +kernel
theorem dX1_init_25 : decode cX1_init 25 = .ok (.aload_n 0, 1) := by decide +kernel
theorem dX1_init_26 : decode cX1_init 26 = .ok (.bipush 34, 2) := by decide +kernel
theorem dX1_init_28 : decode cX1_init 28 = .ok (.iconst 4, 1) := by decide +kernel
theorem dX1_init_29 : decode cX1_init 29 = .ok (.multianewarray 22 2, 4) := by decide +kernel
theorem dX1_init_33 : decode cX1_init 33 = .ok (.putfield 24, 3) := by decide +kernel
theorem dX1_init_36 : decode cX1_init 36 = .ok (.aload_n 0, 1) := by decide +kernel
theorem dX1_init_37 : decode cX1_init 37 = .ok (.iconst 0, 1) := by decide +kernel
theorem dX1_init_38 : decode cX1_init 38 = .ok (.putfield 27, 3) := by decide +kernel
theorem dX1_init_41 : decode cX1_init 41 = .ok (.aload_n 0, 1) := by decide +kernel
theorem dX1_init_42 : decode cX1_init 42 = .ok (.iconst 0, 1) := by decide +kernel
theorem dX1_init_43 : decode cX1_init 43 = .ok (.putfield 30, 3) := by decide +kernel
theorem dX1_init_46 : decode cX1_init 46 = .ok (.aload_n 0, 1) := by decide +kernel
theorem dX1_init_47 : decode cX1_init 47 = .ok (.iconst 0, 1) := by decide +kernel
theorem dX1_init_48 : decode cX1_init 48 = .ok (.putfield 34, 3) := by decide +kernel
theorem dX1_init_51 : decode cX1_init 51 = .ok (.aload_n 0, 1) := by decide +kernel
theorem dX1_init_52 : decode cX1_init 52 = .ok (.iconst 0, 1) := by decide +kernel
theorem dX1_init_53 : decode cX1_init 53 = .ok (.putfield 37, 3) := by decide +kernel
theorem dX1_init_56 : decode cX1_init 56 = .ok (.return_, 1) := by decide +kernel
theorem dX1_add_0 : decode cX1_add 0 = .ok (.aload_n 0, 1) := by decide +kernel
theorem dX1_add_1 : decode cX1_add 1 = .ok (.getfield 15, 3) := by decide +kernel
theorem dX1_add_4 : decode cX1_add 4 = .ok (.bipush 100, 2) := by decide +kernel
theorem dX1_add_6 : decode cX1_add 6 = .ok (.if_icmp .lt 6, 3) := by decide +kernel
theorem dX1_add_9 : decode cX1_add 9 = .ok (.bipush (-4), 2) := by decide +kernel
theorem dX1_add_11 : decode cX1_add 11 = .ok (.ireturn, 1) := by decide +kernel
theorem dX1_add_12 : decode cX1_add 12 = .ok (.aload_n 0, 1) := by decide +kernel
theorem dX1_add_13 : decode cX1_add 13 = .ok (.getfield 9, 3) := by decide +kernel
theorem dX1_add_16 : decode cX1_add 16 = .ok (.aload_n 0, 1) := by decide +kernel
theorem dX1_add_17 : decode cX1_add 17 = .ok (.getfield 15, 3) := by decide +kernel
theorem dX1_add_20 : decode cX1_add 20 = .ok (.iload_n 1, 1) := by decide +kernel
theorem dX1_add_21 : decode cX1_add 21 = .ok (.iastore, 1) := by decide +kernel
theorem dX1_add_22 : decode cX1_add 22 = .ok (.aload_n 0, 1) := by decide +kernel
theorem dX1_add_23 : decode cX1_add 23 = .ok (.dup, 1) := by decide +kernel
theorem dX1_add_24 : decode cX1_add 24 = .ok (.getfield 15, 3) := by decide +kernel
theorem dX1_add_27 : decode cX1_add 27 = .ok (.iconst 1, 1) := by decide +kernel
theorem dX1_add_28 : decode cX1_add 28 = .ok (.iadd, 1) := by decide +kernel
theorem dX1_add_29 : decode cX1_add 29 = .ok (.putfield 15, 3) := by decide +kernel
theorem dX1_add_32 : decode cX1_add 32 = .ok (.aload_n 0, 1) := by decide +kernel
theorem dX1_add_33 : decode cX1_add 33 = .ok (.getfield 15, 3) := by decide +kernel
theorem dX1_add_36 : decode cX1_add 36 = .ok (.ireturn, 1) := by decide +kernel
set_option maxRecDepth 20000 in
theorem ggX1_parse_X1_accepts : GoodIn wsX1_parse wsX1_accepts := goodIn_r _ [9, 10, 2, 11, 12, 13, 8, 14, 1, 15, 16, 17, 18, 19, 20, 21, 22, 23, 24, 25, 26, 27, 28, 29, 30, 31, 32, 33, 34, 35, 36] (by decide +kernel) (by decide +kernel)
set_option maxRecDepth 20000 in
theorem gX1_parse_X1_accepts : GoodIn wsX1_parse (wsV RX1 40 RX1 yX1_accepts wsX1_accepts) := goodIn_app (goodIn_of _ (by decide +kernel)) ggX1_parse_X1_accepts
theorem dX1_parse_0 : decode cX1_parse 0 = .ok (.aload_n 0, 1) := by decide +kernel
theorem dX1_parse_1 : decode cX1_parse 1 = .ok (.iconst 0, 1) := by decide +kernel
theorem dX1_parse_2 : decode cX1_parse 2 = .ok (.putfield 27, 3) := by decide +kernel
theorem dX1_parse_5 : decode cX1_parse 5 = .ok (.aload_n 0, 1) := by decide +kernel
theorem dX1_parse_6 : decode cX1_parse 6 = .ok (.iconst 0, 1) := by decide +kernel
theorem dX1_parse_7 : decode cX1_parse 7 = .ok (.putfield 30, 3) := by decide +kernel
theorem dX1_parse_10 : decode cX1_parse 10 = .ok (.iconst 0, 1) := by decide +kernel
theorem dX1_parse_11 : decode cX1_parse 11 = .ok (.istore_n 1, 1) := by decide +kernel
theorem dX1_parse_12 : decode cX1_parse 12 = .ok (.iload_n 1, 1) := by decide +kernel
theorem dX1_parse_13 : decode cX1_parse 13 = .ok (.aload_n 0, 1) := by decide +kernel
theorem dX1_parse_14 : decode cX1_parse 14 = .ok (.getfield 15, 3) := by decide +kernel
theorem dX1_parse_17 : decode cX1_parse 17 = .ok (.if_icmp .ge 24, 3) := by decide +kernel
theorem dX1_parse_20 : decode cX1_parse 20 = .ok (.aload_n 0, 1) := by decide +kernel
theorem dX1_parse_21 : decode cX1_parse 21 = .ok (.aload_n 0, 1) := by decide +kernel
theorem dX1_parse_22 : decode cX1_parse 22 = .ok (.getfield 9, 3) := by decide +kernel
theorem dX1_parse_25 : decode cX1_parse 25 = .ok (.iload_n 1, 1) := by decide +kernel
theorem dX1_parse_26 : decode cX1_parse 26 = .ok (.iaload, 1) := by decide +kernel
theorem dX1_parse_27 : decode cX1_parse 27 = .ok (.invokevirtual 40, 3) := by decide +kernel
theorem dX1_parse_30 : decode cX1_parse 30 = .ok (.ifCond .ne 5, 3) := by decide +kernel
theorem dX1_parse_33 : decode cX1_parse 33 = .ok (.iload_n 1, 1) := by decide +kernel
theorem dX1_parse_34 : decode cX1_parse 34 = .ok (.ireturn, 1) := by decide +kernel
theorem dX1_parse_35 : decode cX1_parse 35 = .ok (.iinc 1 1, 3) := by decide +kernel
theorem dX1_parse_38 : decode cX1_parse 38 = .ok (.goto (-26), 3) := by decide +kernel
theorem dX1_parse_41 : decode cX1_parse 41 = .ok (.aload_n 0, 1) := by decide +kernel
theorem dX1_parse_42 : decode cX1_parse 42 = .ok (.getfield 30, 3) := by decide +kernel
theorem dX1_parse_45 : decode cX1_parse 45 = .ok (.ifCond .ne 10, 3) := by decide +kernel
theorem dX1_parse_48 : decode cX1_parse 48 = .ok (.aload_n 0, 1) := by decide +kernel
theorem dX1_parse_49 : decode cX1_parse 49 = .ok (.getfield 27, 3) := by decide +kernel
theorem dX1_parse_52 : decode cX1_parse 52 = .ok (.ifCond .ne 10, 3) := by decide +kernel
theorem dX1_parse_55 : decode cX1_parse 55 = .ok (.aload_n 0, 1) := by decide +kernel
theorem dX1_parse_56 : decode cX1_parse 56 = .ok (.getfield 15, 3) := by decide +kernel
theorem dX1_parse_59 : decode cX1_parse 59 = .ok (.goto 4, 3) := by decide +kernel
theorem dX1_parse_62 : decode cX1_parse 62 = .ok (.iconst (-1), 1) := by decide +kernel
theorem dX1_parse_63 : decode cX1_parse 63 = .ok (.ireturn, 1) := by decide +kernel
set_option maxRecDepth 20000 in
theorem ggX1_accepts_X1_beginsCommand : GoodIn wsX1_accepts wsX1_beginsCommand := goodIn_r _ [7, 8, 9, 2, 10, 1, 11, 12, 6, 13, 23, 24, 25, 26, 27, 28, 29, 30] (by decide +kernel) (by decide +kernel)
set_option maxRecDepth 20000 in
theorem gX1_accepts_X1_beginsCommand : GoodIn wsX1_accepts (wsV RX1 44 RX1 yX1_beginsCommand wsX1_beginsCommand) := goodIn_app (goodIn_of _ (by decide +kernel)) ggX1_accepts_X1_beginsCommand
set_option maxRecDepth 20000 in
theorem ggX1_accepts_X1_endsCommand : GoodIn wsX1_accepts wsX1_endsCommand := goodIn_r _ [17, 10, 9, 8, 2, 11, 12, 6, 13, 23, 24, 25, 26, 27, 28, 29, 30] (by decide +kernel) (by decide +kernel)
set_option maxRecDepth 20000 in
theorem gX1_accepts_X1_endsCommand : GoodIn wsX1_accepts (wsV RX1 47 RX1 yX1_endsCommand wsX1_endsCommand) := goodIn_app (goodIn_of _ (by decide +kernel)) ggX1_accepts_X1_endsCommand
set_option maxRecDepth 20000 in
theorem ggX1_accepts_X1_takesDigit : GoodIn wsX1_accepts wsX1_takesDigit := goodIn_r _ [21, 1, 22, 8, 10, 9, 11, 12, 6, 13, 23, 24, 25, 26, 27, 28, 29, 30] (by decide +kernel) (by decide +kernel)
set_option maxRecDepth 20000 in
theorem gX1_accepts_X1_takesDigit : GoodIn wsX1_accepts (wsV RX1 51 RX1 yX1_takesDigit wsX1_takesDigit) := goodIn_app (goodIn_of _ (by decide +kernel)) ggX1_accepts_X1_takesDigit
theorem dX1_accepts_0 : decode cX1_accepts 0 = .ok (.iload_n 1, 1) := by decide +kernel
theorem dX1_accepts_1 : decode cX1_accepts 1 = .ok (.bipush 32, 2) := by decide +kernel
theorem dX1_accepts_3 : decode cX1_accepts 3 = .ok (.if_icmp .ne 10, 3) := by decide +kernel
theorem dX1_accepts_6 : decode cX1_accepts 6 = .ok (.aload_n 0, 1) := by decide +kernel
theorem dX1_accepts_7 : decode cX1_accepts 7 = .ok (.iconst 0, 1) := by decide +kernel
theorem dX1_accepts_8 : decode cX1_accepts 8 = .ok (.putfield 37, 3) := by decide +kernel
theorem dX1_accepts_11 : decode cX1_accepts 11 = .ok (.iconst 1, 1) := by decide +kernel
theorem dX1_accepts_12 : decode cX1_accepts 12 = .ok (.ireturn, 1) := by decide +kernel
theorem dX1_accepts_13 : decode cX1_accepts 13 = .ok (.aload_n 0, 1) := by decide +kernel
theorem dX1_accepts_14 : decode cX1_accepts 14 = .ok (.getfield 30, 3) := by decide +kernel
theorem dX1_accepts_17 : decode cX1_accepts 17 = .ok (.ifCond .ne 9, 3) := by decide +kernel
theorem dX1_accepts_20 : decode cX1_accepts 20 = .ok (.aload_n 0, 1) := by decide +kernel
theorem dX1_accepts_21 : decode cX1_accepts 21 = .ok (.iload_n 1, 1) := by decide +kernel
theorem dX1_accepts_22 : decode cX1_accepts 22 = .ok (.invokevirtual 44, 3) := by decide +kernel
theorem dX1_accepts_25 : decode cX1_accepts 25 = .ok (.ireturn, 1) := by decide +kernel
theorem dX1_accepts_26 : decode cX1_accepts 26 = .ok (.iload_n 1, 1) := by decide +kernel
theorem dX1_accepts_27 : decode cX1_accepts 27 = .ok (.bipush 59, 2) := by decide +kernel
theorem dX1_accepts_29 : decode cX1_accepts 29 = .ok (.if_icmp .ne 8, 3) := by decide +kernel
theorem dX1_accepts_32 : decode cX1_accepts 32 = .ok (.aload_n 0, 1) := by decide +kernel
theorem dX1_accepts_33 : decode cX1_accepts 33 = .ok (.invokevirtual 47, 3) := by decide +kernel
theorem dX1_accepts_36 : decode cX1_accepts 36 = .ok (.ireturn, 1) := by decide +kernel
theorem dX1_accepts_37 : decode cX1_accepts 37 = .ok (.iload_n 1, 1) := by decide +kernel
theorem dX1_accepts_38 : decode cX1_accepts 38 = .ok (.bipush 48, 2) := by decide +kernel
theorem dX1_accepts_40 : decode cX1_accepts 40 = .ok (.if_icmp .lt 24, 3) := by decide +kernel
theorem dX1_accepts_43 : decode cX1_accepts 43 = .ok (.iload_n 1, 1) := by decide +kernel
theorem dX1_accepts_44 : decode cX1_accepts 44 = .ok (.bipush 57, 2) := by decide +kernel
theorem dX1_accepts_46 : decode cX1_accepts 46 = .ok (.if_icmp .gt 18, 3) := by decide +kernel
theorem dX1_accepts_49 : decode cX1_accepts 49 = .ok (.aload_n 0, 1) := by decide +kernel
theorem dX1_accepts_50 : decode cX1_accepts 50 = .ok (.iload_n 1, 1) := by decide +kernel
theorem dX1_accepts_51 : decode cX1_accepts 51 = .ok (.bipush 48, 2) := by decide +kernel
theorem dX1_accepts_53 : decode cX1_accepts 53 = .ok (.isub, 1) := by decide +kernel
theorem dX1_accepts_54 : decode cX1_accepts 54 = .ok (.invokevirtual 51, 3) := by decide +kernel
theorem dX1_accepts_57 : decode cX1_accepts 57 = .ok (.ifCond .eq 7, 3) := by decide +kernel
theorem dX1_accepts_60 : decode cX1_accepts 60 = .ok (.iconst 1, 1) := by decide +kernel
theorem dX1_accepts_61 : decode cX1_accepts 61 = .ok (.goto 4, 3) := by decide +kernel
theorem dX1_accepts_64 : decode cX1_accepts 64 = .ok (.iconst 0, 1) := by decide +kernel
theorem dX1_accepts_65 : decode cX1_accepts 65 = .ok (.ireturn, 1) := by decide +kernel
set_option maxRecDepth 20000 in
theorem ggX1_beginsCommand_X1_numbersAfter : GoodIn wsX1_beginsCommand wsX1_numbersAfter := goodIn_r _ [9] (by decide +kernel) (by decide +kernel)
set_option maxRecDepth 20000 in
theorem gX1_beginsCommand_X1_numbersAfter : GoodIn wsX1_beginsCommand (va_wsS RX1 54 yX1_numbersAfter wsX1_numbersAfter) := goodIn_app (goodIn_of _ (by decide +kernel)) ggX1_beginsCommand_X1_numbersAfter
theorem dX1_beginsCommand_0 : decode cX1_beginsCommand 0 = .ok (.iload_n 1, 1) := by decide +kernel
theorem dX1_beginsCommand_1 : decode cX1_beginsCommand 1 = .ok (.invokestatic 54, 3) := by decide +kernel
theorem dX1_beginsCommand_4 : decode cX1_beginsCommand 4 = .ok (.ifCond .eq 12, 3) := by decide +kernel
theorem dX1_beginsCommand_7 : decode cX1_beginsCommand 7 = .ok (.aload_n 0, 1) := by decide +kernel
theorem dX1_beginsCommand_8 : decode cX1_beginsCommand 8 = .ok (.getfield 27, 3) := by decide +kernel
theorem dX1_beginsCommand_11 : decode cX1_beginsCommand 11 = .ok (.bipush 34, 2) := by decide +kernel
theorem dX1_beginsCommand_13 : decode cX1_beginsCommand 13 = .ok (.if_icmp .lt 5, 3) := by decide +kernel
theorem dX1_beginsCommand_16 : decode cX1_beginsCommand 16 = .ok (.iconst 0, 1) := by decide +kernel
theorem dX1_beginsCommand_17 : decode cX1_beginsCommand 17 = .ok (.ireturn, 1) := by decide +kernel
theorem dX1_beginsCommand_18 : decode cX1_beginsCommand 18 = .ok (.aload_n 0, 1) := by decide +kernel
theorem dX1_beginsCommand_19 : decode cX1_beginsCommand 19 = .ok (.getfield 19, 3) := by decide +kernel
theorem dX1_beginsCommand_22 : decode cX1_beginsCommand 22 = .ok (.aload_n 0, 1) := by decide +kernel
theorem dX1_beginsCommand_23 : decode cX1_beginsCommand 23 = .ok (.getfield 27, 3) := by decide +kernel
theorem dX1_beginsCommand_26 : decode cX1_beginsCommand 26 = .ok (.iload_n 1, 1) := by decide +kernel
theorem dX1_beginsCommand_27 : decode cX1_beginsCommand 27 = .ok (.iastore, 1) := by decide +kernel
theorem dX1_beginsCommand_28 : decode cX1_beginsCommand 28 = .ok (.aload_n 0, 1) := by decide +kernel
theorem dX1_beginsCommand_29 : decode cX1_beginsCommand 29 = .ok (.iconst 1, 1) := by decide +kernel
theorem dX1_beginsCommand_30 : decode cX1_beginsCommand 30 = .ok (.putfield 30, 3) := by decide +kernel
theorem dX1_beginsCommand_33 : decode cX1_beginsCommand 33 = .ok (.aload_n 0, 1) := by decide +kernel
theorem dX1_beginsCommand_34 : decode cX1_beginsCommand 34 = .ok (.iconst 0, 1) := by decide +kernel
theorem dX1_beginsCommand_35 : decode cX1_beginsCommand 35 = .ok (.putfield 34, 3) := by decide +kernel
theorem dX1_beginsCommand_38 : decode cX1_beginsCommand 38 = .ok (.aload_n 0, 1) := by decide +kernel
theorem dX1_beginsCommand_39 : decode cX1_beginsCommand 39 = .ok (.iconst 0, 1) := by decide +kernel
theorem dX1_beginsCommand_40 : decode cX1_beginsCommand 40 = .ok (.putfield 37, 3) := by decide +kernel
theorem dX1_beginsCommand_43 : decode cX1_beginsCommand 43 = .ok (.iconst 1, 1) := by decide +kernel
theorem dX1_beginsCommand_44 : decode cX1_beginsCommand 44 = .ok (.ireturn, 1) := by decide +kernel
set_option maxRecDepth 20000 in
theorem ggX1_endsCommand_X1_numbersAfter : GoodIn wsX1_endsCommand wsX1_numbersAfter := goodIn_r _ [8] (by decide +kernel) (by decide +kernel)
set_option maxRecDepth 20000 in
theorem gX1_endsCommand_X1_numbersAfter : GoodIn wsX1_endsCommand (va_wsS RX1 54 yX1_numbersAfter wsX1_numbersAfter) := goodIn_app (goodIn_of _ (by decide +kernel)) ggX1_endsCommand_X1_numbersAfter
theorem dX1_endsCommand_0 : decode cX1_endsCommand 0 = .ok (.aload_n 0, 1) := by decide +kernel
theorem dX1_endsCommand_1 : decode cX1_endsCommand 1 = .ok (.getfield 34, 3) := by decide +kernel
theorem dX1_endsCommand_4 : decode cX1_endsCommand 4 = .ok (.aload_n 0, 1) := by decide +kernel
theorem dX1_endsCommand_5 : decode cX1_endsCommand 5 = .ok (.getfield 19, 3) := by decide +kernel
theorem dX1_endsCommand_8 : decode cX1_endsCommand 8 = .ok (.aload_n 0, 1) := by decide +kernel
theorem dX1_endsCommand_9 : decode cX1_endsCommand 9 = .ok (.getfield 27, 3) := by decide +kernel
theorem dX1_endsCommand_12 : decode cX1_endsCommand 12 = .ok (.iaload, 1) := by decide +kernel
theorem dX1_endsCommand_13 : decode cX1_endsCommand 13 = .ok (.invokestatic 54, 3) := by decide +kernel
theorem dX1_endsCommand_16 : decode cX1_endsCommand 16 = .ok (.if_icmp .ge 5, 3) := by decide +kernel
theorem dX1_endsCommand_19 : decode cX1_endsCommand 19 = .ok (.iconst 0, 1) := by decide +kernel
theorem dX1_endsCommand_20 : decode cX1_endsCommand 20 = .ok (.ireturn, 1) := by decide +kernel
theorem dX1_endsCommand_21 : decode cX1_endsCommand 21 = .ok (.aload_n 0, 1) := by decide +kernel
theorem dX1_endsCommand_22 : decode cX1_endsCommand 22 = .ok (.iconst 0, 1) := by decide +kernel
theorem dX1_endsCommand_23 : decode cX1_endsCommand 23 = .ok (.putfield 30, 3) := by decide +kernel
theorem dX1_endsCommand_26 : decode cX1_endsCommand 26 = .ok (.aload_n 0, 1) := by decide +kernel
theorem dX1_endsCommand_27 : decode cX1_endsCommand 27 = .ok (.dup, 1) := by decide +kernel
theorem dX1_endsCommand_28 : decode cX1_endsCommand 28 = .ok (.getfield 27, 3) := by decide +kernel
theorem dX1_endsCommand_31 : decode cX1_endsCommand 31 = .ok (.iconst 1, 1) := by decide +kernel
theorem dX1_endsCommand_32 : decode cX1_endsCommand 32 = .ok (.iadd, 1) := by decide +kernel
theorem dX1_endsCommand_33 : decode cX1_endsCommand 33 = .ok (.putfield 27, 3) := by decide +kernel
theorem dX1_endsCommand_36 : decode cX1_endsCommand 36 = .ok (.iconst 1, 1) := by decide +kernel
theorem dX1_endsCommand_37 : decode cX1_endsCommand 37 = .ok (.ireturn, 1) := by decide +kernel
set_option maxRecDepth 20000 in
theorem ggX1_takesDigit_X1_numbersAfter : GoodIn wsX1_takesDigit wsX1_numbersAfter := goodIn_r _ [9] (by decide +kernel) (by decide +kernel)
set_option maxRecDepth 20000 in
theorem gX1_takesDigit_X1_numbersAfter : GoodIn wsX1_takesDigit (va_wsS RX1 54 yX1_numbersAfter wsX1_numbersAfter) := goodIn_app (goodIn_of _ (by decide +kernel)) ggX1_takesDigit_X1_numbersAfter
theorem dX1_takesDigit_0 : decode cX1_takesDigit 0 = .ok (.aload_n 0, 1) := by decide +kernel
theorem dX1_takesDigit_1 : decode cX1_takesDigit 1 = .ok (.getfield 37, 3) := by decide +kernel
theorem dX1_takesDigit_4 : decode cX1_takesDigit 4 = .ok (.iconst 2, 1) := by decide +kernel
theorem dX1_takesDigit_5 : decode cX1_takesDigit 5 = .ok (.if_icmp .lt 5, 3) := by decide +kernel
theorem dX1_takesDigit_8 : decode cX1_takesDigit 8 = .ok (.iconst 0, 1) := by decide +kernel
theorem dX1_takesDigit_9 : decode cX1_takesDigit 9 = .ok (.ireturn, 1) := by decide +kernel
theorem dX1_takesDigit_10 : decode cX1_takesDigit 10 = .ok (.aload_n 0, 1) := by decide +kernel
theorem dX1_takesDigit_11 : decode cX1_takesDigit 11 = .ok (.getfield 24, 3) := by decide +kernel
theorem dX1_takesDigit_14 : decode cX1_takesDigit 14 = .ok (.aload_n 0, 1) := by decide +kernel
theorem dX1_takesDigit_15 : decode cX1_takesDigit 15 = .ok (.getfield 27, 3) := by decide +kernel
theorem dX1_takesDigit_18 : decode cX1_takesDigit 18 = .ok (.aaload, 1) := by decide +kernel
theorem dX1_takesDigit_19 : decode cX1_takesDigit 19 = .ok (.astore_n 2, 1) := by decide +kernel
theorem dX1_takesDigit_20 : decode cX1_takesDigit 20 = .ok (.aload_n 0, 1) := by decide +kernel
theorem dX1_takesDigit_21 : decode cX1_takesDigit 21 = .ok (.getfield 37, 3) := by decide +kernel
theorem dX1_takesDigit_24 : decode cX1_takesDigit 24 = .ok (.ifCond .ne 41, 3) := by decide +kernel
theorem dX1_takesDigit_27 : decode cX1_takesDigit 27 = .ok (.aload_n 0, 1) := by decide +kernel
theorem dX1_takesDigit_28 : decode cX1_takesDigit 28 = .ok (.getfield 34, 3) := by decide +kernel
theorem dX1_takesDigit_31 : decode cX1_takesDigit 31 = .ok (.aload_n 0, 1) := by decide +kernel
theorem dX1_takesDigit_32 : decode cX1_takesDigit 32 = .ok (.getfield 19, 3) := by decide +kernel
theorem dX1_takesDigit_35 : decode cX1_takesDigit 35 = .ok (.aload_n 0, 1) := by decide +kernel
theorem dX1_takesDigit_36 : decode cX1_takesDigit 36 = .ok (.getfield 27, 3) := by decide +kernel
theorem dX1_takesDigit_39 : decode cX1_takesDigit 39 = .ok (.iaload, 1) := by decide +kernel
theorem dX1_takesDigit_40 : decode cX1_takesDigit 40 = .ok (.invokestatic 54, 3) := by decide +kernel
theorem dX1_takesDigit_43 : decode cX1_takesDigit 43 = .ok (.if_icmp .lt 5, 3) := by decide +kernel
theorem dX1_takesDigit_46 : decode cX1_takesDigit 46 = .ok (.iconst 0, 1) := by decide +kernel
theorem dX1_takesDigit_47 : decode cX1_takesDigit 47 = .ok (.ireturn, 1) := by decide +kernel
theorem dX1_takesDigit_48 : decode cX1_takesDigit 48 = .ok (.aload_n 2, 1) := by decide +kernel
theorem dX1_takesDigit_49 : decode cX1_takesDigit 49 = .ok (.aload_n 0, 1) := by decide +kernel
theorem dX1_takesDigit_50 : decode cX1_takesDigit 50 = .ok (.getfield 34, 3) := by decide +kernel
theorem dX1_takesDigit_53 : decode cX1_takesDigit 53 = .ok (.iconst 0, 1) := by decide +kernel
theorem dX1_takesDigit_54 : decode cX1_takesDigit 54 = .ok (.iastore, 1) := by decide +kernel
theorem dX1_takesDigit_55 : decode cX1_takesDigit 55 = .ok (.aload_n 0, 1) := by decide +kernel
theorem dX1_takesDigit_56 : decode cX1_takesDigit 56 = .ok (.dup, 1) := by decide +kernel
theorem dX1_takesDigit_57 : decode cX1_takesDigit 57 = .ok (.getfield 34, 3) := by decide +kernel
theorem dX1_takesDigit_60 : decode cX1_takesDigit 60 = .ok (.iconst 1, 1) := by decide +kernel
theorem dX1_takesDigit_61 : decode cX1_takesDigit 61 = .ok (.iadd, 1) := by decide +kernel
theorem dX1_takesDigit_62 : decode cX1_takesDigit 62 = .ok (.putfield 34, 3) := by decide +kernel
theorem dX1_takesDigit_65 : decode cX1_takesDigit 65 = .ok (.aload_n 0, 1) := by decide +kernel
theorem dX1_takesDigit_66 : decode cX1_takesDigit 66 = .ok (.dup, 1) := by decide +kernel
theorem dX1_takesDigit_67 : decode cX1_takesDigit 67 = .ok (.getfield 37, 3) := by decide +kernel
theorem dX1_takesDigit_70 : decode cX1_takesDigit 70 = .ok (.iconst 1, 1) := by decide +kernel
theorem dX1_takesDigit_71 : decode cX1_takesDigit 71 = .ok (.iadd, 1) := by decide +kernel
theorem dX1_takesDigit_72 : decode cX1_takesDigit 72 = .ok (.putfield 37, 3) := by decide +kernel
theorem dX1_takesDigit_75 : decode cX1_takesDigit 75 = .ok (.aload_n 2, 1) := by decide +kernel
theorem dX1_takesDigit_76 : decode cX1_takesDigit 76 = .ok (.aload_n 0, 1) := by decide +kernel
theorem dX1_takesDigit_77 : decode cX1_takesDigit 77 = .ok (.getfield 34, 3) := by decide +kernel
theorem dX1_takesDigit_80 : decode cX1_takesDigit 80 = .ok (.iconst 1, 1) := by decide +kernel
theorem dX1_takesDigit_81 : decode cX1_takesDigit 81 = .ok (.isub, 1) := by decide +kernel
theorem dX1_takesDigit_82 : decode cX1_takesDigit 82 = .ok (.bipush 10, 2) := by decide +kernel
theorem dX1_takesDigit_84 : decode cX1_takesDigit 84 = .ok (.aload_n 2, 1) := by decide +kernel
theorem dX1_takesDigit_85 : decode cX1_takesDigit 85 = .ok (.aload_n 0, 1) := by decide +kernel
theorem dX1_takesDigit_86 : decode cX1_takesDigit 86 = .ok (.getfield 34, 3) := by decide +kernel
theorem dX1_takesDigit_89 : decode cX1_takesDigit 89 = .ok (.iconst 1, 1) := by decide +kernel
theorem dX1_takesDigit_90 : decode cX1_takesDigit 90 = .ok (.isub, 1) := by decide +kernel
theorem dX1_takesDigit_91 : decode cX1_takesDigit 91 = .ok (.iaload, 1) := by decide +kernel
theorem dX1_takesDigit_92 : decode cX1_takesDigit 92 = .ok (.imul, 1) := by decide +kernel
theorem dX1_takesDigit_93 : decode cX1_takesDigit 93 = .ok (.iload_n 1, 1) := by decide +kernel
theorem dX1_takesDigit_94 : decode cX1_takesDigit 94 = .ok (.iadd, 1) := by decide +kernel
theorem dX1_takesDigit_95 : decode cX1_takesDigit 95 = .ok (.iastore, 1) := by decide +kernel
theorem dX1_takesDigit_96 : decode cX1_takesDigit 96 = .ok (.iconst 1, 1) := by decide +kernel
theorem dX1_takesDigit_97 : decode cX1_takesDigit 97 = .ok (.ireturn, 1) := by decide +kernel
theorem dX1_numbersAfter_0 : decode cX1_numbersAfter 0 = .ok (.iload_n 0, 1) := by decide +kernel
theorem dX1_numbersAfter_1 : decode cX1_numbersAfter 1 = .ok (.lookupswitch 59 #[(102, 51), (103, 53), (114, 55), (115, 53), (119, 57)], 51) := by decide +kernel
theorem dX1_numbersAfter_52 : decode cX1_numbersAfter 52 = .ok (.iconst 1, 1) := by decide +kernel
theorem dX1_numbersAfter_53 : decode cX1_numbersAfter 53 = .ok (.ireturn, 1) := by decide +kernel
theorem dX1_numbersAfter_54 : decode cX1_numbersAfter 54 = .ok (.iconst 2, 1) := by decide +kernel
theorem dX1_numbersAfter_55 : decode cX1_numbersAfter 55 = .ok (.ireturn, 1) := by decide +kernel
theorem dX1_numbersAfter_56 : decode cX1_numbersAfter 56 = .ok (.iconst 3, 1) := by decide +kernel
theorem dX1_numbersAfter_57 : decode cX1_numbersAfter 57 = .ok (.ireturn, 1) := by decide +kernel
theorem dX1_numbersAfter_58 : decode cX1_numbersAfter 58 = .ok (.iconst 4, 1) := by decide +kernel
theorem dX1_numbersAfter_59 : decode cX1_numbersAfter 59 = .ok (.ireturn, 1) := by decide +kernel
theorem dX1_numbersAfter_60 : decode cX1_numbersAfter 60 = .ok (.iconst 0, 1) := by decide +kernel
theorem dX1_numbersAfter_61 : decode cX1_numbersAfter 61 = .ok (.ireturn, 1) := by decide +kernel
theorem dX2_init_0 : decode cX2_init 0 = .ok (.aload_n 0, 1) := by decide +kernel
theorem dX2_init_1 : decode cX2_init 1 = .ok (.invokespecial 3, 3) := by decide +kernel
theorem dX2_init_4 : decode cX2_init 4 = .ok (.aload_n 0, 1) := by decide +kernel
theorem dX2_init_5 : decode cX2_init 5 = .ok (.iconst 0, 1) := by decide +kernel
theorem dX2_init_6 : decode cX2_init 6 = .ok (.putfield 9, 3) := by decide +kernel
theorem dX2_init_9 : decode cX2_init 9 = .ok (.aload_n 0, 1) := by decide +kernel
theorem dX2_init_10 : decode cX2_init 10 = .ok (.bipush 60, 2) := by decide +kernel
theorem dX2_init_12 : decode cX2_init 12 = .ok (.newarray .int, 2) := by decide +kernel
theorem dX2_init_14 : decode cX2_init 14 = .ok (.putfield 15, 3) := by decide +kernel
theorem dX2_init_17 : decode cX2_init 17 = .ok (.aload_n 0, 1) := by decide +kernel
theorem dX2_init_18 : decode cX2_init 18 = .ok (.bipush 60, 2) := by decide +kernel
theorem dX2_init_20 : decode cX2_init 20 = .ok (.newarray .int, 2) := by decide +kernel
theorem dX2_init_22 : decode cX2_init 22 = .ok (.putfield 19, 3) := by decide +kernel
theorem dX2_init_25 : decode cX2_init 25 = .ok (.aload_n 0, 1) := by decide +kernel
theorem dX2_init_26 : decode cX2_init 26 = .ok (.bipush 60, 2) := by decide +kernel
theorem dX2_init_28 : decode cX2_init 28 = .ok (.newarray .int, 2) := by decide +kernel
theorem dX2_init_30 : decode cX2_init 30 = .ok (.putfield 22, 3) := by decide +kernel
theorem dX2_init_33 : decode cX2_init 33 = .ok (.aload_n 0, 1) := by decide +kernel
theorem dX2_init_34 : decode cX2_init 34 = .ok (.bipush 60, 2) := by decide +kernel
theorem dX2_init_36 : decode cX2_init 36 = .ok (.newarray .int, 2) := by decide +kernel
theorem dX2_init_38 : decode cX2_init 38 = .ok (.putfield 25, 3) := by decide +kernel
theorem dX2_init_41 : decode cX2_init 41 = .ok (.aload_n 0, 1) := by decide +kernel
theorem dX2_init_42 : decode cX2_init 42 = .ok (.bipush 60, 2) := by decide +kernel
theorem dX2_init_44 : decode cX2_init 44 = .ok (.newarray .int, 2) := by decide +kernel
theorem dX2_init_46 : decode cX2_init 46 = .ok (.putfield 28, 3) := by decide +kernel
theorem dX2_init_49 : decode cX2_init 49 = .ok (.aload_n 0, 1) := by decide +kernel
theorem dX2_init_50 : decode cX2_init 50 = .ok (.iconst 3, 1) := by decide +kernel
theorem dX2_init_51 : decode cX2_init 51 = .ok (.iconst 3, 1) := by decide +kernel
theorem dX2_init_52 : decode cX2_init 52 = .ok (.multianewarray 31 2, 4) := by decide +kernel
theorem dX2_init_56 : decode cX2_init 56 = .ok (.putfield 33, 3) := by decide +kernel
theorem dX2_init_59 : decode cX2_init 59 = .ok (.aload_n 0, 1) := by decide +kernel
theorem dX2_init_60 : decode cX2_init 60 = .ok (.iconst 3, 1) := by decide +kernel
theorem dX2_init_61 : decode cX2_init 61 = .ok (.newarray .int, 2) := by decide +kernel
theorem dX2_init_63 : decode cX2_init 63 = .ok (.putfield 36, 3) := by decide +kernel
theorem dX2_init_66 : decode cX2_init 66 = .ok (.aload_n 0, 1) := by decide +kernel
theorem dX2_init_67 : decode cX2_init 67 = .ok (.iconst 4, 1) := by decide +kernel
theorem dX2_init_68 : decode cX2_init 68 = .ok (.newarray .int, 2) := by decide +kernel
theorem dX2_init_70 : decode cX2_init 70 = .ok (.putfield 39, 3) := by decide +kernel
theorem dX2_init_73 : decode cX2_init 73 = .ok (.aload_n 0, 1) := by decide +kernel
theorem dX2_init_74 : decode cX2_init 74 = .ok (.iconst 4, 1) := by decide +kernel
theorem dX2_init_75 : decode cX2_init 75 = .ok (.iconst 3, 1) := by decide +kernel
theorem dX2_init_76 : decode cX2_init 76 = .ok (.multianewarray 31 2, 4) := by decide +kernel
theorem dX2_init_80 : decode cX2_init 80 = .ok (.putfield 42, 3) := by decide +kernel
theorem dX2_init_83 : decode cX2_init 83 = .ok (.aload_n 0, 1) := by decide +kernel
theorem dX2_init_84 : decode cX2_init 84 = .ok (.iconst 4, 1) := by decide +kernel
theorem dX2_init_85 : decode cX2_init 85 = .ok (.iconst 3, 1) := by decide +kernel
theorem dX2_init_86 : decode cX2_init 86 = .ok (.multianewarray 31 2, 4) := by decide +kernel
theorem dX2_init_90 : decode cX2_init 90 = .ok (.putfield 45, 3) := by decide +kernel
theorem dX2_init_93 : decode cX2_init 93 = .ok (.aload_n 0, 1) := by decide +kernel
theorem dX2_init_94 : decode cX2_init 94 = .ok (.iconst 4, 1) := by decide +kernel
theorem dX2_init_95 : decode cX2_init 95 = .ok (.newarray .int, 2) := by decide +kernel
theorem dX2_init_97 : decode cX2_init 97 = .ok (.putfield 48, 3) := by decide +kernel
theorem dX2_init_100 : decode cX2_init 100 = .ok (.return_, 1) := by decide +kernel
set_option maxRecDepth 20000 in
theorem ggX2_copyFrom_X2_copyRow : GoodIn wsX2_copyFrom wsX2_copyRow := goodIn_r _ [16, 17, 18, 19, 20, 21, 22, 23, 24] (by decide +kernel) (by decide +kernel)
set_option maxRecDepth 20000 in
theorem gX2_copyFrom_X2_copyRow : GoodIn wsX2_copyFrom (va_wsS RX2 51 yX2_copyRow wsX2_copyRow) := goodIn_app (goodIn_of _ (by decide +kernel)) ggX2_copyFrom_X2_copyRow
set_option maxRecDepth 20000 in
theorem ggX2_copyFrom_X2_copyRows : GoodIn wsX2_copyFrom wsX2_copyRows := goodIn_r _ [27, 13, 14, 15, 16, 17, 18, 19, 20, 21, 22, 23, 24] (by decide +kernel) (by decide +kernel)
set_option maxRecDepth 20000 in
theorem gX2_copyFrom_X2_copyRows : GoodIn wsX2_copyFrom (va_wsS RX2 55 yX2_copyRows wsX2_copyRows) := goodIn_app (goodIn_of _ (by decide +kernel)) ggX2_copyFrom_X2_copyRows
theorem dX2_copyFrom_0 : decode cX2_copyFrom 0 = .ok (.aload_n 0, 1) := by decide +kernel
theorem dX2_copyFrom_1 : decode cX2_copyFrom 1 = .ok (.aload_n 1, 1) := by decide +kernel
theorem dX2_copyFrom_2 : decode cX2_copyFrom 2 = .ok (.getfield 9, 3) := by decide +kernel
theorem dX2_copyFrom_5 : decode cX2_copyFrom 5 = .ok (.putfield 9, 3) := by decide +kernel
theorem dX2_copyFrom_8 : decode cX2_copyFrom 8 = .ok (.aload_n 1, 1) := by decide +kernel
theorem dX2_copyFrom_9 : decode cX2_copyFrom 9 = .ok (.getfield 15, 3) := by decide +kernel
theorem dX2_copyFrom_12 : decode cX2_copyFrom 12 = .ok (.aload_n 0, 1) := by decide +kernel
theorem dX2_copyFrom_13 : decode cX2_copyFrom 13 = .ok (.getfield 15, 3) := by decide +kernel
theorem dX2_copyFrom_16 : decode cX2_copyFrom 16 = .ok (.invokestatic 51, 3) := by decide +kernel
theorem dX2_copyFrom_19 : decode cX2_copyFrom 19 = .ok (.aload_n 1, 1) := by decide +kernel
theorem dX2_copyFrom_20 : decode cX2_copyFrom 20 = .ok (.getfield 19, 3) := by decide +kernel
theorem dX2_copyFrom_23 : decode cX2_copyFrom 23 = .ok (.aload_n 0, 1) := by decide +kernel
theorem dX2_copyFrom_24 : decode cX2_copyFrom 24 = .ok (.getfield 19, 3) := by decide +kernel
theorem dX2_copyFrom_27 : decode cX2_copyFrom 27 = .ok (.invokestatic 51, 3) := by decide +kernel
theorem dX2_copyFrom_30 : decode cX2_copyFrom 30 = .ok (.aload_n 1, 1) := by decide +kernel
theorem dX2_copyFrom_31 : decode cX2_copyFrom 31 = .ok (.getfield 22, 3) := by decide +kernel
theorem dX2_copyFrom_34 : decode cX2_copyFrom 34 = .ok (.aload_n 0, 1) := by decide +kernel
theorem dX2_copyFrom_35 : decode cX2_copyFrom 35 = .ok (.getfield 22, 3) := by decide +kernel
theorem dX2_copyFrom_38 : decode cX2_copyFrom 38 = .ok (.invokestatic 51, 3) := by decide +kernel
theorem dX2_copyFrom_41 : decode cX2_copyFrom 41 = .ok (.aload_n 1, 1) := by decide +kernel
theorem dX2_copyFrom_42 : decode cX2_copyFrom 42 = .ok (.getfield 25, 3) := by decide +kernel
theorem dX2_copyFrom_45 : decode cX2_copyFrom 45 = .ok (.aload_n 0, 1) := by decide +kernel
theorem dX2_copyFrom_46 : decode cX2_copyFrom 46 = .ok (.getfield 25, 3) := by decide +kernel
theorem dX2_copyFrom_49 : decode cX2_copyFrom 49 = .ok (.invokestatic 51, 3) := by decide +kernel
theorem dX2_copyFrom_52 : decode cX2_copyFrom 52 = .ok (.aload_n 1, 1) := by decide +kernel
theorem dX2_copyFrom_53 : decode cX2_copyFrom 53 = .ok (.getfield 28, 3) := by decide +kernel
theorem dX2_copyFrom_56 : decode cX2_copyFrom 56 = .ok (.aload_n 0, 1) := by decide +kernel
theorem dX2_copyFrom_57 : decode cX2_copyFrom 57 = .ok (.getfield 28, 3) := by decide +kernel
theorem dX2_copyFrom_60 : decode cX2_copyFrom 60 = .ok (.invokestatic 51, 3) := by decide +kernel
theorem dX2_copyFrom_63 : decode cX2_copyFrom 63 = .ok (.aload_n 1, 1) := by decide +kernel
theorem dX2_copyFrom_64 : decode cX2_copyFrom 64 = .ok (.getfield 33, 3) := by decide +kernel
theorem dX2_copyFrom_67 : decode cX2_copyFrom 67 = .ok (.aload_n 0, 1) := by decide +kernel
theorem dX2_copyFrom_68 : decode cX2_copyFrom 68 = .ok (.getfield 33, 3) := by decide +kernel
theorem dX2_copyFrom_71 : decode cX2_copyFrom 71 = .ok (.invokestatic 55, 3) := by decide +kernel
theorem dX2_copyFrom_74 : decode cX2_copyFrom 74 = .ok (.aload_n 1, 1) := by decide +kernel
theorem dX2_copyFrom_75 : decode cX2_copyFrom 75 = .ok (.getfield 36, 3) := by decide +kernel
theorem dX2_copyFrom_78 : decode cX2_copyFrom 78 = .ok (.aload_n 0, 1) := by decide +kernel
theorem dX2_copyFrom_79 : decode cX2_copyFrom 79 = .ok (.getfield 36, 3) := by decide +kernel
theorem dX2_copyFrom_82 : decode cX2_copyFrom 82 = .ok (.invokestatic 51, 3) := by decide +kernel
theorem dX2_copyFrom_85 : decode cX2_copyFrom 85 = .ok (.aload_n 1, 1) := by decide +kernel
theorem dX2_copyFrom_86 : decode cX2_copyFrom 86 = .ok (.getfield 39, 3) := by decide +kernel
theorem dX2_copyFrom_89 : decode cX2_copyFrom 89 = .ok (.aload_n 0, 1) := by decide +kernel
theorem dX2_copyFrom_90 : decode cX2_copyFrom 90 = .ok (.getfield 39, 3) := by decide +kernel
theorem dX2_copyFrom_93 : decode cX2_copyFrom 93 = .ok (.invokestatic 51, 3) := by decide +kernel
theorem dX2_copyFrom_96 : decode cX2_copyFrom 96 = .ok (.aload_n 1, 1) := by decide +kernel
theorem dX2_copyFrom_97 : decode cX2_copyFrom 97 = .ok (.getfield 42, 3) := by decide +kernel
theorem dX2_copyFrom_100 : decode cX2_copyFrom 100 = .ok (.aload_n 0, 1) := by decide +kernel
theorem dX2_copyFrom_101 : decode cX2_copyFrom 101 = .ok (.getfield 42, 3) := by decide +kernel
theorem dX2_copyFrom_104 : decode cX2_copyFrom 104 = .ok (.invokestatic 55, 3) := by decide +kernel
theorem dX2_copyFrom_107 : decode cX2_copyFrom 107 = .ok (.aload_n 1, 1) := by decide +kernel
theorem dX2_copyFrom_108 : decode cX2_copyFrom 108 = .ok (.getfield 45, 3) := by decide +kernel
theorem dX2_copyFrom_111 : decode cX2_copyFrom 111 = .ok (.aload_n 0, 1) := by decide +kernel
theorem dX2_copyFrom_112 : decode cX2_copyFrom 112 = .ok (.getfield 45, 3) := by decide +kernel
theorem dX2_copyFrom_115 : decode cX2_copyFrom 115 = .ok (.invokestatic 55, 3) := by decide +kernel
theorem dX2_copyFrom_118 : decode cX2_copyFrom 118 = .ok (.aload_n 1, 1) := by decide +kernel
theorem dX2_copyFrom_119 : decode cX2_copyFrom 119 = .ok (.getfield 48, 3) := by decide +kernel
theorem dX2_copyFrom_122 : decode cX2_copyFrom 122 = .ok (.aload_n 0, 1) := by decide +kernel
theorem dX2_copyFrom_123 : decode cX2_copyFrom 123 = .ok (.getfield 48, 3) := by decide +kernel
theorem dX2_copyFrom_126 : decode cX2_copyFrom 126 = .ok (.invokestatic 51, 3) := by decide +kernel
theorem dX2_copyFrom_129 : decode cX2_copyFrom 129 = .ok (.return_, 1) := by decide +kernel
set_option maxRecDepth 20000 in
theorem ggX2_changeGuarantees_X3_isClient : GoodIn wsX2_changeGuarantees wsX3_isClient := goodIn_r _ [4, 5, 6, 3, 7] (by decide +kernel) (by decide +kernel)
set_option maxRecDepth 20000 in
theorem gX2_changeGuarantees_X3_isClient_n59 : GoodIn wsX2_changeGuarantees (wsX3_isClient) := ggX2_changeGuarantees_X3_isClient
set_option maxRecDepth 20000 in
theorem ggX2_changeGuarantees_X3_isBelow : GoodIn wsX2_changeGuarantees wsX3_isBelow := goodIn_r _ [7] (by decide +kernel) (by decide +kernel)
set_option maxRecDepth 20000 in
theorem gX2_changeGuarantees_X3_isBelow_n63 : GoodIn wsX2_changeGuarantees (wsX3_isBelow) := ggX2_changeGuarantees_X3_isBelow
theorem dX2_changeGuarantees_0 : decode cX2_changeGuarantees 0 = .ok (.iload_n 1, 1) := by decide +kernel
theorem dX2_changeGuarantees_1 : decode cX2_changeGuarantees 1 = .ok (.invokestatic 59, 3) := by decide +kernel
theorem dX2_changeGuarantees_4 : decode cX2_changeGuarantees 4 = .ok (.ifCond .eq 12, 3) := by decide +kernel
theorem dX2_changeGuarantees_7 : decode cX2_changeGuarantees 7 = .ok (.iload_n 2, 1) := by decide +kernel
theorem dX2_changeGuarantees_8 : decode cX2_changeGuarantees 8 = .ok (.bipush 16, 2) := by decide +kernel
theorem dX2_changeGuarantees_10 : decode cX2_changeGuarantees 10 = .ok (.invokestatic 63, 3) := by decide +kernel
theorem dX2_changeGuarantees_13 : decode cX2_changeGuarantees 13 = .ok (.ifCond .ne 6, 3) := by decide +kernel
theorem dX2_changeGuarantees_16 : decode cX2_changeGuarantees 16 = .ok (.bipush (-2), 2) := by decide +kernel
theorem dX2_changeGuarantees_18 : decode cX2_changeGuarantees 18 = .ok (.ireturn, 1) := by decide +kernel
theorem dX2_changeGuarantees_19 : decode cX2_changeGuarantees 19 = .ok (.aload_n 0, 1) := by decide +kernel
theorem dX2_changeGuarantees_20 : decode cX2_changeGuarantees 20 = .ok (.getfield 39, 3) := by decide +kernel
theorem dX2_changeGuarantees_23 : decode cX2_changeGuarantees 23 = .ok (.iload_n 1, 1) := by decide +kernel
theorem dX2_changeGuarantees_24 : decode cX2_changeGuarantees 24 = .ok (.iaload, 1) := by decide +kernel
theorem dX2_changeGuarantees_25 : decode cX2_changeGuarantees 25 = .ok (.istore_n 3, 1) := by decide +kernel
theorem dX2_changeGuarantees_26 : decode cX2_changeGuarantees 26 = .ok (.aload_n 0, 1) := by decide +kernel
theorem dX2_changeGuarantees_27 : decode cX2_changeGuarantees 27 = .ok (.getfield 39, 3) := by decide +kernel
theorem dX2_changeGuarantees_30 : decode cX2_changeGuarantees 30 = .ok (.iload_n 1, 1) := by decide +kernel
theorem dX2_changeGuarantees_31 : decode cX2_changeGuarantees 31 = .ok (.iload_n 2, 1) := by decide +kernel
theorem dX2_changeGuarantees_32 : decode cX2_changeGuarantees 32 = .ok (.iastore, 1) := by decide +kernel
theorem dX2_changeGuarantees_33 : decode cX2_changeGuarantees 33 = .ok (.iload_n 3, 1) := by decide +kernel
theorem dX2_changeGuarantees_34 : decode cX2_changeGuarantees 34 = .ok (.ireturn, 1) := by decide +kernel
set_option maxRecDepth 20000 in
theorem ggX2_clearVectors_X3_isClient : GoodIn wsX2_clearVectors wsX3_isClient := goodIn_r _ [5, 6, 7, 4, 8] (by decide +kernel) (by decide +kernel)
set_option maxRecDepth 20000 in
theorem gX2_clearVectors_X3_isClient_n59 : GoodIn wsX2_clearVectors (wsX3_isClient) := ggX2_clearVectors_X3_isClient
theorem dX2_clearVectors_0 : decode cX2_clearVectors 0 = .ok (.iload_n 1, 1) := by decide +kernel
theorem dX2_clearVectors_1 : decode cX2_clearVectors 1 = .ok (.invokestatic 59, 3) := by decide +kernel
theorem dX2_clearVectors_4 : decode cX2_clearVectors 4 = .ok (.ifCond .ne 6, 3) := by decide +kernel
theorem dX2_clearVectors_7 : decode cX2_clearVectors 7 = .ok (.bipush (-2), 2) := by decide +kernel
theorem dX2_clearVectors_9 : decode cX2_clearVectors 9 = .ok (.ireturn, 1) := by decide +kernel
theorem dX2_clearVectors_10 : decode cX2_clearVectors 10 = .ok (.iconst 0, 1) := by decide +kernel
theorem dX2_clearVectors_11 : decode cX2_clearVectors 11 = .ok (.istore_n 2, 1) := by decide +kernel
theorem dX2_clearVectors_12 : decode cX2_clearVectors 12 = .ok (.iconst 0, 1) := by decide +kernel
theorem dX2_clearVectors_13 : decode cX2_clearVectors 13 = .ok (.istore_n 3, 1) := by decide +kernel
theorem dX2_clearVectors_14 : decode cX2_clearVectors 14 = .ok (.iload_n 3, 1) := by decide +kernel
theorem dX2_clearVectors_15 : decode cX2_clearVectors 15 = .ok (.iconst 3, 1) := by decide +kernel
theorem dX2_clearVectors_16 : decode cX2_clearVectors 16 = .ok (.if_icmp .ge 47, 3) := by decide +kernel
theorem dX2_clearVectors_19 : decode cX2_clearVectors 19 = .ok (.iload_n 2, 1) := by decide +kernel
theorem dX2_clearVectors_20 : decode cX2_clearVectors 20 = .ok (.aload_n 0, 1) := by decide +kernel
theorem dX2_clearVectors_21 : decode cX2_clearVectors 21 = .ok (.getfield 42, 3) := by decide +kernel
theorem dX2_clearVectors_24 : decode cX2_clearVectors 24 = .ok (.iload_n 1, 1) := by decide +kernel
theorem dX2_clearVectors_25 : decode cX2_clearVectors 25 = .ok (.aaload, 1) := by decide +kernel
theorem dX2_clearVectors_26 : decode cX2_clearVectors 26 = .ok (.iload_n 3, 1) := by decide +kernel
theorem dX2_clearVectors_27 : decode cX2_clearVectors 27 = .ok (.iaload, 1) := by decide +kernel
theorem dX2_clearVectors_28 : decode cX2_clearVectors 28 = .ok (.aload_n 0, 1) := by decide +kernel
theorem dX2_clearVectors_29 : decode cX2_clearVectors 29 = .ok (.getfield 45, 3) := by decide +kernel
theorem dX2_clearVectors_32 : decode cX2_clearVectors 32 = .ok (.iload_n 1, 1) := by decide +kernel
theorem dX2_clearVectors_33 : decode cX2_clearVectors 33 = .ok (.aaload, 1) := by decide +kernel
theorem dX2_clearVectors_34 : decode cX2_clearVectors 34 = .ok (.iload_n 3, 1) := by decide +kernel
theorem dX2_clearVectors_35 : decode cX2_clearVectors 35 = .ok (.iaload, 1) := by decide +kernel
theorem dX2_clearVectors_36 : decode cX2_clearVectors 36 = .ok (.iadd, 1) := by decide +kernel
theorem dX2_clearVectors_37 : decode cX2_clearVectors 37 = .ok (.iadd, 1) := by decide +kernel
theorem dX2_clearVectors_38 : decode cX2_clearVectors 38 = .ok (.istore_n 2, 1) := by decide +kernel
theorem dX2_clearVectors_39 : decode cX2_clearVectors 39 = .ok (.aload_n 0, 1) := by decide +kernel
theorem dX2_clearVectors_40 : decode cX2_clearVectors 40 = .ok (.getfield 42, 3) := by decide +kernel
theorem dX2_clearVectors_43 : decode cX2_clearVectors 43 = .ok (.iload_n 1, 1) := by decide +kernel
theorem dX2_clearVectors_44 : decode cX2_clearVectors 44 = .ok (.aaload, 1) := by decide +kernel
theorem dX2_clearVectors_45 : decode cX2_clearVectors 45 = .ok (.iload_n 3, 1) := by decide +kernel
theorem dX2_clearVectors_46 : decode cX2_clearVectors 46 = .ok (.iconst 0, 1) := by decide +kernel
theorem dX2_clearVectors_47 : decode cX2_clearVectors 47 = .ok (.iastore, 1) := by decide +kernel
theorem dX2_clearVectors_48 : decode cX2_clearVectors 48 = .ok (.aload_n 0, 1) := by decide +kernel
theorem dX2_clearVectors_49 : decode cX2_clearVectors 49 = .ok (.getfield 45, 3) := by decide +kernel
theorem dX2_clearVectors_52 : decode cX2_clearVectors 52 = .ok (.iload_n 1, 1) := by decide +kernel
theorem dX2_clearVectors_53 : decode cX2_clearVectors 53 = .ok (.aaload, 1) := by decide +kernel
theorem dX2_clearVectors_54 : decode cX2_clearVectors 54 = .ok (.iload_n 3, 1) := by decide +kernel
theorem dX2_clearVectors_55 : decode cX2_clearVectors 55 = .ok (.iconst 0, 1) := by decide +kernel
theorem dX2_clearVectors_56 : decode cX2_clearVectors 56 = .ok (.iastore, 1) := by decide +kernel
theorem dX2_clearVectors_57 : decode cX2_clearVectors 57 = .ok (.iinc 3 1, 3) := by decide +kernel
theorem dX2_clearVectors_60 : decode cX2_clearVectors 60 = .ok (.goto (-46), 3) := by decide +kernel
theorem dX2_clearVectors_63 : decode cX2_clearVectors 63 = .ok (.iload_n 2, 1) := by decide +kernel
theorem dX2_clearVectors_64 : decode cX2_clearVectors 64 = .ok (.ireturn, 1) := by decide +kernel
set_option maxRecDepth 20000 in
theorem ggX2_readKey_X3_isClient : GoodIn wsX2_readKey wsX3_isClient := goodIn_r _ [6, 7, 8, 5, 9] (by decide +kernel) (by decide +kernel)
set_option maxRecDepth 20000 in
theorem gX2_readKey_X3_isClient_n59 : GoodIn wsX2_readKey (wsX3_isClient) := ggX2_readKey_X3_isClient
set_option maxRecDepth 20000 in
theorem ggX2_readKey_X3_isReplica : GoodIn wsX2_readKey wsX3_isReplica := goodIn_r _ [11, 7, 8, 5, 9] (by decide +kernel) (by decide +kernel)
set_option maxRecDepth 20000 in
theorem gX2_readKey_X3_isReplica_n67 : GoodIn wsX2_readKey (wsX3_isReplica) := ggX2_readKey_X3_isReplica
set_option maxRecDepth 20000 in
theorem ggX2_readKey_X3_isKey : GoodIn wsX2_readKey wsX3_isKey := goodIn_r _ [13, 7, 8, 5, 9] (by decide +kernel) (by decide +kernel)
set_option maxRecDepth 20000 in
theorem gX2_readKey_X3_isKey_n70 : GoodIn wsX2_readKey (wsX3_isKey) := ggX2_readKey_X3_isKey
set_option maxRecDepth 20000 in
theorem ggX2_readKey_X3_only : GoodIn wsX2_readKey wsX3_only := goodIn_r _ [15] (by decide +kernel) (by decide +kernel)
set_option maxRecDepth 20000 in
theorem gX2_readKey_X3_only_n73 : GoodIn wsX2_readKey (wsX3_only) := ggX2_readKey_X3_only
set_option maxRecDepth 20000 in
theorem ggX2_readKey_X2_unmetByRead : GoodIn wsX2_readKey wsX2_unmetByRead := goodIn_r _ [20, 21, 3, 22, 23, 24, 19, 25, 26, 27, 28, 29, 2, 30, 31, 32, 33, 34, 5, 35, 62, 63, 64, 65, 66, 67, 68, 69, 70, 71, 72, 73] (by decide +kernel) (by decide +kernel)
set_option maxRecDepth 20000 in
theorem gX2_readKey_X2_unmetByRead : GoodIn wsX2_readKey (wsV RX2 77 RX2 yX2_unmetByRead wsX2_unmetByRead) := goodIn_app (goodIn_of _ (by decide +kernel)) ggX2_readKey_X2_unmetByRead
set_option maxRecDepth 20000 in
theorem ggX2_readKey_X2_countBreaches : GoodIn wsX2_readKey wsX2_countBreaches := goodIn_r _ [39, 40, 34, 5, 35, 62, 63, 64, 65, 66, 67, 68, 69, 70, 71, 72, 73] (by decide +kernel) (by decide +kernel)
set_option maxRecDepth 20000 in
theorem gX2_readKey_X2_countBreaches : GoodIn wsX2_readKey (wsV RX2 81 RX2 yX2_countBreaches wsX2_countBreaches) := goodIn_app (goodIn_of _ (by decide +kernel)) ggX2_readKey_X2_countBreaches
set_option maxRecDepth 20000 in
theorem ggX2_readKey_X2_merge : GoodIn wsX2_readKey wsX2_merge := goodIn_r _ [43, 30, 31, 32, 33] (by decide +kernel) (by decide +kernel)
set_option maxRecDepth 20000 in
theorem gX2_readKey_X2_merge : GoodIn wsX2_readKey (va_wsS RX2 85 yX2_merge wsX2_merge) := goodIn_app (goodIn_of _ (by decide +kernel)) ggX2_readKey_X2_merge
set_option maxRecDepth 20000 in
theorem ggX2_readKey_X2_valueAt : GoodIn wsX2_readKey wsX2_valueAt := goodIn_r _ [47, 48, 49, 50, 51, 52, 53, 19, 54, 55, 2, 56, 57, 58, 59, 60, 61, 62, 63, 64, 65, 66, 67, 68, 69, 70, 71, 72, 73] (by decide +kernel) (by decide +kernel)
set_option maxRecDepth 20000 in
theorem gX2_readKey_X2_valueAt : GoodIn wsX2_readKey (wsV RX2 88 RX2 yX2_valueAt wsX2_valueAt) := goodIn_app (goodIn_of _ (by decide +kernel)) ggX2_readKey_X2_valueAt
theorem dX2_readKey_0 : decode cX2_readKey 0 = .ok (.iload_n 1, 1) := by decide +kernel
theorem dX2_readKey_1 : decode cX2_readKey 1 = .ok (.invokestatic 59, 3) := by decide +kernel
theorem dX2_readKey_4 : decode cX2_readKey 4 = .ok (.ifCond .eq 17, 3) := by decide +kernel
theorem dX2_readKey_7 : decode cX2_readKey 7 = .ok (.iload_n 2, 1) := by decide +kernel
theorem dX2_readKey_8 : decode cX2_readKey 8 = .ok (.invokestatic 67, 3) := by decide +kernel
theorem dX2_readKey_11 : decode cX2_readKey 11 = .ok (.ifCond .eq 10, 3) := by decide +kernel
theorem dX2_readKey_14 : decode cX2_readKey 14 = .ok (.iload_n 3, 1) := by decide +kernel
theorem dX2_readKey_15 : decode cX2_readKey 15 = .ok (.invokestatic 70, 3) := by decide +kernel
theorem dX2_readKey_18 : decode cX2_readKey 18 = .ok (.ifCond .ne 6, 3) := by decide +kernel
theorem dX2_readKey_21 : decode cX2_readKey 21 = .ok (.bipush (-2), 2) := by decide +kernel
theorem dX2_readKey_23 : decode cX2_readKey 23 = .ok (.ireturn, 1) := by decide +kernel
theorem dX2_readKey_24 : decode cX2_readKey 24 = .ok (.aload_n 0, 1) := by decide +kernel
theorem dX2_readKey_25 : decode cX2_readKey 25 = .ok (.iload_n 1, 1) := by decide +kernel
theorem dX2_readKey_26 : decode cX2_readKey 26 = .ok (.iload_n 2, 1) := by decide +kernel
theorem dX2_readKey_27 : decode cX2_readKey 27 = .ok (.invokestatic 73, 3) := by decide +kernel
theorem dX2_readKey_30 : decode cX2_readKey 30 = .ok (.invokevirtual 77, 3) := by decide +kernel
theorem dX2_readKey_33 : decode cX2_readKey 33 = .ok (.istore 4, 2) := by decide +kernel
theorem dX2_readKey_35 : decode cX2_readKey 35 = .ok (.iload 4, 2) := by decide +kernel
theorem dX2_readKey_37 : decode cX2_readKey 37 = .ok (.aload_n 0, 1) := by decide +kernel
theorem dX2_readKey_38 : decode cX2_readKey 38 = .ok (.getfield 39, 3) := by decide +kernel
theorem dX2_readKey_41 : decode cX2_readKey 41 = .ok (.iload_n 1, 1) := by decide +kernel
theorem dX2_readKey_42 : decode cX2_readKey 42 = .ok (.iaload, 1) := by decide +kernel
theorem dX2_readKey_43 : decode cX2_readKey 43 = .ok (.iand, 1) := by decide +kernel
theorem dX2_readKey_44 : decode cX2_readKey 44 = .ok (.ifCond .eq 6, 3) := by decide +kernel
theorem dX2_readKey_47 : decode cX2_readKey 47 = .ok (.bipush (-3), 2) := by decide +kernel
theorem dX2_readKey_49 : decode cX2_readKey 49 = .ok (.ireturn, 1) := by decide +kernel
theorem dX2_readKey_50 : decode cX2_readKey 50 = .ok (.aload_n 0, 1) := by decide +kernel
theorem dX2_readKey_51 : decode cX2_readKey 51 = .ok (.iload 4, 2) := by decide +kernel
theorem dX2_readKey_53 : decode cX2_readKey 53 = .ok (.invokevirtual 81, 3) := by decide +kernel
theorem dX2_readKey_56 : decode cX2_readKey 56 = .ok (.aload_n 0, 1) := by decide +kernel
theorem dX2_readKey_57 : decode cX2_readKey 57 = .ok (.getfield 33, 3) := by decide +kernel
theorem dX2_readKey_60 : decode cX2_readKey 60 = .ok (.iload_n 2, 1) := by decide +kernel
theorem dX2_readKey_61 : decode cX2_readKey 61 = .ok (.aaload, 1) := by decide +kernel
theorem dX2_readKey_62 : decode cX2_readKey 62 = .ok (.aload_n 0, 1) := by decide +kernel
theorem dX2_readKey_63 : decode cX2_readKey 63 = .ok (.getfield 42, 3) := by decide +kernel
theorem dX2_readKey_66 : decode cX2_readKey 66 = .ok (.iload_n 1, 1) := by decide +kernel
theorem dX2_readKey_67 : decode cX2_readKey 67 = .ok (.aaload, 1) := by decide +kernel
theorem dX2_readKey_68 : decode cX2_readKey 68 = .ok (.invokestatic 85, 3) := by decide +kernel
theorem dX2_readKey_71 : decode cX2_readKey 71 = .ok (.aload_n 0, 1) := by decide +kernel
theorem dX2_readKey_72 : decode cX2_readKey 72 = .ok (.iload_n 2, 1) := by decide +kernel
theorem dX2_readKey_73 : decode cX2_readKey 73 = .ok (.iload_n 3, 1) := by decide +kernel
theorem dX2_readKey_74 : decode cX2_readKey 74 = .ok (.invokevirtual 88, 3) := by decide +kernel
theorem dX2_readKey_77 : decode cX2_readKey 77 = .ok (.ireturn, 1) := by decide +kernel
set_option maxRecDepth 20000 in
theorem ggX2_writeKey_X3_isClient : GoodIn wsX2_writeKey wsX3_isClient := goodIn_r _ [13, 14, 15, 12, 16] (by decide +kernel) (by decide +kernel)
set_option maxRecDepth 20000 in
theorem gX2_writeKey_X3_isClient_n59 : GoodIn wsX2_writeKey (wsX3_isClient) := ggX2_writeKey_X3_isClient
set_option maxRecDepth 20000 in
theorem ggX2_writeKey_X3_isReplica : GoodIn wsX2_writeKey wsX3_isReplica := goodIn_r _ [18, 14, 15, 12, 16] (by decide +kernel) (by decide +kernel)
set_option maxRecDepth 20000 in
theorem gX2_writeKey_X3_isReplica_n67 : GoodIn wsX2_writeKey (wsX3_isReplica) := ggX2_writeKey_X3_isReplica
set_option maxRecDepth 20000 in
theorem ggX2_writeKey_X3_isKey : GoodIn wsX2_writeKey wsX3_isKey := goodIn_r _ [20, 14, 15, 12, 16] (by decide +kernel) (by decide +kernel)
set_option maxRecDepth 20000 in
theorem gX2_writeKey_X3_isKey_n70 : GoodIn wsX2_writeKey (wsX3_isKey) := ggX2_writeKey_X3_isKey
set_option maxRecDepth 20000 in
theorem ggX2_writeKey_X3_isBelow : GoodIn wsX2_writeKey wsX3_isBelow := goodIn_r _ [16] (by decide +kernel) (by decide +kernel)
set_option maxRecDepth 20000 in
theorem gX2_writeKey_X3_isBelow_n63 : GoodIn wsX2_writeKey (wsX3_isBelow) := ggX2_writeKey_X3_isBelow
set_option maxRecDepth 20000 in
theorem ggX2_writeKey_X2_unmetByWrite : GoodIn wsX2_writeKey wsX2_unmetByWrite := goodIn_r _ [25, 26, 5, 27, 12, 28, 29, 30, 31, 24, 32, 33, 34, 35, 36, 4, 37, 38, 39, 40, 41, 42, 48, 49, 50, 51, 52, 53, 54, 55, 56, 57, 58, 59] (by decide +kernel) (by decide +kernel)
set_option maxRecDepth 20000 in
theorem gX2_writeKey_X2_unmetByWrite : GoodIn wsX2_writeKey (wsV RX2 91 RX2 yX2_unmetByWrite wsX2_unmetByWrite) := goodIn_app (goodIn_of _ (by decide +kernel)) ggX2_writeKey_X2_unmetByWrite
set_option maxRecDepth 20000 in
theorem ggX2_writeKey_X2_countBreaches : GoodIn wsX2_writeKey wsX2_countBreaches := goodIn_r _ [46, 47, 41, 12, 42, 48, 49, 50, 51, 52, 53, 54, 55, 56, 57, 58, 59] (by decide +kernel) (by decide +kernel)
set_option maxRecDepth 20000 in
theorem gX2_writeKey_X2_countBreaches : GoodIn wsX2_writeKey (wsV RX2 81 RX2 yX2_countBreaches wsX2_countBreaches) := goodIn_app (goodIn_of _ (by decide +kernel)) ggX2_writeKey_X2_countBreaches
theorem dX2_writeKey_0 : decode cX2_writeKey 0 = .ok (.iload_n 1, 1) := by decide +kernel
theorem dX2_writeKey_1 : decode cX2_writeKey 1 = .ok (.invokestatic 59, 3) := by decide +kernel
theorem dX2_writeKey_4 : decode cX2_writeKey 4 = .ok (.ifCond .eq 27, 3) := by decide +kernel
theorem dX2_writeKey_7 : decode cX2_writeKey 7 = .ok (.iload_n 2, 1) := by decide +kernel
theorem dX2_writeKey_8 : decode cX2_writeKey 8 = .ok (.invokestatic 67, 3) := by decide +kernel
theorem dX2_writeKey_11 : decode cX2_writeKey 11 = .ok (.ifCond .eq 20, 3) := by decide +kernel
theorem dX2_writeKey_14 : decode cX2_writeKey 14 = .ok (.iload_n 3, 1) := by decide +kernel
theorem dX2_writeKey_15 : decode cX2_writeKey 15 = .ok (.invokestatic 70, 3) := by decide +kernel
theorem dX2_writeKey_18 : decode cX2_writeKey 18 = .ok (.ifCond .eq 13, 3) := by decide +kernel
theorem dX2_writeKey_21 : decode cX2_writeKey 21 = .ok (.iload 4, 2) := by decide +kernel
theorem dX2_writeKey_23 : decode cX2_writeKey 23 = .ok (.bipush 100, 2) := by decide +kernel
theorem dX2_writeKey_25 : decode cX2_writeKey 25 = .ok (.invokestatic 63, 3) := by decide +kernel
theorem dX2_writeKey_28 : decode cX2_writeKey 28 = .ok (.ifCond .ne 6, 3) := by decide +kernel
theorem dX2_writeKey_31 : decode cX2_writeKey 31 = .ok (.bipush (-2), 2) := by decide +kernel
theorem dX2_writeKey_33 : decode cX2_writeKey 33 = .ok (.ireturn, 1) := by decide +kernel
theorem dX2_writeKey_34 : decode cX2_writeKey 34 = .ok (.aload_n 0, 1) := by decide +kernel
theorem dX2_writeKey_35 : decode cX2_writeKey 35 = .ok (.iload_n 1, 1) := by decide +kernel
theorem dX2_writeKey_36 : decode cX2_writeKey 36 = .ok (.iload_n 2, 1) := by decide +kernel
theorem dX2_writeKey_37 : decode cX2_writeKey 37 = .ok (.invokevirtual 91, 3) := by decide +kernel
theorem dX2_writeKey_40 : decode cX2_writeKey 40 = .ok (.istore 5, 2) := by decide +kernel
theorem dX2_writeKey_42 : decode cX2_writeKey 42 = .ok (.iload 5, 2) := by decide +kernel
theorem dX2_writeKey_44 : decode cX2_writeKey 44 = .ok (.aload_n 0, 1) := by decide +kernel
theorem dX2_writeKey_45 : decode cX2_writeKey 45 = .ok (.getfield 39, 3) := by decide +kernel
theorem dX2_writeKey_48 : decode cX2_writeKey 48 = .ok (.iload_n 1, 1) := by decide +kernel
theorem dX2_writeKey_49 : decode cX2_writeKey 49 = .ok (.iaload, 1) := by decide +kernel
theorem dX2_writeKey_50 : decode cX2_writeKey 50 = .ok (.iand, 1) := by decide +kernel
theorem dX2_writeKey_51 : decode cX2_writeKey 51 = .ok (.ifCond .eq 6, 3) := by decide +kernel
theorem dX2_writeKey_54 : decode cX2_writeKey 54 = .ok (.bipush (-3), 2) := by decide +kernel
theorem dX2_writeKey_56 : decode cX2_writeKey 56 = .ok (.ireturn, 1) := by decide +kernel
theorem dX2_writeKey_57 : decode cX2_writeKey 57 = .ok (.aload_n 0, 1) := by decide +kernel
theorem dX2_writeKey_58 : decode cX2_writeKey 58 = .ok (.getfield 9, 3) := by decide +kernel
theorem dX2_writeKey_61 : decode cX2_writeKey 61 = .ok (.bipush 60, 2) := by decide +kernel
theorem dX2_writeKey_63 : decode cX2_writeKey 63 = .ok (.if_icmp .lt 6, 3) := by decide +kernel
theorem dX2_writeKey_66 : decode cX2_writeKey 66 = .ok (.bipush (-4), 2) := by decide +kernel
theorem dX2_writeKey_68 : decode cX2_writeKey 68 = .ok (.ireturn, 1) := by decide +kernel
theorem dX2_writeKey_69 : decode cX2_writeKey 69 = .ok (.aload_n 0, 1) := by decide +kernel
theorem dX2_writeKey_70 : decode cX2_writeKey 70 = .ok (.iload 5, 2) := by decide +kernel
theorem dX2_writeKey_72 : decode cX2_writeKey 72 = .ok (.invokevirtual 81, 3) := by decide +kernel
theorem dX2_writeKey_75 : decode cX2_writeKey 75 = .ok (.aload_n 0, 1) := by decide +kernel
theorem dX2_writeKey_76 : decode cX2_writeKey 76 = .ok (.getfield 36, 3) := by decide +kernel
theorem dX2_writeKey_79 : decode cX2_writeKey 79 = .ok (.iload_n 2, 1) := by decide +kernel
theorem dX2_writeKey_80 : decode cX2_writeKey 80 = .ok (.dup2, 1) := by decide +kernel
theorem dX2_writeKey_81 : decode cX2_writeKey 81 = .ok (.iaload, 1) := by decide +kernel
theorem dX2_writeKey_82 : decode cX2_writeKey 82 = .ok (.iconst 1, 1) := by decide +kernel
theorem dX2_writeKey_83 : decode cX2_writeKey 83 = .ok (.iadd, 1) := by decide +kernel
theorem dX2_writeKey_84 : decode cX2_writeKey 84 = .ok (.iastore, 1) := by decide +kernel
theorem dX2_writeKey_85 : decode cX2_writeKey 85 = .ok (.aload_n 0, 1) := by decide +kernel
theorem dX2_writeKey_86 : decode cX2_writeKey 86 = .ok (.getfield 33, 3) := by decide +kernel
theorem dX2_writeKey_89 : decode cX2_writeKey 89 = .ok (.iload_n 2, 1) := by decide +kernel
theorem dX2_writeKey_90 : decode cX2_writeKey 90 = .ok (.aaload, 1) := by decide +kernel
theorem dX2_writeKey_91 : decode cX2_writeKey 91 = .ok (.iload_n 2, 1) := by decide +kernel
theorem dX2_writeKey_92 : decode cX2_writeKey 92 = .ok (.dup2, 1) := by decide +kernel
theorem dX2_writeKey_93 : decode cX2_writeKey 93 = .ok (.iaload, 1) := by decide +kernel
theorem dX2_writeKey_94 : decode cX2_writeKey 94 = .ok (.iconst 1, 1) := by decide +kernel
theorem dX2_writeKey_95 : decode cX2_writeKey 95 = .ok (.iadd, 1) := by decide +kernel
theorem dX2_writeKey_96 : decode cX2_writeKey 96 = .ok (.iastore, 1) := by decide +kernel
theorem dX2_writeKey_97 : decode cX2_writeKey 97 = .ok (.aload_n 0, 1) := by decide +kernel
theorem dX2_writeKey_98 : decode cX2_writeKey 98 = .ok (.getfield 45, 3) := by decide +kernel
theorem dX2_writeKey_101 : decode cX2_writeKey 101 = .ok (.iload_n 1, 1) := by decide +kernel
theorem dX2_writeKey_102 : decode cX2_writeKey 102 = .ok (.aaload, 1) := by decide +kernel
theorem dX2_writeKey_103 : decode cX2_writeKey 103 = .ok (.iload_n 2, 1) := by decide +kernel
theorem dX2_writeKey_104 : decode cX2_writeKey 104 = .ok (.aload_n 0, 1) := by decide +kernel
theorem dX2_writeKey_105 : decode cX2_writeKey 105 = .ok (.getfield 33, 3) := by decide +kernel
theorem dX2_writeKey_108 : decode cX2_writeKey 108 = .ok (.iload_n 2, 1) := by decide +kernel
theorem dX2_writeKey_109 : decode cX2_writeKey 109 = .ok (.aaload, 1) := by decide +kernel
theorem dX2_writeKey_110 : decode cX2_writeKey 110 = .ok (.iload_n 2, 1) := by decide +kernel
theorem dX2_writeKey_111 : decode cX2_writeKey 111 = .ok (.iaload, 1) := by decide +kernel
theorem dX2_writeKey_112 : decode cX2_writeKey 112 = .ok (.iastore, 1) := by decide +kernel
theorem dX2_writeKey_113 : decode cX2_writeKey 113 = .ok (.aload_n 0, 1) := by decide +kernel
theorem dX2_writeKey_114 : decode cX2_writeKey 114 = .ok (.getfield 15, 3) := by decide +kernel
theorem dX2_writeKey_117 : decode cX2_writeKey 117 = .ok (.aload_n 0, 1) := by decide +kernel
theorem dX2_writeKey_118 : decode cX2_writeKey 118 = .ok (.getfield 9, 3) := by decide +kernel
theorem dX2_writeKey_121 : decode cX2_writeKey 121 = .ok (.iload_n 2, 1) := by decide +kernel
theorem dX2_writeKey_122 : decode cX2_writeKey 122 = .ok (.iastore, 1) := by decide +kernel
theorem dX2_writeKey_123 : decode cX2_writeKey 123 = .ok (.aload_n 0, 1) := by decide +kernel
theorem dX2_writeKey_124 : decode cX2_writeKey 124 = .ok (.getfield 19, 3) := by decide +kernel
theorem dX2_writeKey_127 : decode cX2_writeKey 127 = .ok (.aload_n 0, 1) := by decide +kernel
theorem dX2_writeKey_128 : decode cX2_writeKey 128 = .ok (.getfield 9, 3) := by decide +kernel
theorem dX2_writeKey_131 : decode cX2_writeKey 131 = .ok (.aload_n 0, 1) := by decide +kernel
theorem dX2_writeKey_132 : decode cX2_writeKey 132 = .ok (.getfield 33, 3) := by decide +kernel
theorem dX2_writeKey_135 : decode cX2_writeKey 135 = .ok (.iload_n 2, 1) := by decide +kernel
theorem dX2_writeKey_136 : decode cX2_writeKey 136 = .ok (.aaload, 1) := by decide +kernel
theorem dX2_writeKey_137 : decode cX2_writeKey 137 = .ok (.iload_n 2, 1) := by decide +kernel
theorem dX2_writeKey_138 : decode cX2_writeKey 138 = .ok (.iaload, 1) := by decide +kernel
theorem dX2_writeKey_139 : decode cX2_writeKey 139 = .ok (.iastore, 1) := by decide +kernel
theorem dX2_writeKey_140 : decode cX2_writeKey 140 = .ok (.aload_n 0, 1) := by decide +kernel
theorem dX2_writeKey_141 : decode cX2_writeKey 141 = .ok (.getfield 22, 3) := by decide +kernel
theorem dX2_writeKey_144 : decode cX2_writeKey 144 = .ok (.aload_n 0, 1) := by decide +kernel
theorem dX2_writeKey_145 : decode cX2_writeKey 145 = .ok (.getfield 9, 3) := by decide +kernel
theorem dX2_writeKey_148 : decode cX2_writeKey 148 = .ok (.iload_n 3, 1) := by decide +kernel
theorem dX2_writeKey_149 : decode cX2_writeKey 149 = .ok (.iastore, 1) := by decide +kernel
theorem dX2_writeKey_150 : decode cX2_writeKey 150 = .ok (.aload_n 0, 1) := by decide +kernel
theorem dX2_writeKey_151 : decode cX2_writeKey 151 = .ok (.getfield 25, 3) := by decide +kernel
theorem dX2_writeKey_154 : decode cX2_writeKey 154 = .ok (.aload_n 0, 1) := by decide +kernel
theorem dX2_writeKey_155 : decode cX2_writeKey 155 = .ok (.getfield 9, 3) := by decide +kernel
theorem dX2_writeKey_158 : decode cX2_writeKey 158 = .ok (.iload 4, 2) := by decide +kernel
theorem dX2_writeKey_160 : decode cX2_writeKey 160 = .ok (.iastore, 1) := by decide +kernel
theorem dX2_writeKey_161 : decode cX2_writeKey 161 = .ok (.aload_n 0, 1) := by decide +kernel
theorem dX2_writeKey_162 : decode cX2_writeKey 162 = .ok (.getfield 28, 3) := by decide +kernel
theorem dX2_writeKey_165 : decode cX2_writeKey 165 = .ok (.aload_n 0, 1) := by decide +kernel
theorem dX2_writeKey_166 : decode cX2_writeKey 166 = .ok (.getfield 9, 3) := by decide +kernel
theorem dX2_writeKey_169 : decode cX2_writeKey 169 = .ok (.aload_n 0, 1) := by decide +kernel
theorem dX2_writeKey_170 : decode cX2_writeKey 170 = .ok (.getfield 36, 3) := by decide +kernel
theorem dX2_writeKey_173 : decode cX2_writeKey 173 = .ok (.iload_n 2, 1) := by decide +kernel
theorem dX2_writeKey_174 : decode cX2_writeKey 174 = .ok (.iaload, 1) := by decide +kernel
theorem dX2_writeKey_175 : decode cX2_writeKey 175 = .ok (.iastore, 1) := by decide +kernel
theorem dX2_writeKey_176 : decode cX2_writeKey 176 = .ok (.aload_n 0, 1) := by decide +kernel
theorem dX2_writeKey_177 : decode cX2_writeKey 177 = .ok (.dup, 1) := by decide +kernel
theorem dX2_writeKey_178 : decode cX2_writeKey 178 = .ok (.getfield 9, 3) := by decide +kernel
theorem dX2_writeKey_181 : decode cX2_writeKey 181 = .ok (.iconst 1, 1) := by decide +kernel
theorem dX2_writeKey_182 : decode cX2_writeKey 182 = .ok (.iadd, 1) := by decide +kernel
theorem dX2_writeKey_183 : decode cX2_writeKey 183 = .ok (.putfield 9, 3) := by decide +kernel
theorem dX2_writeKey_186 : decode cX2_writeKey 186 = .ok (.aload_n 0, 1) := by decide +kernel
theorem dX2_writeKey_187 : decode cX2_writeKey 187 = .ok (.getfield 33, 3) := by decide +kernel
theorem dX2_writeKey_190 : decode cX2_writeKey 190 = .ok (.iload_n 2, 1) := by decide +kernel
theorem dX2_writeKey_191 : decode cX2_writeKey 191 = .ok (.aaload, 1) := by decide +kernel
theorem dX2_writeKey_192 : decode cX2_writeKey 192 = .ok (.iload_n 2, 1) := by decide +kernel
theorem dX2_writeKey_193 : decode cX2_writeKey 193 = .ok (.iaload, 1) := by decide +kernel
theorem dX2_writeKey_194 : decode cX2_writeKey 194 = .ok (.ireturn, 1) := by decide +kernel
set_option maxRecDepth 20000 in
theorem ggX2_synchronize_X3_isReplica : GoodIn wsX2_synchronize wsX3_isReplica := goodIn_r _ [11, 12, 13, 10, 14] (by decide +kernel) (by decide +kernel)
set_option maxRecDepth 20000 in
theorem gX2_synchronize_X3_isReplica_n67 : GoodIn wsX2_synchronize (wsX3_isReplica) := ggX2_synchronize_X3_isReplica
set_option maxRecDepth 20000 in
theorem ggX2_synchronize_X2_knows : GoodIn wsX2_synchronize wsX2_knows := goodIn_r _ [19, 20, 8, 21, 25, 26, 27, 28, 29, 30, 31, 32, 33, 34, 35, 36] (by decide +kernel) (by decide +kernel)
set_option maxRecDepth 20000 in
theorem gX2_synchronize_X2_knows : GoodIn wsX2_synchronize (wsV RX2 94 RX2 yX2_knows wsX2_knows) := goodIn_app (goodIn_of _ (by decide +kernel)) ggX2_synchronize_X2_knows
set_option maxRecDepth 20000 in
theorem ggX2_synchronize_X2_merge : GoodIn wsX2_synchronize wsX2_merge := goodIn_r _ [24, 4, 5, 6, 7] (by decide +kernel) (by decide +kernel)
set_option maxRecDepth 20000 in
theorem gX2_synchronize_X2_merge : GoodIn wsX2_synchronize (va_wsS RX2 85 yX2_merge wsX2_merge) := goodIn_app (goodIn_of _ (by decide +kernel)) ggX2_synchronize_X2_merge
theorem dX2_synchronize_0 : decode cX2_synchronize 0 = .ok (.iload_n 1, 1) := by decide +kernel
theorem dX2_synchronize_1 : decode cX2_synchronize 1 = .ok (.invokestatic 67, 3) := by decide +kernel
theorem dX2_synchronize_4 : decode cX2_synchronize 4 = .ok (.ifCond .eq 15, 3) := by decide +kernel
theorem dX2_synchronize_7 : decode cX2_synchronize 7 = .ok (.iload_n 2, 1) := by decide +kernel
theorem dX2_synchronize_8 : decode cX2_synchronize 8 = .ok (.invokestatic 67, 3) := by decide +kernel
theorem dX2_synchronize_11 : decode cX2_synchronize 11 = .ok (.ifCond .eq 8, 3) := by decide +kernel
theorem dX2_synchronize_14 : decode cX2_synchronize 14 = .ok (.iload_n 1, 1) := by decide +kernel
theorem dX2_synchronize_15 : decode cX2_synchronize 15 = .ok (.iload_n 2, 1) := by decide +kernel
theorem dX2_synchronize_16 : decode cX2_synchronize 16 = .ok (.if_icmp .ne 6, 3) := by decide +kernel
theorem dX2_synchronize_19 : decode cX2_synchronize 19 = .ok (.bipush (-2), 2) := by decide +kernel
theorem dX2_synchronize_21 : decode cX2_synchronize 21 = .ok (.ireturn, 1) := by decide +kernel
theorem dX2_synchronize_22 : decode cX2_synchronize 22 = .ok (.iconst 0, 1) := by decide +kernel
theorem dX2_synchronize_23 : decode cX2_synchronize 23 = .ok (.istore_n 3, 1) := by decide +kernel
theorem dX2_synchronize_24 : decode cX2_synchronize 24 = .ok (.iconst 0, 1) := by decide +kernel
theorem dX2_synchronize_25 : decode cX2_synchronize 25 = .ok (.istore 4, 2) := by decide +kernel
theorem dX2_synchronize_27 : decode cX2_synchronize 27 = .ok (.iload 4, 2) := by decide +kernel
theorem dX2_synchronize_29 : decode cX2_synchronize 29 = .ok (.aload_n 0, 1) := by decide +kernel
theorem dX2_synchronize_30 : decode cX2_synchronize 30 = .ok (.getfield 9, 3) := by decide +kernel
theorem dX2_synchronize_33 : decode cX2_synchronize 33 = .ok (.if_icmp .ge 54, 3) := by decide +kernel
theorem dX2_synchronize_36 : decode cX2_synchronize 36 = .ok (.aload_n 0, 1) := by decide +kernel
theorem dX2_synchronize_37 : decode cX2_synchronize 37 = .ok (.iload_n 1, 1) := by decide +kernel
theorem dX2_synchronize_38 : decode cX2_synchronize 38 = .ok (.iload 4, 2) := by decide +kernel
theorem dX2_synchronize_40 : decode cX2_synchronize 40 = .ok (.invokevirtual 94, 3) := by decide +kernel
theorem dX2_synchronize_43 : decode cX2_synchronize 43 = .ok (.ifCond .eq 38, 3) := by decide +kernel
theorem dX2_synchronize_46 : decode cX2_synchronize 46 = .ok (.aload_n 0, 1) := by decide +kernel
theorem dX2_synchronize_47 : decode cX2_synchronize 47 = .ok (.iload_n 2, 1) := by decide +kernel
theorem dX2_synchronize_48 : decode cX2_synchronize 48 = .ok (.iload 4, 2) := by decide +kernel
theorem dX2_synchronize_50 : decode cX2_synchronize 50 = .ok (.invokevirtual 94, 3) := by decide +kernel
theorem dX2_synchronize_53 : decode cX2_synchronize 53 = .ok (.ifCond .ne 28, 3) := by decide +kernel
theorem dX2_synchronize_56 : decode cX2_synchronize 56 = .ok (.iinc 3 1, 3) := by decide +kernel
theorem dX2_synchronize_59 : decode cX2_synchronize 59 = .ok (.aload_n 0, 1) := by decide +kernel
theorem dX2_synchronize_60 : decode cX2_synchronize 60 = .ok (.getfield 36, 3) := by decide +kernel
theorem dX2_synchronize_63 : decode cX2_synchronize 63 = .ok (.iload_n 2, 1) := by decide +kernel
theorem dX2_synchronize_64 : decode cX2_synchronize 64 = .ok (.aload_n 0, 1) := by decide +kernel
theorem dX2_synchronize_65 : decode cX2_synchronize 65 = .ok (.getfield 36, 3) := by decide +kernel
theorem dX2_synchronize_68 : decode cX2_synchronize 68 = .ok (.iload_n 2, 1) := by decide +kernel
theorem dX2_synchronize_69 : decode cX2_synchronize 69 = .ok (.iaload, 1) := by decide +kernel
theorem dX2_synchronize_70 : decode cX2_synchronize 70 = .ok (.aload_n 0, 1) := by decide +kernel
theorem dX2_synchronize_71 : decode cX2_synchronize 71 = .ok (.getfield 28, 3) := by decide +kernel
theorem dX2_synchronize_74 : decode cX2_synchronize 74 = .ok (.iload 4, 2) := by decide +kernel
theorem dX2_synchronize_76 : decode cX2_synchronize 76 = .ok (.iaload, 1) := by decide +kernel
theorem dX2_synchronize_77 : decode cX2_synchronize 77 = .ok (.invokestatic 97, 3) := by decide +kernel
theorem dX2_synchronize_80 : decode cX2_synchronize 80 = .ok (.iastore, 1) := by decide +kernel
theorem dX2_synchronize_81 : decode cX2_synchronize 81 = .ok (.iinc 4 1, 3) := by decide +kernel
theorem dX2_synchronize_84 : decode cX2_synchronize 84 = .ok (.goto (-57), 3) := by decide +kernel
theorem dX2_synchronize_87 : decode cX2_synchronize 87 = .ok (.aload_n 0, 1) := by decide +kernel
theorem dX2_synchronize_88 : decode cX2_synchronize 88 = .ok (.getfield 33, 3) := by decide +kernel
theorem dX2_synchronize_91 : decode cX2_synchronize 91 = .ok (.iload_n 1, 1) := by decide +kernel
theorem dX2_synchronize_92 : decode cX2_synchronize 92 = .ok (.aaload, 1) := by decide +kernel
theorem dX2_synchronize_93 : decode cX2_synchronize 93 = .ok (.aload_n 0, 1) := by decide +kernel
theorem dX2_synchronize_94 : decode cX2_synchronize 94 = .ok (.getfield 33, 3) := by decide +kernel
theorem dX2_synchronize_97 : decode cX2_synchronize 97 = .ok (.iload_n 2, 1) := by decide +kernel
theorem dX2_synchronize_98 : decode cX2_synchronize 98 = .ok (.aaload, 1) := by decide +kernel
theorem dX2_synchronize_99 : decode cX2_synchronize 99 = .ok (.invokestatic 85, 3) := by decide +kernel
theorem dX2_synchronize_102 : decode cX2_synchronize 102 = .ok (.iload_n 3, 1) := by decide +kernel
theorem dX2_synchronize_103 : decode cX2_synchronize 103 = .ok (.ireturn, 1) := by decide +kernel
set_option maxRecDepth 20000 in
theorem ggX2_isReadAllowed_X2_unmetByRead : GoodIn wsX2_isReadAllowed wsX2_unmetByRead := goodIn_r _ [6, 7, 8, 9, 10, 11, 5, 12, 13, 14, 15, 16, 17, 18, 19, 20, 21, 22, 23, 24, 25, 26, 27, 28, 29, 30, 31, 32, 33, 34, 35, 36] (by decide +kernel) (by decide +kernel)
set_option maxRecDepth 20000 in
theorem gX2_isReadAllowed_X2_unmetByRead : GoodIn wsX2_isReadAllowed (wsV RX2 77 RX2 yX2_unmetByRead wsX2_unmetByRead) := goodIn_app (goodIn_of _ (by decide +kernel)) ggX2_isReadAllowed_X2_unmetByRead
theorem dX2_isReadAllowed_0 : decode cX2_isReadAllowed 0 = .ok (.aload_n 0, 1) := by decide +kernel
theorem dX2_isReadAllowed_1 : decode cX2_isReadAllowed 1 = .ok (.iload_n 1, 1) := by decide +kernel
theorem dX2_isReadAllowed_2 : decode cX2_isReadAllowed 2 = .ok (.iload_n 2, 1) := by decide +kernel
theorem dX2_isReadAllowed_3 : decode cX2_isReadAllowed 3 = .ok (.invokevirtual 77, 3) := by decide +kernel
theorem dX2_isReadAllowed_6 : decode cX2_isReadAllowed 6 = .ok (.aload_n 0, 1) := by decide +kernel
theorem dX2_isReadAllowed_7 : decode cX2_isReadAllowed 7 = .ok (.getfield 39, 3) := by decide +kernel
theorem dX2_isReadAllowed_10 : decode cX2_isReadAllowed 10 = .ok (.iload_n 1, 1) := by decide +kernel
theorem dX2_isReadAllowed_11 : decode cX2_isReadAllowed 11 = .ok (.iaload, 1) := by decide +kernel
theorem dX2_isReadAllowed_12 : decode cX2_isReadAllowed 12 = .ok (.iand, 1) := by decide +kernel
theorem dX2_isReadAllowed_13 : decode cX2_isReadAllowed 13 = .ok (.ifCond .ne 7, 3) := by decide +kernel
theorem dX2_isReadAllowed_16 : decode cX2_isReadAllowed 16 = .ok (.iconst 1, 1) := by decide +kernel
theorem dX2_isReadAllowed_17 : decode cX2_isReadAllowed 17 = .ok (.goto 4, 3) := by decide +kernel
end
section
theorem dX2_isReadAllowed_20 : decode cX2_isReadAllowed 20 = .ok (.iconst 0, 1) := by decide +kernel
theorem dX2_isReadAllowed_21 : decode cX2_isReadAllowed 21 = .ok (.ireturn, 1) := by decide +kernel
set_option maxRecDepth 20000 in
theorem ggX2_isWriteAllowed_X2_unmetByWrite : GoodIn wsX2_isWriteAllowed wsX2_unmetByWrite := goodIn_r _ [6, 7, 8, 9, 10, 11, 12, 13, 14, 5, 15, 16, 17, 18, 19, 20, 21, 22, 23, 24, 25, 26, 27, 28, 29, 30, 31, 32, 33, 34, 35, 36, 37, 38] (by decide +kernel) (by decide +kernel)
set_option maxRecDepth 20000 in
theorem gX2_isWriteAllowed_X2_unmetByWrite : GoodIn wsX2_isWriteAllowed (wsV RX2 91 RX2 yX2_unmetByWrite wsX2_unmetByWrite) := goodIn_app (goodIn_of _ (by decide +kernel)) ggX2_isWriteAllowed_X2_unmetByWrite
theorem dX2_isWriteAllowed_0 : decode cX2_isWriteAllowed 0 = .ok (.aload_n 0, 1) := by decide +kernel
theorem dX2_isWriteAllowed_1 : decode cX2_isWriteAllowed 1 = .ok (.iload_n 1, 1) := by decide +kernel
theorem dX2_isWriteAllowed_2 : decode cX2_isWriteAllowed 2 = .ok (.iload_n 2, 1) := by decide +kernel
theorem dX2_isWriteAllowed_3 : decode cX2_isWriteAllowed 3 = .ok (.invokevirtual 91, 3) := by decide +kernel
theorem dX2_isWriteAllowed_6 : decode cX2_isWriteAllowed 6 = .ok (.aload_n 0, 1) := by decide +kernel
theorem dX2_isWriteAllowed_7 : decode cX2_isWriteAllowed 7 = .ok (.getfield 39, 3) := by decide +kernel
theorem dX2_isWriteAllowed_10 : decode cX2_isWriteAllowed 10 = .ok (.iload_n 1, 1) := by decide +kernel
theorem dX2_isWriteAllowed_11 : decode cX2_isWriteAllowed 11 = .ok (.iaload, 1) := by decide +kernel
theorem dX2_isWriteAllowed_12 : decode cX2_isWriteAllowed 12 = .ok (.iand, 1) := by decide +kernel
theorem dX2_isWriteAllowed_13 : decode cX2_isWriteAllowed 13 = .ok (.ifCond .ne 7, 3) := by decide +kernel
theorem dX2_isWriteAllowed_16 : decode cX2_isWriteAllowed 16 = .ok (.iconst 1, 1) := by decide +kernel
theorem dX2_isWriteAllowed_17 : decode cX2_isWriteAllowed 17 = .ok (.goto 4, 3) := by decide +kernel
theorem dX2_isWriteAllowed_20 : decode cX2_isWriteAllowed 20 = .ok (.iconst 0, 1) := by decide +kernel
theorem dX2_isWriteAllowed_21 : decode cX2_isWriteAllowed 21 = .ok (.ireturn, 1) := by decide +kernel
set_option maxRecDepth 20000 in
theorem ggX2_unmetByRead_X2_covers : GoodIn wsX2_unmetByRead wsX2_covers := goodIn_r _ [7, 8, 9, 10, 6, 11, 12, 13, 14, 15, 16, 17, 18, 19, 20, 21, 22, 23, 24, 25, 26, 27, 28, 29, 30, 31] (by decide +kernel) (by decide +kernel)
set_option maxRecDepth 20000 in
theorem gX2_unmetByRead_X2_covers : GoodIn wsX2_unmetByRead (wsV RX2 102 RX2 yX2_covers wsX2_covers) := goodIn_app (goodIn_of _ (by decide +kernel)) ggX2_unmetByRead_X2_covers
theorem dX2_unmetByRead_0 : decode cX2_unmetByRead 0 = .ok (.iconst 0, 1) := by decide +kernel
theorem dX2_unmetByRead_1 : decode cX2_unmetByRead 1 = .ok (.istore_n 3, 1) := by decide +kernel
theorem dX2_unmetByRead_2 : decode cX2_unmetByRead 2 = .ok (.aload_n 0, 1) := by decide +kernel
theorem dX2_unmetByRead_3 : decode cX2_unmetByRead 3 = .ok (.iload_n 2, 1) := by decide +kernel
theorem dX2_unmetByRead_4 : decode cX2_unmetByRead 4 = .ok (.aload_n 0, 1) := by decide +kernel
theorem dX2_unmetByRead_5 : decode cX2_unmetByRead 5 = .ok (.getfield 45, 3) := by decide +kernel
theorem dX2_unmetByRead_8 : decode cX2_unmetByRead 8 = .ok (.iload_n 1, 1) := by decide +kernel
theorem dX2_unmetByRead_9 : decode cX2_unmetByRead 9 = .ok (.aaload, 1) := by decide +kernel
theorem dX2_unmetByRead_10 : decode cX2_unmetByRead 10 = .ok (.invokevirtual 102, 3) := by decide +kernel
theorem dX2_unmetByRead_13 : decode cX2_unmetByRead 13 = .ok (.ifCond .ne 7, 3) := by decide +kernel
theorem dX2_unmetByRead_16 : decode cX2_unmetByRead 16 = .ok (.iload_n 3, 1) := by decide +kernel
theorem dX2_unmetByRead_17 : decode cX2_unmetByRead 17 = .ok (.iconst 1, 1) := by decide +kernel
theorem dX2_unmetByRead_18 : decode cX2_unmetByRead 18 = .ok (.ior, 1) := by decide +kernel
theorem dX2_unmetByRead_19 : decode cX2_unmetByRead 19 = .ok (.istore_n 3, 1) := by decide +kernel
theorem dX2_unmetByRead_20 : decode cX2_unmetByRead 20 = .ok (.aload_n 0, 1) := by decide +kernel
theorem dX2_unmetByRead_21 : decode cX2_unmetByRead 21 = .ok (.iload_n 2, 1) := by decide +kernel
theorem dX2_unmetByRead_22 : decode cX2_unmetByRead 22 = .ok (.aload_n 0, 1) := by decide +kernel
theorem dX2_unmetByRead_23 : decode cX2_unmetByRead 23 = .ok (.getfield 42, 3) := by decide +kernel
theorem dX2_unmetByRead_26 : decode cX2_unmetByRead 26 = .ok (.iload_n 1, 1) := by decide +kernel
theorem dX2_unmetByRead_27 : decode cX2_unmetByRead 27 = .ok (.aaload, 1) := by decide +kernel
theorem dX2_unmetByRead_28 : decode cX2_unmetByRead 28 = .ok (.invokevirtual 102, 3) := by decide +kernel
theorem dX2_unmetByRead_31 : decode cX2_unmetByRead 31 = .ok (.ifCond .ne 7, 3) := by decide +kernel
theorem dX2_unmetByRead_34 : decode cX2_unmetByRead 34 = .ok (.iload_n 3, 1) := by decide +kernel
theorem dX2_unmetByRead_35 : decode cX2_unmetByRead 35 = .ok (.iconst 2, 1) := by decide +kernel
theorem dX2_unmetByRead_36 : decode cX2_unmetByRead 36 = .ok (.ior, 1) := by decide +kernel
theorem dX2_unmetByRead_37 : decode cX2_unmetByRead 37 = .ok (.istore_n 3, 1) := by decide +kernel
theorem dX2_unmetByRead_38 : decode cX2_unmetByRead 38 = .ok (.iload_n 3, 1) := by decide +kernel
theorem dX2_unmetByRead_39 : decode cX2_unmetByRead 39 = .ok (.ireturn, 1) := by decide +kernel
set_option maxRecDepth 20000 in
theorem ggX2_unmetByWrite_X3_only : GoodIn wsX2_unmetByWrite wsX3_only := goodIn_r _ [5] (by decide +kernel) (by decide +kernel)
set_option maxRecDepth 20000 in
theorem gX2_unmetByWrite_X3_only_n73 : GoodIn wsX2_unmetByWrite (wsX3_only) := ggX2_unmetByWrite_X3_only
set_option maxRecDepth 20000 in
theorem ggX2_unmetByWrite_X2_covers : GoodIn wsX2_unmetByWrite wsX2_covers := goodIn_r _ [10, 11, 12, 13, 9, 14, 15, 16, 17, 18, 19, 20, 4, 21, 22, 23, 24, 25, 26, 27, 28, 29, 30, 31, 32, 33] (by decide +kernel) (by decide +kernel)
set_option maxRecDepth 20000 in
theorem gX2_unmetByWrite_X2_covers : GoodIn wsX2_unmetByWrite (wsV RX2 102 RX2 yX2_covers wsX2_covers) := goodIn_app (goodIn_of _ (by decide +kernel)) ggX2_unmetByWrite_X2_covers
theorem dX2_unmetByWrite_0 : decode cX2_unmetByWrite 0 = .ok (.iconst 0, 1) := by decide +kernel
theorem dX2_unmetByWrite_1 : decode cX2_unmetByWrite 1 = .ok (.istore_n 3, 1) := by decide +kernel
theorem dX2_unmetByWrite_2 : decode cX2_unmetByWrite 2 = .ok (.aload_n 0, 1) := by decide +kernel
theorem dX2_unmetByWrite_3 : decode cX2_unmetByWrite 3 = .ok (.iload_n 2, 1) := by decide +kernel
theorem dX2_unmetByWrite_4 : decode cX2_unmetByWrite 4 = .ok (.invokestatic 73, 3) := by decide +kernel
theorem dX2_unmetByWrite_7 : decode cX2_unmetByWrite 7 = .ok (.aload_n 0, 1) := by decide +kernel
theorem dX2_unmetByWrite_8 : decode cX2_unmetByWrite 8 = .ok (.getfield 42, 3) := by decide +kernel
theorem dX2_unmetByWrite_11 : decode cX2_unmetByWrite 11 = .ok (.iload_n 1, 1) := by decide +kernel
theorem dX2_unmetByWrite_12 : decode cX2_unmetByWrite 12 = .ok (.aaload, 1) := by decide +kernel
theorem dX2_unmetByWrite_13 : decode cX2_unmetByWrite 13 = .ok (.invokevirtual 102, 3) := by decide +kernel
theorem dX2_unmetByWrite_16 : decode cX2_unmetByWrite 16 = .ok (.ifCond .ne 7, 3) := by decide +kernel
theorem dX2_unmetByWrite_19 : decode cX2_unmetByWrite 19 = .ok (.iload_n 3, 1) := by decide +kernel
theorem dX2_unmetByWrite_20 : decode cX2_unmetByWrite 20 = .ok (.iconst 4, 1) := by decide +kernel
theorem dX2_unmetByWrite_21 : decode cX2_unmetByWrite 21 = .ok (.ior, 1) := by decide +kernel
theorem dX2_unmetByWrite_22 : decode cX2_unmetByWrite 22 = .ok (.istore_n 3, 1) := by decide +kernel
theorem dX2_unmetByWrite_23 : decode cX2_unmetByWrite 23 = .ok (.aload_n 0, 1) := by decide +kernel
theorem dX2_unmetByWrite_24 : decode cX2_unmetByWrite 24 = .ok (.iload_n 2, 1) := by decide +kernel
theorem dX2_unmetByWrite_25 : decode cX2_unmetByWrite 25 = .ok (.invokestatic 73, 3) := by decide +kernel
theorem dX2_unmetByWrite_28 : decode cX2_unmetByWrite 28 = .ok (.aload_n 0, 1) := by decide +kernel
theorem dX2_unmetByWrite_29 : decode cX2_unmetByWrite 29 = .ok (.getfield 45, 3) := by decide +kernel
theorem dX2_unmetByWrite_32 : decode cX2_unmetByWrite 32 = .ok (.iload_n 1, 1) := by decide +kernel
theorem dX2_unmetByWrite_33 : decode cX2_unmetByWrite 33 = .ok (.aaload, 1) := by decide +kernel
theorem dX2_unmetByWrite_34 : decode cX2_unmetByWrite 34 = .ok (.invokevirtual 102, 3) := by decide +kernel
theorem dX2_unmetByWrite_37 : decode cX2_unmetByWrite 37 = .ok (.ifCond .ne 8, 3) := by decide +kernel
theorem dX2_unmetByWrite_40 : decode cX2_unmetByWrite 40 = .ok (.iload_n 3, 1) := by decide +kernel
theorem dX2_unmetByWrite_41 : decode cX2_unmetByWrite 41 = .ok (.bipush 8, 2) := by decide +kernel
theorem dX2_unmetByWrite_43 : decode cX2_unmetByWrite 43 = .ok (.ior, 1) := by decide +kernel
theorem dX2_unmetByWrite_44 : decode cX2_unmetByWrite 44 = .ok (.istore_n 3, 1) := by decide +kernel
theorem dX2_unmetByWrite_45 : decode cX2_unmetByWrite 45 = .ok (.iload_n 3, 1) := by decide +kernel
theorem dX2_unmetByWrite_46 : decode cX2_unmetByWrite 46 = .ok (.ireturn, 1) := by decide +kernel
set_option maxRecDepth 20000 in
theorem ggX2_covers_X2_greatestCount : GoodIn wsX2_covers wsX2_greatestCount := goodIn_r _ [5, 6, 7, 8, 9, 10, 11, 12, 13, 14, 15, 16, 17, 18, 19, 20, 21, 22, 23, 24, 25] (by decide +kernel) (by decide +kernel)
set_option maxRecDepth 20000 in
theorem gX2_covers_X2_greatestCount : GoodIn wsX2_covers (wsV RX2 106 RX2 yX2_greatestCount wsX2_greatestCount) := goodIn_app (goodIn_of _ (by decide +kernel)) ggX2_covers_X2_greatestCount
theorem dX2_covers_0 : decode cX2_covers 0 = .ok (.iconst 0, 1) := by decide +kernel
theorem dX2_covers_1 : decode cX2_covers 1 = .ok (.istore_n 3, 1) := by decide +kernel
theorem dX2_covers_2 : decode cX2_covers 2 = .ok (.iload_n 3, 1) := by decide +kernel
theorem dX2_covers_3 : decode cX2_covers 3 = .ok (.iconst 3, 1) := by decide +kernel
theorem dX2_covers_4 : decode cX2_covers 4 = .ok (.if_icmp .ge 23, 3) := by decide +kernel
theorem dX2_covers_7 : decode cX2_covers 7 = .ok (.aload_n 2, 1) := by decide +kernel
theorem dX2_covers_8 : decode cX2_covers 8 = .ok (.iload_n 3, 1) := by decide +kernel
theorem dX2_covers_9 : decode cX2_covers 9 = .ok (.iaload, 1) := by decide +kernel
theorem dX2_covers_10 : decode cX2_covers 10 = .ok (.aload_n 0, 1) := by decide +kernel
theorem dX2_covers_11 : decode cX2_covers 11 = .ok (.iload_n 1, 1) := by decide +kernel
theorem dX2_covers_12 : decode cX2_covers 12 = .ok (.iload_n 3, 1) := by decide +kernel
theorem dX2_covers_13 : decode cX2_covers 13 = .ok (.invokevirtual 106, 3) := by decide +kernel
theorem dX2_covers_16 : decode cX2_covers 16 = .ok (.if_icmp .le 5, 3) := by decide +kernel
theorem dX2_covers_19 : decode cX2_covers 19 = .ok (.iconst 0, 1) := by decide +kernel
theorem dX2_covers_20 : decode cX2_covers 20 = .ok (.ireturn, 1) := by decide +kernel
theorem dX2_covers_21 : decode cX2_covers 21 = .ok (.iinc 3 1, 3) := by decide +kernel
theorem dX2_covers_24 : decode cX2_covers 24 = .ok (.goto (-22), 3) := by decide +kernel
theorem dX2_covers_27 : decode cX2_covers 27 = .ok (.iconst 1, 1) := by decide +kernel
theorem dX2_covers_28 : decode cX2_covers 28 = .ok (.ireturn, 1) := by decide +kernel
set_option maxRecDepth 20000 in
theorem ggX2_greatestCount_X3_contains : GoodIn wsX2_greatestCount wsX3_contains := goodIn_r _ [8] (by decide +kernel) (by decide +kernel)
set_option maxRecDepth 20000 in
theorem gX2_greatestCount_X3_contains_n109 : GoodIn wsX2_greatestCount (wsX3_contains) := ggX2_greatestCount_X3_contains
theorem dX2_greatestCount_0 : decode cX2_greatestCount 0 = .ok (.iconst 0, 1) := by decide +kernel
theorem dX2_greatestCount_1 : decode cX2_greatestCount 1 = .ok (.istore_n 3, 1) := by decide +kernel
theorem dX2_greatestCount_2 : decode cX2_greatestCount 2 = .ok (.iconst 0, 1) := by decide +kernel
theorem dX2_greatestCount_3 : decode cX2_greatestCount 3 = .ok (.istore 4, 2) := by decide +kernel
theorem dX2_greatestCount_5 : decode cX2_greatestCount 5 = .ok (.iload 4, 2) := by decide +kernel
theorem dX2_greatestCount_7 : decode cX2_greatestCount 7 = .ok (.iconst 3, 1) := by decide +kernel
theorem dX2_greatestCount_8 : decode cX2_greatestCount 8 = .ok (.if_icmp .ge 32, 3) := by decide +kernel
theorem dX2_greatestCount_11 : decode cX2_greatestCount 11 = .ok (.iload_n 1, 1) := by decide +kernel
theorem dX2_greatestCount_12 : decode cX2_greatestCount 12 = .ok (.iload 4, 2) := by decide +kernel
theorem dX2_greatestCount_14 : decode cX2_greatestCount 14 = .ok (.invokestatic 109, 3) := by decide +kernel
theorem dX2_greatestCount_17 : decode cX2_greatestCount 17 = .ok (.ifCond .eq 17, 3) := by decide +kernel
theorem dX2_greatestCount_20 : decode cX2_greatestCount 20 = .ok (.iload_n 3, 1) := by decide +kernel
theorem dX2_greatestCount_21 : decode cX2_greatestCount 21 = .ok (.aload_n 0, 1) := by decide +kernel
theorem dX2_greatestCount_22 : decode cX2_greatestCount 22 = .ok (.getfield 33, 3) := by decide +kernel
theorem dX2_greatestCount_25 : decode cX2_greatestCount 25 = .ok (.iload 4, 2) := by decide +kernel
theorem dX2_greatestCount_27 : decode cX2_greatestCount 27 = .ok (.aaload, 1) := by decide +kernel
theorem dX2_greatestCount_28 : decode cX2_greatestCount 28 = .ok (.iload_n 2, 1) := by decide +kernel
theorem dX2_greatestCount_29 : decode cX2_greatestCount 29 = .ok (.iaload, 1) := by decide +kernel
theorem dX2_greatestCount_30 : decode cX2_greatestCount 30 = .ok (.invokestatic 97, 3) := by decide +kernel
theorem dX2_greatestCount_33 : decode cX2_greatestCount 33 = .ok (.istore_n 3, 1) := by decide +kernel
theorem dX2_greatestCount_34 : decode cX2_greatestCount 34 = .ok (.iinc 4 1, 3) := by decide +kernel
theorem dX2_greatestCount_37 : decode cX2_greatestCount 37 = .ok (.goto (-32), 3) := by decide +kernel
theorem dX2_greatestCount_40 : decode cX2_greatestCount 40 = .ok (.iload_n 3, 1) := by decide +kernel
theorem dX2_greatestCount_41 : decode cX2_greatestCount 41 = .ok (.ireturn, 1) := by decide +kernel
set_option maxRecDepth 20000 in
theorem ggX2_valueAt_X2_knows : GoodIn wsX2_valueAt wsX2_knows := goodIn_r _ [8, 9, 10, 11, 17, 18, 19, 20, 21, 22, 23, 24, 25, 26, 27, 28] (by decide +kernel) (by decide +kernel)
set_option maxRecDepth 20000 in
theorem gX2_valueAt_X2_knows : GoodIn wsX2_valueAt (wsV RX2 94 RX2 yX2_knows wsX2_knows) := goodIn_app (goodIn_of _ (by decide +kernel)) ggX2_valueAt_X2_knows
set_option maxRecDepth 20000 in
theorem ggX2_valueAt_X2_isLater : GoodIn wsX2_valueAt wsX2_isLater := goodIn_r _ [15, 16, 11, 17, 18, 19, 20, 21, 22, 23, 24, 25, 26, 27, 28] (by decide +kernel) (by decide +kernel)
set_option maxRecDepth 20000 in
theorem gX2_valueAt_X2_isLater : GoodIn wsX2_valueAt (wsV RX2 112 RX2 yX2_isLater wsX2_isLater) := goodIn_app (goodIn_of _ (by decide +kernel)) ggX2_valueAt_X2_isLater
theorem dX2_valueAt_0 : decode cX2_valueAt 0 = .ok (.iconst (-1), 1) := by decide +kernel
theorem dX2_valueAt_1 : decode cX2_valueAt 1 = .ok (.istore_n 3, 1) := by decide +kernel
theorem dX2_valueAt_2 : decode cX2_valueAt 2 = .ok (.iconst 0, 1) := by decide +kernel
theorem dX2_valueAt_3 : decode cX2_valueAt 3 = .ok (.istore 4, 2) := by decide +kernel
theorem dX2_valueAt_5 : decode cX2_valueAt 5 = .ok (.iload 4, 2) := by decide +kernel
theorem dX2_valueAt_7 : decode cX2_valueAt 7 = .ok (.aload_n 0, 1) := by decide +kernel
theorem dX2_valueAt_8 : decode cX2_valueAt 8 = .ok (.getfield 9, 3) := by decide +kernel
theorem dX2_valueAt_11 : decode cX2_valueAt 11 = .ok (.if_icmp .ge 48, 3) := by decide +kernel
theorem dX2_valueAt_14 : decode cX2_valueAt 14 = .ok (.aload_n 0, 1) := by decide +kernel
theorem dX2_valueAt_15 : decode cX2_valueAt 15 = .ok (.getfield 22, 3) := by decide +kernel
theorem dX2_valueAt_18 : decode cX2_valueAt 18 = .ok (.iload 4, 2) := by decide +kernel
theorem dX2_valueAt_20 : decode cX2_valueAt 20 = .ok (.iaload, 1) := by decide +kernel
theorem dX2_valueAt_21 : decode cX2_valueAt 21 = .ok (.iload_n 2, 1) := by decide +kernel
theorem dX2_valueAt_22 : decode cX2_valueAt 22 = .ok (.if_icmp .ne 31, 3) := by decide +kernel
theorem dX2_valueAt_25 : decode cX2_valueAt 25 = .ok (.aload_n 0, 1) := by decide +kernel
theorem dX2_valueAt_26 : decode cX2_valueAt 26 = .ok (.iload_n 1, 1) := by decide +kernel
theorem dX2_valueAt_27 : decode cX2_valueAt 27 = .ok (.iload 4, 2) := by decide +kernel
theorem dX2_valueAt_29 : decode cX2_valueAt 29 = .ok (.invokevirtual 94, 3) := by decide +kernel
theorem dX2_valueAt_32 : decode cX2_valueAt 32 = .ok (.ifCond .eq 21, 3) := by decide +kernel
theorem dX2_valueAt_35 : decode cX2_valueAt 35 = .ok (.iload_n 3, 1) := by decide +kernel
theorem dX2_valueAt_36 : decode cX2_valueAt 36 = .ok (.iconst (-1), 1) := by decide +kernel
theorem dX2_valueAt_37 : decode cX2_valueAt 37 = .ok (.if_icmp .eq 13, 3) := by decide +kernel
theorem dX2_valueAt_40 : decode cX2_valueAt 40 = .ok (.aload_n 0, 1) := by decide +kernel
theorem dX2_valueAt_41 : decode cX2_valueAt 41 = .ok (.iload 4, 2) := by decide +kernel
theorem dX2_valueAt_43 : decode cX2_valueAt 43 = .ok (.iload_n 3, 1) := by decide +kernel
theorem dX2_valueAt_44 : decode cX2_valueAt 44 = .ok (.invokevirtual 112, 3) := by decide +kernel
theorem dX2_valueAt_47 : decode cX2_valueAt 47 = .ok (.ifCond .eq 6, 3) := by decide +kernel
theorem dX2_valueAt_50 : decode cX2_valueAt 50 = .ok (.iload 4, 2) := by decide +kernel
theorem dX2_valueAt_52 : decode cX2_valueAt 52 = .ok (.istore_n 3, 1) := by decide +kernel
theorem dX2_valueAt_53 : decode cX2_valueAt 53 = .ok (.iinc 4 1, 3) := by decide +kernel
theorem dX2_valueAt_56 : decode cX2_valueAt 56 = .ok (.goto (-51), 3) := by decide +kernel
theorem dX2_valueAt_59 : decode cX2_valueAt 59 = .ok (.iload_n 3, 1) := by decide +kernel
theorem dX2_valueAt_60 : decode cX2_valueAt 60 = .ok (.iconst (-1), 1) := by decide +kernel
theorem dX2_valueAt_61 : decode cX2_valueAt 61 = .ok (.if_icmp .ne 8, 3) := by decide +kernel
theorem dX2_valueAt_64 : decode cX2_valueAt 64 = .ok (.bipush 100, 2) := by decide +kernel
theorem dX2_valueAt_66 : decode cX2_valueAt 66 = .ok (.goto 9, 3) := by decide +kernel
theorem dX2_valueAt_69 : decode cX2_valueAt 69 = .ok (.aload_n 0, 1) := by decide +kernel
theorem dX2_valueAt_70 : decode cX2_valueAt 70 = .ok (.getfield 25, 3) := by decide +kernel
theorem dX2_valueAt_73 : decode cX2_valueAt 73 = .ok (.iload_n 3, 1) := by decide +kernel
theorem dX2_valueAt_74 : decode cX2_valueAt 74 = .ok (.iaload, 1) := by decide +kernel
theorem dX2_valueAt_75 : decode cX2_valueAt 75 = .ok (.ireturn, 1) := by decide +kernel
theorem dX2_knows_0 : decode cX2_knows 0 = .ok (.aload_n 0, 1) := by decide +kernel
theorem dX2_knows_1 : decode cX2_knows 1 = .ok (.getfield 19, 3) := by decide +kernel
theorem dX2_knows_4 : decode cX2_knows 4 = .ok (.iload_n 2, 1) := by decide +kernel
theorem dX2_knows_5 : decode cX2_knows 5 = .ok (.iaload, 1) := by decide +kernel
theorem dX2_knows_6 : decode cX2_knows 6 = .ok (.aload_n 0, 1) := by decide +kernel
theorem dX2_knows_7 : decode cX2_knows 7 = .ok (.getfield 33, 3) := by decide +kernel
theorem dX2_knows_10 : decode cX2_knows 10 = .ok (.iload_n 1, 1) := by decide +kernel
theorem dX2_knows_11 : decode cX2_knows 11 = .ok (.aaload, 1) := by decide +kernel
theorem dX2_knows_12 : decode cX2_knows 12 = .ok (.aload_n 0, 1) := by decide +kernel
theorem dX2_knows_13 : decode cX2_knows 13 = .ok (.getfield 15, 3) := by decide +kernel
theorem dX2_knows_16 : decode cX2_knows 16 = .ok (.iload_n 2, 1) := by decide +kernel
theorem dX2_knows_17 : decode cX2_knows 17 = .ok (.iaload, 1) := by decide +kernel
theorem dX2_knows_18 : decode cX2_knows 18 = .ok (.iaload, 1) := by decide +kernel
theorem dX2_knows_19 : decode cX2_knows 19 = .ok (.if_icmp .gt 7, 3) := by decide +kernel
theorem dX2_knows_22 : decode cX2_knows 22 = .ok (.iconst 1, 1) := by decide +kernel
theorem dX2_knows_23 : decode cX2_knows 23 = .ok (.goto 4, 3) := by decide +kernel
theorem dX2_knows_26 : decode cX2_knows 26 = .ok (.iconst 0, 1) := by decide +kernel
theorem dX2_knows_27 : decode cX2_knows 27 = .ok (.ireturn, 1) := by decide +kernel
theorem dX2_isLater_0 : decode cX2_isLater 0 = .ok (.aload_n 0, 1) := by decide +kernel
theorem dX2_isLater_1 : decode cX2_isLater 1 = .ok (.getfield 28, 3) := by decide +kernel
theorem dX2_isLater_4 : decode cX2_isLater 4 = .ok (.iload_n 1, 1) := by decide +kernel
theorem dX2_isLater_5 : decode cX2_isLater 5 = .ok (.iaload, 1) := by decide +kernel
theorem dX2_isLater_6 : decode cX2_isLater 6 = .ok (.aload_n 0, 1) := by decide +kernel
theorem dX2_isLater_7 : decode cX2_isLater 7 = .ok (.getfield 28, 3) := by decide +kernel
theorem dX2_isLater_10 : decode cX2_isLater 10 = .ok (.iload_n 2, 1) := by decide +kernel
theorem dX2_isLater_11 : decode cX2_isLater 11 = .ok (.iaload, 1) := by decide +kernel
theorem dX2_isLater_12 : decode cX2_isLater 12 = .ok (.if_icmp .eq 24, 3) := by decide +kernel
theorem dX2_isLater_15 : decode cX2_isLater 15 = .ok (.aload_n 0, 1) := by decide +kernel
theorem dX2_isLater_16 : decode cX2_isLater 16 = .ok (.getfield 28, 3) := by decide +kernel
theorem dX2_isLater_19 : decode cX2_isLater 19 = .ok (.iload_n 1, 1) := by decide +kernel
theorem dX2_isLater_20 : decode cX2_isLater 20 = .ok (.iaload, 1) := by decide +kernel
theorem dX2_isLater_21 : decode cX2_isLater 21 = .ok (.aload_n 0, 1) := by decide +kernel
theorem dX2_isLater_22 : decode cX2_isLater 22 = .ok (.getfield 28, 3) := by decide +kernel
theorem dX2_isLater_25 : decode cX2_isLater 25 = .ok (.iload_n 2, 1) := by decide +kernel
theorem dX2_isLater_26 : decode cX2_isLater 26 = .ok (.iaload, 1) := by decide +kernel
theorem dX2_isLater_27 : decode cX2_isLater 27 = .ok (.if_icmp .le 7, 3) := by decide +kernel
theorem dX2_isLater_30 : decode cX2_isLater 30 = .ok (.iconst 1, 1) := by decide +kernel
theorem dX2_isLater_31 : decode cX2_isLater 31 = .ok (.goto 4, 3) := by decide +kernel
theorem dX2_isLater_34 : decode cX2_isLater 34 = .ok (.iconst 0, 1) := by decide +kernel
theorem dX2_isLater_35 : decode cX2_isLater 35 = .ok (.ireturn, 1) := by decide +kernel
theorem dX2_isLater_36 : decode cX2_isLater 36 = .ok (.aload_n 0, 1) := by decide +kernel
theorem dX2_isLater_37 : decode cX2_isLater 37 = .ok (.getfield 15, 3) := by decide +kernel
theorem dX2_isLater_40 : decode cX2_isLater 40 = .ok (.iload_n 1, 1) := by decide +kernel
theorem dX2_isLater_41 : decode cX2_isLater 41 = .ok (.iaload, 1) := by decide +kernel
theorem dX2_isLater_42 : decode cX2_isLater 42 = .ok (.aload_n 0, 1) := by decide +kernel
theorem dX2_isLater_43 : decode cX2_isLater 43 = .ok (.getfield 15, 3) := by decide +kernel
theorem dX2_isLater_46 : decode cX2_isLater 46 = .ok (.iload_n 2, 1) := by decide +kernel
theorem dX2_isLater_47 : decode cX2_isLater 47 = .ok (.iaload, 1) := by decide +kernel
theorem dX2_isLater_48 : decode cX2_isLater 48 = .ok (.if_icmp .le 7, 3) := by decide +kernel
theorem dX2_isLater_51 : decode cX2_isLater 51 = .ok (.iconst 1, 1) := by decide +kernel
theorem dX2_isLater_52 : decode cX2_isLater 52 = .ok (.goto 4, 3) := by decide +kernel
theorem dX2_isLater_55 : decode cX2_isLater 55 = .ok (.iconst 0, 1) := by decide +kernel
theorem dX2_isLater_56 : decode cX2_isLater 56 = .ok (.ireturn, 1) := by decide +kernel
set_option maxRecDepth 20000 in
theorem ggX2_countBreaches_X3_contains : GoodIn wsX2_countBreaches wsX3_contains := goodIn_r _ [4] (by decide +kernel) (by decide +kernel)
set_option maxRecDepth 20000 in
theorem gX2_countBreaches_X3_contains_n109 : GoodIn wsX2_countBreaches (wsX3_contains) := ggX2_countBreaches_X3_contains
theorem dX2_countBreaches_0 : decode cX2_countBreaches 0 = .ok (.iconst 0, 1) := by decide +kernel
theorem dX2_countBreaches_1 : decode cX2_countBreaches 1 = .ok (.istore_n 2, 1) := by decide +kernel
theorem dX2_countBreaches_2 : decode cX2_countBreaches 2 = .ok (.iload_n 2, 1) := by decide +kernel
theorem dX2_countBreaches_3 : decode cX2_countBreaches 3 = .ok (.iconst 4, 1) := by decide +kernel
theorem dX2_countBreaches_4 : decode cX2_countBreaches 4 = .ok (.if_icmp .ge 27, 3) := by decide +kernel
theorem dX2_countBreaches_7 : decode cX2_countBreaches 7 = .ok (.iload_n 1, 1) := by decide +kernel
theorem dX2_countBreaches_8 : decode cX2_countBreaches 8 = .ok (.iload_n 2, 1) := by decide +kernel
theorem dX2_countBreaches_9 : decode cX2_countBreaches 9 = .ok (.invokestatic 109, 3) := by decide +kernel
theorem dX2_countBreaches_12 : decode cX2_countBreaches 12 = .ok (.ifCond .eq 13, 3) := by decide +kernel
theorem dX2_countBreaches_15 : decode cX2_countBreaches 15 = .ok (.aload_n 0, 1) := by decide +kernel
theorem dX2_countBreaches_16 : decode cX2_countBreaches 16 = .ok (.getfield 48, 3) := by decide +kernel
theorem dX2_countBreaches_19 : decode cX2_countBreaches 19 = .ok (.iload_n 2, 1) := by decide +kernel
theorem dX2_countBreaches_20 : decode cX2_countBreaches 20 = .ok (.dup2, 1) := by decide +kernel
theorem dX2_countBreaches_21 : decode cX2_countBreaches 21 = .ok (.iaload, 1) := by decide +kernel
theorem dX2_countBreaches_22 : decode cX2_countBreaches 22 = .ok (.iconst 1, 1) := by decide +kernel
theorem dX2_countBreaches_23 : decode cX2_countBreaches 23 = .ok (.iadd, 1) := by decide +kernel
theorem dX2_countBreaches_24 : decode cX2_countBreaches 24 = .ok (.iastore, 1) := by decide +kernel
theorem dX2_countBreaches_25 : decode cX2_countBreaches 25 = .ok (.iinc 2 1, 3) := by decide +kernel
theorem dX2_countBreaches_28 : decode cX2_countBreaches 28 = .ok (.goto (-26), 3) := by decide +kernel
theorem dX2_countBreaches_31 : decode cX2_countBreaches 31 = .ok (.return_, 1) := by decide +kernel
set_option maxRecDepth 20000 in
theorem ggX2_mixInto_X3_mix : GoodIn wsX2_mixInto wsX3_mix := goodIn_r _ [10, 11] (by decide +kernel) (by decide +kernel)
set_option maxRecDepth 20000 in
theorem gX2_mixInto_X3_mix_n115 : GoodIn wsX2_mixInto (wsX3_mix) := ggX2_mixInto_X3_mix
set_option maxRecDepth 20000 in
theorem ggX2_mixInto_X3_mixAll : GoodIn wsX2_mixInto wsX3_mixAll := goodIn_r _ [13, 14, 8, 9, 10, 11] (by decide +kernel) (by decide +kernel)
set_option maxRecDepth 20000 in
theorem gX2_mixInto_X3_mixAll_n119 : GoodIn wsX2_mixInto (wsX3_mixAll) := ggX2_mixInto_X3_mixAll
set_option maxRecDepth 20000 in
theorem ggX2_mixInto_X2_valueAt : GoodIn wsX2_mixInto wsX2_valueAt := goodIn_r _ [19, 1, 20, 21, 22, 23, 24, 18, 25, 26, 2, 27, 28, 29, 30, 31, 32, 33, 34, 35, 36, 37, 38, 39, 40, 41, 42, 43, 44] (by decide +kernel) (by decide +kernel)
set_option maxRecDepth 20000 in
theorem gX2_mixInto_X2_valueAt : GoodIn wsX2_mixInto (wsV RX2 88 RX2 yX2_valueAt wsX2_valueAt) := goodIn_app (goodIn_of _ (by decide +kernel)) ggX2_mixInto_X2_valueAt
theorem dX2_mixInto_0 : decode cX2_mixInto 0 = .ok (.lload_n 1, 1) := by decide +kernel
theorem dX2_mixInto_1 : decode cX2_mixInto 1 = .ok (.aload_n 0, 1) := by decide +kernel
theorem dX2_mixInto_2 : decode cX2_mixInto 2 = .ok (.getfield 9, 3) := by decide +kernel
theorem dX2_mixInto_5 : decode cX2_mixInto 5 = .ok (.invokestatic 115, 3) := by decide +kernel
theorem dX2_mixInto_8 : decode cX2_mixInto 8 = .ok (.lstore_n 1, 1) := by decide +kernel
theorem dX2_mixInto_9 : decode cX2_mixInto 9 = .ok (.iconst 0, 1) := by decide +kernel
theorem dX2_mixInto_10 : decode cX2_mixInto 10 = .ok (.istore_n 3, 1) := by decide +kernel
theorem dX2_mixInto_11 : decode cX2_mixInto 11 = .ok (.iload_n 3, 1) := by decide +kernel
theorem dX2_mixInto_12 : decode cX2_mixInto 12 = .ok (.iconst 3, 1) := by decide +kernel
theorem dX2_mixInto_13 : decode cX2_mixInto 13 = .ok (.if_icmp .ge 58, 3) := by decide +kernel
theorem dX2_mixInto_16 : decode cX2_mixInto 16 = .ok (.lload_n 1, 1) := by decide +kernel
theorem dX2_mixInto_17 : decode cX2_mixInto 17 = .ok (.aload_n 0, 1) := by decide +kernel
theorem dX2_mixInto_18 : decode cX2_mixInto 18 = .ok (.getfield 33, 3) := by decide +kernel
theorem dX2_mixInto_21 : decode cX2_mixInto 21 = .ok (.iload_n 3, 1) := by decide +kernel
theorem dX2_mixInto_22 : decode cX2_mixInto 22 = .ok (.aaload, 1) := by decide +kernel
theorem dX2_mixInto_23 : decode cX2_mixInto 23 = .ok (.invokestatic 119, 3) := by decide +kernel
theorem dX2_mixInto_26 : decode cX2_mixInto 26 = .ok (.lstore_n 1, 1) := by decide +kernel
theorem dX2_mixInto_27 : decode cX2_mixInto 27 = .ok (.lload_n 1, 1) := by decide +kernel
theorem dX2_mixInto_28 : decode cX2_mixInto 28 = .ok (.aload_n 0, 1) := by decide +kernel
theorem dX2_mixInto_29 : decode cX2_mixInto 29 = .ok (.getfield 36, 3) := by decide +kernel
theorem dX2_mixInto_32 : decode cX2_mixInto 32 = .ok (.iload_n 3, 1) := by decide +kernel
theorem dX2_mixInto_33 : decode cX2_mixInto 33 = .ok (.iaload, 1) := by decide +kernel
theorem dX2_mixInto_34 : decode cX2_mixInto 34 = .ok (.invokestatic 115, 3) := by decide +kernel
theorem dX2_mixInto_37 : decode cX2_mixInto 37 = .ok (.lstore_n 1, 1) := by decide +kernel
theorem dX2_mixInto_38 : decode cX2_mixInto 38 = .ok (.iconst 0, 1) := by decide +kernel
theorem dX2_mixInto_39 : decode cX2_mixInto 39 = .ok (.istore 4, 2) := by decide +kernel
theorem dX2_mixInto_41 : decode cX2_mixInto 41 = .ok (.iload 4, 2) := by decide +kernel
theorem dX2_mixInto_43 : decode cX2_mixInto 43 = .ok (.iconst 4, 1) := by decide +kernel
theorem dX2_mixInto_44 : decode cX2_mixInto 44 = .ok (.if_icmp .ge 21, 3) := by decide +kernel
theorem dX2_mixInto_47 : decode cX2_mixInto 47 = .ok (.lload_n 1, 1) := by decide +kernel
theorem dX2_mixInto_48 : decode cX2_mixInto 48 = .ok (.aload_n 0, 1) := by decide +kernel
theorem dX2_mixInto_49 : decode cX2_mixInto 49 = .ok (.iload_n 3, 1) := by decide +kernel
theorem dX2_mixInto_50 : decode cX2_mixInto 50 = .ok (.iload 4, 2) := by decide +kernel
theorem dX2_mixInto_52 : decode cX2_mixInto 52 = .ok (.invokevirtual 88, 3) := by decide +kernel
theorem dX2_mixInto_55 : decode cX2_mixInto 55 = .ok (.invokestatic 115, 3) := by decide +kernel
theorem dX2_mixInto_58 : decode cX2_mixInto 58 = .ok (.lstore_n 1, 1) := by decide +kernel
theorem dX2_mixInto_59 : decode cX2_mixInto 59 = .ok (.iinc 4 1, 3) := by decide +kernel
theorem dX2_mixInto_62 : decode cX2_mixInto 62 = .ok (.goto (-21), 3) := by decide +kernel
theorem dX2_mixInto_65 : decode cX2_mixInto 65 = .ok (.iinc 3 1, 3) := by decide +kernel
theorem dX2_mixInto_68 : decode cX2_mixInto 68 = .ok (.goto (-57), 3) := by decide +kernel
theorem dX2_mixInto_71 : decode cX2_mixInto 71 = .ok (.iconst 0, 1) := by decide +kernel
theorem dX2_mixInto_72 : decode cX2_mixInto 72 = .ok (.istore_n 3, 1) := by decide +kernel
theorem dX2_mixInto_73 : decode cX2_mixInto 73 = .ok (.iload_n 3, 1) := by decide +kernel
theorem dX2_mixInto_74 : decode cX2_mixInto 74 = .ok (.iconst 4, 1) := by decide +kernel
theorem dX2_mixInto_75 : decode cX2_mixInto 75 = .ok (.if_icmp .ge 42, 3) := by decide +kernel
theorem dX2_mixInto_78 : decode cX2_mixInto 78 = .ok (.lload_n 1, 1) := by decide +kernel
theorem dX2_mixInto_79 : decode cX2_mixInto 79 = .ok (.aload_n 0, 1) := by decide +kernel
theorem dX2_mixInto_80 : decode cX2_mixInto 80 = .ok (.getfield 39, 3) := by decide +kernel
theorem dX2_mixInto_83 : decode cX2_mixInto 83 = .ok (.iload_n 3, 1) := by decide +kernel
theorem dX2_mixInto_84 : decode cX2_mixInto 84 = .ok (.iaload, 1) := by decide +kernel
theorem dX2_mixInto_85 : decode cX2_mixInto 85 = .ok (.invokestatic 115, 3) := by decide +kernel
theorem dX2_mixInto_88 : decode cX2_mixInto 88 = .ok (.lstore_n 1, 1) := by decide +kernel
theorem dX2_mixInto_89 : decode cX2_mixInto 89 = .ok (.lload_n 1, 1) := by decide +kernel
theorem dX2_mixInto_90 : decode cX2_mixInto 90 = .ok (.aload_n 0, 1) := by decide +kernel
theorem dX2_mixInto_91 : decode cX2_mixInto 91 = .ok (.getfield 42, 3) := by decide +kernel
theorem dX2_mixInto_94 : decode cX2_mixInto 94 = .ok (.iload_n 3, 1) := by decide +kernel
theorem dX2_mixInto_95 : decode cX2_mixInto 95 = .ok (.aaload, 1) := by decide +kernel
theorem dX2_mixInto_96 : decode cX2_mixInto 96 = .ok (.invokestatic 119, 3) := by decide +kernel
theorem dX2_mixInto_99 : decode cX2_mixInto 99 = .ok (.lstore_n 1, 1) := by decide +kernel
theorem dX2_mixInto_100 : decode cX2_mixInto 100 = .ok (.lload_n 1, 1) := by decide +kernel
theorem dX2_mixInto_101 : decode cX2_mixInto 101 = .ok (.aload_n 0, 1) := by decide +kernel
theorem dX2_mixInto_102 : decode cX2_mixInto 102 = .ok (.getfield 45, 3) := by decide +kernel
theorem dX2_mixInto_105 : decode cX2_mixInto 105 = .ok (.iload_n 3, 1) := by decide +kernel
theorem dX2_mixInto_106 : decode cX2_mixInto 106 = .ok (.aaload, 1) := by decide +kernel
theorem dX2_mixInto_107 : decode cX2_mixInto 107 = .ok (.invokestatic 119, 3) := by decide +kernel
theorem dX2_mixInto_110 : decode cX2_mixInto 110 = .ok (.lstore_n 1, 1) := by decide +kernel
theorem dX2_mixInto_111 : decode cX2_mixInto 111 = .ok (.iinc 3 1, 3) := by decide +kernel
theorem dX2_mixInto_114 : decode cX2_mixInto 114 = .ok (.goto (-41), 3) := by decide +kernel
theorem dX2_mixInto_117 : decode cX2_mixInto 117 = .ok (.lload_n 1, 1) := by decide +kernel
theorem dX2_mixInto_118 : decode cX2_mixInto 118 = .ok (.aload_n 0, 1) := by decide +kernel
theorem dX2_mixInto_119 : decode cX2_mixInto 119 = .ok (.getfield 48, 3) := by decide +kernel
theorem dX2_mixInto_122 : decode cX2_mixInto 122 = .ok (.invokestatic 119, 3) := by decide +kernel
theorem dX2_mixInto_125 : decode cX2_mixInto 125 = .ok (.lreturn, 1) := by decide +kernel
theorem dX2_merge_0 : decode cX2_merge 0 = .ok (.iconst 0, 1) := by decide +kernel
theorem dX2_merge_1 : decode cX2_merge 1 = .ok (.istore_n 2, 1) := by decide +kernel
theorem dX2_merge_2 : decode cX2_merge 2 = .ok (.iload_n 2, 1) := by decide +kernel
theorem dX2_merge_3 : decode cX2_merge 3 = .ok (.iconst 3, 1) := by decide +kernel
theorem dX2_merge_4 : decode cX2_merge 4 = .ok (.if_icmp .ge 21, 3) := by decide +kernel
theorem dX2_merge_7 : decode cX2_merge 7 = .ok (.aload_n 1, 1) := by decide +kernel
theorem dX2_merge_8 : decode cX2_merge 8 = .ok (.iload_n 2, 1) := by decide +kernel
theorem dX2_merge_9 : decode cX2_merge 9 = .ok (.aload_n 1, 1) := by decide +kernel
theorem dX2_merge_10 : decode cX2_merge 10 = .ok (.iload_n 2, 1) := by decide +kernel
theorem dX2_merge_11 : decode cX2_merge 11 = .ok (.iaload, 1) := by decide +kernel
theorem dX2_merge_12 : decode cX2_merge 12 = .ok (.aload_n 0, 1) := by decide +kernel
theorem dX2_merge_13 : decode cX2_merge 13 = .ok (.iload_n 2, 1) := by decide +kernel
theorem dX2_merge_14 : decode cX2_merge 14 = .ok (.iaload, 1) := by decide +kernel
theorem dX2_merge_15 : decode cX2_merge 15 = .ok (.invokestatic 97, 3) := by decide +kernel
theorem dX2_merge_18 : decode cX2_merge 18 = .ok (.iastore, 1) := by decide +kernel
theorem dX2_merge_19 : decode cX2_merge 19 = .ok (.iinc 2 1, 3) := by decide +kernel
theorem dX2_merge_22 : decode cX2_merge 22 = .ok (.goto (-20), 3) := by decide +kernel
theorem dX2_merge_25 : decode cX2_merge 25 = .ok (.return_, 1) := by decide +kernel
theorem dX2_copyRow_0 : decode cX2_copyRow 0 = .ok (.aload_n 0, 1) := by decide +kernel
theorem dX2_copyRow_1 : decode cX2_copyRow 1 = .ok (.iconst 0, 1) := by decide +kernel
theorem dX2_copyRow_2 : decode cX2_copyRow 2 = .ok (.aload_n 1, 1) := by decide +kernel
theorem dX2_copyRow_3 : decode cX2_copyRow 3 = .ok (.iconst 0, 1) := by decide +kernel
theorem dX2_copyRow_4 : decode cX2_copyRow 4 = .ok (.aload_n 0, 1) := by decide +kernel
theorem dX2_copyRow_5 : decode cX2_copyRow 5 = .ok (.arraylength, 1) := by decide +kernel
theorem dX2_copyRow_6 : decode cX2_copyRow 6 = .ok (.aload_n 1, 1) := by decide +kernel
theorem dX2_copyRow_7 : decode cX2_copyRow 7 = .ok (.arraylength, 1) := by decide +kernel
theorem dX2_copyRow_8 : decode cX2_copyRow 8 = .ok (.invokestatic 123, 3) := by decide +kernel
theorem dX2_copyRow_11 : decode cX2_copyRow 11 = .ok (.invokestatic 126, 3) := by decide +kernel
theorem dX2_copyRow_14 : decode cX2_copyRow 14 = .ok (.return_, 1) := by decide +kernel
set_option maxRecDepth 20000 in
theorem ggX2_copyRows_X2_copyRow : GoodIn wsX2_copyRows wsX2_copyRow := goodIn_r _ [4, 5, 6, 7, 8, 9, 10, 11, 12] (by decide +kernel) (by decide +kernel)
set_option maxRecDepth 20000 in
theorem gX2_copyRows_X2_copyRow : GoodIn wsX2_copyRows (va_wsS RX2 51 yX2_copyRow wsX2_copyRow) := goodIn_app (goodIn_of _ (by decide +kernel)) ggX2_copyRows_X2_copyRow
theorem dX2_copyRows_0 : decode cX2_copyRows 0 = .ok (.iconst 0, 1) := by decide +kernel
theorem dX2_copyRows_1 : decode cX2_copyRows 1 = .ok (.istore_n 2, 1) := by decide +kernel
theorem dX2_copyRows_2 : decode cX2_copyRows 2 = .ok (.iload_n 2, 1) := by decide +kernel
theorem dX2_copyRows_3 : decode cX2_copyRows 3 = .ok (.aload_n 0, 1) := by decide +kernel
theorem dX2_copyRows_4 : decode cX2_copyRows 4 = .ok (.arraylength, 1) := by decide +kernel
theorem dX2_copyRows_5 : decode cX2_copyRows 5 = .ok (.if_icmp .ge 24, 3) := by decide +kernel
theorem dX2_copyRows_8 : decode cX2_copyRows 8 = .ok (.iload_n 2, 1) := by decide +kernel
theorem dX2_copyRows_9 : decode cX2_copyRows 9 = .ok (.aload_n 1, 1) := by decide +kernel
theorem dX2_copyRows_10 : decode cX2_copyRows 10 = .ok (.arraylength, 1) := by decide +kernel
theorem dX2_copyRows_11 : decode cX2_copyRows 11 = .ok (.if_icmp .ge 18, 3) := by decide +kernel
theorem dX2_copyRows_14 : decode cX2_copyRows 14 = .ok (.aload_n 0, 1) := by decide +kernel
theorem dX2_copyRows_15 : decode cX2_copyRows 15 = .ok (.iload_n 2, 1) := by decide +kernel
theorem dX2_copyRows_16 : decode cX2_copyRows 16 = .ok (.aaload, 1) := by decide +kernel
theorem dX2_copyRows_17 : decode cX2_copyRows 17 = .ok (.aload_n 1, 1) := by decide +kernel
theorem dX2_copyRows_18 : decode cX2_copyRows 18 = .ok (.iload_n 2, 1) := by decide +kernel
theorem dX2_copyRows_19 : decode cX2_copyRows 19 = .ok (.aaload, 1) := by decide +kernel
theorem dX2_copyRows_20 : decode cX2_copyRows 20 = .ok (.invokestatic 51, 3) := by decide +kernel
theorem dX2_copyRows_23 : decode cX2_copyRows 23 = .ok (.iinc 2 1, 3) := by decide +kernel
theorem dX2_copyRows_26 : decode cX2_copyRows 26 = .ok (.goto (-24), 3) := by decide +kernel
theorem dX2_copyRows_29 : decode cX2_copyRows 29 = .ok (.return_, 1) := by decide +kernel
set_option maxRecDepth 20000 in
theorem ggX3_init_X2_init : GoodIn wsX3_init wsX2_init := goodIn_r _ [19, 20, 2, 3, 21, 16, 22, 23, 24, 25, 26, 27, 28, 29, 30, 31, 32, 33, 54, 55, 56, 57, 58, 59, 60, 61, 62, 63, 64, 65] (by decide +kernel) (by decide +kernel)
set_option maxRecDepth 20000 in
theorem gX3_init_X2_init_n11 : GoodIn wsX3_init (wsX2_init) := ggX3_init_X2_init
set_option maxRecDepth 20000 in
theorem ggX3_init_X0_init : GoodIn wsX3_init wsX0_init := goodIn_r _ [36, 37, 2, 3, 38, 39, 40, 41, 5, 6, 18, 19, 20, 21, 16, 22, 23, 24, 25, 26, 27, 28, 29, 30, 31, 32, 33, 70, 71, 72, 54, 55, 56, 57, 58, 59, 60, 61, 62, 63, 64, 65] (by decide +kernel) (by decide +kernel)
set_option maxRecDepth 20000 in
theorem gX3_init_X0_init : GoodIn wsX3_init (wsX0_init) := ggX3_init_X0_init
set_option maxRecDepth 20000 in
theorem ggX3_init_X1_init : GoodIn wsX3_init wsX1_init := goodIn_r _ [43, 44, 2, 3, 16, 45, 46, 47, 48, 49, 50, 51, 52, 53, 73, 74, 75, 76, 77, 78, 79, 80] (by decide +kernel) (by decide +kernel)
set_option maxRecDepth 20000 in
theorem gX3_init_X1_init_n25 : GoodIn wsX3_init (wsX1_init) := ggX3_init_X1_init
theorem dX3_init_0 : decode cX3_init 0 = .ok (.aload_n 0, 1) := by decide +kernel
theorem dX3_init_1 : decode cX3_init 1 = .ok (.invokespecial 3, 3) := by decide +kernel
theorem dX3_init_4 : decode cX3_init 4 = .ok (.aload_n 0, 1) := by decide +kernel
theorem dX3_init_5 : decode cX3_init 5 = .ok (.new 9, 3) := by decide +kernel
theorem dX3_init_8 : decode cX3_init 8 = .ok (.dup, 1) := by decide +kernel
theorem dX3_init_9 : decode cX3_init 9 = .ok (.invokespecial 11, 3) := by decide +kernel
theorem dX3_init_12 : decode cX3_init 12 = .ok (.putfield 12, 3) := by decide +kernel
theorem dX3_init_15 : decode cX3_init 15 = .ok (.aload_n 0, 1) := by decide +kernel
theorem dX3_init_16 : decode cX3_init 16 = .ok (.new 16, 3) := by decide +kernel
theorem dX3_init_19 : decode cX3_init 19 = .ok (.dup, 1) := by decide +kernel
theorem dX3_init_20 : decode cX3_init 20 = .ok (.invokespecial 18, 3) := by decide +kernel
theorem dX3_init_23 : decode cX3_init 23 = .ok (.putfield 19, 3) := by decide +kernel
theorem dX3_init_26 : decode cX3_init 26 = .ok (.aload_n 0, 1) := by decide +kernel
theorem dX3_init_27 : decode cX3_init 27 = .ok (.new 23, 3) := by decide +kernel
theorem dX3_init_30 : decode cX3_init 30 = .ok (.dup, 1) := by decide +kernel
theorem dX3_init_31 : decode cX3_init 31 = .ok (.invokespecial 25, 3) := by decide +kernel
theorem dX3_init_34 : decode cX3_init 34 = .ok (.putfield 26, 3) := by decide +kernel
theorem dX3_init_37 : decode cX3_init 37 = .ok (.aload_n 0, 1) := by decide +kernel
theorem dX3_init_38 : decode cX3_init 38 = .ok (.iconst 5, 1) := by decide +kernel
theorem dX3_init_39 : decode cX3_init 39 = .ok (.newarray .int, 2) := by decide +kernel
theorem dX3_init_41 : decode cX3_init 41 = .ok (.putfield 30, 3) := by decide +kernel
theorem dX3_init_44 : decode cX3_init 44 = .ok (.return_, 1) := by decide +kernel
set_option maxRecDepth 20000 in
theorem ggX3_setGuarantees_X0_prepare : GoodIn wsX3_setGuarantees wsX0_prepare := goodIn_r _ [7, 8, 9, 10, 11, 12, 13, 14, 15, 16, 17, 18, 19, 20, 21, 22, 23, 24, 25, 26, 27, 28, 29, 30, 31, 32, 33, 34, 35, 36, 37, 38, 39, 40, 73, 74, 75, 76, 77, 78, 79, 80, 81, 82, 83, 84, 85, 86, 87] (by decide +kernel) (by decide +kernel)
set_option maxRecDepth 20000 in
theorem gX3_setGuarantees_X0_prepare : GoodIn wsX3_setGuarantees (wsV RX3 34 RX0 yX0_prepare wsX0_prepare) := goodIn_app (goodIn_of _ (by decide +kernel)) ggX3_setGuarantees_X0_prepare
set_option maxRecDepth 20000 in
theorem ggX3_setGuarantees_X2_changeGuarantees : GoodIn wsX3_setGuarantees wsX2_changeGuarantees := goodIn_r _ [44, 23, 45, 46, 47, 48, 49, 50, 76, 77, 78, 79, 80, 81, 82, 83, 84, 85, 86, 87] (by decide +kernel) (by decide +kernel)
set_option maxRecDepth 20000 in
theorem gX3_setGuarantees_X2_changeGuarantees : GoodIn wsX3_setGuarantees (wsV RX3 38 RX2 yX2_changeGuarantees wsX2_changeGuarantees) := goodIn_app (goodIn_of _ (by decide +kernel)) ggX3_setGuarantees_X2_changeGuarantees
set_option maxRecDepth 20000 in
theorem ggX3_setGuarantees_X3_endUndoable : GoodIn wsX3_setGuarantees wsX3_endUndoable := goodIn_r _ [54, 1, 55, 56, 57, 6, 58, 9, 59, 60, 31, 32, 33, 61, 62, 63, 46, 64, 65, 66, 67, 68, 69, 70, 71, 72, 73, 74, 75] (by decide +kernel) (by decide +kernel)
set_option maxRecDepth 20000 in
theorem gX3_setGuarantees_X3_endUndoable : GoodIn wsX3_setGuarantees (wsV RX3 42 RX3 yX3_endUndoable wsX3_endUndoable) := goodIn_app (goodIn_of _ (by decide +kernel)) ggX3_setGuarantees_X3_endUndoable
theorem dX3_setGuarantees_0 : decode cX3_setGuarantees 0 = .ok (.aload_n 0, 1) := by decide +kernel
theorem dX3_setGuarantees_1 : decode cX3_setGuarantees 1 = .ok (.getfield 19, 3) := by decide +kernel
theorem dX3_setGuarantees_4 : decode cX3_setGuarantees 4 = .ok (.aload_n 0, 1) := by decide +kernel
theorem dX3_setGuarantees_5 : decode cX3_setGuarantees 5 = .ok (.getfield 12, 3) := by decide +kernel
theorem dX3_setGuarantees_8 : decode cX3_setGuarantees 8 = .ok (.invokevirtual 34, 3) := by decide +kernel
theorem dX3_setGuarantees_11 : decode cX3_setGuarantees 11 = .ok (.aload_n 0, 1) := by decide +kernel
theorem dX3_setGuarantees_12 : decode cX3_setGuarantees 12 = .ok (.aload_n 0, 1) := by decide +kernel
theorem dX3_setGuarantees_13 : decode cX3_setGuarantees 13 = .ok (.getfield 12, 3) := by decide +kernel
theorem dX3_setGuarantees_16 : decode cX3_setGuarantees 16 = .ok (.iload_n 1, 1) := by decide +kernel
theorem dX3_setGuarantees_17 : decode cX3_setGuarantees 17 = .ok (.iload_n 2, 1) := by decide +kernel
theorem dX3_setGuarantees_18 : decode cX3_setGuarantees 18 = .ok (.invokevirtual 38, 3) := by decide +kernel
theorem dX3_setGuarantees_21 : decode cX3_setGuarantees 21 = .ok (.invokevirtual 42, 3) := by decide +kernel
theorem dX3_setGuarantees_24 : decode cX3_setGuarantees 24 = .ok (.ireturn, 1) := by decide +kernel
set_option maxRecDepth 20000 in
theorem ggX3_forget_X0_prepare : GoodIn wsX3_forget wsX0_prepare := goodIn_r _ [7, 8, 9, 10, 11, 12, 13, 14, 15, 16, 17, 18, 19, 20, 21, 22, 23, 24, 25, 26, 27, 28, 29, 30, 31, 32, 33, 34, 35, 36, 37, 38, 39, 40, 73, 74, 75, 76, 77, 78, 79, 80, 81, 82, 83, 84, 85, 86, 87] (by decide +kernel) (by decide +kernel)
set_option maxRecDepth 20000 in
theorem gX3_forget_X0_prepare : GoodIn wsX3_forget (wsV RX3 34 RX0 yX0_prepare wsX0_prepare) := goodIn_app (goodIn_of _ (by decide +kernel)) ggX3_forget_X0_prepare
set_option maxRecDepth 20000 in
theorem ggX3_forget_X2_clearVectors : GoodIn wsX3_forget wsX2_clearVectors := goodIn_r _ [44, 24, 25, 45, 46, 47, 48, 49, 50, 76, 77, 78, 79, 80, 81, 82, 83, 84, 85, 86, 87] (by decide +kernel) (by decide +kernel)
set_option maxRecDepth 20000 in
theorem gX3_forget_X2_clearVectors : GoodIn wsX3_forget (wsV RX3 46 RX2 yX2_clearVectors wsX2_clearVectors) := goodIn_app (goodIn_of _ (by decide +kernel)) ggX3_forget_X2_clearVectors
set_option maxRecDepth 20000 in
theorem ggX3_forget_X3_endUndoable : GoodIn wsX3_forget wsX3_endUndoable := goodIn_r _ [54, 1, 55, 56, 57, 6, 58, 9, 59, 60, 31, 32, 33, 61, 62, 63, 46, 64, 65, 66, 67, 68, 69, 70, 71, 72, 73, 74, 75] (by decide +kernel) (by decide +kernel)
set_option maxRecDepth 20000 in
theorem gX3_forget_X3_endUndoable : GoodIn wsX3_forget (wsV RX3 42 RX3 yX3_endUndoable wsX3_endUndoable) := goodIn_app (goodIn_of _ (by decide +kernel)) ggX3_forget_X3_endUndoable
theorem dX3_forget_0 : decode cX3_forget 0 = .ok (.aload_n 0, 1) := by decide +kernel
theorem dX3_forget_1 : decode cX3_forget 1 = .ok (.getfield 19, 3) := by decide +kernel
theorem dX3_forget_4 : decode cX3_forget 4 = .ok (.aload_n 0, 1) := by decide +kernel
theorem dX3_forget_5 : decode cX3_forget 5 = .ok (.getfield 12, 3) := by decide +kernel
theorem dX3_forget_8 : decode cX3_forget 8 = .ok (.invokevirtual 34, 3) := by decide +kernel
theorem dX3_forget_11 : decode cX3_forget 11 = .ok (.aload_n 0, 1) := by decide +kernel
theorem dX3_forget_12 : decode cX3_forget 12 = .ok (.aload_n 0, 1) := by decide +kernel
theorem dX3_forget_13 : decode cX3_forget 13 = .ok (.getfield 12, 3) := by decide +kernel
theorem dX3_forget_16 : decode cX3_forget 16 = .ok (.iload_n 1, 1) := by decide +kernel
theorem dX3_forget_17 : decode cX3_forget 17 = .ok (.invokevirtual 46, 3) := by decide +kernel
theorem dX3_forget_20 : decode cX3_forget 20 = .ok (.invokevirtual 42, 3) := by decide +kernel
theorem dX3_forget_23 : decode cX3_forget 23 = .ok (.ireturn, 1) := by decide +kernel
set_option maxRecDepth 20000 in
theorem ggX3_readCount_X3_isClient : GoodIn wsX3_readCount wsX3_isClient := goodIn_r _ [6, 7, 8, 5, 9] (by decide +kernel) (by decide +kernel)
set_option maxRecDepth 20000 in
theorem gX3_readCount_X3_isClient : GoodIn wsX3_readCount (va_wsS RX3 49 yX3_isClient wsX3_isClient) := goodIn_app (goodIn_of _ (by decide +kernel)) ggX3_readCount_X3_isClient
set_option maxRecDepth 20000 in
theorem ggX3_readCount_X3_isReplica : GoodIn wsX3_readCount wsX3_isReplica := goodIn_r _ [12, 7, 8, 5, 9] (by decide +kernel) (by decide +kernel)
set_option maxRecDepth 20000 in
theorem gX3_readCount_X3_isReplica : GoodIn wsX3_readCount (va_wsS RX3 53 yX3_isReplica wsX3_isReplica) := goodIn_app (goodIn_of _ (by decide +kernel)) ggX3_readCount_X3_isReplica
set_option maxRecDepth 20000 in
theorem ggX3_readCount_X3_counted : GoodIn wsX3_readCount wsX3_counted := goodIn_r _ [16, 17, 18, 19, 5, 20, 21, 22, 23, 24] (by decide +kernel) (by decide +kernel)
set_option maxRecDepth 20000 in
theorem gX3_readCount_X3_counted : GoodIn wsX3_readCount (wsV RX3 56 RX3 yX3_counted wsX3_counted) := goodIn_app (goodIn_of _ (by decide +kernel)) ggX3_readCount_X3_counted
theorem dX3_readCount_0 : decode cX3_readCount 0 = .ok (.iload_n 1, 1) := by decide +kernel
theorem dX3_readCount_1 : decode cX3_readCount 1 = .ok (.invokestatic 49, 3) := by decide +kernel
theorem dX3_readCount_4 : decode cX3_readCount 4 = .ok (.ifCond .eq 10, 3) := by decide +kernel
theorem dX3_readCount_7 : decode cX3_readCount 7 = .ok (.iload_n 2, 1) := by decide +kernel
theorem dX3_readCount_8 : decode cX3_readCount 8 = .ok (.invokestatic 53, 3) := by decide +kernel
theorem dX3_readCount_11 : decode cX3_readCount 11 = .ok (.ifCond .ne 10, 3) := by decide +kernel
theorem dX3_readCount_14 : decode cX3_readCount 14 = .ok (.aload_n 0, 1) := by decide +kernel
theorem dX3_readCount_15 : decode cX3_readCount 15 = .ok (.bipush (-2), 2) := by decide +kernel
theorem dX3_readCount_17 : decode cX3_readCount 17 = .ok (.invokevirtual 56, 3) := by decide +kernel
theorem dX3_readCount_20 : decode cX3_readCount 20 = .ok (.ireturn, 1) := by decide +kernel
theorem dX3_readCount_21 : decode cX3_readCount 21 = .ok (.aload_n 0, 1) := by decide +kernel
theorem dX3_readCount_22 : decode cX3_readCount 22 = .ok (.getfield 12, 3) := by decide +kernel
theorem dX3_readCount_25 : decode cX3_readCount 25 = .ok (.getfield 59, 3) := by decide +kernel
theorem dX3_readCount_28 : decode cX3_readCount 28 = .ok (.iload_n 1, 1) := by decide +kernel
theorem dX3_readCount_29 : decode cX3_readCount 29 = .ok (.aaload, 1) := by decide +kernel
theorem dX3_readCount_30 : decode cX3_readCount 30 = .ok (.iload_n 2, 1) := by decide +kernel
theorem dX3_readCount_31 : decode cX3_readCount 31 = .ok (.iaload, 1) := by decide +kernel
theorem dX3_readCount_32 : decode cX3_readCount 32 = .ok (.ireturn, 1) := by decide +kernel
set_option maxRecDepth 20000 in
theorem ggX3_writeCount_X3_isClient : GoodIn wsX3_writeCount wsX3_isClient := goodIn_r _ [6, 7, 8, 5, 9] (by decide +kernel) (by decide +kernel)
set_option maxRecDepth 20000 in
theorem gX3_writeCount_X3_isClient : GoodIn wsX3_writeCount (va_wsS RX3 49 yX3_isClient wsX3_isClient) := goodIn_app (goodIn_of _ (by decide +kernel)) ggX3_writeCount_X3_isClient
set_option maxRecDepth 20000 in
theorem ggX3_writeCount_X3_isReplica : GoodIn wsX3_writeCount wsX3_isReplica := goodIn_r _ [12, 7, 8, 5, 9] (by decide +kernel) (by decide +kernel)
set_option maxRecDepth 20000 in
theorem gX3_writeCount_X3_isReplica : GoodIn wsX3_writeCount (va_wsS RX3 53 yX3_isReplica wsX3_isReplica) := goodIn_app (goodIn_of _ (by decide +kernel)) ggX3_writeCount_X3_isReplica
set_option maxRecDepth 20000 in
theorem ggX3_writeCount_X3_counted : GoodIn wsX3_writeCount wsX3_counted := goodIn_r _ [16, 17, 18, 19, 5, 20, 21, 22, 23, 24] (by decide +kernel) (by decide +kernel)
set_option maxRecDepth 20000 in
theorem gX3_writeCount_X3_counted : GoodIn wsX3_writeCount (wsV RX3 56 RX3 yX3_counted wsX3_counted) := goodIn_app (goodIn_of _ (by decide +kernel)) ggX3_writeCount_X3_counted
theorem dX3_writeCount_0 : decode cX3_writeCount 0 = .ok (.iload_n 1, 1) := by decide +kernel
theorem dX3_writeCount_1 : decode cX3_writeCount 1 = .ok (.invokestatic 49, 3) := by decide +kernel
theorem dX3_writeCount_4 : decode cX3_writeCount 4 = .ok (.ifCond .eq 10, 3) := by decide +kernel
theorem dX3_writeCount_7 : decode cX3_writeCount 7 = .ok (.iload_n 2, 1) := by decide +kernel
theorem dX3_writeCount_8 : decode cX3_writeCount 8 = .ok (.invokestatic 53, 3) := by decide +kernel
theorem dX3_writeCount_11 : decode cX3_writeCount 11 = .ok (.ifCond .ne 10, 3) := by decide +kernel
theorem dX3_writeCount_14 : decode cX3_writeCount 14 = .ok (.aload_n 0, 1) := by decide +kernel
theorem dX3_writeCount_15 : decode cX3_writeCount 15 = .ok (.bipush (-2), 2) := by decide +kernel
theorem dX3_writeCount_17 : decode cX3_writeCount 17 = .ok (.invokevirtual 56, 3) := by decide +kernel
theorem dX3_writeCount_20 : decode cX3_writeCount 20 = .ok (.ireturn, 1) := by decide +kernel
theorem dX3_writeCount_21 : decode cX3_writeCount 21 = .ok (.aload_n 0, 1) := by decide +kernel
theorem dX3_writeCount_22 : decode cX3_writeCount 22 = .ok (.getfield 12, 3) := by decide +kernel
theorem dX3_writeCount_25 : decode cX3_writeCount 25 = .ok (.getfield 63, 3) := by decide +kernel
theorem dX3_writeCount_28 : decode cX3_writeCount 28 = .ok (.iload_n 1, 1) := by decide +kernel
theorem dX3_writeCount_29 : decode cX3_writeCount 29 = .ok (.aaload, 1) := by decide +kernel
theorem dX3_writeCount_30 : decode cX3_writeCount 30 = .ok (.iload_n 2, 1) := by decide +kernel
theorem dX3_writeCount_31 : decode cX3_writeCount 31 = .ok (.iaload, 1) := by decide +kernel
theorem dX3_writeCount_32 : decode cX3_writeCount 32 = .ok (.ireturn, 1) := by decide +kernel
set_option maxRecDepth 20000 in
theorem ggX3_read_X0_prepare : GoodIn wsX3_read wsX0_prepare := goodIn_r _ [7, 8, 9, 10, 11, 12, 13, 14, 15, 16, 17, 18, 19, 20, 21, 22, 23, 24, 25, 26, 27, 28, 29, 30, 31, 32, 33, 34, 35, 36, 37, 38, 39, 40, 115, 116, 117, 118, 119, 120, 121, 122, 123, 124, 125, 126, 127, 128, 129] (by decide +kernel) (by decide +kernel)
set_option maxRecDepth 20000 in
theorem gX3_read_X0_prepare : GoodIn wsX3_read (wsV RX3 34 RX0 yX0_prepare wsX0_prepare) := goodIn_app (goodIn_of _ (by decide +kernel)) ggX3_read_X0_prepare
set_option maxRecDepth 20000 in
theorem ggX3_read_X2_readKey : GoodIn wsX3_read wsX2_readKey := goodIn_r _ [44, 23, 21, 24, 45, 46, 47, 48, 49, 50, 51, 52, 53, 54, 55, 56, 57, 58, 59, 13, 60, 25, 61, 62, 63, 64, 65, 66, 67, 68, 69, 70, 32, 71, 72, 73, 74, 75, 76, 77, 26, 78, 79, 80, 81, 82, 83, 84, 15, 18, 19, 85, 86, 87, 88, 17, 16, 89, 90, 91, 92, 20, 118, 119, 120, 121, 122, 123, 124, 125, 126, 127, 128, 129] (by decide +kernel) (by decide +kernel)
set_option maxRecDepth 20000 in
theorem gX3_read_X2_readKey : GoodIn wsX3_read (wsV RX3 66 RX2 yX2_readKey wsX2_readKey) := goodIn_app (goodIn_of _ (by decide +kernel)) ggX3_read_X2_readKey
set_option maxRecDepth 20000 in
theorem ggX3_read_X3_endUndoable : GoodIn wsX3_read wsX3_endUndoable := goodIn_r _ [96, 1, 97, 98, 99, 6, 100, 9, 101, 102, 31, 32, 33, 103, 104, 105, 46, 106, 107, 108, 109, 110, 111, 112, 113, 114, 115, 116, 117] (by decide +kernel) (by decide +kernel)
set_option maxRecDepth 20000 in
theorem gX3_read_X3_endUndoable : GoodIn wsX3_read (wsV RX3 42 RX3 yX3_endUndoable wsX3_endUndoable) := goodIn_app (goodIn_of _ (by decide +kernel)) ggX3_read_X3_endUndoable
theorem dX3_read_0 : decode cX3_read 0 = .ok (.aload_n 0, 1) := by decide +kernel
theorem dX3_read_1 : decode cX3_read 1 = .ok (.getfield 19, 3) := by decide +kernel
theorem dX3_read_4 : decode cX3_read 4 = .ok (.aload_n 0, 1) := by decide +kernel
theorem dX3_read_5 : decode cX3_read 5 = .ok (.getfield 12, 3) := by decide +kernel
theorem dX3_read_8 : decode cX3_read 8 = .ok (.invokevirtual 34, 3) := by decide +kernel
theorem dX3_read_11 : decode cX3_read 11 = .ok (.aload_n 0, 1) := by decide +kernel
theorem dX3_read_12 : decode cX3_read 12 = .ok (.aload_n 0, 1) := by decide +kernel
theorem dX3_read_13 : decode cX3_read 13 = .ok (.getfield 12, 3) := by decide +kernel
theorem dX3_read_16 : decode cX3_read 16 = .ok (.iload_n 1, 1) := by decide +kernel
theorem dX3_read_17 : decode cX3_read 17 = .ok (.iload_n 2, 1) := by decide +kernel
theorem dX3_read_18 : decode cX3_read 18 = .ok (.iload_n 3, 1) := by decide +kernel
theorem dX3_read_19 : decode cX3_read 19 = .ok (.invokevirtual 66, 3) := by decide +kernel
theorem dX3_read_22 : decode cX3_read 22 = .ok (.invokevirtual 42, 3) := by decide +kernel
theorem dX3_read_25 : decode cX3_read 25 = .ok (.ireturn, 1) := by decide +kernel
set_option maxRecDepth 20000 in
theorem ggX3_write_X0_prepare : GoodIn wsX3_write wsX0_prepare := goodIn_r _ [7, 8, 9, 10, 11, 12, 13, 14, 15, 16, 17, 18, 19, 20, 21, 22, 23, 24, 25, 26, 27, 28, 29, 30, 31, 32, 33, 34, 35, 36, 37, 38, 39, 40, 100, 101, 102, 103, 104, 105, 106, 107, 108, 109, 110, 111, 112, 113, 114] (by decide +kernel) (by decide +kernel)
set_option maxRecDepth 20000 in
theorem gX3_write_X0_prepare : GoodIn wsX3_write (wsV RX3 34 RX0 yX0_prepare wsX0_prepare) := goodIn_app (goodIn_of _ (by decide +kernel)) ggX3_write_X0_prepare
set_option maxRecDepth 20000 in
theorem ggX3_write_X2_writeKey : GoodIn wsX3_write wsX2_writeKey := goodIn_r _ [44, 23, 15, 22, 21, 25, 16, 17, 18, 19, 20, 45, 46, 47, 48, 49, 50, 51, 52, 53, 54, 55, 56, 57, 13, 58, 24, 59, 60, 61, 62, 63, 64, 65, 66, 67, 68, 69, 70, 32, 71, 72, 73, 74, 75, 76, 77, 26, 103, 104, 105, 106, 107, 108, 109, 110, 111, 112, 113, 114] (by decide +kernel) (by decide +kernel)
set_option maxRecDepth 20000 in
theorem gX3_write_X2_writeKey : GoodIn wsX3_write (wsV RX3 70 RX2 yX2_writeKey wsX2_writeKey) := goodIn_app (goodIn_of _ (by decide +kernel)) ggX3_write_X2_writeKey
set_option maxRecDepth 20000 in
theorem ggX3_write_X3_endUndoable : GoodIn wsX3_write wsX3_endUndoable := goodIn_r _ [81, 1, 82, 83, 84, 6, 85, 9, 86, 87, 31, 32, 33, 88, 89, 90, 46, 91, 92, 93, 94, 95, 96, 97, 98, 99, 100, 101, 102] (by decide +kernel) (by decide +kernel)
set_option maxRecDepth 20000 in
theorem gX3_write_X3_endUndoable : GoodIn wsX3_write (wsV RX3 42 RX3 yX3_endUndoable wsX3_endUndoable) := goodIn_app (goodIn_of _ (by decide +kernel)) ggX3_write_X3_endUndoable
theorem dX3_write_0 : decode cX3_write 0 = .ok (.aload_n 0, 1) := by decide +kernel
theorem dX3_write_1 : decode cX3_write 1 = .ok (.getfield 19, 3) := by decide +kernel
theorem dX3_write_4 : decode cX3_write 4 = .ok (.aload_n 0, 1) := by decide +kernel
theorem dX3_write_5 : decode cX3_write 5 = .ok (.getfield 12, 3) := by decide +kernel
theorem dX3_write_8 : decode cX3_write 8 = .ok (.invokevirtual 34, 3) := by decide +kernel
theorem dX3_write_11 : decode cX3_write 11 = .ok (.aload_n 0, 1) := by decide +kernel
theorem dX3_write_12 : decode cX3_write 12 = .ok (.aload_n 0, 1) := by decide +kernel
theorem dX3_write_13 : decode cX3_write 13 = .ok (.getfield 12, 3) := by decide +kernel
theorem dX3_write_16 : decode cX3_write 16 = .ok (.iload_n 1, 1) := by decide +kernel
theorem dX3_write_17 : decode cX3_write 17 = .ok (.iload_n 2, 1) := by decide +kernel
theorem dX3_write_18 : decode cX3_write 18 = .ok (.iload_n 3, 1) := by decide +kernel
theorem dX3_write_19 : decode cX3_write 19 = .ok (.iload 4, 2) := by decide +kernel
theorem dX3_write_21 : decode cX3_write 21 = .ok (.invokevirtual 70, 3) := by decide +kernel
theorem dX3_write_24 : decode cX3_write 24 = .ok (.invokevirtual 42, 3) := by decide +kernel
theorem dX3_write_27 : decode cX3_write 27 = .ok (.ireturn, 1) := by decide +kernel
set_option maxRecDepth 20000 in
theorem ggX3_sync_X0_prepare : GoodIn wsX3_sync wsX0_prepare := goodIn_r _ [7, 8, 9, 10, 11, 12, 13, 14, 15, 16, 17, 18, 19, 20, 21, 22, 23, 24, 25, 26, 27, 28, 29, 30, 31, 32, 33, 34, 35, 36, 37, 38, 39, 40, 83, 84, 85, 86, 87, 88, 89, 90, 91, 92, 93, 94, 95, 96, 97] (by decide +kernel) (by decide +kernel)
set_option maxRecDepth 20000 in
theorem gX3_sync_X0_prepare : GoodIn wsX3_sync (wsV RX3 34 RX0 yX0_prepare wsX0_prepare) := goodIn_app (goodIn_of _ (by decide +kernel)) ggX3_sync_X0_prepare
set_option maxRecDepth 20000 in
theorem ggX3_sync_X2_synchronize : GoodIn wsX3_sync wsX2_synchronize := goodIn_r _ [44, 15, 22, 20, 45, 46, 32, 47, 21, 48, 49, 50, 51, 52, 53, 54, 55, 56, 13, 57, 17, 16, 58, 59, 60, 86, 87, 88, 89, 90, 91, 92, 93, 94, 95, 96, 97] (by decide +kernel) (by decide +kernel)
set_option maxRecDepth 20000 in
theorem gX3_sync_X2_synchronize : GoodIn wsX3_sync (wsV RX3 74 RX2 yX2_synchronize wsX2_synchronize) := goodIn_app (goodIn_of _ (by decide +kernel)) ggX3_sync_X2_synchronize
set_option maxRecDepth 20000 in
theorem ggX3_sync_X3_endUndoable : GoodIn wsX3_sync wsX3_endUndoable := goodIn_r _ [64, 1, 65, 66, 67, 6, 68, 9, 69, 70, 31, 32, 33, 71, 72, 73, 49, 74, 75, 76, 77, 78, 79, 80, 81, 82, 83, 84, 85] (by decide +kernel) (by decide +kernel)
set_option maxRecDepth 20000 in
theorem gX3_sync_X3_endUndoable : GoodIn wsX3_sync (wsV RX3 42 RX3 yX3_endUndoable wsX3_endUndoable) := goodIn_app (goodIn_of _ (by decide +kernel)) ggX3_sync_X3_endUndoable
theorem dX3_sync_0 : decode cX3_sync 0 = .ok (.aload_n 0, 1) := by decide +kernel
theorem dX3_sync_1 : decode cX3_sync 1 = .ok (.getfield 19, 3) := by decide +kernel
theorem dX3_sync_4 : decode cX3_sync 4 = .ok (.aload_n 0, 1) := by decide +kernel
theorem dX3_sync_5 : decode cX3_sync 5 = .ok (.getfield 12, 3) := by decide +kernel
theorem dX3_sync_8 : decode cX3_sync 8 = .ok (.invokevirtual 34, 3) := by decide +kernel
theorem dX3_sync_11 : decode cX3_sync 11 = .ok (.aload_n 0, 1) := by decide +kernel
theorem dX3_sync_12 : decode cX3_sync 12 = .ok (.aload_n 0, 1) := by decide +kernel
theorem dX3_sync_13 : decode cX3_sync 13 = .ok (.getfield 12, 3) := by decide +kernel
theorem dX3_sync_16 : decode cX3_sync 16 = .ok (.iload_n 1, 1) := by decide +kernel
theorem dX3_sync_17 : decode cX3_sync 17 = .ok (.iload_n 2, 1) := by decide +kernel
theorem dX3_sync_18 : decode cX3_sync 18 = .ok (.invokevirtual 74, 3) := by decide +kernel
theorem dX3_sync_21 : decode cX3_sync 21 = .ok (.invokevirtual 42, 3) := by decide +kernel
theorem dX3_sync_24 : decode cX3_sync 24 = .ok (.ireturn, 1) := by decide +kernel
set_option maxRecDepth 20000 in
theorem ggX3_readBreaches_X3_isClient : GoodIn wsX3_readBreaches wsX3_isClient := goodIn_r _ [5, 6, 7, 4, 8] (by decide +kernel) (by decide +kernel)
set_option maxRecDepth 20000 in
theorem gX3_readBreaches_X3_isClient : GoodIn wsX3_readBreaches (va_wsS RX3 49 yX3_isClient wsX3_isClient) := goodIn_app (goodIn_of _ (by decide +kernel)) ggX3_readBreaches_X3_isClient
set_option maxRecDepth 20000 in
theorem ggX3_readBreaches_X3_isReplica : GoodIn wsX3_readBreaches wsX3_isReplica := goodIn_r _ [11, 6, 7, 4, 8] (by decide +kernel) (by decide +kernel)
set_option maxRecDepth 20000 in
theorem gX3_readBreaches_X3_isReplica : GoodIn wsX3_readBreaches (va_wsS RX3 53 yX3_isReplica wsX3_isReplica) := goodIn_app (goodIn_of _ (by decide +kernel)) ggX3_readBreaches_X3_isReplica
set_option maxRecDepth 20000 in
theorem ggX3_readBreaches_X3_counted : GoodIn wsX3_readBreaches wsX3_counted := goodIn_r _ [15, 16, 17, 18, 4, 19, 45, 46, 47, 48] (by decide +kernel) (by decide +kernel)
set_option maxRecDepth 20000 in
theorem gX3_readBreaches_X3_counted : GoodIn wsX3_readBreaches (wsV RX3 56 RX3 yX3_counted wsX3_counted) := goodIn_app (goodIn_of _ (by decide +kernel)) ggX3_readBreaches_X3_counted
set_option maxRecDepth 20000 in
theorem ggX3_readBreaches_X3_only : GoodIn wsX3_readBreaches wsX3_only := goodIn_r _ [22] (by decide +kernel) (by decide +kernel)
set_option maxRecDepth 20000 in
theorem gX3_readBreaches_X3_only : GoodIn wsX3_readBreaches (va_wsS RX3 77 yX3_only wsX3_only) := goodIn_app (goodIn_of _ (by decide +kernel)) ggX3_readBreaches_X3_only
set_option maxRecDepth 20000 in
theorem ggX3_readBreaches_X2_unmetByRead : GoodIn wsX3_readBreaches wsX2_unmetByRead := goodIn_r _ [27, 28, 29, 30, 31, 32, 26, 33, 34, 35, 36, 37, 38, 39, 40, 41, 42, 43, 4, 44, 49, 50, 51, 52, 53, 54, 55, 56, 57, 58, 59, 60] (by decide +kernel) (by decide +kernel)
set_option maxRecDepth 20000 in
theorem gX3_readBreaches_X2_unmetByRead : GoodIn wsX3_readBreaches (wsV RX3 80 RX2 yX2_unmetByRead wsX2_unmetByRead) := goodIn_app (goodIn_of _ (by decide +kernel)) ggX3_readBreaches_X2_unmetByRead
theorem dX3_readBreaches_0 : decode cX3_readBreaches 0 = .ok (.iload_n 1, 1) := by decide +kernel
theorem dX3_readBreaches_1 : decode cX3_readBreaches 1 = .ok (.invokestatic 49, 3) := by decide +kernel
theorem dX3_readBreaches_4 : decode cX3_readBreaches 4 = .ok (.ifCond .eq 10, 3) := by decide +kernel
theorem dX3_readBreaches_7 : decode cX3_readBreaches 7 = .ok (.iload_n 2, 1) := by decide +kernel
theorem dX3_readBreaches_8 : decode cX3_readBreaches 8 = .ok (.invokestatic 53, 3) := by decide +kernel
theorem dX3_readBreaches_11 : decode cX3_readBreaches 11 = .ok (.ifCond .ne 10, 3) := by decide +kernel
theorem dX3_readBreaches_14 : decode cX3_readBreaches 14 = .ok (.aload_n 0, 1) := by decide +kernel
theorem dX3_readBreaches_15 : decode cX3_readBreaches 15 = .ok (.bipush (-2), 2) := by decide +kernel
theorem dX3_readBreaches_17 : decode cX3_readBreaches 17 = .ok (.invokevirtual 56, 3) := by decide +kernel
theorem dX3_readBreaches_20 : decode cX3_readBreaches 20 = .ok (.ireturn, 1) := by decide +kernel
theorem dX3_readBreaches_21 : decode cX3_readBreaches 21 = .ok (.aload_n 0, 1) := by decide +kernel
theorem dX3_readBreaches_22 : decode cX3_readBreaches 22 = .ok (.getfield 12, 3) := by decide +kernel
theorem dX3_readBreaches_25 : decode cX3_readBreaches 25 = .ok (.iload_n 1, 1) := by decide +kernel
theorem dX3_readBreaches_26 : decode cX3_readBreaches 26 = .ok (.iload_n 2, 1) := by decide +kernel
theorem dX3_readBreaches_27 : decode cX3_readBreaches 27 = .ok (.invokestatic 77, 3) := by decide +kernel
theorem dX3_readBreaches_30 : decode cX3_readBreaches 30 = .ok (.invokevirtual 80, 3) := by decide +kernel
theorem dX3_readBreaches_33 : decode cX3_readBreaches 33 = .ok (.ireturn, 1) := by decide +kernel
set_option maxRecDepth 20000 in
theorem ggX3_writeBreaches_X3_isClient : GoodIn wsX3_writeBreaches wsX3_isClient := goodIn_r _ [5, 6, 7, 4, 8] (by decide +kernel) (by decide +kernel)
set_option maxRecDepth 20000 in
theorem gX3_writeBreaches_X3_isClient : GoodIn wsX3_writeBreaches (va_wsS RX3 49 yX3_isClient wsX3_isClient) := goodIn_app (goodIn_of _ (by decide +kernel)) ggX3_writeBreaches_X3_isClient
set_option maxRecDepth 20000 in
theorem ggX3_writeBreaches_X3_isReplica : GoodIn wsX3_writeBreaches wsX3_isReplica := goodIn_r _ [11, 6, 7, 4, 8] (by decide +kernel) (by decide +kernel)
set_option maxRecDepth 20000 in
theorem gX3_writeBreaches_X3_isReplica : GoodIn wsX3_writeBreaches (va_wsS RX3 53 yX3_isReplica wsX3_isReplica) := goodIn_app (goodIn_of _ (by decide +kernel)) ggX3_writeBreaches_X3_isReplica
set_option maxRecDepth 20000 in
theorem ggX3_writeBreaches_X3_counted : GoodIn wsX3_writeBreaches wsX3_counted := goodIn_r _ [15, 16, 17, 18, 4, 19, 44, 45, 46, 47] (by decide +kernel) (by decide +kernel)
set_option maxRecDepth 20000 in
theorem gX3_writeBreaches_X3_counted : GoodIn wsX3_writeBreaches (wsV RX3 56 RX3 yX3_counted wsX3_counted) := goodIn_app (goodIn_of _ (by decide +kernel)) ggX3_writeBreaches_X3_counted
set_option maxRecDepth 20000 in
theorem ggX3_writeBreaches_X2_unmetByWrite : GoodIn wsX3_writeBreaches wsX2_unmetByWrite := goodIn_r _ [24, 25, 26, 27, 4, 28, 29, 30, 31, 23, 32, 33, 34, 35, 36, 37, 38, 39, 40, 41, 42, 43, 48, 49, 50, 51, 52, 53, 54, 55, 56, 57, 58, 59] (by decide +kernel) (by decide +kernel)
set_option maxRecDepth 20000 in
theorem gX3_writeBreaches_X2_unmetByWrite : GoodIn wsX3_writeBreaches (wsV RX3 83 RX2 yX2_unmetByWrite wsX2_unmetByWrite) := goodIn_app (goodIn_of _ (by decide +kernel)) ggX3_writeBreaches_X2_unmetByWrite
theorem dX3_writeBreaches_0 : decode cX3_writeBreaches 0 = .ok (.iload_n 1, 1) := by decide +kernel
theorem dX3_writeBreaches_1 : decode cX3_writeBreaches 1 = .ok (.invokestatic 49, 3) := by decide +kernel
theorem dX3_writeBreaches_4 : decode cX3_writeBreaches 4 = .ok (.ifCond .eq 10, 3) := by decide +kernel
theorem dX3_writeBreaches_7 : decode cX3_writeBreaches 7 = .ok (.iload_n 2, 1) := by decide +kernel
theorem dX3_writeBreaches_8 : decode cX3_writeBreaches 8 = .ok (.invokestatic 53, 3) := by decide +kernel
theorem dX3_writeBreaches_11 : decode cX3_writeBreaches 11 = .ok (.ifCond .ne 10, 3) := by decide +kernel
theorem dX3_writeBreaches_14 : decode cX3_writeBreaches 14 = .ok (.aload_n 0, 1) := by decide +kernel
theorem dX3_writeBreaches_15 : decode cX3_writeBreaches 15 = .ok (.bipush (-2), 2) := by decide +kernel
theorem dX3_writeBreaches_17 : decode cX3_writeBreaches 17 = .ok (.invokevirtual 56, 3) := by decide +kernel
theorem dX3_writeBreaches_20 : decode cX3_writeBreaches 20 = .ok (.ireturn, 1) := by decide +kernel
theorem dX3_writeBreaches_21 : decode cX3_writeBreaches 21 = .ok (.aload_n 0, 1) := by decide +kernel
theorem dX3_writeBreaches_22 : decode cX3_writeBreaches 22 = .ok (.getfield 12, 3) := by decide +kernel
theorem dX3_writeBreaches_25 : decode cX3_writeBreaches 25 = .ok (.iload_n 1, 1) := by decide +kernel
theorem dX3_writeBreaches_26 : decode cX3_writeBreaches 26 = .ok (.iload_n 2, 1) := by decide +kernel
theorem dX3_writeBreaches_27 : decode cX3_writeBreaches 27 = .ok (.invokevirtual 83, 3) := by decide +kernel
theorem dX3_writeBreaches_30 : decode cX3_writeBreaches 30 = .ok (.ireturn, 1) := by decide +kernel
set_option maxRecDepth 20000 in
theorem ggX3_readableReplica_X3_isClient : GoodIn wsX3_readableReplica wsX3_isClient := goodIn_r _ [5, 6, 7, 4, 8] (by decide +kernel) (by decide +kernel)
set_option maxRecDepth 20000 in
theorem gX3_readableReplica_X3_isClient : GoodIn wsX3_readableReplica (va_wsS RX3 49 yX3_isClient wsX3_isClient) := goodIn_app (goodIn_of _ (by decide +kernel)) ggX3_readableReplica_X3_isClient
set_option maxRecDepth 20000 in
theorem ggX3_readableReplica_X3_counted : GoodIn wsX3_readableReplica wsX3_counted := goodIn_r _ [12, 13, 14, 15, 4, 16, 47, 48, 49, 50] (by decide +kernel) (by decide +kernel)
set_option maxRecDepth 20000 in
theorem gX3_readableReplica_X3_counted : GoodIn wsX3_readableReplica (wsV RX3 56 RX3 yX3_counted wsX3_counted) := goodIn_app (goodIn_of _ (by decide +kernel)) ggX3_readableReplica_X3_counted
set_option maxRecDepth 20000 in
theorem ggX3_readableReplica_X3_only : GoodIn wsX3_readableReplica wsX3_only := goodIn_r _ [19] (by decide +kernel) (by decide +kernel)
set_option maxRecDepth 20000 in
theorem gX3_readableReplica_X3_only : GoodIn wsX3_readableReplica (va_wsS RX3 77 yX3_only wsX3_only) := goodIn_app (goodIn_of _ (by decide +kernel)) ggX3_readableReplica_X3_only
set_option maxRecDepth 20000 in
theorem ggX3_readableReplica_X2_isReadAllowed : GoodIn wsX3_readableReplica wsX2_isReadAllowed := goodIn_r _ [24, 25, 26, 27, 28, 23, 29, 30, 31, 32, 33, 34, 35, 36, 37, 38, 39, 40, 41, 42, 43, 44, 45, 4, 46, 51, 52, 53, 54, 55, 56, 57, 58, 59, 60, 61, 62] (by decide +kernel) (by decide +kernel)
set_option maxRecDepth 20000 in
theorem gX3_readableReplica_X2_isReadAllowed : GoodIn wsX3_readableReplica (wsV RX3 86 RX2 yX2_isReadAllowed wsX2_isReadAllowed) := goodIn_app (goodIn_of _ (by decide +kernel)) ggX3_readableReplica_X2_isReadAllowed
theorem dX3_readableReplica_0 : decode cX3_readableReplica 0 = .ok (.iload_n 1, 1) := by decide +kernel
theorem dX3_readableReplica_1 : decode cX3_readableReplica 1 = .ok (.invokestatic 49, 3) := by decide +kernel
theorem dX3_readableReplica_4 : decode cX3_readableReplica 4 = .ok (.ifCond .ne 10, 3) := by decide +kernel
theorem dX3_readableReplica_7 : decode cX3_readableReplica 7 = .ok (.aload_n 0, 1) := by decide +kernel
theorem dX3_readableReplica_8 : decode cX3_readableReplica 8 = .ok (.bipush (-2), 2) := by decide +kernel
theorem dX3_readableReplica_10 : decode cX3_readableReplica 10 = .ok (.invokevirtual 56, 3) := by decide +kernel
theorem dX3_readableReplica_13 : decode cX3_readableReplica 13 = .ok (.ireturn, 1) := by decide +kernel
theorem dX3_readableReplica_14 : decode cX3_readableReplica 14 = .ok (.iconst 0, 1) := by decide +kernel
theorem dX3_readableReplica_15 : decode cX3_readableReplica 15 = .ok (.istore_n 2, 1) := by decide +kernel
theorem dX3_readableReplica_16 : decode cX3_readableReplica 16 = .ok (.iload_n 2, 1) := by decide +kernel
theorem dX3_readableReplica_17 : decode cX3_readableReplica 17 = .ok (.iconst 3, 1) := by decide +kernel
theorem dX3_readableReplica_18 : decode cX3_readableReplica 18 = .ok (.if_icmp .ge 26, 3) := by decide +kernel
theorem dX3_readableReplica_21 : decode cX3_readableReplica 21 = .ok (.aload_n 0, 1) := by decide +kernel
theorem dX3_readableReplica_22 : decode cX3_readableReplica 22 = .ok (.getfield 12, 3) := by decide +kernel
theorem dX3_readableReplica_25 : decode cX3_readableReplica 25 = .ok (.iload_n 1, 1) := by decide +kernel
theorem dX3_readableReplica_26 : decode cX3_readableReplica 26 = .ok (.iload_n 2, 1) := by decide +kernel
theorem dX3_readableReplica_27 : decode cX3_readableReplica 27 = .ok (.invokestatic 77, 3) := by decide +kernel
theorem dX3_readableReplica_30 : decode cX3_readableReplica 30 = .ok (.invokevirtual 86, 3) := by decide +kernel
theorem dX3_readableReplica_33 : decode cX3_readableReplica 33 = .ok (.ifCond .eq 5, 3) := by decide +kernel
theorem dX3_readableReplica_36 : decode cX3_readableReplica 36 = .ok (.iload_n 2, 1) := by decide +kernel
theorem dX3_readableReplica_37 : decode cX3_readableReplica 37 = .ok (.ireturn, 1) := by decide +kernel
theorem dX3_readableReplica_38 : decode cX3_readableReplica 38 = .ok (.iinc 2 1, 3) := by decide +kernel
theorem dX3_readableReplica_41 : decode cX3_readableReplica 41 = .ok (.goto (-25), 3) := by decide +kernel
theorem dX3_readableReplica_44 : decode cX3_readableReplica 44 = .ok (.iconst (-1), 1) := by decide +kernel
theorem dX3_readableReplica_45 : decode cX3_readableReplica 45 = .ok (.ireturn, 1) := by decide +kernel
set_option maxRecDepth 20000 in
theorem ggX3_writableReplica_X3_isClient : GoodIn wsX3_writableReplica wsX3_isClient := goodIn_r _ [5, 6, 7, 4, 8] (by decide +kernel) (by decide +kernel)
set_option maxRecDepth 20000 in
theorem gX3_writableReplica_X3_isClient : GoodIn wsX3_writableReplica (va_wsS RX3 49 yX3_isClient wsX3_isClient) := goodIn_app (goodIn_of _ (by decide +kernel)) ggX3_writableReplica_X3_isClient
set_option maxRecDepth 20000 in
theorem ggX3_writableReplica_X3_counted : GoodIn wsX3_writableReplica wsX3_counted := goodIn_r _ [12, 13, 14, 15, 4, 16, 46, 47, 48, 49] (by decide +kernel) (by decide +kernel)
set_option maxRecDepth 20000 in
theorem gX3_writableReplica_X3_counted : GoodIn wsX3_writableReplica (wsV RX3 56 RX3 yX3_counted wsX3_counted) := goodIn_app (goodIn_of _ (by decide +kernel)) ggX3_writableReplica_X3_counted
set_option maxRecDepth 20000 in
theorem ggX3_writableReplica_X2_isWriteAllowed : GoodIn wsX3_writableReplica wsX2_isWriteAllowed := goodIn_r _ [21, 22, 23, 24, 25, 20, 26, 27, 28, 29, 4, 30, 31, 32, 33, 34, 35, 36, 37, 38, 39, 40, 41, 42, 43, 44, 45, 50, 51, 52, 53, 54, 55, 56, 57, 58, 59, 60, 61] (by decide +kernel) (by decide +kernel)
set_option maxRecDepth 20000 in
theorem gX3_writableReplica_X2_isWriteAllowed : GoodIn wsX3_writableReplica (wsV RX3 90 RX2 yX2_isWriteAllowed wsX2_isWriteAllowed) := goodIn_app (goodIn_of _ (by decide +kernel)) ggX3_writableReplica_X2_isWriteAllowed
theorem dX3_writableReplica_0 : decode cX3_writableReplica 0 = .ok (.iload_n 1, 1) := by decide +kernel
theorem dX3_writableReplica_1 : decode cX3_writableReplica 1 = .ok (.invokestatic 49, 3) := by decide +kernel
theorem dX3_writableReplica_4 : decode cX3_writableReplica 4 = .ok (.ifCond .ne 10, 3) := by decide +kernel
theorem dX3_writableReplica_7 : decode cX3_writableReplica 7 = .ok (.aload_n 0, 1) := by decide +kernel
theorem dX3_writableReplica_8 : decode cX3_writableReplica 8 = .ok (.bipush (-2), 2) := by decide +kernel
theorem dX3_writableReplica_10 : decode cX3_writableReplica 10 = .ok (.invokevirtual 56, 3) := by decide +kernel
theorem dX3_writableReplica_13 : decode cX3_writableReplica 13 = .ok (.ireturn, 1) := by decide +kernel
theorem dX3_writableReplica_14 : decode cX3_writableReplica 14 = .ok (.iconst 0, 1) := by decide +kernel
theorem dX3_writableReplica_15 : decode cX3_writableReplica 15 = .ok (.istore_n 2, 1) := by decide +kernel
theorem dX3_writableReplica_16 : decode cX3_writableReplica 16 = .ok (.iload_n 2, 1) := by decide +kernel
theorem dX3_writableReplica_17 : decode cX3_writableReplica 17 = .ok (.iconst 3, 1) := by decide +kernel
theorem dX3_writableReplica_18 : decode cX3_writableReplica 18 = .ok (.if_icmp .ge 23, 3) := by decide +kernel
theorem dX3_writableReplica_21 : decode cX3_writableReplica 21 = .ok (.aload_n 0, 1) := by decide +kernel
theorem dX3_writableReplica_22 : decode cX3_writableReplica 22 = .ok (.getfield 12, 3) := by decide +kernel
theorem dX3_writableReplica_25 : decode cX3_writableReplica 25 = .ok (.iload_n 1, 1) := by decide +kernel
theorem dX3_writableReplica_26 : decode cX3_writableReplica 26 = .ok (.iload_n 2, 1) := by decide +kernel
theorem dX3_writableReplica_27 : decode cX3_writableReplica 27 = .ok (.invokevirtual 90, 3) := by decide +kernel
theorem dX3_writableReplica_30 : decode cX3_writableReplica 30 = .ok (.ifCond .eq 5, 3) := by decide +kernel
theorem dX3_writableReplica_33 : decode cX3_writableReplica 33 = .ok (.iload_n 2, 1) := by decide +kernel
theorem dX3_writableReplica_34 : decode cX3_writableReplica 34 = .ok (.ireturn, 1) := by decide +kernel
theorem dX3_writableReplica_35 : decode cX3_writableReplica 35 = .ok (.iinc 2 1, 3) := by decide +kernel
theorem dX3_writableReplica_38 : decode cX3_writableReplica 38 = .ok (.goto (-22), 3) := by decide +kernel
theorem dX3_writableReplica_41 : decode cX3_writableReplica 41 = .ok (.iconst (-1), 1) := by decide +kernel
theorem dX3_writableReplica_42 : decode cX3_writableReplica 42 = .ok (.ireturn, 1) := by decide +kernel
set_option maxRecDepth 20000 in
theorem ggX3_syncsForRead_X3_isClient : GoodIn wsX3_syncsForRead wsX3_isClient := goodIn_r _ [5, 6, 7, 4, 8] (by decide +kernel) (by decide +kernel)
set_option maxRecDepth 20000 in
theorem gX3_syncsForRead_X3_isClient : GoodIn wsX3_syncsForRead (va_wsS RX3 49 yX3_isClient wsX3_isClient) := goodIn_app (goodIn_of _ (by decide +kernel)) ggX3_syncsForRead_X3_isClient
set_option maxRecDepth 20000 in
theorem ggX3_syncsForRead_X3_isReplica : GoodIn wsX3_syncsForRead wsX3_isReplica := goodIn_r _ [11, 6, 7, 4, 8] (by decide +kernel) (by decide +kernel)
set_option maxRecDepth 20000 in
theorem gX3_syncsForRead_X3_isReplica : GoodIn wsX3_syncsForRead (va_wsS RX3 53 yX3_isReplica wsX3_isReplica) := goodIn_app (goodIn_of _ (by decide +kernel)) ggX3_syncsForRead_X3_isReplica
set_option maxRecDepth 20000 in
theorem ggX3_syncsForRead_X3_counted : GoodIn wsX3_syncsForRead wsX3_counted := goodIn_r _ [15, 16, 17, 18, 4, 19, 51, 52, 53, 54] (by decide +kernel) (by decide +kernel)
set_option maxRecDepth 20000 in
theorem gX3_syncsForRead_X3_counted : GoodIn wsX3_syncsForRead (wsV RX3 56 RX3 yX3_counted wsX3_counted) := goodIn_app (goodIn_of _ (by decide +kernel)) ggX3_syncsForRead_X3_counted
set_option maxRecDepth 20000 in
theorem ggX3_syncsForRead_X3_contains : GoodIn wsX3_syncsForRead wsX3_contains := goodIn_r _ [22] (by decide +kernel) (by decide +kernel)
set_option maxRecDepth 20000 in
theorem gX3_syncsForRead_X3_contains : GoodIn wsX3_syncsForRead (va_wsS RX3 93 yX3_contains wsX3_contains) := goodIn_app (goodIn_of _ (by decide +kernel)) ggX3_syncsForRead_X3_contains
set_option maxRecDepth 20000 in
theorem ggX3_syncsForRead_X3_only : GoodIn wsX3_syncsForRead wsX3_only := goodIn_r _ [25] (by decide +kernel) (by decide +kernel)
set_option maxRecDepth 20000 in
theorem gX3_syncsForRead_X3_only : GoodIn wsX3_syncsForRead (va_wsS RX3 77 yX3_only wsX3_only) := goodIn_app (goodIn_of _ (by decide +kernel)) ggX3_syncsForRead_X3_only
set_option maxRecDepth 20000 in
theorem ggX3_syncsForRead_X2_isReadAllowed : GoodIn wsX3_syncsForRead wsX2_isReadAllowed := goodIn_r _ [30, 31, 32, 33, 34, 29, 35, 36, 37, 38, 39, 40, 41, 42, 43, 44, 45, 46, 47, 48, 49, 50, 21, 4, 22, 55, 56, 57, 58, 59, 60, 61, 62, 63, 64, 65, 66] (by decide +kernel) (by decide +kernel)
set_option maxRecDepth 20000 in
theorem gX3_syncsForRead_X2_isReadAllowed : GoodIn wsX3_syncsForRead (wsV RX3 86 RX2 yX2_isReadAllowed wsX2_isReadAllowed) := goodIn_app (goodIn_of _ (by decide +kernel)) ggX3_syncsForRead_X2_isReadAllowed
theorem dX3_syncsForRead_0 : decode cX3_syncsForRead 0 = .ok (.iload_n 1, 1) := by decide +kernel
theorem dX3_syncsForRead_1 : decode cX3_syncsForRead 1 = .ok (.invokestatic 49, 3) := by decide +kernel
theorem dX3_syncsForRead_4 : decode cX3_syncsForRead 4 = .ok (.ifCond .eq 10, 3) := by decide +kernel
theorem dX3_syncsForRead_7 : decode cX3_syncsForRead 7 = .ok (.iload_n 2, 1) := by decide +kernel
theorem dX3_syncsForRead_8 : decode cX3_syncsForRead 8 = .ok (.invokestatic 53, 3) := by decide +kernel
theorem dX3_syncsForRead_11 : decode cX3_syncsForRead 11 = .ok (.ifCond .ne 10, 3) := by decide +kernel
theorem dX3_syncsForRead_14 : decode cX3_syncsForRead 14 = .ok (.aload_n 0, 1) := by decide +kernel
theorem dX3_syncsForRead_15 : decode cX3_syncsForRead 15 = .ok (.bipush (-2), 2) := by decide +kernel
theorem dX3_syncsForRead_17 : decode cX3_syncsForRead 17 = .ok (.invokevirtual 56, 3) := by decide +kernel
theorem dX3_syncsForRead_20 : decode cX3_syncsForRead 20 = .ok (.ireturn, 1) := by decide +kernel
theorem dX3_syncsForRead_21 : decode cX3_syncsForRead 21 = .ok (.iconst 0, 1) := by decide +kernel
theorem dX3_syncsForRead_22 : decode cX3_syncsForRead 22 = .ok (.istore_n 3, 1) := by decide +kernel
theorem dX3_syncsForRead_23 : decode cX3_syncsForRead 23 = .ok (.iload_n 3, 1) := by decide +kernel
theorem dX3_syncsForRead_24 : decode cX3_syncsForRead 24 = .ok (.bipush 8, 2) := by decide +kernel
theorem dX3_syncsForRead_26 : decode cX3_syncsForRead 26 = .ok (.if_icmp .ge 36, 3) := by decide +kernel
theorem dX3_syncsForRead_29 : decode cX3_syncsForRead 29 = .ok (.iload_n 3, 1) := by decide +kernel
theorem dX3_syncsForRead_30 : decode cX3_syncsForRead 30 = .ok (.iload_n 2, 1) := by decide +kernel
theorem dX3_syncsForRead_31 : decode cX3_syncsForRead 31 = .ok (.invokestatic 93, 3) := by decide +kernel
theorem dX3_syncsForRead_34 : decode cX3_syncsForRead 34 = .ok (.ifCond .ne 22, 3) := by decide +kernel
theorem dX3_syncsForRead_37 : decode cX3_syncsForRead 37 = .ok (.aload_n 0, 1) := by decide +kernel
theorem dX3_syncsForRead_38 : decode cX3_syncsForRead 38 = .ok (.getfield 12, 3) := by decide +kernel
theorem dX3_syncsForRead_41 : decode cX3_syncsForRead 41 = .ok (.iload_n 1, 1) := by decide +kernel
theorem dX3_syncsForRead_42 : decode cX3_syncsForRead 42 = .ok (.iload_n 3, 1) := by decide +kernel
theorem dX3_syncsForRead_43 : decode cX3_syncsForRead 43 = .ok (.iload_n 2, 1) := by decide +kernel
theorem dX3_syncsForRead_44 : decode cX3_syncsForRead 44 = .ok (.invokestatic 77, 3) := by decide +kernel
theorem dX3_syncsForRead_47 : decode cX3_syncsForRead 47 = .ok (.ior, 1) := by decide +kernel
theorem dX3_syncsForRead_48 : decode cX3_syncsForRead 48 = .ok (.invokevirtual 86, 3) := by decide +kernel
theorem dX3_syncsForRead_51 : decode cX3_syncsForRead 51 = .ok (.ifCond .eq 5, 3) := by decide +kernel
theorem dX3_syncsForRead_54 : decode cX3_syncsForRead 54 = .ok (.iload_n 3, 1) := by decide +kernel
theorem dX3_syncsForRead_55 : decode cX3_syncsForRead 55 = .ok (.ireturn, 1) := by decide +kernel
theorem dX3_syncsForRead_56 : decode cX3_syncsForRead 56 = .ok (.iinc 3 1, 3) := by decide +kernel
theorem dX3_syncsForRead_59 : decode cX3_syncsForRead 59 = .ok (.goto (-36), 3) := by decide +kernel
theorem dX3_syncsForRead_62 : decode cX3_syncsForRead 62 = .ok (.iconst (-1), 1) := by decide +kernel
theorem dX3_syncsForRead_63 : decode cX3_syncsForRead 63 = .ok (.ireturn, 1) := by decide +kernel
set_option maxRecDepth 20000 in
theorem ggX3_count_X3_isReplica : GoodIn wsX3_count wsX3_isReplica := goodIn_r _ [6, 7, 8, 5, 9] (by decide +kernel) (by decide +kernel)
set_option maxRecDepth 20000 in
theorem gX3_count_X3_isReplica : GoodIn wsX3_count (va_wsS RX3 53 yX3_isReplica wsX3_isReplica) := goodIn_app (goodIn_of _ (by decide +kernel)) ggX3_count_X3_isReplica
set_option maxRecDepth 20000 in
theorem ggX3_count_X3_counted : GoodIn wsX3_count wsX3_counted := goodIn_r _ [13, 14, 15, 16, 5, 17, 18, 19, 20, 21] (by decide +kernel) (by decide +kernel)
set_option maxRecDepth 20000 in
theorem gX3_count_X3_counted : GoodIn wsX3_count (wsV RX3 56 RX3 yX3_counted wsX3_counted) := goodIn_app (goodIn_of _ (by decide +kernel)) ggX3_count_X3_counted
theorem dX3_count_0 : decode cX3_count 0 = .ok (.iload_n 1, 1) := by decide +kernel
theorem dX3_count_1 : decode cX3_count 1 = .ok (.invokestatic 53, 3) := by decide +kernel
theorem dX3_count_4 : decode cX3_count 4 = .ok (.ifCond .eq 10, 3) := by decide +kernel
theorem dX3_count_7 : decode cX3_count 7 = .ok (.iload_n 2, 1) := by decide +kernel
theorem dX3_count_8 : decode cX3_count 8 = .ok (.invokestatic 53, 3) := by decide +kernel
theorem dX3_count_11 : decode cX3_count 11 = .ok (.ifCond .ne 10, 3) := by decide +kernel
theorem dX3_count_14 : decode cX3_count 14 = .ok (.aload_n 0, 1) := by decide +kernel
theorem dX3_count_15 : decode cX3_count 15 = .ok (.bipush (-2), 2) := by decide +kernel
theorem dX3_count_17 : decode cX3_count 17 = .ok (.invokevirtual 56, 3) := by decide +kernel
theorem dX3_count_20 : decode cX3_count 20 = .ok (.ireturn, 1) := by decide +kernel
theorem dX3_count_21 : decode cX3_count 21 = .ok (.aload_n 0, 1) := by decide +kernel
theorem dX3_count_22 : decode cX3_count 22 = .ok (.getfield 12, 3) := by decide +kernel
theorem dX3_count_25 : decode cX3_count 25 = .ok (.getfield 96, 3) := by decide +kernel
theorem dX3_count_28 : decode cX3_count 28 = .ok (.iload_n 1, 1) := by decide +kernel
theorem dX3_count_29 : decode cX3_count 29 = .ok (.aaload, 1) := by decide +kernel
theorem dX3_count_30 : decode cX3_count 30 = .ok (.iload_n 2, 1) := by decide +kernel
theorem dX3_count_31 : decode cX3_count 31 = .ok (.iaload, 1) := by decide +kernel
theorem dX3_count_32 : decode cX3_count 32 = .ok (.ireturn, 1) := by decide +kernel
set_option maxRecDepth 20000 in
theorem ggX3_clock_X3_isReplica : GoodIn wsX3_clock wsX3_isReplica := goodIn_r _ [6, 7, 8, 5, 9] (by decide +kernel) (by decide +kernel)
set_option maxRecDepth 20000 in
theorem gX3_clock_X3_isReplica : GoodIn wsX3_clock (va_wsS RX3 53 yX3_isReplica wsX3_isReplica) := goodIn_app (goodIn_of _ (by decide +kernel)) ggX3_clock_X3_isReplica
set_option maxRecDepth 20000 in
theorem ggX3_clock_X3_counted : GoodIn wsX3_clock wsX3_counted := goodIn_r _ [13, 14, 15, 16, 5, 17, 18, 19, 20, 21] (by decide +kernel) (by decide +kernel)
set_option maxRecDepth 20000 in
theorem gX3_clock_X3_counted : GoodIn wsX3_clock (wsV RX3 56 RX3 yX3_counted wsX3_counted) := goodIn_app (goodIn_of _ (by decide +kernel)) ggX3_clock_X3_counted
theorem dX3_clock_0 : decode cX3_clock 0 = .ok (.iload_n 1, 1) := by decide +kernel
theorem dX3_clock_1 : decode cX3_clock 1 = .ok (.invokestatic 53, 3) := by decide +kernel
theorem dX3_clock_4 : decode cX3_clock 4 = .ok (.ifCond .ne 10, 3) := by decide +kernel
theorem dX3_clock_7 : decode cX3_clock 7 = .ok (.aload_n 0, 1) := by decide +kernel
theorem dX3_clock_8 : decode cX3_clock 8 = .ok (.bipush (-2), 2) := by decide +kernel
theorem dX3_clock_10 : decode cX3_clock 10 = .ok (.invokevirtual 56, 3) := by decide +kernel
theorem dX3_clock_13 : decode cX3_clock 13 = .ok (.ireturn, 1) := by decide +kernel
theorem dX3_clock_14 : decode cX3_clock 14 = .ok (.aload_n 0, 1) := by decide +kernel
theorem dX3_clock_15 : decode cX3_clock 15 = .ok (.getfield 12, 3) := by decide +kernel
theorem dX3_clock_18 : decode cX3_clock 18 = .ok (.getfield 99, 3) := by decide +kernel
theorem dX3_clock_21 : decode cX3_clock 21 = .ok (.iload_n 1, 1) := by decide +kernel
theorem dX3_clock_22 : decode cX3_clock 22 = .ok (.iaload, 1) := by decide +kernel
theorem dX3_clock_23 : decode cX3_clock 23 = .ok (.ireturn, 1) := by decide +kernel
set_option maxRecDepth 20000 in
theorem ggX3_peek_X3_isReplica : GoodIn wsX3_peek wsX3_isReplica := goodIn_r _ [5, 6, 7, 4, 8] (by decide +kernel) (by decide +kernel)
set_option maxRecDepth 20000 in
theorem gX3_peek_X3_isReplica : GoodIn wsX3_peek (va_wsS RX3 53 yX3_isReplica wsX3_isReplica) := goodIn_app (goodIn_of _ (by decide +kernel)) ggX3_peek_X3_isReplica
end
section
set_option maxRecDepth 20000 in
theorem ggX3_peek_X3_isKey : GoodIn wsX3_peek wsX3_isKey := goodIn_r _ [11, 6, 7, 4, 8] (by decide +kernel) (by decide +kernel)
set_option maxRecDepth 20000 in
theorem gX3_peek_X3_isKey : GoodIn wsX3_peek (va_wsS RX3 102 yX3_isKey wsX3_isKey) := goodIn_app (goodIn_of _ (by decide +kernel)) ggX3_peek_X3_isKey
set_option maxRecDepth 20000 in
theorem ggX3_peek_X3_counted : GoodIn wsX3_peek wsX3_counted := goodIn_r _ [15, 16, 17, 18, 4, 19, 40, 41, 42, 43] (by decide +kernel) (by decide +kernel)
set_option maxRecDepth 20000 in
theorem gX3_peek_X3_counted : GoodIn wsX3_peek (wsV RX3 56 RX3 yX3_counted wsX3_counted) := goodIn_app (goodIn_of _ (by decide +kernel)) ggX3_peek_X3_counted
set_option maxRecDepth 20000 in
theorem ggX3_peek_X2_valueAt : GoodIn wsX3_peek wsX2_valueAt := goodIn_r _ [24, 25, 26, 27, 28, 29, 30, 23, 31, 32, 33, 34, 35, 36, 37, 38, 39, 44, 45, 46, 47, 48, 49, 50, 51, 52, 53, 54, 55] (by decide +kernel) (by decide +kernel)
set_option maxRecDepth 20000 in
theorem gX3_peek_X2_valueAt : GoodIn wsX3_peek (wsV RX3 105 RX2 yX2_valueAt wsX2_valueAt) := goodIn_app (goodIn_of _ (by decide +kernel)) ggX3_peek_X2_valueAt
theorem dX3_peek_0 : decode cX3_peek 0 = .ok (.iload_n 1, 1) := by decide +kernel
theorem dX3_peek_1 : decode cX3_peek 1 = .ok (.invokestatic 53, 3) := by decide +kernel
theorem dX3_peek_4 : decode cX3_peek 4 = .ok (.ifCond .eq 10, 3) := by decide +kernel
theorem dX3_peek_7 : decode cX3_peek 7 = .ok (.iload_n 2, 1) := by decide +kernel
theorem dX3_peek_8 : decode cX3_peek 8 = .ok (.invokestatic 102, 3) := by decide +kernel
theorem dX3_peek_11 : decode cX3_peek 11 = .ok (.ifCond .ne 10, 3) := by decide +kernel
theorem dX3_peek_14 : decode cX3_peek 14 = .ok (.aload_n 0, 1) := by decide +kernel
theorem dX3_peek_15 : decode cX3_peek 15 = .ok (.bipush (-2), 2) := by decide +kernel
theorem dX3_peek_17 : decode cX3_peek 17 = .ok (.invokevirtual 56, 3) := by decide +kernel
theorem dX3_peek_20 : decode cX3_peek 20 = .ok (.ireturn, 1) := by decide +kernel
theorem dX3_peek_21 : decode cX3_peek 21 = .ok (.aload_n 0, 1) := by decide +kernel
theorem dX3_peek_22 : decode cX3_peek 22 = .ok (.getfield 12, 3) := by decide +kernel
theorem dX3_peek_25 : decode cX3_peek 25 = .ok (.iload_n 1, 1) := by decide +kernel
theorem dX3_peek_26 : decode cX3_peek 26 = .ok (.iload_n 2, 1) := by decide +kernel
theorem dX3_peek_27 : decode cX3_peek 27 = .ok (.invokevirtual 105, 3) := by decide +kernel
theorem dX3_peek_30 : decode cX3_peek 30 = .ok (.istore_n 3, 1) := by decide +kernel
theorem dX3_peek_31 : decode cX3_peek 31 = .ok (.iload_n 3, 1) := by decide +kernel
theorem dX3_peek_32 : decode cX3_peek 32 = .ok (.bipush 100, 2) := by decide +kernel
theorem dX3_peek_34 : decode cX3_peek 34 = .ok (.if_icmp .ne 12, 3) := by decide +kernel
theorem dX3_peek_37 : decode cX3_peek 37 = .ok (.aload_n 0, 1) := by decide +kernel
theorem dX3_peek_38 : decode cX3_peek 38 = .ok (.bipush (-5), 2) := by decide +kernel
theorem dX3_peek_40 : decode cX3_peek 40 = .ok (.invokevirtual 56, 3) := by decide +kernel
theorem dX3_peek_43 : decode cX3_peek 43 = .ok (.goto 4, 3) := by decide +kernel
theorem dX3_peek_46 : decode cX3_peek 46 = .ok (.iload_n 3, 1) := by decide +kernel
theorem dX3_peek_47 : decode cX3_peek 47 = .ok (.ireturn, 1) := by decide +kernel
set_option maxRecDepth 20000 in
theorem ggX3_compare_X3_isReplica : GoodIn wsX3_compare wsX3_isReplica := goodIn_r _ [6, 7, 8, 5, 9] (by decide +kernel) (by decide +kernel)
set_option maxRecDepth 20000 in
theorem gX3_compare_X3_isReplica : GoodIn wsX3_compare (va_wsS RX3 53 yX3_isReplica wsX3_isReplica) := goodIn_app (goodIn_of _ (by decide +kernel)) ggX3_compare_X3_isReplica
set_option maxRecDepth 20000 in
theorem ggX3_compare_X3_counted : GoodIn wsX3_compare wsX3_counted := goodIn_r _ [13, 14, 15, 16, 5, 17, 37, 38, 39, 40] (by decide +kernel) (by decide +kernel)
set_option maxRecDepth 20000 in
theorem gX3_compare_X3_counted : GoodIn wsX3_compare (wsV RX3 56 RX3 yX3_counted wsX3_counted) := goodIn_app (goodIn_of _ (by decide +kernel)) ggX3_compare_X3_counted
set_option maxRecDepth 20000 in
theorem ggX3_compare_X3_only : GoodIn wsX3_compare wsX3_only := goodIn_r _ [20] (by decide +kernel) (by decide +kernel)
set_option maxRecDepth 20000 in
theorem gX3_compare_X3_only : GoodIn wsX3_compare (va_wsS RX3 77 yX3_only wsX3_only) := goodIn_app (goodIn_of _ (by decide +kernel)) ggX3_compare_X3_only
set_option maxRecDepth 20000 in
theorem ggX3_compare_X2_covers : GoodIn wsX3_compare wsX2_covers := goodIn_r _ [25, 26, 27, 28, 24, 29, 30, 31, 32, 33, 34, 35, 5, 36, 41, 42, 43, 44, 45, 46, 47, 48, 49, 50, 51, 52] (by decide +kernel) (by decide +kernel)
set_option maxRecDepth 20000 in
theorem gX3_compare_X2_covers : GoodIn wsX3_compare (wsV RX3 108 RX2 yX2_covers wsX2_covers) := goodIn_app (goodIn_of _ (by decide +kernel)) ggX3_compare_X2_covers
theorem dX3_compare_0 : decode cX3_compare 0 = .ok (.iload_n 1, 1) := by decide +kernel
theorem dX3_compare_1 : decode cX3_compare 1 = .ok (.invokestatic 53, 3) := by decide +kernel
theorem dX3_compare_4 : decode cX3_compare 4 = .ok (.ifCond .eq 10, 3) := by decide +kernel
theorem dX3_compare_7 : decode cX3_compare 7 = .ok (.iload_n 2, 1) := by decide +kernel
theorem dX3_compare_8 : decode cX3_compare 8 = .ok (.invokestatic 53, 3) := by decide +kernel
theorem dX3_compare_11 : decode cX3_compare 11 = .ok (.ifCond .ne 10, 3) := by decide +kernel
theorem dX3_compare_14 : decode cX3_compare 14 = .ok (.aload_n 0, 1) := by decide +kernel
theorem dX3_compare_15 : decode cX3_compare 15 = .ok (.bipush (-2), 2) := by decide +kernel
theorem dX3_compare_17 : decode cX3_compare 17 = .ok (.invokevirtual 56, 3) := by decide +kernel
theorem dX3_compare_20 : decode cX3_compare 20 = .ok (.ireturn, 1) := by decide +kernel
theorem dX3_compare_21 : decode cX3_compare 21 = .ok (.aload_n 0, 1) := by decide +kernel
theorem dX3_compare_22 : decode cX3_compare 22 = .ok (.getfield 12, 3) := by decide +kernel
theorem dX3_compare_25 : decode cX3_compare 25 = .ok (.iload_n 1, 1) := by decide +kernel
theorem dX3_compare_26 : decode cX3_compare 26 = .ok (.invokestatic 77, 3) := by decide +kernel
theorem dX3_compare_29 : decode cX3_compare 29 = .ok (.aload_n 0, 1) := by decide +kernel
theorem dX3_compare_30 : decode cX3_compare 30 = .ok (.getfield 12, 3) := by decide +kernel
theorem dX3_compare_33 : decode cX3_compare 33 = .ok (.getfield 96, 3) := by decide +kernel
theorem dX3_compare_36 : decode cX3_compare 36 = .ok (.iload_n 2, 1) := by decide +kernel
theorem dX3_compare_37 : decode cX3_compare 37 = .ok (.aaload, 1) := by decide +kernel
theorem dX3_compare_38 : decode cX3_compare 38 = .ok (.invokevirtual 108, 3) := by decide +kernel
theorem dX3_compare_41 : decode cX3_compare 41 = .ok (.istore_n 3, 1) := by decide +kernel
theorem dX3_compare_42 : decode cX3_compare 42 = .ok (.aload_n 0, 1) := by decide +kernel
theorem dX3_compare_43 : decode cX3_compare 43 = .ok (.getfield 12, 3) := by decide +kernel
theorem dX3_compare_46 : decode cX3_compare 46 = .ok (.iload_n 2, 1) := by decide +kernel
theorem dX3_compare_47 : decode cX3_compare 47 = .ok (.invokestatic 77, 3) := by decide +kernel
theorem dX3_compare_50 : decode cX3_compare 50 = .ok (.aload_n 0, 1) := by decide +kernel
theorem dX3_compare_51 : decode cX3_compare 51 = .ok (.getfield 12, 3) := by decide +kernel
theorem dX3_compare_54 : decode cX3_compare 54 = .ok (.getfield 96, 3) := by decide +kernel
theorem dX3_compare_57 : decode cX3_compare 57 = .ok (.iload_n 1, 1) := by decide +kernel
theorem dX3_compare_58 : decode cX3_compare 58 = .ok (.aaload, 1) := by decide +kernel
theorem dX3_compare_59 : decode cX3_compare 59 = .ok (.invokevirtual 108, 3) := by decide +kernel
theorem dX3_compare_62 : decode cX3_compare 62 = .ok (.istore 4, 2) := by decide +kernel
theorem dX3_compare_64 : decode cX3_compare 64 = .ok (.iload_n 3, 1) := by decide +kernel
theorem dX3_compare_65 : decode cX3_compare 65 = .ok (.ifCond .eq 14, 3) := by decide +kernel
theorem dX3_compare_68 : decode cX3_compare 68 = .ok (.iload 4, 2) := by decide +kernel
theorem dX3_compare_70 : decode cX3_compare 70 = .ok (.ifCond .eq 7, 3) := by decide +kernel
theorem dX3_compare_73 : decode cX3_compare 73 = .ok (.iconst 0, 1) := by decide +kernel
theorem dX3_compare_74 : decode cX3_compare 74 = .ok (.goto 4, 3) := by decide +kernel
theorem dX3_compare_77 : decode cX3_compare 77 = .ok (.iconst 1, 1) := by decide +kernel
theorem dX3_compare_78 : decode cX3_compare 78 = .ok (.ireturn, 1) := by decide +kernel
theorem dX3_compare_79 : decode cX3_compare 79 = .ok (.iload 4, 2) := by decide +kernel
theorem dX3_compare_81 : decode cX3_compare 81 = .ok (.ifCond .eq 7, 3) := by decide +kernel
theorem dX3_compare_84 : decode cX3_compare 84 = .ok (.iconst 2, 1) := by decide +kernel
theorem dX3_compare_85 : decode cX3_compare 85 = .ok (.goto 4, 3) := by decide +kernel
theorem dX3_compare_88 : decode cX3_compare 88 = .ok (.iconst 3, 1) := by decide +kernel
theorem dX3_compare_89 : decode cX3_compare 89 = .ok (.ireturn, 1) := by decide +kernel
set_option maxRecDepth 20000 in
theorem ggX3_breaches_X3_isBelow : GoodIn wsX3_breaches wsX3_isBelow := goodIn_r _ [6] (by decide +kernel) (by decide +kernel)
set_option maxRecDepth 20000 in
theorem gX3_breaches_X3_isBelow : GoodIn wsX3_breaches (va_wsS RX3 112 yX3_isBelow wsX3_isBelow) := goodIn_app (goodIn_of _ (by decide +kernel)) ggX3_breaches_X3_isBelow
set_option maxRecDepth 20000 in
theorem ggX3_breaches_X3_counted : GoodIn wsX3_breaches wsX3_counted := goodIn_r _ [10, 11, 12, 13, 5, 14, 15, 16, 17, 18] (by decide +kernel) (by decide +kernel)
set_option maxRecDepth 20000 in
theorem gX3_breaches_X3_counted : GoodIn wsX3_breaches (wsV RX3 56 RX3 yX3_counted wsX3_counted) := goodIn_app (goodIn_of _ (by decide +kernel)) ggX3_breaches_X3_counted
theorem dX3_breaches_0 : decode cX3_breaches 0 = .ok (.iload_n 1, 1) := by decide +kernel
theorem dX3_breaches_1 : decode cX3_breaches 1 = .ok (.iconst 4, 1) := by decide +kernel
theorem dX3_breaches_2 : decode cX3_breaches 2 = .ok (.invokestatic 112, 3) := by decide +kernel
theorem dX3_breaches_5 : decode cX3_breaches 5 = .ok (.ifCond .ne 10, 3) := by decide +kernel
theorem dX3_breaches_8 : decode cX3_breaches 8 = .ok (.aload_n 0, 1) := by decide +kernel
theorem dX3_breaches_9 : decode cX3_breaches 9 = .ok (.bipush (-2), 2) := by decide +kernel
theorem dX3_breaches_11 : decode cX3_breaches 11 = .ok (.invokevirtual 56, 3) := by decide +kernel
theorem dX3_breaches_14 : decode cX3_breaches 14 = .ok (.ireturn, 1) := by decide +kernel
theorem dX3_breaches_15 : decode cX3_breaches 15 = .ok (.aload_n 0, 1) := by decide +kernel
theorem dX3_breaches_16 : decode cX3_breaches 16 = .ok (.getfield 12, 3) := by decide +kernel
theorem dX3_breaches_19 : decode cX3_breaches 19 = .ok (.getfield 115, 3) := by decide +kernel
theorem dX3_breaches_22 : decode cX3_breaches 22 = .ok (.iload_n 1, 1) := by decide +kernel
theorem dX3_breaches_23 : decode cX3_breaches 23 = .ok (.iaload, 1) := by decide +kernel
theorem dX3_breaches_24 : decode cX3_breaches 24 = .ok (.ireturn, 1) := by decide +kernel
set_option maxRecDepth 20000 in
theorem ggX3_append_X3_isBelow : GoodIn wsX3_append wsX3_isBelow := goodIn_r _ [5] (by decide +kernel) (by decide +kernel)
set_option maxRecDepth 20000 in
theorem gX3_append_X3_isBelow : GoodIn wsX3_append (va_wsS RX3 112 yX3_isBelow wsX3_isBelow) := goodIn_app (goodIn_of _ (by decide +kernel)) ggX3_append_X3_isBelow
set_option maxRecDepth 20000 in
theorem ggX3_append_X3_counted : GoodIn wsX3_append wsX3_counted := goodIn_r _ [9, 10, 11, 12, 4, 13, 21, 22, 23, 24] (by decide +kernel) (by decide +kernel)
set_option maxRecDepth 20000 in
theorem gX3_append_X3_counted : GoodIn wsX3_append (wsV RX3 56 RX3 yX3_counted wsX3_counted) := goodIn_app (goodIn_of _ (by decide +kernel)) ggX3_append_X3_counted
set_option maxRecDepth 20000 in
theorem ggX3_append_X1_add : GoodIn wsX3_append wsX1_add := goodIn_r _ [18, 19, 20, 25, 26, 27, 28, 29, 30, 31, 32] (by decide +kernel) (by decide +kernel)
set_option maxRecDepth 20000 in
theorem gX3_append_X1_add : GoodIn wsX3_append (wsV RX3 118 RX1 yX1_add wsX1_add) := goodIn_app (goodIn_of _ (by decide +kernel)) ggX3_append_X1_add
theorem dX3_append_0 : decode cX3_append 0 = .ok (.iload_n 1, 1) := by decide +kernel
theorem dX3_append_1 : decode cX3_append 1 = .ok (.sipush 128, 3) := by decide +kernel
theorem dX3_append_4 : decode cX3_append 4 = .ok (.invokestatic 112, 3) := by decide +kernel
theorem dX3_append_7 : decode cX3_append 7 = .ok (.ifCond .ne 10, 3) := by decide +kernel
theorem dX3_append_10 : decode cX3_append 10 = .ok (.aload_n 0, 1) := by decide +kernel
theorem dX3_append_11 : decode cX3_append 11 = .ok (.bipush (-2), 2) := by decide +kernel
theorem dX3_append_13 : decode cX3_append 13 = .ok (.invokevirtual 56, 3) := by decide +kernel
theorem dX3_append_16 : decode cX3_append 16 = .ok (.ireturn, 1) := by decide +kernel
theorem dX3_append_17 : decode cX3_append 17 = .ok (.aload_n 0, 1) := by decide +kernel
theorem dX3_append_18 : decode cX3_append 18 = .ok (.aload_n 0, 1) := by decide +kernel
theorem dX3_append_19 : decode cX3_append 19 = .ok (.getfield 26, 3) := by decide +kernel
theorem dX3_append_22 : decode cX3_append 22 = .ok (.iload_n 1, 1) := by decide +kernel
theorem dX3_append_23 : decode cX3_append 23 = .ok (.invokevirtual 118, 3) := by decide +kernel
theorem dX3_append_26 : decode cX3_append 26 = .ok (.invokevirtual 56, 3) := by decide +kernel
theorem dX3_append_29 : decode cX3_append 29 = .ok (.ireturn, 1) := by decide +kernel
theorem dX3_clearText_0 : decode cX3_clearText 0 = .ok (.aload_n 0, 1) := by decide +kernel
theorem dX3_clearText_1 : decode cX3_clearText 1 = .ok (.getfield 26, 3) := by decide +kernel
theorem dX3_clearText_4 : decode cX3_clearText 4 = .ok (.getfield 121, 3) := by decide +kernel
theorem dX3_clearText_7 : decode cX3_clearText 7 = .ok (.istore_n 1, 1) := by decide +kernel
theorem dX3_clearText_8 : decode cX3_clearText 8 = .ok (.aload_n 0, 1) := by decide +kernel
theorem dX3_clearText_9 : decode cX3_clearText 9 = .ok (.getfield 26, 3) := by decide +kernel
theorem dX3_clearText_12 : decode cX3_clearText 12 = .ok (.iconst 0, 1) := by decide +kernel
theorem dX3_clearText_13 : decode cX3_clearText 13 = .ok (.putfield 121, 3) := by decide +kernel
theorem dX3_clearText_16 : decode cX3_clearText 16 = .ok (.iload_n 1, 1) := by decide +kernel
theorem dX3_clearText_17 : decode cX3_clearText 17 = .ok (.ireturn, 1) := by decide +kernel
set_option maxRecDepth 20000 in
theorem ggX3_execute_X1_parse : GoodIn wsX3_execute wsX1_parse := goodIn_r _ [9, 10, 11, 12, 13, 14, 15, 16, 8, 17, 18, 19, 20, 21, 22, 23, 24, 25, 26, 27, 28, 29, 30, 31, 32, 33, 34, 35, 36, 167, 168, 169, 170, 171, 172, 173, 174] (by decide +kernel) (by decide +kernel)
set_option maxRecDepth 20000 in
theorem gX3_execute_X1_parse : GoodIn wsX3_execute (wsV RX3 125 RX1 yX1_parse wsX1_parse) := goodIn_app (goodIn_of _ (by decide +kernel)) ggX3_execute_X1_parse
set_option maxRecDepth 20000 in
theorem ggX3_execute_X0_prepare : GoodIn wsX3_execute wsX0_prepare := goodIn_r _ [41, 42, 43, 44, 45, 46, 47, 48, 49, 50, 51, 52, 53, 54, 55, 56, 57, 58, 59, 60, 61, 62, 63, 64, 65, 66, 67, 68, 69, 70, 71, 72, 73, 74, 175, 176, 177, 178, 179, 180, 181, 182, 183, 184, 185, 186, 187, 188, 189] (by decide +kernel) (by decide +kernel)
set_option maxRecDepth 20000 in
theorem gX3_execute_X0_prepare : GoodIn wsX3_execute (wsV RX3 34 RX0 yX0_prepare wsX0_prepare) := goodIn_app (goodIn_of _ (by decide +kernel)) ggX3_execute_X0_prepare
set_option maxRecDepth 20000 in
theorem ggX3_execute_X3_runCommand : GoodIn wsX3_execute wsX3_runCommand := goodIn_r _ [79, 1, 80, 81, 3, 82, 83, 84, 47, 85, 57, 86, 78, 87, 88, 89, 90, 91, 92, 93, 94, 55, 58, 95, 96, 97, 98, 99, 100, 101, 102, 103, 104, 59, 105, 106, 107, 108, 109, 110, 111, 112, 113, 114, 66, 115, 116, 117, 118, 119, 120, 121, 60, 122, 123, 124, 125, 126, 127, 128, 49, 52, 53, 129, 130, 131, 132, 51, 50, 133, 134, 135, 136, 54, 137, 138, 139, 140, 56, 141, 142, 143, 144, 145, 146, 147, 148, 149, 150, 151, 152, 163, 164, 165, 166, 167, 168, 169, 170, 171, 172, 173, 174, 178, 179, 180, 181, 182, 183, 184, 185, 186, 187, 188, 189] (by decide +kernel) (by decide +kernel)
set_option maxRecDepth 20000 in
theorem gX3_execute_X3_runCommand : GoodIn wsX3_execute (wsV RX3 132 RX3 yX3_runCommand wsX3_runCommand) := goodIn_app (goodIn_of _ (by decide +kernel)) ggX3_execute_X3_runCommand
set_option maxRecDepth 20000 in
theorem ggX3_execute_X0_restorePrepared : GoodIn wsX3_execute wsX0_restorePrepared := goodIn_r _ [156, 42, 43, 44, 45, 46, 47, 48, 49, 50, 51, 52, 53, 54, 55, 56, 57, 58, 59, 60, 61, 62, 63, 64, 65, 66, 67, 68, 69, 70, 71, 72, 73, 74, 175, 176, 177, 178, 179, 180, 181, 182, 183, 184, 185, 186, 187, 188, 189] (by decide +kernel) (by decide +kernel)
set_option maxRecDepth 20000 in
theorem gX3_execute_X0_restorePrepared : GoodIn wsX3_execute (wsV RX3 135 RX0 yX0_restorePrepared wsX0_restorePrepared) := goodIn_app (goodIn_of _ (by decide +kernel)) ggX3_execute_X0_restorePrepared
set_option maxRecDepth 20000 in
theorem ggX3_execute_X0_keepPrepared : GoodIn wsX3_execute wsX0_keepPrepared := goodIn_r _ [160, 43, 161, 162, 65, 66, 67, 175, 176, 177] (by decide +kernel) (by decide +kernel)
set_option maxRecDepth 20000 in
theorem gX3_execute_X0_keepPrepared : GoodIn wsX3_execute (wsV RX3 138 RX0 yX0_keepPrepared wsX0_keepPrepared) := goodIn_app (goodIn_of _ (by decide +kernel)) ggX3_execute_X0_keepPrepared
theorem dX3_execute_0 : decode cX3_execute 0 = .ok (.aload_n 0, 1) := by decide +kernel
theorem dX3_execute_1 : decode cX3_execute 1 = .ok (.getfield 26, 3) := by decide +kernel
theorem dX3_execute_4 : decode cX3_execute 4 = .ok (.invokevirtual 125, 3) := by decide +kernel
theorem dX3_execute_7 : decode cX3_execute 7 = .ok (.istore_n 1, 1) := by decide +kernel
theorem dX3_execute_8 : decode cX3_execute 8 = .ok (.iload_n 1, 1) := by decide +kernel
theorem dX3_execute_9 : decode cX3_execute 9 = .ok (.iconst (-1), 1) := by decide +kernel
theorem dX3_execute_10 : decode cX3_execute 10 = .ok (.if_icmp .eq 8, 3) := by decide +kernel
theorem dX3_execute_13 : decode cX3_execute 13 = .ok (.bipush (-10), 2) := by decide +kernel
theorem dX3_execute_15 : decode cX3_execute 15 = .ok (.iload_n 1, 1) := by decide +kernel
theorem dX3_execute_16 : decode cX3_execute 16 = .ok (.isub, 1) := by decide +kernel
theorem dX3_execute_17 : decode cX3_execute 17 = .ok (.ireturn, 1) := by decide +kernel
theorem dX3_execute_18 : decode cX3_execute 18 = .ok (.aload_n 0, 1) := by decide +kernel
theorem dX3_execute_19 : decode cX3_execute 19 = .ok (.getfield 19, 3) := by decide +kernel
theorem dX3_execute_22 : decode cX3_execute 22 = .ok (.aload_n 0, 1) := by decide +kernel
theorem dX3_execute_23 : decode cX3_execute 23 = .ok (.getfield 12, 3) := by decide +kernel
theorem dX3_execute_26 : decode cX3_execute 26 = .ok (.invokevirtual 34, 3) := by decide +kernel
theorem dX3_execute_29 : decode cX3_execute 29 = .ok (.iconst 0, 1) := by decide +kernel
theorem dX3_execute_30 : decode cX3_execute 30 = .ok (.istore_n 2, 1) := by decide +kernel
theorem dX3_execute_31 : decode cX3_execute 31 = .ok (.iconst 0, 1) := by decide +kernel
theorem dX3_execute_32 : decode cX3_execute 32 = .ok (.istore_n 3, 1) := by decide +kernel
theorem dX3_execute_33 : decode cX3_execute 33 = .ok (.iload_n 3, 1) := by decide +kernel
theorem dX3_execute_34 : decode cX3_execute 34 = .ok (.aload_n 0, 1) := by decide +kernel
theorem dX3_execute_35 : decode cX3_execute 35 = .ok (.getfield 26, 3) := by decide +kernel
theorem dX3_execute_38 : decode cX3_execute 38 = .ok (.getfield 129, 3) := by decide +kernel
theorem dX3_execute_41 : decode cX3_execute 41 = .ok (.if_icmp .ge 57, 3) := by decide +kernel
theorem dX3_execute_44 : decode cX3_execute 44 = .ok (.aload_n 0, 1) := by decide +kernel
theorem dX3_execute_45 : decode cX3_execute 45 = .ok (.iload_n 3, 1) := by decide +kernel
theorem dX3_execute_46 : decode cX3_execute 46 = .ok (.invokevirtual 132, 3) := by decide +kernel
theorem dX3_execute_49 : decode cX3_execute 49 = .ok (.istore 4, 2) := by decide +kernel
theorem dX3_execute_51 : decode cX3_execute 51 = .ok (.iload 4, 2) := by decide +kernel
theorem dX3_execute_53 : decode cX3_execute 53 = .ok (.bipush (-2), 2) := by decide +kernel
theorem dX3_execute_55 : decode cX3_execute 55 = .ok (.if_icmp .eq 10, 3) := by decide +kernel
theorem dX3_execute_58 : decode cX3_execute 58 = .ok (.iload 4, 2) := by decide +kernel
theorem dX3_execute_60 : decode cX3_execute 60 = .ok (.bipush (-4), 2) := by decide +kernel
theorem dX3_execute_62 : decode cX3_execute 62 = .ok (.if_icmp .ne 20, 3) := by decide +kernel
theorem dX3_execute_65 : decode cX3_execute 65 = .ok (.aload_n 0, 1) := by decide +kernel
theorem dX3_execute_66 : decode cX3_execute 66 = .ok (.getfield 19, 3) := by decide +kernel
theorem dX3_execute_69 : decode cX3_execute 69 = .ok (.aload_n 0, 1) := by decide +kernel
theorem dX3_execute_70 : decode cX3_execute 70 = .ok (.getfield 12, 3) := by decide +kernel
theorem dX3_execute_73 : decode cX3_execute 73 = .ok (.invokevirtual 135, 3) := by decide +kernel
theorem dX3_execute_76 : decode cX3_execute 76 = .ok (.sipush (-1000), 3) := by decide +kernel
theorem dX3_execute_79 : decode cX3_execute 79 = .ok (.iload_n 3, 1) := by decide +kernel
theorem dX3_execute_80 : decode cX3_execute 80 = .ok (.isub, 1) := by decide +kernel
theorem dX3_execute_81 : decode cX3_execute 81 = .ok (.ireturn, 1) := by decide +kernel
theorem dX3_execute_82 : decode cX3_execute 82 = .ok (.iload 4, 2) := by decide +kernel
theorem dX3_execute_84 : decode cX3_execute 84 = .ok (.bipush (-3), 2) := by decide +kernel
theorem dX3_execute_86 : decode cX3_execute 86 = .ok (.if_icmp .eq 6, 3) := by decide +kernel
theorem dX3_execute_89 : decode cX3_execute 89 = .ok (.iinc 2 1, 3) := by decide +kernel
theorem dX3_execute_92 : decode cX3_execute 92 = .ok (.iinc 3 1, 3) := by decide +kernel
theorem dX3_execute_95 : decode cX3_execute 95 = .ok (.goto (-62), 3) := by decide +kernel
theorem dX3_execute_98 : decode cX3_execute 98 = .ok (.aload_n 0, 1) := by decide +kernel
theorem dX3_execute_99 : decode cX3_execute 99 = .ok (.getfield 19, 3) := by decide +kernel
theorem dX3_execute_102 : decode cX3_execute 102 = .ok (.invokevirtual 138, 3) := by decide +kernel
theorem dX3_execute_105 : decode cX3_execute 105 = .ok (.iload_n 2, 1) := by decide +kernel
theorem dX3_execute_106 : decode cX3_execute 106 = .ok (.ireturn, 1) := by decide +kernel
set_option maxRecDepth 20000 in
theorem ggX3_undo_X0_restoreNewest : GoodIn wsX3_undo wsX0_restoreNewest := goodIn_r _ [8, 9, 10, 11, 12, 13, 14, 15, 16, 17, 18, 19, 20, 21, 22, 23, 24, 25, 26, 27, 28, 29, 30, 31, 32, 33, 34, 35, 36, 37, 38, 39, 40, 41, 42, 56, 57, 58, 59, 60, 61, 62, 63, 64, 65, 66, 67, 68, 69, 70] (by decide +kernel) (by decide +kernel)
set_option maxRecDepth 20000 in
theorem gX3_undo_X0_restoreNewest : GoodIn wsX3_undo (wsV RX3 141 RX0 yX0_restoreNewest wsX0_restoreNewest) := goodIn_app (goodIn_of _ (by decide +kernel)) ggX3_undo_X0_restoreNewest
set_option maxRecDepth 20000 in
theorem ggX3_undo_X3_counted : GoodIn wsX3_undo wsX3_counted := goodIn_r _ [47, 48, 49, 50, 46, 51, 52, 53, 54, 55] (by decide +kernel) (by decide +kernel)
set_option maxRecDepth 20000 in
theorem gX3_undo_X3_counted : GoodIn wsX3_undo (wsV RX3 56 RX3 yX3_counted wsX3_counted) := goodIn_app (goodIn_of _ (by decide +kernel)) ggX3_undo_X3_counted
theorem dX3_undo_0 : decode cX3_undo 0 = .ok (.aload_n 0, 1) := by decide +kernel
theorem dX3_undo_1 : decode cX3_undo 1 = .ok (.getfield 19, 3) := by decide +kernel
theorem dX3_undo_4 : decode cX3_undo 4 = .ok (.aload_n 0, 1) := by decide +kernel
theorem dX3_undo_5 : decode cX3_undo 5 = .ok (.getfield 12, 3) := by decide +kernel
theorem dX3_undo_8 : decode cX3_undo 8 = .ok (.invokevirtual 141, 3) := by decide +kernel
theorem dX3_undo_11 : decode cX3_undo 11 = .ok (.ifCond .eq 13, 3) := by decide +kernel
theorem dX3_undo_14 : decode cX3_undo 14 = .ok (.aload_n 0, 1) := by decide +kernel
theorem dX3_undo_15 : decode cX3_undo 15 = .ok (.getfield 19, 3) := by decide +kernel
theorem dX3_undo_18 : decode cX3_undo 18 = .ok (.getfield 145, 3) := by decide +kernel
theorem dX3_undo_21 : decode cX3_undo 21 = .ok (.goto 9, 3) := by decide +kernel
theorem dX3_undo_24 : decode cX3_undo 24 = .ok (.aload_n 0, 1) := by decide +kernel
theorem dX3_undo_25 : decode cX3_undo 25 = .ok (.bipush (-6), 2) := by decide +kernel
theorem dX3_undo_27 : decode cX3_undo 27 = .ok (.invokevirtual 56, 3) := by decide +kernel
theorem dX3_undo_30 : decode cX3_undo 30 = .ok (.ireturn, 1) := by decide +kernel
set_option maxRecDepth 20000 in
theorem ggX3_errorCount_X3_isErrorCode : GoodIn wsX3_errorCount wsX3_isErrorCode := goodIn_r _ [5] (by decide +kernel) (by decide +kernel)
set_option maxRecDepth 20000 in
theorem gX3_errorCount_X3_isErrorCode : GoodIn wsX3_errorCount (va_wsS RX3 148 yX3_isErrorCode wsX3_isErrorCode) := goodIn_app (goodIn_of _ (by decide +kernel)) ggX3_errorCount_X3_isErrorCode
set_option maxRecDepth 20000 in
theorem ggX3_errorCount_X3_counted : GoodIn wsX3_errorCount wsX3_counted := goodIn_r _ [9, 1, 2, 3, 4, 5, 10, 11, 12, 13] (by decide +kernel) (by decide +kernel)
set_option maxRecDepth 20000 in
theorem gX3_errorCount_X3_counted : GoodIn wsX3_errorCount (wsV RX3 56 RX3 yX3_counted wsX3_counted) := goodIn_app (goodIn_of _ (by decide +kernel)) ggX3_errorCount_X3_counted
theorem dX3_errorCount_0 : decode cX3_errorCount 0 = .ok (.iload_n 1, 1) := by decide +kernel
theorem dX3_errorCount_1 : decode cX3_errorCount 1 = .ok (.invokestatic 148, 3) := by decide +kernel
theorem dX3_errorCount_4 : decode cX3_errorCount 4 = .ok (.ifCond .ne 10, 3) := by decide +kernel
theorem dX3_errorCount_7 : decode cX3_errorCount 7 = .ok (.aload_n 0, 1) := by decide +kernel
theorem dX3_errorCount_8 : decode cX3_errorCount 8 = .ok (.bipush (-2), 2) := by decide +kernel
theorem dX3_errorCount_10 : decode cX3_errorCount 10 = .ok (.invokevirtual 56, 3) := by decide +kernel
theorem dX3_errorCount_13 : decode cX3_errorCount 13 = .ok (.ireturn, 1) := by decide +kernel
theorem dX3_errorCount_14 : decode cX3_errorCount 14 = .ok (.aload_n 0, 1) := by decide +kernel
theorem dX3_errorCount_15 : decode cX3_errorCount 15 = .ok (.getfield 30, 3) := by decide +kernel
theorem dX3_errorCount_18 : decode cX3_errorCount 18 = .ok (.bipush (-2), 2) := by decide +kernel
theorem dX3_errorCount_20 : decode cX3_errorCount 20 = .ok (.iload_n 1, 1) := by decide +kernel
theorem dX3_errorCount_21 : decode cX3_errorCount 21 = .ok (.isub, 1) := by decide +kernel
theorem dX3_errorCount_22 : decode cX3_errorCount 22 = .ok (.iaload, 1) := by decide +kernel
theorem dX3_errorCount_23 : decode cX3_errorCount 23 = .ok (.ireturn, 1) := by decide +kernel
theorem dX3_writes_0 : decode cX3_writes 0 = .ok (.aload_n 0, 1) := by decide +kernel
theorem dX3_writes_1 : decode cX3_writes 1 = .ok (.getfield 12, 3) := by decide +kernel
theorem dX3_writes_4 : decode cX3_writes 4 = .ok (.getfield 151, 3) := by decide +kernel
theorem dX3_writes_7 : decode cX3_writes 7 = .ok (.ireturn, 1) := by decide +kernel
set_option maxRecDepth 20000 in
theorem ggX3_digest_X3_mixAll : GoodIn wsX3_digest wsX3_mixAll := goodIn_r _ [11, 12, 13, 10, 14, 15] (by decide +kernel) (by decide +kernel)
set_option maxRecDepth 20000 in
theorem gX3_digest_X3_mixAll : GoodIn wsX3_digest (va_wsS RX3 156 yX3_mixAll wsX3_mixAll) := goodIn_app (goodIn_of _ (by decide +kernel)) ggX3_digest_X3_mixAll
set_option maxRecDepth 20000 in
theorem ggX3_digest_X2_mixInto : GoodIn wsX3_digest wsX2_mixInto := goodIn_r _ [20, 21, 22, 23, 24, 25, 26, 27, 13, 10, 14, 15, 9, 11, 12, 28, 29, 30, 19, 31, 32, 33, 34, 35, 36, 37, 38, 39, 40, 41, 42, 43, 44, 60, 61, 62, 63, 64, 65, 66, 67, 68, 69, 70, 71] (by decide +kernel) (by decide +kernel)
set_option maxRecDepth 20000 in
theorem gX3_digest_X2_mixInto : GoodIn wsX3_digest (wsV RX3 160 RX2 yX2_mixInto wsX2_mixInto) := goodIn_app (goodIn_of _ (by decide +kernel)) ggX3_digest_X2_mixInto
set_option maxRecDepth 20000 in
theorem ggX3_digest_X3_mix : GoodIn wsX3_digest wsX3_mix := goodIn_r _ [14, 15] (by decide +kernel) (by decide +kernel)
set_option maxRecDepth 20000 in
theorem gX3_digest_X3_mix : GoodIn wsX3_digest (va_wsS RX3 164 yX3_mix wsX3_mix) := goodIn_app (goodIn_of _ (by decide +kernel)) ggX3_digest_X3_mix
theorem dX3_digest_0 : decode cX3_digest 0 = .ok (.ldc2_w 154, 3) := by decide +kernel
theorem dX3_digest_3 : decode cX3_digest 3 = .ok (.aload_n 0, 1) := by decide +kernel
theorem dX3_digest_4 : decode cX3_digest 4 = .ok (.getfield 30, 3) := by decide +kernel
theorem dX3_digest_7 : decode cX3_digest 7 = .ok (.invokestatic 156, 3) := by decide +kernel
theorem dX3_digest_10 : decode cX3_digest 10 = .ok (.lstore_n 1, 1) := by decide +kernel
theorem dX3_digest_11 : decode cX3_digest 11 = .ok (.aload_n 0, 1) := by decide +kernel
theorem dX3_digest_12 : decode cX3_digest 12 = .ok (.getfield 12, 3) := by decide +kernel
theorem dX3_digest_15 : decode cX3_digest 15 = .ok (.lload_n 1, 1) := by decide +kernel
theorem dX3_digest_16 : decode cX3_digest 16 = .ok (.invokevirtual 160, 3) := by decide +kernel
theorem dX3_digest_19 : decode cX3_digest 19 = .ok (.lstore_n 1, 1) := by decide +kernel
theorem dX3_digest_20 : decode cX3_digest 20 = .ok (.lload_n 1, 1) := by decide +kernel
theorem dX3_digest_21 : decode cX3_digest 21 = .ok (.aload_n 0, 1) := by decide +kernel
theorem dX3_digest_22 : decode cX3_digest 22 = .ok (.getfield 26, 3) := by decide +kernel
theorem dX3_digest_25 : decode cX3_digest 25 = .ok (.getfield 121, 3) := by decide +kernel
theorem dX3_digest_28 : decode cX3_digest 28 = .ok (.invokestatic 164, 3) := by decide +kernel
theorem dX3_digest_31 : decode cX3_digest 31 = .ok (.lstore_n 1, 1) := by decide +kernel
theorem dX3_digest_32 : decode cX3_digest 32 = .ok (.lload_n 1, 1) := by decide +kernel
theorem dX3_digest_33 : decode cX3_digest 33 = .ok (.aload_n 0, 1) := by decide +kernel
theorem dX3_digest_34 : decode cX3_digest 34 = .ok (.getfield 19, 3) := by decide +kernel
theorem dX3_digest_37 : decode cX3_digest 37 = .ok (.getfield 145, 3) := by decide +kernel
theorem dX3_digest_40 : decode cX3_digest 40 = .ok (.invokestatic 164, 3) := by decide +kernel
theorem dX3_digest_43 : decode cX3_digest 43 = .ok (.lreturn, 1) := by decide +kernel
set_option maxRecDepth 20000 in
theorem ggX3_runCommand_X2_changeGuarantees : GoodIn wsX3_runCommand wsX2_changeGuarantees := goodIn_r _ [9, 10, 11, 12, 13, 14, 15, 16, 103, 104, 105, 106, 107, 108, 109, 110, 111, 112, 113, 114] (by decide +kernel) (by decide +kernel)
set_option maxRecDepth 20000 in
theorem gX3_runCommand_X2_changeGuarantees : GoodIn wsX3_runCommand (wsV RX3 38 RX2 yX2_changeGuarantees wsX2_changeGuarantees) := goodIn_app (goodIn_of _ (by decide +kernel)) ggX3_runCommand_X2_changeGuarantees
set_option maxRecDepth 20000 in
theorem ggX3_runCommand_X2_readKey : GoodIn wsX3_runCommand wsX2_readKey := goodIn_r _ [20, 10, 21, 22, 11, 12, 13, 14, 15, 16, 23, 24, 25, 26, 27, 28, 29, 30, 31, 8, 32, 33, 34, 35, 36, 37, 38, 39, 40, 41, 42, 43, 44, 45, 46, 47, 48, 49, 50, 51, 52, 53, 54, 55, 56, 57, 58, 59, 60, 61, 62, 63, 64, 65, 66, 67, 68, 69, 70, 71, 72, 73, 103, 104, 105, 106, 107, 108, 109, 110, 111, 112, 113, 114] (by decide +kernel) (by decide +kernel)
set_option maxRecDepth 20000 in
theorem gX3_runCommand_X2_readKey : GoodIn wsX3_runCommand (wsV RX3 66 RX2 yX2_readKey wsX2_readKey) := goodIn_app (goodIn_of _ (by decide +kernel)) ggX3_runCommand_X2_readKey
set_option maxRecDepth 20000 in
theorem ggX3_runCommand_X2_writeKey : GoodIn wsX3_runCommand wsX2_writeKey := goodIn_r _ [77, 10, 60, 78, 21, 33, 68, 67, 61, 62, 73, 11, 12, 13, 14, 15, 16, 23, 24, 25, 26, 79, 80, 81, 8, 82, 22, 27, 28, 34, 35, 36, 37, 38, 39, 40, 41, 42, 43, 44, 45, 46, 47, 48, 49, 50, 51, 52, 103, 104, 105, 106, 107, 108, 109, 110, 111, 112, 113, 114] (by decide +kernel) (by decide +kernel)
set_option maxRecDepth 20000 in
theorem gX3_runCommand_X2_writeKey : GoodIn wsX3_runCommand (wsV RX3 70 RX2 yX2_writeKey wsX2_writeKey) := goodIn_app (goodIn_of _ (by decide +kernel)) ggX3_runCommand_X2_writeKey
set_option maxRecDepth 20000 in
theorem ggX3_runCommand_X2_synchronize : GoodIn wsX3_runCommand wsX2_synchronize := goodIn_r _ [86, 60, 78, 73, 42, 43, 44, 45, 21, 23, 12, 24, 14, 15, 16, 63, 64, 65, 8, 66, 67, 68, 53, 54, 55, 103, 104, 105, 106, 107, 108, 109, 110, 111, 112, 113, 114] (by decide +kernel) (by decide +kernel)
set_option maxRecDepth 20000 in
theorem gX3_runCommand_X2_synchronize : GoodIn wsX3_runCommand (wsV RX3 74 RX2 yX2_synchronize wsX2_synchronize) := goodIn_app (goodIn_of _ (by decide +kernel)) ggX3_runCommand_X2_synchronize
set_option maxRecDepth 20000 in
theorem ggX3_runCommand_X2_clearVectors : GoodIn wsX3_runCommand wsX2_clearVectors := goodIn_r _ [90, 22, 33, 11, 12, 13, 14, 15, 16, 103, 104, 105, 106, 107, 108, 109, 110, 111, 112, 113, 114] (by decide +kernel) (by decide +kernel)
set_option maxRecDepth 20000 in
theorem gX3_runCommand_X2_clearVectors : GoodIn wsX3_runCommand (wsV RX3 46 RX2 yX2_clearVectors wsX2_clearVectors) := goodIn_app (goodIn_of _ (by decide +kernel)) ggX3_runCommand_X2_clearVectors
theorem dX3_runCommand_0 : decode cX3_runCommand 0 = .ok (.aload_n 0, 1) := by decide +kernel
theorem dX3_runCommand_1 : decode cX3_runCommand 1 = .ok (.getfield 26, 3) := by decide +kernel
theorem dX3_runCommand_4 : decode cX3_runCommand 4 = .ok (.getfield 168, 3) := by decide +kernel
theorem dX3_runCommand_7 : decode cX3_runCommand 7 = .ok (.iload_n 1, 1) := by decide +kernel
theorem dX3_runCommand_8 : decode cX3_runCommand 8 = .ok (.aaload, 1) := by decide +kernel
theorem dX3_runCommand_9 : decode cX3_runCommand 9 = .ok (.astore_n 2, 1) := by decide +kernel
theorem dX3_runCommand_10 : decode cX3_runCommand 10 = .ok (.aload_n 0, 1) := by decide +kernel
theorem dX3_runCommand_11 : decode cX3_runCommand 11 = .ok (.getfield 26, 3) := by decide +kernel
theorem dX3_runCommand_14 : decode cX3_runCommand 14 = .ok (.getfield 171, 3) := by decide +kernel
theorem dX3_runCommand_17 : decode cX3_runCommand 17 = .ok (.iload_n 1, 1) := by decide +kernel
theorem dX3_runCommand_18 : decode cX3_runCommand 18 = .ok (.iaload, 1) := by decide +kernel
theorem dX3_runCommand_19 : decode cX3_runCommand 19 = .ok (.lookupswitch 106 #[(103, 41), (114, 55), (115, 92), (119, 72)], 41) := by decide +kernel
theorem dX3_runCommand_60 : decode cX3_runCommand 60 = .ok (.aload_n 0, 1) := by decide +kernel
theorem dX3_runCommand_61 : decode cX3_runCommand 61 = .ok (.getfield 12, 3) := by decide +kernel
theorem dX3_runCommand_64 : decode cX3_runCommand 64 = .ok (.aload_n 2, 1) := by decide +kernel
theorem dX3_runCommand_65 : decode cX3_runCommand 65 = .ok (.iconst 0, 1) := by decide +kernel
theorem dX3_runCommand_66 : decode cX3_runCommand 66 = .ok (.iaload, 1) := by decide +kernel
theorem dX3_runCommand_67 : decode cX3_runCommand 67 = .ok (.aload_n 2, 1) := by decide +kernel
theorem dX3_runCommand_68 : decode cX3_runCommand 68 = .ok (.iconst 1, 1) := by decide +kernel
theorem dX3_runCommand_69 : decode cX3_runCommand 69 = .ok (.iaload, 1) := by decide +kernel
theorem dX3_runCommand_70 : decode cX3_runCommand 70 = .ok (.invokevirtual 38, 3) := by decide +kernel
theorem dX3_runCommand_73 : decode cX3_runCommand 73 = .ok (.ireturn, 1) := by decide +kernel
theorem dX3_runCommand_74 : decode cX3_runCommand 74 = .ok (.aload_n 0, 1) := by decide +kernel
theorem dX3_runCommand_75 : decode cX3_runCommand 75 = .ok (.getfield 12, 3) := by decide +kernel
theorem dX3_runCommand_78 : decode cX3_runCommand 78 = .ok (.aload_n 2, 1) := by decide +kernel
theorem dX3_runCommand_79 : decode cX3_runCommand 79 = .ok (.iconst 0, 1) := by decide +kernel
theorem dX3_runCommand_80 : decode cX3_runCommand 80 = .ok (.iaload, 1) := by decide +kernel
theorem dX3_runCommand_81 : decode cX3_runCommand 81 = .ok (.aload_n 2, 1) := by decide +kernel
theorem dX3_runCommand_82 : decode cX3_runCommand 82 = .ok (.iconst 1, 1) := by decide +kernel
theorem dX3_runCommand_83 : decode cX3_runCommand 83 = .ok (.iaload, 1) := by decide +kernel
theorem dX3_runCommand_84 : decode cX3_runCommand 84 = .ok (.aload_n 2, 1) := by decide +kernel
theorem dX3_runCommand_85 : decode cX3_runCommand 85 = .ok (.iconst 2, 1) := by decide +kernel
theorem dX3_runCommand_86 : decode cX3_runCommand 86 = .ok (.iaload, 1) := by decide +kernel
theorem dX3_runCommand_87 : decode cX3_runCommand 87 = .ok (.invokevirtual 66, 3) := by decide +kernel
theorem dX3_runCommand_90 : decode cX3_runCommand 90 = .ok (.ireturn, 1) := by decide +kernel
theorem dX3_runCommand_91 : decode cX3_runCommand 91 = .ok (.aload_n 0, 1) := by decide +kernel
theorem dX3_runCommand_92 : decode cX3_runCommand 92 = .ok (.getfield 12, 3) := by decide +kernel
theorem dX3_runCommand_95 : decode cX3_runCommand 95 = .ok (.aload_n 2, 1) := by decide +kernel
theorem dX3_runCommand_96 : decode cX3_runCommand 96 = .ok (.iconst 0, 1) := by decide +kernel
theorem dX3_runCommand_97 : decode cX3_runCommand 97 = .ok (.iaload, 1) := by decide +kernel
theorem dX3_runCommand_98 : decode cX3_runCommand 98 = .ok (.aload_n 2, 1) := by decide +kernel
theorem dX3_runCommand_99 : decode cX3_runCommand 99 = .ok (.iconst 1, 1) := by decide +kernel
theorem dX3_runCommand_100 : decode cX3_runCommand 100 = .ok (.iaload, 1) := by decide +kernel
theorem dX3_runCommand_101 : decode cX3_runCommand 101 = .ok (.aload_n 2, 1) := by decide +kernel
theorem dX3_runCommand_102 : decode cX3_runCommand 102 = .ok (.iconst 2, 1) := by decide +kernel
theorem dX3_runCommand_103 : decode cX3_runCommand 103 = .ok (.iaload, 1) := by decide +kernel
theorem dX3_runCommand_104 : decode cX3_runCommand 104 = .ok (.aload_n 2, 1) := by decide +kernel
theorem dX3_runCommand_105 : decode cX3_runCommand 105 = .ok (.iconst 3, 1) := by decide +kernel
theorem dX3_runCommand_106 : decode cX3_runCommand 106 = .ok (.iaload, 1) := by decide +kernel
theorem dX3_runCommand_107 : decode cX3_runCommand 107 = .ok (.invokevirtual 70, 3) := by decide +kernel
theorem dX3_runCommand_110 : decode cX3_runCommand 110 = .ok (.ireturn, 1) := by decide +kernel
theorem dX3_runCommand_111 : decode cX3_runCommand 111 = .ok (.aload_n 0, 1) := by decide +kernel
theorem dX3_runCommand_112 : decode cX3_runCommand 112 = .ok (.getfield 12, 3) := by decide +kernel
theorem dX3_runCommand_115 : decode cX3_runCommand 115 = .ok (.aload_n 2, 1) := by decide +kernel
theorem dX3_runCommand_116 : decode cX3_runCommand 116 = .ok (.iconst 0, 1) := by decide +kernel
theorem dX3_runCommand_117 : decode cX3_runCommand 117 = .ok (.iaload, 1) := by decide +kernel
theorem dX3_runCommand_118 : decode cX3_runCommand 118 = .ok (.aload_n 2, 1) := by decide +kernel
theorem dX3_runCommand_119 : decode cX3_runCommand 119 = .ok (.iconst 1, 1) := by decide +kernel
theorem dX3_runCommand_120 : decode cX3_runCommand 120 = .ok (.iaload, 1) := by decide +kernel
theorem dX3_runCommand_121 : decode cX3_runCommand 121 = .ok (.invokevirtual 74, 3) := by decide +kernel
theorem dX3_runCommand_124 : decode cX3_runCommand 124 = .ok (.ireturn, 1) := by decide +kernel
theorem dX3_runCommand_125 : decode cX3_runCommand 125 = .ok (.aload_n 0, 1) := by decide +kernel
theorem dX3_runCommand_126 : decode cX3_runCommand 126 = .ok (.getfield 12, 3) := by decide +kernel
theorem dX3_runCommand_129 : decode cX3_runCommand 129 = .ok (.aload_n 2, 1) := by decide +kernel
theorem dX3_runCommand_130 : decode cX3_runCommand 130 = .ok (.iconst 0, 1) := by decide +kernel
theorem dX3_runCommand_131 : decode cX3_runCommand 131 = .ok (.iaload, 1) := by decide +kernel
theorem dX3_runCommand_132 : decode cX3_runCommand 132 = .ok (.invokevirtual 46, 3) := by decide +kernel
theorem dX3_runCommand_135 : decode cX3_runCommand 135 = .ok (.ireturn, 1) := by decide +kernel
set_option maxRecDepth 20000 in
theorem ggX3_endUndoable_X0_keepPrepared : GoodIn wsX3_endUndoable wsX0_keepPrepared := goodIn_r _ [6, 7, 8, 9, 10, 11, 12, 26, 27, 28] (by decide +kernel) (by decide +kernel)
set_option maxRecDepth 20000 in
theorem gX3_endUndoable_X0_keepPrepared : GoodIn wsX3_endUndoable (wsV RX3 138 RX0 yX0_keepPrepared wsX0_keepPrepared) := goodIn_app (goodIn_of _ (by decide +kernel)) ggX3_endUndoable_X0_keepPrepared
set_option maxRecDepth 20000 in
theorem ggX3_endUndoable_X3_counted : GoodIn wsX3_endUndoable wsX3_counted := goodIn_r _ [17, 18, 19, 20, 16, 21, 22, 23, 24, 25] (by decide +kernel) (by decide +kernel)
set_option maxRecDepth 20000 in
theorem gX3_endUndoable_X3_counted : GoodIn wsX3_endUndoable (wsV RX3 56 RX3 yX3_counted wsX3_counted) := goodIn_app (goodIn_of _ (by decide +kernel)) ggX3_endUndoable_X3_counted
theorem dX3_endUndoable_0 : decode cX3_endUndoable 0 = .ok (.iload_n 1, 1) := by decide +kernel
theorem dX3_endUndoable_1 : decode cX3_endUndoable 1 = .ok (.ifCond .lt 10, 3) := by decide +kernel
theorem dX3_endUndoable_4 : decode cX3_endUndoable 4 = .ok (.aload_n 0, 1) := by decide +kernel
theorem dX3_endUndoable_5 : decode cX3_endUndoable 5 = .ok (.getfield 19, 3) := by decide +kernel
theorem dX3_endUndoable_8 : decode cX3_endUndoable 8 = .ok (.invokevirtual 138, 3) := by decide +kernel
theorem dX3_endUndoable_11 : decode cX3_endUndoable 11 = .ok (.aload_n 0, 1) := by decide +kernel
theorem dX3_endUndoable_12 : decode cX3_endUndoable 12 = .ok (.iload_n 1, 1) := by decide +kernel
theorem dX3_endUndoable_13 : decode cX3_endUndoable 13 = .ok (.invokevirtual 56, 3) := by decide +kernel
theorem dX3_endUndoable_16 : decode cX3_endUndoable 16 = .ok (.ireturn, 1) := by decide +kernel
set_option maxRecDepth 20000 in
theorem ggX3_counted_X3_isErrorCode : GoodIn wsX3_counted wsX3_isErrorCode := goodIn_r _ [5] (by decide +kernel) (by decide +kernel)
set_option maxRecDepth 20000 in
theorem gX3_counted_X3_isErrorCode : GoodIn wsX3_counted (va_wsS RX3 148 yX3_isErrorCode wsX3_isErrorCode) := goodIn_app (goodIn_of _ (by decide +kernel)) ggX3_counted_X3_isErrorCode
theorem dX3_counted_0 : decode cX3_counted 0 = .ok (.iload_n 1, 1) := by decide +kernel
theorem dX3_counted_1 : decode cX3_counted 1 = .ok (.invokestatic 148, 3) := by decide +kernel
theorem dX3_counted_4 : decode cX3_counted 4 = .ok (.ifCond .eq 16, 3) := by decide +kernel
theorem dX3_counted_7 : decode cX3_counted 7 = .ok (.aload_n 0, 1) := by decide +kernel
theorem dX3_counted_8 : decode cX3_counted 8 = .ok (.getfield 30, 3) := by decide +kernel
theorem dX3_counted_11 : decode cX3_counted 11 = .ok (.bipush (-2), 2) := by decide +kernel
theorem dX3_counted_13 : decode cX3_counted 13 = .ok (.iload_n 1, 1) := by decide +kernel
theorem dX3_counted_14 : decode cX3_counted 14 = .ok (.isub, 1) := by decide +kernel
theorem dX3_counted_15 : decode cX3_counted 15 = .ok (.dup2, 1) := by decide +kernel
theorem dX3_counted_16 : decode cX3_counted 16 = .ok (.iaload, 1) := by decide +kernel
theorem dX3_counted_17 : decode cX3_counted 17 = .ok (.iconst 1, 1) := by decide +kernel
theorem dX3_counted_18 : decode cX3_counted 18 = .ok (.iadd, 1) := by decide +kernel
theorem dX3_counted_19 : decode cX3_counted 19 = .ok (.iastore, 1) := by decide +kernel
theorem dX3_counted_20 : decode cX3_counted 20 = .ok (.iload_n 1, 1) := by decide +kernel
theorem dX3_counted_21 : decode cX3_counted 21 = .ok (.ireturn, 1) := by decide +kernel
theorem dX3_isErrorCode_0 : decode cX3_isErrorCode 0 = .ok (.iload_n 0, 1) := by decide +kernel
theorem dX3_isErrorCode_1 : decode cX3_isErrorCode 1 = .ok (.bipush (-6), 2) := by decide +kernel
theorem dX3_isErrorCode_3 : decode cX3_isErrorCode 3 = .ok (.if_icmp .lt 13, 3) := by decide +kernel
theorem dX3_isErrorCode_6 : decode cX3_isErrorCode 6 = .ok (.iload_n 0, 1) := by decide +kernel
theorem dX3_isErrorCode_7 : decode cX3_isErrorCode 7 = .ok (.bipush (-2), 2) := by decide +kernel
theorem dX3_isErrorCode_9 : decode cX3_isErrorCode 9 = .ok (.if_icmp .gt 7, 3) := by decide +kernel
theorem dX3_isErrorCode_12 : decode cX3_isErrorCode 12 = .ok (.iconst 1, 1) := by decide +kernel
theorem dX3_isErrorCode_13 : decode cX3_isErrorCode 13 = .ok (.goto 4, 3) := by decide +kernel
theorem dX3_isErrorCode_16 : decode cX3_isErrorCode 16 = .ok (.iconst 0, 1) := by decide +kernel
theorem dX3_isErrorCode_17 : decode cX3_isErrorCode 17 = .ok (.ireturn, 1) := by decide +kernel
theorem dX3_isBelow_0 : decode cX3_isBelow 0 = .ok (.iload_n 0, 1) := by decide +kernel
theorem dX3_isBelow_1 : decode cX3_isBelow 1 = .ok (.ifCond .lt 12, 3) := by decide +kernel
theorem dX3_isBelow_4 : decode cX3_isBelow 4 = .ok (.iload_n 0, 1) := by decide +kernel
theorem dX3_isBelow_5 : decode cX3_isBelow 5 = .ok (.iload_n 1, 1) := by decide +kernel
theorem dX3_isBelow_6 : decode cX3_isBelow 6 = .ok (.if_icmp .ge 7, 3) := by decide +kernel
theorem dX3_isBelow_9 : decode cX3_isBelow 9 = .ok (.iconst 1, 1) := by decide +kernel
theorem dX3_isBelow_10 : decode cX3_isBelow 10 = .ok (.goto 4, 3) := by decide +kernel
theorem dX3_isBelow_13 : decode cX3_isBelow 13 = .ok (.iconst 0, 1) := by decide +kernel
theorem dX3_isBelow_14 : decode cX3_isBelow 14 = .ok (.ireturn, 1) := by decide +kernel
set_option maxRecDepth 20000 in
theorem ggX3_isClient_X3_isBelow : GoodIn wsX3_isClient wsX3_isBelow := goodIn_r _ [4] (by decide +kernel) (by decide +kernel)
set_option maxRecDepth 20000 in
theorem gX3_isClient_X3_isBelow : GoodIn wsX3_isClient (va_wsS RX3 112 yX3_isBelow wsX3_isBelow) := goodIn_app (goodIn_of _ (by decide +kernel)) ggX3_isClient_X3_isBelow
theorem dX3_isClient_0 : decode cX3_isClient 0 = .ok (.iload_n 0, 1) := by decide +kernel
theorem dX3_isClient_1 : decode cX3_isClient 1 = .ok (.iconst 4, 1) := by decide +kernel
theorem dX3_isClient_2 : decode cX3_isClient 2 = .ok (.invokestatic 112, 3) := by decide +kernel
theorem dX3_isClient_5 : decode cX3_isClient 5 = .ok (.ireturn, 1) := by decide +kernel
set_option maxRecDepth 20000 in
theorem ggX3_isReplica_X3_isBelow : GoodIn wsX3_isReplica wsX3_isBelow := goodIn_r _ [4] (by decide +kernel) (by decide +kernel)
set_option maxRecDepth 20000 in
theorem gX3_isReplica_X3_isBelow : GoodIn wsX3_isReplica (va_wsS RX3 112 yX3_isBelow wsX3_isBelow) := goodIn_app (goodIn_of _ (by decide +kernel)) ggX3_isReplica_X3_isBelow
theorem dX3_isReplica_0 : decode cX3_isReplica 0 = .ok (.iload_n 0, 1) := by decide +kernel
theorem dX3_isReplica_1 : decode cX3_isReplica 1 = .ok (.iconst 3, 1) := by decide +kernel
theorem dX3_isReplica_2 : decode cX3_isReplica 2 = .ok (.invokestatic 112, 3) := by decide +kernel
theorem dX3_isReplica_5 : decode cX3_isReplica 5 = .ok (.ireturn, 1) := by decide +kernel
set_option maxRecDepth 20000 in
theorem ggX3_isKey_X3_isBelow : GoodIn wsX3_isKey wsX3_isBelow := goodIn_r _ [4] (by decide +kernel) (by decide +kernel)
set_option maxRecDepth 20000 in
theorem gX3_isKey_X3_isBelow : GoodIn wsX3_isKey (va_wsS RX3 112 yX3_isBelow wsX3_isBelow) := goodIn_app (goodIn_of _ (by decide +kernel)) ggX3_isKey_X3_isBelow
theorem dX3_isKey_0 : decode cX3_isKey 0 = .ok (.iload_n 0, 1) := by decide +kernel
theorem dX3_isKey_1 : decode cX3_isKey 1 = .ok (.iconst 4, 1) := by decide +kernel
theorem dX3_isKey_2 : decode cX3_isKey 2 = .ok (.invokestatic 112, 3) := by decide +kernel
theorem dX3_isKey_5 : decode cX3_isKey 5 = .ok (.ireturn, 1) := by decide +kernel
theorem dX3_only_0 : decode cX3_only 0 = .ok (.iconst 1, 1) := by decide +kernel
theorem dX3_only_1 : decode cX3_only 1 = .ok (.iload_n 0, 1) := by decide +kernel
theorem dX3_only_2 : decode cX3_only 2 = .ok (.ishl, 1) := by decide +kernel
theorem dX3_only_3 : decode cX3_only 3 = .ok (.ireturn, 1) := by decide +kernel
theorem dX3_contains_0 : decode cX3_contains 0 = .ok (.iload_n 0, 1) := by decide +kernel
theorem dX3_contains_1 : decode cX3_contains 1 = .ok (.iload_n 1, 1) := by decide +kernel
theorem dX3_contains_2 : decode cX3_contains 2 = .ok (.ishr, 1) := by decide +kernel
theorem dX3_contains_3 : decode cX3_contains 3 = .ok (.iconst 1, 1) := by decide +kernel
theorem dX3_contains_4 : decode cX3_contains 4 = .ok (.iand, 1) := by decide +kernel
theorem dX3_contains_5 : decode cX3_contains 5 = .ok (.ifCond .eq 7, 3) := by decide +kernel
theorem dX3_contains_8 : decode cX3_contains 8 = .ok (.iconst 1, 1) := by decide +kernel
theorem dX3_contains_9 : decode cX3_contains 9 = .ok (.goto 4, 3) := by decide +kernel
theorem dX3_contains_12 : decode cX3_contains 12 = .ok (.iconst 0, 1) := by decide +kernel
theorem dX3_contains_13 : decode cX3_contains 13 = .ok (.ireturn, 1) := by decide +kernel
theorem dX3_mix_0 : decode cX3_mix 0 = .ok (.ldc2_w 174, 3) := by decide +kernel
theorem dX3_mix_3 : decode cX3_mix 3 = .ok (.lload_n 0, 1) := by decide +kernel
theorem dX3_mix_4 : decode cX3_mix 4 = .ok (.lmul, 1) := by decide +kernel
theorem dX3_mix_5 : decode cX3_mix 5 = .ok (.iload_n 2, 1) := by decide +kernel
theorem dX3_mix_6 : decode cX3_mix 6 = .ok (.i2l, 1) := by decide +kernel
theorem dX3_mix_7 : decode cX3_mix 7 = .ok (.ladd, 1) := by decide +kernel
theorem dX3_mix_8 : decode cX3_mix 8 = .ok (.lreturn, 1) := by decide +kernel
set_option maxRecDepth 20000 in
theorem ggX3_mixAll_X3_mix : GoodIn wsX3_mixAll wsX3_mix := goodIn_r _ [4, 5] (by decide +kernel) (by decide +kernel)
set_option maxRecDepth 20000 in
theorem gX3_mixAll_X3_mix : GoodIn wsX3_mixAll (va_wsS RX3 164 yX3_mix wsX3_mix) := goodIn_app (goodIn_of _ (by decide +kernel)) ggX3_mixAll_X3_mix
theorem dX3_mixAll_0 : decode cX3_mixAll 0 = .ok (.aload_n 2, 1) := by decide +kernel
theorem dX3_mixAll_1 : decode cX3_mixAll 1 = .ok (.astore_n 3, 1) := by decide +kernel
theorem dX3_mixAll_2 : decode cX3_mixAll 2 = .ok (.aload_n 3, 1) := by decide +kernel
theorem dX3_mixAll_3 : decode cX3_mixAll 3 = .ok (.arraylength, 1) := by decide +kernel
theorem dX3_mixAll_4 : decode cX3_mixAll 4 = .ok (.istore 4, 2) := by decide +kernel
theorem dX3_mixAll_6 : decode cX3_mixAll 6 = .ok (.iconst 0, 1) := by decide +kernel
theorem dX3_mixAll_7 : decode cX3_mixAll 7 = .ok (.istore 5, 2) := by decide +kernel
theorem dX3_mixAll_9 : decode cX3_mixAll 9 = .ok (.iload 5, 2) := by decide +kernel
theorem dX3_mixAll_11 : decode cX3_mixAll 11 = .ok (.iload 4, 2) := by decide +kernel
theorem dX3_mixAll_13 : decode cX3_mixAll 13 = .ok (.if_icmp .ge 22, 3) := by decide +kernel
theorem dX3_mixAll_16 : decode cX3_mixAll 16 = .ok (.aload_n 3, 1) := by decide +kernel
theorem dX3_mixAll_17 : decode cX3_mixAll 17 = .ok (.iload 5, 2) := by decide +kernel
theorem dX3_mixAll_19 : decode cX3_mixAll 19 = .ok (.iaload, 1) := by decide +kernel
theorem dX3_mixAll_20 : decode cX3_mixAll 20 = .ok (.istore 6, 2) := by decide +kernel
theorem dX3_mixAll_22 : decode cX3_mixAll 22 = .ok (.lload_n 0, 1) := by decide +kernel
theorem dX3_mixAll_23 : decode cX3_mixAll 23 = .ok (.iload 6, 2) := by decide +kernel
theorem dX3_mixAll_25 : decode cX3_mixAll 25 = .ok (.invokestatic 164, 3) := by decide +kernel
theorem dX3_mixAll_28 : decode cX3_mixAll 28 = .ok (.lstore_n 0, 1) := by decide +kernel
theorem dX3_mixAll_29 : decode cX3_mixAll 29 = .ok (.iinc 5 1, 3) := by decide +kernel
theorem dX3_mixAll_32 : decode cX3_mixAll 32 = .ok (.goto (-23), 3) := by decide +kernel
theorem dX3_mixAll_35 : decode cX3_mixAll 35 = .ok (.lload_n 0, 1) := by decide +kernel
theorem dX3_mixAll_36 : decode cX3_mixAll 36 = .ok (.lreturn, 1) := by decide +kernel
theorem dX4_init_0 : decode cX4_init 0 = .ok (.aload_n 0, 1) := by decide +kernel
theorem dX4_init_1 : decode cX4_init 1 = .ok (.invokespecial 1, 3) := by decide +kernel
theorem dX4_init_4 : decode cX4_init 4 = .ok (.aload_n 0, 1) := by decide +kernel
theorem dX4_init_5 : decode cX4_init 5 = .ok (.sipush 345, 3) := by decide +kernel
theorem dX4_init_8 : decode cX4_init 8 = .ok (.newarray .int, 2) := by decide +kernel
theorem dX4_init_10 : decode cX4_init 10 = .ok (.putfield 7, 3) := by decide +kernel
theorem dX4_init_13 : decode cX4_init 13 = .ok (.aload_n 0, 1) := by decide +kernel
theorem dX4_init_14 : decode cX4_init 14 = .ok (.sipush 1380, 3) := by decide +kernel
theorem dX4_init_17 : decode cX4_init 17 = .ok (.newarray .int, 2) := by decide +kernel
theorem dX4_init_19 : decode cX4_init 19 = .ok (.putfield 13, 3) := by decide +kernel
theorem dX4_init_22 : decode cX4_init 22 = .ok (.aload_n 0, 1) := by decide +kernel
theorem dX4_init_23 : decode cX4_init 23 = .ok (.sipush 345, 3) := by decide +kernel
theorem dX4_init_26 : decode cX4_init 26 = .ok (.newarray .int, 2) := by decide +kernel
theorem dX4_init_28 : decode cX4_init 28 = .ok (.putfield 16, 3) := by decide +kernel
theorem dX4_init_31 : decode cX4_init 31 = .ok (.aload_n 0, 1) := by decide +kernel
theorem dX4_init_32 : decode cX4_init 32 = .ok (.iconst 5, 1) := by decide +kernel
theorem dX4_init_33 : decode cX4_init 33 = .ok (.newarray .int, 2) := by decide +kernel
theorem dX4_init_35 : decode cX4_init 35 = .ok (.putfield 19, 3) := by decide +kernel
theorem dX4_init_38 : decode cX4_init 38 = .ok (.aload_n 0, 1) := by decide +kernel
theorem dX4_init_39 : decode cX4_init 39 = .ok (.bipush 100, 2) := by decide +kernel
theorem dX4_init_41 : decode cX4_init 41 = .ok (.newarray .int, 2) := by decide +kernel
theorem dX4_init_43 : decode cX4_init 43 = .ok (.putfield 22, 3) := by decide +kernel
theorem dX4_init_46 : decode cX4_init 46 = .ok (.aload_n 0, 1) := by decide +kernel
theorem dX4_init_47 : decode cX4_init 47 = .ok (.iconst 4, 1) := by decide +kernel
theorem dX4_init_48 : decode cX4_init 48 = .ok (.newarray .int, 2) := by decide +kernel
theorem dX4_init_50 : decode cX4_init 50 = .ok (.putfield 25, 3) := by decide +kernel
theorem dX4_init_53 : decode cX4_init 53 = .ok (.aload_n 0, 1) := by decide +kernel
theorem dX4_init_54 : decode cX4_init 54 = .ok (.getfield 7, 3) := by decide +kernel
theorem dX4_init_57 : decode cX4_init 57 = .ok (.bipush 12, 2) := by decide +kernel
theorem dX4_init_59 : decode cX4_init 59 = .ok (.iconst 0, 1) := by decide +kernel
theorem dX4_init_60 : decode cX4_init 60 = .ok (.iastore, 1) := by decide +kernel
theorem dX4_init_61 : decode cX4_init 61 = .ok (.return_, 1) := by decide +kernel
theorem dX4_in_0 : decode cX4_in 0 = .ok (.lload_n 0, 1) := by decide +kernel
theorem dX4_in_1 : decode cX4_in 1 = .ok (.lload_n 2, 1) := by decide +kernel
theorem dX4_in_2 : decode cX4_in 2 = .ok (.lcmp, 1) := by decide +kernel
theorem dX4_in_3 : decode cX4_in 3 = .ok (.ifCond .lt 14, 3) := by decide +kernel
theorem dX4_in_6 : decode cX4_in 6 = .ok (.lload_n 0, 1) := by decide +kernel
theorem dX4_in_7 : decode cX4_in 7 = .ok (.lload 4, 2) := by decide +kernel
theorem dX4_in_9 : decode cX4_in 9 = .ok (.lcmp, 1) := by decide +kernel
theorem dX4_in_10 : decode cX4_in 10 = .ok (.ifCond .gt 7, 3) := by decide +kernel
theorem dX4_in_13 : decode cX4_in 13 = .ok (.iconst 1, 1) := by decide +kernel
theorem dX4_in_14 : decode cX4_in 14 = .ok (.goto 4, 3) := by decide +kernel
theorem dX4_in_17 : decode cX4_in 17 = .ok (.iconst 0, 1) := by decide +kernel
theorem dX4_in_18 : decode cX4_in 18 = .ok (.ireturn, 1) := by decide +kernel
theorem dX4_error_0 : decode cX4_error 0 = .ok (.aload_n 0, 1) := by decide +kernel
theorem dX4_error_1 : decode cX4_error 1 = .ok (.getfield 19, 3) := by decide +kernel
theorem dX4_error_4 : decode cX4_error 4 = .ok (.bipush (-2), 2) := by decide +kernel
theorem dX4_error_6 : decode cX4_error 6 = .ok (.iload_n 1, 1) := by decide +kernel
theorem dX4_error_7 : decode cX4_error 7 = .ok (.isub, 1) := by decide +kernel
theorem dX4_error_8 : decode cX4_error 8 = .ok (.dup2, 1) := by decide +kernel
theorem dX4_error_9 : decode cX4_error 9 = .ok (.iaload, 1) := by decide +kernel
theorem dX4_error_10 : decode cX4_error 10 = .ok (.iconst 1, 1) := by decide +kernel
theorem dX4_error_11 : decode cX4_error 11 = .ok (.iadd, 1) := by decide +kernel
theorem dX4_error_12 : decode cX4_error 12 = .ok (.iastore, 1) := by decide +kernel
theorem dX4_error_13 : decode cX4_error 13 = .ok (.iload_n 1, 1) := by decide +kernel
theorem dX4_error_14 : decode cX4_error 14 = .ok (.ireturn, 1) := by decide +kernel
set_option maxRecDepth 20000 in
theorem ggX4_answered_X4_error : GoodIn wsX4_answered wsX4_error := goodIn_r _ [5, 6, 14, 15, 16, 17, 18, 19, 20, 21, 22, 23] (by decide +kernel) (by decide +kernel)
set_option maxRecDepth 20000 in
theorem gX4_answered_X4_error : GoodIn wsX4_answered (wsV RX4 28 RX4 yX4_error wsX4_error) := goodIn_app (goodIn_of _ (by decide +kernel)) ggX4_answered_X4_error
set_option maxRecDepth 20000 in
theorem ggX4_answered_X4_savesAside : GoodIn wsX4_answered wsX4_savesAside := goodIn_r _ [10, 11, 12, 13, 14, 15, 16, 17, 18, 19, 20, 21, 22, 23] (by decide +kernel) (by decide +kernel)
set_option maxRecDepth 20000 in
theorem gX4_answered_X4_savesAside : GoodIn wsX4_answered (wsV RX4 32 RX4 yX4_savesAside wsX4_savesAside) := goodIn_app (goodIn_of _ (by decide +kernel)) ggX4_answered_X4_savesAside
theorem dX4_answered_0 : decode cX4_answered 0 = .ok (.iload_n 1, 1) := by decide +kernel
theorem dX4_answered_1 : decode cX4_answered 1 = .ok (.ifCond .ge 9, 3) := by decide +kernel
theorem dX4_answered_4 : decode cX4_answered 4 = .ok (.aload_n 0, 1) := by decide +kernel
theorem dX4_answered_5 : decode cX4_answered 5 = .ok (.iload_n 1, 1) := by decide +kernel
theorem dX4_answered_6 : decode cX4_answered 6 = .ok (.invokevirtual 28, 3) := by decide +kernel
theorem dX4_answered_9 : decode cX4_answered 9 = .ok (.ireturn, 1) := by decide +kernel
theorem dX4_answered_10 : decode cX4_answered 10 = .ok (.aload_n 0, 1) := by decide +kernel
theorem dX4_answered_11 : decode cX4_answered 11 = .ok (.invokevirtual 32, 3) := by decide +kernel
theorem dX4_answered_14 : decode cX4_answered 14 = .ok (.iload_n 1, 1) := by decide +kernel
theorem dX4_answered_15 : decode cX4_answered 15 = .ok (.ireturn, 1) := by decide +kernel
theorem dX4_putsAside_0 : decode cX4_putsAside 0 = .ok (.iconst 0, 1) := by decide +kernel
theorem dX4_putsAside_1 : decode cX4_putsAside 1 = .ok (.istore_n 1, 1) := by decide +kernel
theorem dX4_putsAside_2 : decode cX4_putsAside 2 = .ok (.iload_n 1, 1) := by decide +kernel
theorem dX4_putsAside_3 : decode cX4_putsAside 3 = .ok (.sipush 345, 3) := by decide +kernel
theorem dX4_putsAside_6 : decode cX4_putsAside 6 = .ok (.if_icmp .ge 21, 3) := by decide +kernel
theorem dX4_putsAside_9 : decode cX4_putsAside 9 = .ok (.aload_n 0, 1) := by decide +kernel
theorem dX4_putsAside_10 : decode cX4_putsAside 10 = .ok (.getfield 16, 3) := by decide +kernel
theorem dX4_putsAside_13 : decode cX4_putsAside 13 = .ok (.iload_n 1, 1) := by decide +kernel
theorem dX4_putsAside_14 : decode cX4_putsAside 14 = .ok (.aload_n 0, 1) := by decide +kernel
theorem dX4_putsAside_15 : decode cX4_putsAside 15 = .ok (.getfield 7, 3) := by decide +kernel
theorem dX4_putsAside_18 : decode cX4_putsAside 18 = .ok (.iload_n 1, 1) := by decide +kernel
theorem dX4_putsAside_19 : decode cX4_putsAside 19 = .ok (.iaload, 1) := by decide +kernel
theorem dX4_putsAside_20 : decode cX4_putsAside 20 = .ok (.iastore, 1) := by decide +kernel
theorem dX4_putsAside_21 : decode cX4_putsAside 21 = .ok (.iinc 1 1, 3) := by decide +kernel
theorem dX4_putsAside_24 : decode cX4_putsAside 24 = .ok (.goto (-22), 3) := by decide +kernel
theorem dX4_putsAside_27 : decode cX4_putsAside 27 = .ok (.return_, 1) := by decide +kernel
theorem dX4_savesAside_0 : decode cX4_savesAside 0 = .ok (.aload_n 0, 1) := by decide +kernel
theorem dX4_savesAside_1 : decode cX4_savesAside 1 = .ok (.getfield 35, 3) := by decide +kernel
theorem dX4_savesAside_4 : decode cX4_savesAside 4 = .ok (.iconst 4, 1) := by decide +kernel
theorem dX4_savesAside_5 : decode cX4_savesAside 5 = .ok (.if_icmp .ne 44, 3) := by decide +kernel
theorem dX4_savesAside_8 : decode cX4_savesAside 8 = .ok (.iconst 0, 1) := by decide +kernel
theorem dX4_savesAside_9 : decode cX4_savesAside 9 = .ok (.istore_n 1, 1) := by decide +kernel
theorem dX4_savesAside_10 : decode cX4_savesAside 10 = .ok (.iload_n 1, 1) := by decide +kernel
theorem dX4_savesAside_11 : decode cX4_savesAside 11 = .ok (.sipush 1035, 3) := by decide +kernel
theorem dX4_savesAside_14 : decode cX4_savesAside 14 = .ok (.if_icmp .ge 25, 3) := by decide +kernel
theorem dX4_savesAside_17 : decode cX4_savesAside 17 = .ok (.aload_n 0, 1) := by decide +kernel
theorem dX4_savesAside_18 : decode cX4_savesAside 18 = .ok (.getfield 13, 3) := by decide +kernel
theorem dX4_savesAside_21 : decode cX4_savesAside 21 = .ok (.iload_n 1, 1) := by decide +kernel
theorem dX4_savesAside_22 : decode cX4_savesAside 22 = .ok (.aload_n 0, 1) := by decide +kernel
theorem dX4_savesAside_23 : decode cX4_savesAside 23 = .ok (.getfield 13, 3) := by decide +kernel
theorem dX4_savesAside_26 : decode cX4_savesAside 26 = .ok (.iload_n 1, 1) := by decide +kernel
theorem dX4_savesAside_27 : decode cX4_savesAside 27 = .ok (.sipush 345, 3) := by decide +kernel
theorem dX4_savesAside_30 : decode cX4_savesAside 30 = .ok (.iadd, 1) := by decide +kernel
theorem dX4_savesAside_31 : decode cX4_savesAside 31 = .ok (.iaload, 1) := by decide +kernel
theorem dX4_savesAside_32 : decode cX4_savesAside 32 = .ok (.iastore, 1) := by decide +kernel
theorem dX4_savesAside_33 : decode cX4_savesAside 33 = .ok (.iinc 1 1, 3) := by decide +kernel
theorem dX4_savesAside_36 : decode cX4_savesAside 36 = .ok (.goto (-26), 3) := by decide +kernel
theorem dX4_savesAside_39 : decode cX4_savesAside 39 = .ok (.aload_n 0, 1) := by decide +kernel
theorem dX4_savesAside_40 : decode cX4_savesAside 40 = .ok (.dup, 1) := by decide +kernel
theorem dX4_savesAside_41 : decode cX4_savesAside 41 = .ok (.getfield 35, 3) := by decide +kernel
theorem dX4_savesAside_44 : decode cX4_savesAside 44 = .ok (.iconst 1, 1) := by decide +kernel
theorem dX4_savesAside_45 : decode cX4_savesAside 45 = .ok (.isub, 1) := by decide +kernel
theorem dX4_savesAside_46 : decode cX4_savesAside 46 = .ok (.putfield 35, 3) := by decide +kernel
theorem dX4_savesAside_49 : decode cX4_savesAside 49 = .ok (.iconst 0, 1) := by decide +kernel
theorem dX4_savesAside_50 : decode cX4_savesAside 50 = .ok (.istore_n 1, 1) := by decide +kernel
theorem dX4_savesAside_51 : decode cX4_savesAside 51 = .ok (.iload_n 1, 1) := by decide +kernel
theorem dX4_savesAside_52 : decode cX4_savesAside 52 = .ok (.sipush 345, 3) := by decide +kernel
theorem dX4_savesAside_55 : decode cX4_savesAside 55 = .ok (.if_icmp .ge 30, 3) := by decide +kernel
theorem dX4_savesAside_58 : decode cX4_savesAside 58 = .ok (.aload_n 0, 1) := by decide +kernel
theorem dX4_savesAside_59 : decode cX4_savesAside 59 = .ok (.getfield 13, 3) := by decide +kernel
theorem dX4_savesAside_62 : decode cX4_savesAside 62 = .ok (.sipush 345, 3) := by decide +kernel
theorem dX4_savesAside_65 : decode cX4_savesAside 65 = .ok (.aload_n 0, 1) := by decide +kernel
theorem dX4_savesAside_66 : decode cX4_savesAside 66 = .ok (.getfield 35, 3) := by decide +kernel
theorem dX4_savesAside_69 : decode cX4_savesAside 69 = .ok (.imul, 1) := by decide +kernel
theorem dX4_savesAside_70 : decode cX4_savesAside 70 = .ok (.iload_n 1, 1) := by decide +kernel
theorem dX4_savesAside_71 : decode cX4_savesAside 71 = .ok (.iadd, 1) := by decide +kernel
theorem dX4_savesAside_72 : decode cX4_savesAside 72 = .ok (.aload_n 0, 1) := by decide +kernel
theorem dX4_savesAside_73 : decode cX4_savesAside 73 = .ok (.getfield 16, 3) := by decide +kernel
theorem dX4_savesAside_76 : decode cX4_savesAside 76 = .ok (.iload_n 1, 1) := by decide +kernel
theorem dX4_savesAside_77 : decode cX4_savesAside 77 = .ok (.iaload, 1) := by decide +kernel
theorem dX4_savesAside_78 : decode cX4_savesAside 78 = .ok (.iastore, 1) := by decide +kernel
theorem dX4_savesAside_79 : decode cX4_savesAside 79 = .ok (.iinc 1 1, 3) := by decide +kernel
theorem dX4_savesAside_82 : decode cX4_savesAside 82 = .ok (.goto (-31), 3) := by decide +kernel
theorem dX4_savesAside_85 : decode cX4_savesAside 85 = .ok (.aload_n 0, 1) := by decide +kernel
theorem dX4_savesAside_86 : decode cX4_savesAside 86 = .ok (.dup, 1) := by decide +kernel
theorem dX4_savesAside_87 : decode cX4_savesAside 87 = .ok (.getfield 35, 3) := by decide +kernel
theorem dX4_savesAside_90 : decode cX4_savesAside 90 = .ok (.iconst 1, 1) := by decide +kernel
theorem dX4_savesAside_91 : decode cX4_savesAside 91 = .ok (.iadd, 1) := by decide +kernel
theorem dX4_savesAside_92 : decode cX4_savesAside 92 = .ok (.putfield 35, 3) := by decide +kernel
theorem dX4_savesAside_95 : decode cX4_savesAside 95 = .ok (.return_, 1) := by decide +kernel
set_option maxRecDepth 20000 in
theorem ggX4_isClient_X4_in : GoodIn wsX4_isClient wsX4_in := goodIn_r _ [5] (by decide +kernel) (by decide +kernel)
set_option maxRecDepth 20000 in
theorem gX4_isClient_X4_in : GoodIn wsX4_isClient (va_wsS RX4 41 yX4_in wsX4_in) := goodIn_app (goodIn_of _ (by decide +kernel)) ggX4_isClient_X4_in
theorem dX4_isClient_0 : decode cX4_isClient 0 = .ok (.iload_n 0, 1) := by decide +kernel
theorem dX4_isClient_1 : decode cX4_isClient 1 = .ok (.i2l, 1) := by decide +kernel
theorem dX4_isClient_2 : decode cX4_isClient 2 = .ok (.lconst 0, 1) := by decide +kernel
theorem dX4_isClient_3 : decode cX4_isClient 3 = .ok (.ldc2_w 39, 3) := by decide +kernel
theorem dX4_isClient_6 : decode cX4_isClient 6 = .ok (.invokestatic 41, 3) := by decide +kernel
theorem dX4_isClient_9 : decode cX4_isClient 9 = .ok (.ireturn, 1) := by decide +kernel
set_option maxRecDepth 20000 in
theorem ggX4_isReplica_X4_in : GoodIn wsX4_isReplica wsX4_in := goodIn_r _ [5] (by decide +kernel) (by decide +kernel)
set_option maxRecDepth 20000 in
theorem gX4_isReplica_X4_in : GoodIn wsX4_isReplica (va_wsS RX4 41 yX4_in wsX4_in) := goodIn_app (goodIn_of _ (by decide +kernel)) ggX4_isReplica_X4_in
theorem dX4_isReplica_0 : decode cX4_isReplica 0 = .ok (.iload_n 0, 1) := by decide +kernel
theorem dX4_isReplica_1 : decode cX4_isReplica 1 = .ok (.i2l, 1) := by decide +kernel
theorem dX4_isReplica_2 : decode cX4_isReplica 2 = .ok (.lconst 0, 1) := by decide +kernel
theorem dX4_isReplica_3 : decode cX4_isReplica 3 = .ok (.ldc2_w 45, 3) := by decide +kernel
theorem dX4_isReplica_6 : decode cX4_isReplica 6 = .ok (.invokestatic 41, 3) := by decide +kernel
theorem dX4_isReplica_9 : decode cX4_isReplica 9 = .ok (.ireturn, 1) := by decide +kernel
set_option maxRecDepth 20000 in
theorem ggX4_isKey_X4_in : GoodIn wsX4_isKey wsX4_in := goodIn_r _ [5] (by decide +kernel) (by decide +kernel)
set_option maxRecDepth 20000 in
theorem gX4_isKey_X4_in : GoodIn wsX4_isKey (va_wsS RX4 41 yX4_in wsX4_in) := goodIn_app (goodIn_of _ (by decide +kernel)) ggX4_isKey_X4_in
theorem dX4_isKey_0 : decode cX4_isKey 0 = .ok (.iload_n 0, 1) := by decide +kernel
theorem dX4_isKey_1 : decode cX4_isKey 1 = .ok (.i2l, 1) := by decide +kernel
theorem dX4_isKey_2 : decode cX4_isKey 2 = .ok (.lconst 0, 1) := by decide +kernel
theorem dX4_isKey_3 : decode cX4_isKey 3 = .ok (.ldc2_w 39, 3) := by decide +kernel
theorem dX4_isKey_6 : decode cX4_isKey 6 = .ok (.invokestatic 41, 3) := by decide +kernel
theorem dX4_isKey_9 : decode cX4_isKey 9 = .ok (.ireturn, 1) := by decide +kernel
theorem dX4_guarantees_0 : decode cX4_guarantees 0 = .ok (.aload_n 0, 1) := by decide +kernel
theorem dX4_guarantees_1 : decode cX4_guarantees 1 = .ok (.getfield 7, 3) := by decide +kernel
theorem dX4_guarantees_4 : decode cX4_guarantees 4 = .ok (.sipush 313, 3) := by decide +kernel
theorem dX4_guarantees_7 : decode cX4_guarantees 7 = .ok (.bipush 7, 2) := by decide +kernel
theorem dX4_guarantees_9 : decode cX4_guarantees 9 = .ok (.iload_n 1, 1) := by decide +kernel
theorem dX4_guarantees_10 : decode cX4_guarantees 10 = .ok (.imul, 1) := by decide +kernel
theorem dX4_guarantees_11 : decode cX4_guarantees 11 = .ok (.iadd, 1) := by decide +kernel
theorem dX4_guarantees_12 : decode cX4_guarantees 12 = .ok (.iaload, 1) := by decide +kernel
theorem dX4_guarantees_13 : decode cX4_guarantees 13 = .ok (.ireturn, 1) := by decide +kernel
set_option maxRecDepth 20000 in
theorem ggX4_doesSet_X4_isClient : GoodIn wsX4_doesSet wsX4_isClient := goodIn_r _ [6, 7, 8, 9, 5, 10] (by decide +kernel) (by decide +kernel)
set_option maxRecDepth 20000 in
theorem gX4_doesSet_X4_isClient : GoodIn wsX4_doesSet (va_wsS RX4 47 yX4_isClient wsX4_isClient) := goodIn_app (goodIn_of _ (by decide +kernel)) ggX4_doesSet_X4_isClient
set_option maxRecDepth 20000 in
theorem ggX4_doesSet_X4_in : GoodIn wsX4_doesSet wsX4_in := goodIn_r _ [10] (by decide +kernel) (by decide +kernel)
set_option maxRecDepth 20000 in
theorem gX4_doesSet_X4_in : GoodIn wsX4_doesSet (va_wsS RX4 41 yX4_in wsX4_in) := goodIn_app (goodIn_of _ (by decide +kernel)) ggX4_doesSet_X4_in
set_option maxRecDepth 20000 in
theorem ggX4_doesSet_X4_guarantees : GoodIn wsX4_doesSet wsX4_guarantees := goodIn_r _ [14, 2, 15, 16, 17, 18, 19, 20, 21, 22, 23, 24] (by decide +kernel) (by decide +kernel)
set_option maxRecDepth 20000 in
theorem gX4_doesSet_X4_guarantees : GoodIn wsX4_doesSet (wsV RX4 53 RX4 yX4_guarantees wsX4_guarantees) := goodIn_app (goodIn_of _ (by decide +kernel)) ggX4_doesSet_X4_guarantees
theorem dX4_doesSet_0 : decode cX4_doesSet 0 = .ok (.iload_n 1, 1) := by decide +kernel
theorem dX4_doesSet_1 : decode cX4_doesSet 1 = .ok (.invokestatic 47, 3) := by decide +kernel
theorem dX4_doesSet_4 : decode cX4_doesSet 4 = .ok (.ifCond .eq 15, 3) := by decide +kernel
theorem dX4_doesSet_7 : decode cX4_doesSet 7 = .ok (.iload_n 2, 1) := by decide +kernel
theorem dX4_doesSet_8 : decode cX4_doesSet 8 = .ok (.i2l, 1) := by decide +kernel
theorem dX4_doesSet_9 : decode cX4_doesSet 9 = .ok (.lconst 0, 1) := by decide +kernel
theorem dX4_doesSet_10 : decode cX4_doesSet 10 = .ok (.ldc2_w 51, 3) := by decide +kernel
theorem dX4_doesSet_13 : decode cX4_doesSet 13 = .ok (.invokestatic 41, 3) := by decide +kernel
theorem dX4_doesSet_16 : decode cX4_doesSet 16 = .ok (.ifCond .ne 6, 3) := by decide +kernel
theorem dX4_doesSet_19 : decode cX4_doesSet 19 = .ok (.bipush (-2), 2) := by decide +kernel
theorem dX4_doesSet_21 : decode cX4_doesSet 21 = .ok (.ireturn, 1) := by decide +kernel
theorem dX4_doesSet_22 : decode cX4_doesSet 22 = .ok (.aload_n 0, 1) := by decide +kernel
theorem dX4_doesSet_23 : decode cX4_doesSet 23 = .ok (.iload_n 1, 1) := by decide +kernel
theorem dX4_doesSet_24 : decode cX4_doesSet 24 = .ok (.invokevirtual 53, 3) := by decide +kernel
theorem dX4_doesSet_27 : decode cX4_doesSet 27 = .ok (.istore_n 3, 1) := by decide +kernel
theorem dX4_doesSet_28 : decode cX4_doesSet 28 = .ok (.aload_n 0, 1) := by decide +kernel
theorem dX4_doesSet_29 : decode cX4_doesSet 29 = .ok (.getfield 7, 3) := by decide +kernel
theorem dX4_doesSet_32 : decode cX4_doesSet 32 = .ok (.sipush 313, 3) := by decide +kernel
theorem dX4_doesSet_35 : decode cX4_doesSet 35 = .ok (.bipush 7, 2) := by decide +kernel
theorem dX4_doesSet_37 : decode cX4_doesSet 37 = .ok (.iload_n 1, 1) := by decide +kernel
theorem dX4_doesSet_38 : decode cX4_doesSet 38 = .ok (.imul, 1) := by decide +kernel
theorem dX4_doesSet_39 : decode cX4_doesSet 39 = .ok (.iadd, 1) := by decide +kernel
theorem dX4_doesSet_40 : decode cX4_doesSet 40 = .ok (.iload_n 2, 1) := by decide +kernel
theorem dX4_doesSet_41 : decode cX4_doesSet 41 = .ok (.iastore, 1) := by decide +kernel
theorem dX4_doesSet_42 : decode cX4_doesSet 42 = .ok (.iload_n 3, 1) := by decide +kernel
theorem dX4_doesSet_43 : decode cX4_doesSet 43 = .ok (.ireturn, 1) := by decide +kernel
set_option maxRecDepth 20000 in
theorem ggX4_setGuarantees_X4_putsAside : GoodIn wsX4_setGuarantees wsX4_putsAside := goodIn_r _ [5, 6, 7, 39, 40, 41, 42, 43, 44, 45, 46, 47, 48] (by decide +kernel) (by decide +kernel)
set_option maxRecDepth 20000 in
theorem gX4_setGuarantees_X4_putsAside : GoodIn wsX4_setGuarantees (wsV RX4 56 RX4 yX4_putsAside wsX4_putsAside) := goodIn_app (goodIn_of _ (by decide +kernel)) ggX4_setGuarantees_X4_putsAside
set_option maxRecDepth 20000 in
theorem ggX4_setGuarantees_X4_doesSet : GoodIn wsX4_setGuarantees wsX4_doesSet := goodIn_r _ [11, 12, 7, 13, 14, 4, 15, 16, 17, 18, 19, 20, 21, 22, 23, 39, 40, 41, 42, 43, 44, 45, 46, 47, 48] (by decide +kernel) (by decide +kernel)
set_option maxRecDepth 20000 in
theorem gX4_setGuarantees_X4_doesSet : GoodIn wsX4_setGuarantees (wsV RX4 59 RX4 yX4_doesSet wsX4_doesSet) := goodIn_app (goodIn_of _ (by decide +kernel)) ggX4_setGuarantees_X4_doesSet
set_option maxRecDepth 20000 in
theorem ggX4_setGuarantees_X4_answered : GoodIn wsX4_setGuarantees wsX4_answered := goodIn_r _ [27, 28, 29, 30, 4, 31, 32, 33, 34, 35, 36, 37, 38, 6, 39, 40, 41, 42, 43, 44, 45, 46, 47, 48] (by decide +kernel) (by decide +kernel)
set_option maxRecDepth 20000 in
theorem gX4_setGuarantees_X4_answered : GoodIn wsX4_setGuarantees (wsV RX4 63 RX4 yX4_answered wsX4_answered) := goodIn_app (goodIn_of _ (by decide +kernel)) ggX4_setGuarantees_X4_answered
theorem dX4_setGuarantees_0 : decode cX4_setGuarantees 0 = .ok (.aload_n 0, 1) := by decide +kernel
theorem dX4_setGuarantees_1 : decode cX4_setGuarantees 1 = .ok (.invokevirtual 56, 3) := by decide +kernel
theorem dX4_setGuarantees_4 : decode cX4_setGuarantees 4 = .ok (.aload_n 0, 1) := by decide +kernel
theorem dX4_setGuarantees_5 : decode cX4_setGuarantees 5 = .ok (.aload_n 0, 1) := by decide +kernel
theorem dX4_setGuarantees_6 : decode cX4_setGuarantees 6 = .ok (.iload_n 1, 1) := by decide +kernel
theorem dX4_setGuarantees_7 : decode cX4_setGuarantees 7 = .ok (.iload_n 2, 1) := by decide +kernel
theorem dX4_setGuarantees_8 : decode cX4_setGuarantees 8 = .ok (.invokevirtual 59, 3) := by decide +kernel
theorem dX4_setGuarantees_11 : decode cX4_setGuarantees 11 = .ok (.invokevirtual 63, 3) := by decide +kernel
theorem dX4_setGuarantees_14 : decode cX4_setGuarantees 14 = .ok (.ireturn, 1) := by decide +kernel
set_option maxRecDepth 20000 in
theorem ggX4_doesForget_X4_isClient : GoodIn wsX4_doesForget wsX4_isClient := goodIn_r _ [5, 6, 7, 8, 4, 9] (by decide +kernel) (by decide +kernel)
set_option maxRecDepth 20000 in
theorem gX4_doesForget_X4_isClient : GoodIn wsX4_doesForget (va_wsS RX4 47 yX4_isClient wsX4_isClient) := goodIn_app (goodIn_of _ (by decide +kernel)) ggX4_doesForget_X4_isClient
theorem dX4_doesForget_0 : decode cX4_doesForget 0 = .ok (.iload_n 1, 1) := by decide +kernel
theorem dX4_doesForget_1 : decode cX4_doesForget 1 = .ok (.invokestatic 47, 3) := by decide +kernel
theorem dX4_doesForget_4 : decode cX4_doesForget 4 = .ok (.ifCond .ne 6, 3) := by decide +kernel
theorem dX4_doesForget_7 : decode cX4_doesForget 7 = .ok (.bipush (-2), 2) := by decide +kernel
theorem dX4_doesForget_9 : decode cX4_doesForget 9 = .ok (.ireturn, 1) := by decide +kernel
theorem dX4_doesForget_10 : decode cX4_doesForget 10 = .ok (.iconst 0, 1) := by decide +kernel
theorem dX4_doesForget_11 : decode cX4_doesForget 11 = .ok (.istore_n 2, 1) := by decide +kernel
theorem dX4_doesForget_12 : decode cX4_doesForget 12 = .ok (.iconst 1, 1) := by decide +kernel
theorem dX4_doesForget_13 : decode cX4_doesForget 13 = .ok (.istore_n 3, 1) := by decide +kernel
theorem dX4_doesForget_14 : decode cX4_doesForget 14 = .ok (.iload_n 3, 1) := by decide +kernel
theorem dX4_doesForget_15 : decode cX4_doesForget 15 = .ok (.bipush 7, 2) := by decide +kernel
theorem dX4_doesForget_17 : decode cX4_doesForget 17 = .ok (.if_icmp .ge 43, 3) := by decide +kernel
theorem dX4_doesForget_20 : decode cX4_doesForget 20 = .ok (.iload_n 2, 1) := by decide +kernel
theorem dX4_doesForget_21 : decode cX4_doesForget 21 = .ok (.aload_n 0, 1) := by decide +kernel
theorem dX4_doesForget_22 : decode cX4_doesForget 22 = .ok (.getfield 7, 3) := by decide +kernel
theorem dX4_doesForget_25 : decode cX4_doesForget 25 = .ok (.sipush 313, 3) := by decide +kernel
theorem dX4_doesForget_28 : decode cX4_doesForget 28 = .ok (.bipush 7, 2) := by decide +kernel
theorem dX4_doesForget_30 : decode cX4_doesForget 30 = .ok (.iload_n 1, 1) := by decide +kernel
theorem dX4_doesForget_31 : decode cX4_doesForget 31 = .ok (.imul, 1) := by decide +kernel
theorem dX4_doesForget_32 : decode cX4_doesForget 32 = .ok (.iadd, 1) := by decide +kernel
theorem dX4_doesForget_33 : decode cX4_doesForget 33 = .ok (.iload_n 3, 1) := by decide +kernel
theorem dX4_doesForget_34 : decode cX4_doesForget 34 = .ok (.iadd, 1) := by decide +kernel
theorem dX4_doesForget_35 : decode cX4_doesForget 35 = .ok (.iaload, 1) := by decide +kernel
theorem dX4_doesForget_36 : decode cX4_doesForget 36 = .ok (.iadd, 1) := by decide +kernel
theorem dX4_doesForget_37 : decode cX4_doesForget 37 = .ok (.istore_n 2, 1) := by decide +kernel
theorem dX4_doesForget_38 : decode cX4_doesForget 38 = .ok (.aload_n 0, 1) := by decide +kernel
theorem dX4_doesForget_39 : decode cX4_doesForget 39 = .ok (.getfield 7, 3) := by decide +kernel
theorem dX4_doesForget_42 : decode cX4_doesForget 42 = .ok (.sipush 313, 3) := by decide +kernel
theorem dX4_doesForget_45 : decode cX4_doesForget 45 = .ok (.bipush 7, 2) := by decide +kernel
theorem dX4_doesForget_47 : decode cX4_doesForget 47 = .ok (.iload_n 1, 1) := by decide +kernel
theorem dX4_doesForget_48 : decode cX4_doesForget 48 = .ok (.imul, 1) := by decide +kernel
theorem dX4_doesForget_49 : decode cX4_doesForget 49 = .ok (.iadd, 1) := by decide +kernel
theorem dX4_doesForget_50 : decode cX4_doesForget 50 = .ok (.iload_n 3, 1) := by decide +kernel
theorem dX4_doesForget_51 : decode cX4_doesForget 51 = .ok (.iadd, 1) := by decide +kernel
theorem dX4_doesForget_52 : decode cX4_doesForget 52 = .ok (.iconst 0, 1) := by decide +kernel
theorem dX4_doesForget_53 : decode cX4_doesForget 53 = .ok (.iastore, 1) := by decide +kernel
theorem dX4_doesForget_54 : decode cX4_doesForget 54 = .ok (.iinc 3 1, 3) := by decide +kernel
theorem dX4_doesForget_57 : decode cX4_doesForget 57 = .ok (.goto (-43), 3) := by decide +kernel
theorem dX4_doesForget_60 : decode cX4_doesForget 60 = .ok (.iload_n 2, 1) := by decide +kernel
theorem dX4_doesForget_61 : decode cX4_doesForget 61 = .ok (.ireturn, 1) := by decide +kernel
set_option maxRecDepth 20000 in
theorem ggX4_forget_X4_putsAside : GoodIn wsX4_forget wsX4_putsAside := goodIn_r _ [5, 6, 7, 34, 35, 36, 37, 38, 39, 40, 41, 42, 43] (by decide +kernel) (by decide +kernel)
set_option maxRecDepth 20000 in
theorem gX4_forget_X4_putsAside : GoodIn wsX4_forget (wsV RX4 56 RX4 yX4_putsAside wsX4_putsAside) := goodIn_app (goodIn_of _ (by decide +kernel)) ggX4_forget_X4_putsAside
set_option maxRecDepth 20000 in
theorem ggX4_forget_X4_doesForget : GoodIn wsX4_forget wsX4_doesForget := goodIn_r _ [11, 7, 12, 13, 4, 14, 15, 16, 17, 18, 34, 35, 36, 37, 38, 39, 40, 41, 42, 43] (by decide +kernel) (by decide +kernel)
set_option maxRecDepth 20000 in
theorem gX4_forget_X4_doesForget : GoodIn wsX4_forget (wsV RX4 66 RX4 yX4_doesForget wsX4_doesForget) := goodIn_app (goodIn_of _ (by decide +kernel)) ggX4_forget_X4_doesForget
set_option maxRecDepth 20000 in
theorem ggX4_forget_X4_answered : GoodIn wsX4_forget wsX4_answered := goodIn_r _ [22, 23, 24, 25, 4, 26, 27, 28, 29, 30, 31, 32, 33, 6, 34, 35, 36, 37, 38, 39, 40, 41, 42, 43] (by decide +kernel) (by decide +kernel)
set_option maxRecDepth 20000 in
theorem gX4_forget_X4_answered : GoodIn wsX4_forget (wsV RX4 63 RX4 yX4_answered wsX4_answered) := goodIn_app (goodIn_of _ (by decide +kernel)) ggX4_forget_X4_answered
theorem dX4_forget_0 : decode cX4_forget 0 = .ok (.aload_n 0, 1) := by decide +kernel
theorem dX4_forget_1 : decode cX4_forget 1 = .ok (.invokevirtual 56, 3) := by decide +kernel
theorem dX4_forget_4 : decode cX4_forget 4 = .ok (.aload_n 0, 1) := by decide +kernel
theorem dX4_forget_5 : decode cX4_forget 5 = .ok (.aload_n 0, 1) := by decide +kernel
theorem dX4_forget_6 : decode cX4_forget 6 = .ok (.iload_n 1, 1) := by decide +kernel
theorem dX4_forget_7 : decode cX4_forget 7 = .ok (.invokevirtual 66, 3) := by decide +kernel
theorem dX4_forget_10 : decode cX4_forget 10 = .ok (.invokevirtual 63, 3) := by decide +kernel
theorem dX4_forget_13 : decode cX4_forget 13 = .ok (.ireturn, 1) := by decide +kernel
set_option maxRecDepth 20000 in
theorem ggX4_readCount_X4_isClient : GoodIn wsX4_readCount wsX4_isClient := goodIn_r _ [5, 6, 7, 8, 4, 9] (by decide +kernel) (by decide +kernel)
set_option maxRecDepth 20000 in
theorem gX4_readCount_X4_isClient : GoodIn wsX4_readCount (va_wsS RX4 47 yX4_isClient wsX4_isClient) := goodIn_app (goodIn_of _ (by decide +kernel)) ggX4_readCount_X4_isClient
set_option maxRecDepth 20000 in
theorem ggX4_readCount_X4_isReplica : GoodIn wsX4_readCount wsX4_isReplica := goodIn_r _ [12, 13, 7, 8, 4, 9] (by decide +kernel) (by decide +kernel)
set_option maxRecDepth 20000 in
theorem gX4_readCount_X4_isReplica : GoodIn wsX4_readCount (va_wsS RX4 69 yX4_isReplica wsX4_isReplica) := goodIn_app (goodIn_of _ (by decide +kernel)) ggX4_readCount_X4_isReplica
set_option maxRecDepth 20000 in
theorem ggX4_readCount_X4_error : GoodIn wsX4_readCount wsX4_error := goodIn_r _ [17, 18, 19, 20, 21, 22, 23, 24, 25, 26, 27, 28] (by decide +kernel) (by decide +kernel)
set_option maxRecDepth 20000 in
theorem gX4_readCount_X4_error : GoodIn wsX4_readCount (wsV RX4 28 RX4 yX4_error wsX4_error) := goodIn_app (goodIn_of _ (by decide +kernel)) ggX4_readCount_X4_error
theorem dX4_readCount_0 : decode cX4_readCount 0 = .ok (.iload_n 1, 1) := by decide +kernel
theorem dX4_readCount_1 : decode cX4_readCount 1 = .ok (.invokestatic 47, 3) := by decide +kernel
theorem dX4_readCount_4 : decode cX4_readCount 4 = .ok (.ifCond .eq 30, 3) := by decide +kernel
theorem dX4_readCount_7 : decode cX4_readCount 7 = .ok (.iload_n 2, 1) := by decide +kernel
theorem dX4_readCount_8 : decode cX4_readCount 8 = .ok (.invokestatic 69, 3) := by decide +kernel
theorem dX4_readCount_11 : decode cX4_readCount 11 = .ok (.ifCond .eq 23, 3) := by decide +kernel
theorem dX4_readCount_14 : decode cX4_readCount 14 = .ok (.aload_n 0, 1) := by decide +kernel
theorem dX4_readCount_15 : decode cX4_readCount 15 = .ok (.getfield 7, 3) := by decide +kernel
theorem dX4_readCount_18 : decode cX4_readCount 18 = .ok (.sipush 313, 3) := by decide +kernel
theorem dX4_readCount_21 : decode cX4_readCount 21 = .ok (.bipush 7, 2) := by decide +kernel
theorem dX4_readCount_23 : decode cX4_readCount 23 = .ok (.iload_n 1, 1) := by decide +kernel
theorem dX4_readCount_24 : decode cX4_readCount 24 = .ok (.imul, 1) := by decide +kernel
theorem dX4_readCount_25 : decode cX4_readCount 25 = .ok (.iadd, 1) := by decide +kernel
theorem dX4_readCount_26 : decode cX4_readCount 26 = .ok (.iconst 1, 1) := by decide +kernel
theorem dX4_readCount_27 : decode cX4_readCount 27 = .ok (.iadd, 1) := by decide +kernel
theorem dX4_readCount_28 : decode cX4_readCount 28 = .ok (.iload_n 2, 1) := by decide +kernel
theorem dX4_readCount_29 : decode cX4_readCount 29 = .ok (.iadd, 1) := by decide +kernel
theorem dX4_readCount_30 : decode cX4_readCount 30 = .ok (.iaload, 1) := by decide +kernel
theorem dX4_readCount_31 : decode cX4_readCount 31 = .ok (.goto 9, 3) := by decide +kernel
theorem dX4_readCount_34 : decode cX4_readCount 34 = .ok (.aload_n 0, 1) := by decide +kernel
theorem dX4_readCount_35 : decode cX4_readCount 35 = .ok (.bipush (-2), 2) := by decide +kernel
theorem dX4_readCount_37 : decode cX4_readCount 37 = .ok (.invokevirtual 28, 3) := by decide +kernel
theorem dX4_readCount_40 : decode cX4_readCount 40 = .ok (.ireturn, 1) := by decide +kernel
set_option maxRecDepth 20000 in
theorem ggX4_writeCount_X4_isClient : GoodIn wsX4_writeCount wsX4_isClient := goodIn_r _ [5, 6, 7, 8, 4, 9] (by decide +kernel) (by decide +kernel)
set_option maxRecDepth 20000 in
theorem gX4_writeCount_X4_isClient : GoodIn wsX4_writeCount (va_wsS RX4 47 yX4_isClient wsX4_isClient) := goodIn_app (goodIn_of _ (by decide +kernel)) ggX4_writeCount_X4_isClient
set_option maxRecDepth 20000 in
theorem ggX4_writeCount_X4_isReplica : GoodIn wsX4_writeCount wsX4_isReplica := goodIn_r _ [12, 13, 7, 8, 4, 9] (by decide +kernel) (by decide +kernel)
set_option maxRecDepth 20000 in
theorem gX4_writeCount_X4_isReplica : GoodIn wsX4_writeCount (va_wsS RX4 69 yX4_isReplica wsX4_isReplica) := goodIn_app (goodIn_of _ (by decide +kernel)) ggX4_writeCount_X4_isReplica
set_option maxRecDepth 20000 in
theorem ggX4_writeCount_X4_error : GoodIn wsX4_writeCount wsX4_error := goodIn_r _ [17, 18, 19, 20, 21, 22, 23, 24, 25, 26, 27, 28] (by decide +kernel) (by decide +kernel)
end
section
set_option maxRecDepth 20000 in
theorem gX4_writeCount_X4_error : GoodIn wsX4_writeCount (wsV RX4 28 RX4 yX4_error wsX4_error) := goodIn_app (goodIn_of _ (by decide +kernel)) ggX4_writeCount_X4_error
theorem dX4_writeCount_0 : decode cX4_writeCount 0 = .ok (.iload_n 1, 1) := by decide +kernel
theorem dX4_writeCount_1 : decode cX4_writeCount 1 = .ok (.invokestatic 47, 3) := by decide +kernel
theorem dX4_writeCount_4 : decode cX4_writeCount 4 = .ok (.ifCond .eq 30, 3) := by decide +kernel
theorem dX4_writeCount_7 : decode cX4_writeCount 7 = .ok (.iload_n 2, 1) := by decide +kernel
theorem dX4_writeCount_8 : decode cX4_writeCount 8 = .ok (.invokestatic 69, 3) := by decide +kernel
theorem dX4_writeCount_11 : decode cX4_writeCount 11 = .ok (.ifCond .eq 23, 3) := by decide +kernel
theorem dX4_writeCount_14 : decode cX4_writeCount 14 = .ok (.aload_n 0, 1) := by decide +kernel
theorem dX4_writeCount_15 : decode cX4_writeCount 15 = .ok (.getfield 7, 3) := by decide +kernel
theorem dX4_writeCount_18 : decode cX4_writeCount 18 = .ok (.sipush 313, 3) := by decide +kernel
theorem dX4_writeCount_21 : decode cX4_writeCount 21 = .ok (.bipush 7, 2) := by decide +kernel
theorem dX4_writeCount_23 : decode cX4_writeCount 23 = .ok (.iload_n 1, 1) := by decide +kernel
theorem dX4_writeCount_24 : decode cX4_writeCount 24 = .ok (.imul, 1) := by decide +kernel
theorem dX4_writeCount_25 : decode cX4_writeCount 25 = .ok (.iadd, 1) := by decide +kernel
theorem dX4_writeCount_26 : decode cX4_writeCount 26 = .ok (.iconst 4, 1) := by decide +kernel
theorem dX4_writeCount_27 : decode cX4_writeCount 27 = .ok (.iadd, 1) := by decide +kernel
theorem dX4_writeCount_28 : decode cX4_writeCount 28 = .ok (.iload_n 2, 1) := by decide +kernel
theorem dX4_writeCount_29 : decode cX4_writeCount 29 = .ok (.iadd, 1) := by decide +kernel
theorem dX4_writeCount_30 : decode cX4_writeCount 30 = .ok (.iaload, 1) := by decide +kernel
theorem dX4_writeCount_31 : decode cX4_writeCount 31 = .ok (.goto 9, 3) := by decide +kernel
theorem dX4_writeCount_34 : decode cX4_writeCount 34 = .ok (.aload_n 0, 1) := by decide +kernel
theorem dX4_writeCount_35 : decode cX4_writeCount 35 = .ok (.bipush (-2), 2) := by decide +kernel
theorem dX4_writeCount_37 : decode cX4_writeCount 37 = .ok (.invokevirtual 28, 3) := by decide +kernel
theorem dX4_writeCount_40 : decode cX4_writeCount 40 = .ok (.ireturn, 1) := by decide +kernel
theorem dX4_covers_0 : decode cX4_covers 0 = .ok (.iconst 1, 1) := by decide +kernel
theorem dX4_covers_1 : decode cX4_covers 1 = .ok (.istore_n 3, 1) := by decide +kernel
theorem dX4_covers_2 : decode cX4_covers 2 = .ok (.iconst 0, 1) := by decide +kernel
theorem dX4_covers_3 : decode cX4_covers 3 = .ok (.istore 4, 2) := by decide +kernel
theorem dX4_covers_5 : decode cX4_covers 5 = .ok (.iload 4, 2) := by decide +kernel
theorem dX4_covers_7 : decode cX4_covers 7 = .ok (.iconst 3, 1) := by decide +kernel
theorem dX4_covers_8 : decode cX4_covers 8 = .ok (.if_icmp .ge 40, 3) := by decide +kernel
theorem dX4_covers_11 : decode cX4_covers 11 = .ok (.iload_n 3, 1) := by decide +kernel
theorem dX4_covers_12 : decode cX4_covers 12 = .ok (.ifCond .eq 28, 3) := by decide +kernel
theorem dX4_covers_15 : decode cX4_covers 15 = .ok (.aload_n 0, 1) := by decide +kernel
theorem dX4_covers_16 : decode cX4_covers 16 = .ok (.getfield 7, 3) := by decide +kernel
theorem dX4_covers_19 : decode cX4_covers 19 = .ok (.iload_n 2, 1) := by decide +kernel
theorem dX4_covers_20 : decode cX4_covers 20 = .ok (.iload 4, 2) := by decide +kernel
theorem dX4_covers_22 : decode cX4_covers 22 = .ok (.iadd, 1) := by decide +kernel
theorem dX4_covers_23 : decode cX4_covers 23 = .ok (.iaload, 1) := by decide +kernel
theorem dX4_covers_24 : decode cX4_covers 24 = .ok (.aload_n 0, 1) := by decide +kernel
theorem dX4_covers_25 : decode cX4_covers 25 = .ok (.getfield 7, 3) := by decide +kernel
theorem dX4_covers_28 : decode cX4_covers 28 = .ok (.iload_n 1, 1) := by decide +kernel
theorem dX4_covers_29 : decode cX4_covers 29 = .ok (.iload 4, 2) := by decide +kernel
theorem dX4_covers_31 : decode cX4_covers 31 = .ok (.iadd, 1) := by decide +kernel
theorem dX4_covers_32 : decode cX4_covers 32 = .ok (.iaload, 1) := by decide +kernel
theorem dX4_covers_33 : decode cX4_covers 33 = .ok (.if_icmp .gt 7, 3) := by decide +kernel
theorem dX4_covers_36 : decode cX4_covers 36 = .ok (.iconst 1, 1) := by decide +kernel
theorem dX4_covers_37 : decode cX4_covers 37 = .ok (.goto 4, 3) := by decide +kernel
theorem dX4_covers_40 : decode cX4_covers 40 = .ok (.iconst 0, 1) := by decide +kernel
theorem dX4_covers_41 : decode cX4_covers 41 = .ok (.istore_n 3, 1) := by decide +kernel
theorem dX4_covers_42 : decode cX4_covers 42 = .ok (.iinc 4 1, 3) := by decide +kernel
theorem dX4_covers_45 : decode cX4_covers 45 = .ok (.goto (-40), 3) := by decide +kernel
theorem dX4_covers_48 : decode cX4_covers 48 = .ok (.iload_n 3, 1) := by decide +kernel
theorem dX4_covers_49 : decode cX4_covers 49 = .ok (.ireturn, 1) := by decide +kernel
set_option maxRecDepth 20000 in
theorem ggX4_breachesOfRead_X4_covers : GoodIn wsX4_breachesOfRead wsX4_covers := goodIn_r _ [5, 6, 7, 8, 9, 10, 11, 12, 13, 14, 15, 16] (by decide +kernel) (by decide +kernel)
set_option maxRecDepth 20000 in
theorem gX4_breachesOfRead_X4_covers : GoodIn wsX4_breachesOfRead (wsV RX4 72 RX4 yX4_covers wsX4_covers) := goodIn_app (goodIn_of _ (by decide +kernel)) ggX4_breachesOfRead_X4_covers
theorem dX4_breachesOfRead_0 : decode cX4_breachesOfRead 0 = .ok (.sipush 313, 3) := by decide +kernel
theorem dX4_breachesOfRead_3 : decode cX4_breachesOfRead 3 = .ok (.bipush 7, 2) := by decide +kernel
theorem dX4_breachesOfRead_5 : decode cX4_breachesOfRead 5 = .ok (.iload_n 1, 1) := by decide +kernel
theorem dX4_breachesOfRead_6 : decode cX4_breachesOfRead 6 = .ok (.imul, 1) := by decide +kernel
theorem dX4_breachesOfRead_7 : decode cX4_breachesOfRead 7 = .ok (.iadd, 1) := by decide +kernel
theorem dX4_breachesOfRead_8 : decode cX4_breachesOfRead 8 = .ok (.istore_n 3, 1) := by decide +kernel
theorem dX4_breachesOfRead_9 : decode cX4_breachesOfRead 9 = .ok (.aload_n 0, 1) := by decide +kernel
theorem dX4_breachesOfRead_10 : decode cX4_breachesOfRead 10 = .ok (.iconst 3, 1) := by decide +kernel
theorem dX4_breachesOfRead_11 : decode cX4_breachesOfRead 11 = .ok (.iload_n 2, 1) := by decide +kernel
theorem dX4_breachesOfRead_12 : decode cX4_breachesOfRead 12 = .ok (.imul, 1) := by decide +kernel
theorem dX4_breachesOfRead_13 : decode cX4_breachesOfRead 13 = .ok (.iload_n 3, 1) := by decide +kernel
theorem dX4_breachesOfRead_14 : decode cX4_breachesOfRead 14 = .ok (.iconst 4, 1) := by decide +kernel
theorem dX4_breachesOfRead_15 : decode cX4_breachesOfRead 15 = .ok (.iadd, 1) := by decide +kernel
theorem dX4_breachesOfRead_16 : decode cX4_breachesOfRead 16 = .ok (.invokevirtual 72, 3) := by decide +kernel
theorem dX4_breachesOfRead_19 : decode cX4_breachesOfRead 19 = .ok (.ifCond .eq 7, 3) := by decide +kernel
theorem dX4_breachesOfRead_22 : decode cX4_breachesOfRead 22 = .ok (.iconst 0, 1) := by decide +kernel
theorem dX4_breachesOfRead_23 : decode cX4_breachesOfRead 23 = .ok (.goto 4, 3) := by decide +kernel
theorem dX4_breachesOfRead_26 : decode cX4_breachesOfRead 26 = .ok (.iconst 1, 1) := by decide +kernel
theorem dX4_breachesOfRead_27 : decode cX4_breachesOfRead 27 = .ok (.aload_n 0, 1) := by decide +kernel
theorem dX4_breachesOfRead_28 : decode cX4_breachesOfRead 28 = .ok (.iconst 3, 1) := by decide +kernel
theorem dX4_breachesOfRead_29 : decode cX4_breachesOfRead 29 = .ok (.iload_n 2, 1) := by decide +kernel
theorem dX4_breachesOfRead_30 : decode cX4_breachesOfRead 30 = .ok (.imul, 1) := by decide +kernel
theorem dX4_breachesOfRead_31 : decode cX4_breachesOfRead 31 = .ok (.iload_n 3, 1) := by decide +kernel
theorem dX4_breachesOfRead_32 : decode cX4_breachesOfRead 32 = .ok (.iconst 1, 1) := by decide +kernel
theorem dX4_breachesOfRead_33 : decode cX4_breachesOfRead 33 = .ok (.iadd, 1) := by decide +kernel
theorem dX4_breachesOfRead_34 : decode cX4_breachesOfRead 34 = .ok (.invokevirtual 72, 3) := by decide +kernel
theorem dX4_breachesOfRead_37 : decode cX4_breachesOfRead 37 = .ok (.ifCond .eq 7, 3) := by decide +kernel
theorem dX4_breachesOfRead_40 : decode cX4_breachesOfRead 40 = .ok (.iconst 0, 1) := by decide +kernel
theorem dX4_breachesOfRead_41 : decode cX4_breachesOfRead 41 = .ok (.goto 4, 3) := by decide +kernel
theorem dX4_breachesOfRead_44 : decode cX4_breachesOfRead 44 = .ok (.iconst 2, 1) := by decide +kernel
theorem dX4_breachesOfRead_45 : decode cX4_breachesOfRead 45 = .ok (.ior, 1) := by decide +kernel
theorem dX4_breachesOfRead_46 : decode cX4_breachesOfRead 46 = .ok (.ireturn, 1) := by decide +kernel
set_option maxRecDepth 20000 in
theorem ggX4_breachesOfWrite_X4_covers : GoodIn wsX4_breachesOfWrite wsX4_covers := goodIn_r _ [5, 6, 7, 8, 9, 10, 11, 12, 13, 14, 15, 16] (by decide +kernel) (by decide +kernel)
set_option maxRecDepth 20000 in
theorem gX4_breachesOfWrite_X4_covers : GoodIn wsX4_breachesOfWrite (wsV RX4 72 RX4 yX4_covers wsX4_covers) := goodIn_app (goodIn_of _ (by decide +kernel)) ggX4_breachesOfWrite_X4_covers
theorem dX4_breachesOfWrite_0 : decode cX4_breachesOfWrite 0 = .ok (.sipush 313, 3) := by decide +kernel
theorem dX4_breachesOfWrite_3 : decode cX4_breachesOfWrite 3 = .ok (.bipush 7, 2) := by decide +kernel
theorem dX4_breachesOfWrite_5 : decode cX4_breachesOfWrite 5 = .ok (.iload_n 1, 1) := by decide +kernel
theorem dX4_breachesOfWrite_6 : decode cX4_breachesOfWrite 6 = .ok (.imul, 1) := by decide +kernel
theorem dX4_breachesOfWrite_7 : decode cX4_breachesOfWrite 7 = .ok (.iadd, 1) := by decide +kernel
theorem dX4_breachesOfWrite_8 : decode cX4_breachesOfWrite 8 = .ok (.istore_n 3, 1) := by decide +kernel
theorem dX4_breachesOfWrite_9 : decode cX4_breachesOfWrite 9 = .ok (.aload_n 0, 1) := by decide +kernel
theorem dX4_breachesOfWrite_10 : decode cX4_breachesOfWrite 10 = .ok (.iconst 3, 1) := by decide +kernel
theorem dX4_breachesOfWrite_11 : decode cX4_breachesOfWrite 11 = .ok (.iload_n 2, 1) := by decide +kernel
theorem dX4_breachesOfWrite_12 : decode cX4_breachesOfWrite 12 = .ok (.imul, 1) := by decide +kernel
theorem dX4_breachesOfWrite_13 : decode cX4_breachesOfWrite 13 = .ok (.iload_n 3, 1) := by decide +kernel
theorem dX4_breachesOfWrite_14 : decode cX4_breachesOfWrite 14 = .ok (.iconst 1, 1) := by decide +kernel
theorem dX4_breachesOfWrite_15 : decode cX4_breachesOfWrite 15 = .ok (.iadd, 1) := by decide +kernel
theorem dX4_breachesOfWrite_16 : decode cX4_breachesOfWrite 16 = .ok (.invokevirtual 72, 3) := by decide +kernel
theorem dX4_breachesOfWrite_19 : decode cX4_breachesOfWrite 19 = .ok (.ifCond .eq 7, 3) := by decide +kernel
theorem dX4_breachesOfWrite_22 : decode cX4_breachesOfWrite 22 = .ok (.iconst 0, 1) := by decide +kernel
theorem dX4_breachesOfWrite_23 : decode cX4_breachesOfWrite 23 = .ok (.goto 4, 3) := by decide +kernel
theorem dX4_breachesOfWrite_26 : decode cX4_breachesOfWrite 26 = .ok (.iconst 4, 1) := by decide +kernel
theorem dX4_breachesOfWrite_27 : decode cX4_breachesOfWrite 27 = .ok (.aload_n 0, 1) := by decide +kernel
theorem dX4_breachesOfWrite_28 : decode cX4_breachesOfWrite 28 = .ok (.iconst 3, 1) := by decide +kernel
theorem dX4_breachesOfWrite_29 : decode cX4_breachesOfWrite 29 = .ok (.iload_n 2, 1) := by decide +kernel
theorem dX4_breachesOfWrite_30 : decode cX4_breachesOfWrite 30 = .ok (.imul, 1) := by decide +kernel
theorem dX4_breachesOfWrite_31 : decode cX4_breachesOfWrite 31 = .ok (.iload_n 3, 1) := by decide +kernel
theorem dX4_breachesOfWrite_32 : decode cX4_breachesOfWrite 32 = .ok (.iconst 4, 1) := by decide +kernel
theorem dX4_breachesOfWrite_33 : decode cX4_breachesOfWrite 33 = .ok (.iadd, 1) := by decide +kernel
theorem dX4_breachesOfWrite_34 : decode cX4_breachesOfWrite 34 = .ok (.invokevirtual 72, 3) := by decide +kernel
theorem dX4_breachesOfWrite_37 : decode cX4_breachesOfWrite 37 = .ok (.ifCond .eq 7, 3) := by decide +kernel
theorem dX4_breachesOfWrite_40 : decode cX4_breachesOfWrite 40 = .ok (.iconst 0, 1) := by decide +kernel
theorem dX4_breachesOfWrite_41 : decode cX4_breachesOfWrite 41 = .ok (.goto 5, 3) := by decide +kernel
theorem dX4_breachesOfWrite_44 : decode cX4_breachesOfWrite 44 = .ok (.bipush 8, 2) := by decide +kernel
theorem dX4_breachesOfWrite_46 : decode cX4_breachesOfWrite 46 = .ok (.ior, 1) := by decide +kernel
theorem dX4_breachesOfWrite_47 : decode cX4_breachesOfWrite 47 = .ok (.ireturn, 1) := by decide +kernel
theorem dX4_countsBreaches_0 : decode cX4_countsBreaches 0 = .ok (.iconst 0, 1) := by decide +kernel
theorem dX4_countsBreaches_1 : decode cX4_countsBreaches 1 = .ok (.istore_n 2, 1) := by decide +kernel
theorem dX4_countsBreaches_2 : decode cX4_countsBreaches 2 = .ok (.iload_n 2, 1) := by decide +kernel
theorem dX4_countsBreaches_3 : decode cX4_countsBreaches 3 = .ok (.iconst 4, 1) := by decide +kernel
theorem dX4_countsBreaches_4 : decode cX4_countsBreaches 4 = .ok (.if_icmp .ge 27, 3) := by decide +kernel
theorem dX4_countsBreaches_7 : decode cX4_countsBreaches 7 = .ok (.aload_n 0, 1) := by decide +kernel
theorem dX4_countsBreaches_8 : decode cX4_countsBreaches 8 = .ok (.getfield 7, 3) := by decide +kernel
theorem dX4_countsBreaches_11 : decode cX4_countsBreaches 11 = .ok (.sipush 341, 3) := by decide +kernel
theorem dX4_countsBreaches_14 : decode cX4_countsBreaches 14 = .ok (.iload_n 2, 1) := by decide +kernel
theorem dX4_countsBreaches_15 : decode cX4_countsBreaches 15 = .ok (.iadd, 1) := by decide +kernel
theorem dX4_countsBreaches_16 : decode cX4_countsBreaches 16 = .ok (.dup2, 1) := by decide +kernel
theorem dX4_countsBreaches_17 : decode cX4_countsBreaches 17 = .ok (.iaload, 1) := by decide +kernel
theorem dX4_countsBreaches_18 : decode cX4_countsBreaches 18 = .ok (.iload_n 1, 1) := by decide +kernel
theorem dX4_countsBreaches_19 : decode cX4_countsBreaches 19 = .ok (.iload_n 2, 1) := by decide +kernel
theorem dX4_countsBreaches_20 : decode cX4_countsBreaches 20 = .ok (.ishr, 1) := by decide +kernel
theorem dX4_countsBreaches_21 : decode cX4_countsBreaches 21 = .ok (.iconst 1, 1) := by decide +kernel
theorem dX4_countsBreaches_22 : decode cX4_countsBreaches 22 = .ok (.iand, 1) := by decide +kernel
theorem dX4_countsBreaches_23 : decode cX4_countsBreaches 23 = .ok (.iadd, 1) := by decide +kernel
theorem dX4_countsBreaches_24 : decode cX4_countsBreaches 24 = .ok (.iastore, 1) := by decide +kernel
theorem dX4_countsBreaches_25 : decode cX4_countsBreaches 25 = .ok (.iinc 2 1, 3) := by decide +kernel
theorem dX4_countsBreaches_28 : decode cX4_countsBreaches 28 = .ok (.goto (-26), 3) := by decide +kernel
theorem dX4_countsBreaches_31 : decode cX4_countsBreaches 31 = .ok (.return_, 1) := by decide +kernel
theorem dX4_isLater_0 : decode cX4_isLater 0 = .ok (.bipush 13, 2) := by decide +kernel
theorem dX4_isLater_2 : decode cX4_isLater 2 = .ok (.iconst 5, 1) := by decide +kernel
theorem dX4_isLater_3 : decode cX4_isLater 3 = .ok (.iload_n 1, 1) := by decide +kernel
theorem dX4_isLater_4 : decode cX4_isLater 4 = .ok (.imul, 1) := by decide +kernel
theorem dX4_isLater_5 : decode cX4_isLater 5 = .ok (.iadd, 1) := by decide +kernel
theorem dX4_isLater_6 : decode cX4_isLater 6 = .ok (.istore_n 3, 1) := by decide +kernel
theorem dX4_isLater_7 : decode cX4_isLater 7 = .ok (.bipush 13, 2) := by decide +kernel
theorem dX4_isLater_9 : decode cX4_isLater 9 = .ok (.iconst 5, 1) := by decide +kernel
theorem dX4_isLater_10 : decode cX4_isLater 10 = .ok (.iload_n 2, 1) := by decide +kernel
theorem dX4_isLater_11 : decode cX4_isLater 11 = .ok (.imul, 1) := by decide +kernel
theorem dX4_isLater_12 : decode cX4_isLater 12 = .ok (.iadd, 1) := by decide +kernel
theorem dX4_isLater_13 : decode cX4_isLater 13 = .ok (.istore 4, 2) := by decide +kernel
theorem dX4_isLater_15 : decode cX4_isLater 15 = .ok (.aload_n 0, 1) := by decide +kernel
theorem dX4_isLater_16 : decode cX4_isLater 16 = .ok (.getfield 7, 3) := by decide +kernel
theorem dX4_isLater_19 : decode cX4_isLater 19 = .ok (.iload_n 3, 1) := by decide +kernel
theorem dX4_isLater_20 : decode cX4_isLater 20 = .ok (.iconst 4, 1) := by decide +kernel
theorem dX4_isLater_21 : decode cX4_isLater 21 = .ok (.iadd, 1) := by decide +kernel
theorem dX4_isLater_22 : decode cX4_isLater 22 = .ok (.iaload, 1) := by decide +kernel
theorem dX4_isLater_23 : decode cX4_isLater 23 = .ok (.aload_n 0, 1) := by decide +kernel
theorem dX4_isLater_24 : decode cX4_isLater 24 = .ok (.getfield 7, 3) := by decide +kernel
theorem dX4_isLater_27 : decode cX4_isLater 27 = .ok (.iload 4, 2) := by decide +kernel
theorem dX4_isLater_29 : decode cX4_isLater 29 = .ok (.iconst 4, 1) := by decide +kernel
theorem dX4_isLater_30 : decode cX4_isLater 30 = .ok (.iadd, 1) := by decide +kernel
theorem dX4_isLater_31 : decode cX4_isLater 31 = .ok (.iaload, 1) := by decide +kernel
theorem dX4_isLater_32 : decode cX4_isLater 32 = .ok (.if_icmp .gt 39, 3) := by decide +kernel
theorem dX4_isLater_35 : decode cX4_isLater 35 = .ok (.aload_n 0, 1) := by decide +kernel
theorem dX4_isLater_36 : decode cX4_isLater 36 = .ok (.getfield 7, 3) := by decide +kernel
theorem dX4_isLater_39 : decode cX4_isLater 39 = .ok (.iload_n 3, 1) := by decide +kernel
theorem dX4_isLater_40 : decode cX4_isLater 40 = .ok (.iconst 4, 1) := by decide +kernel
theorem dX4_isLater_41 : decode cX4_isLater 41 = .ok (.iadd, 1) := by decide +kernel
theorem dX4_isLater_42 : decode cX4_isLater 42 = .ok (.iaload, 1) := by decide +kernel
theorem dX4_isLater_43 : decode cX4_isLater 43 = .ok (.aload_n 0, 1) := by decide +kernel
theorem dX4_isLater_44 : decode cX4_isLater 44 = .ok (.getfield 7, 3) := by decide +kernel
theorem dX4_isLater_47 : decode cX4_isLater 47 = .ok (.iload 4, 2) := by decide +kernel
theorem dX4_isLater_49 : decode cX4_isLater 49 = .ok (.iconst 4, 1) := by decide +kernel
theorem dX4_isLater_50 : decode cX4_isLater 50 = .ok (.iadd, 1) := by decide +kernel
theorem dX4_isLater_51 : decode cX4_isLater 51 = .ok (.iaload, 1) := by decide +kernel
theorem dX4_isLater_52 : decode cX4_isLater 52 = .ok (.if_icmp .ne 23, 3) := by decide +kernel
theorem dX4_isLater_55 : decode cX4_isLater 55 = .ok (.aload_n 0, 1) := by decide +kernel
theorem dX4_isLater_56 : decode cX4_isLater 56 = .ok (.getfield 7, 3) := by decide +kernel
theorem dX4_isLater_59 : decode cX4_isLater 59 = .ok (.iload_n 3, 1) := by decide +kernel
theorem dX4_isLater_60 : decode cX4_isLater 60 = .ok (.iaload, 1) := by decide +kernel
theorem dX4_isLater_61 : decode cX4_isLater 61 = .ok (.aload_n 0, 1) := by decide +kernel
theorem dX4_isLater_62 : decode cX4_isLater 62 = .ok (.getfield 7, 3) := by decide +kernel
theorem dX4_isLater_65 : decode cX4_isLater 65 = .ok (.iload 4, 2) := by decide +kernel
theorem dX4_isLater_67 : decode cX4_isLater 67 = .ok (.iaload, 1) := by decide +kernel
theorem dX4_isLater_68 : decode cX4_isLater 68 = .ok (.if_icmp .le 7, 3) := by decide +kernel
theorem dX4_isLater_71 : decode cX4_isLater 71 = .ok (.iconst 1, 1) := by decide +kernel
theorem dX4_isLater_72 : decode cX4_isLater 72 = .ok (.goto 4, 3) := by decide +kernel
theorem dX4_isLater_75 : decode cX4_isLater 75 = .ok (.iconst 0, 1) := by decide +kernel
theorem dX4_isLater_76 : decode cX4_isLater 76 = .ok (.ireturn, 1) := by decide +kernel
set_option maxRecDepth 20000 in
theorem ggX4_valueAt_X4_isLater : GoodIn wsX4_valueAt wsX4_isLater := goodIn_r _ [6, 1, 7, 8, 9, 10, 11, 12, 13, 14, 15, 16] (by decide +kernel) (by decide +kernel)
set_option maxRecDepth 20000 in
theorem gX4_valueAt_X4_isLater : GoodIn wsX4_valueAt (wsV RX4 76 RX4 yX4_isLater wsX4_isLater) := goodIn_app (goodIn_of _ (by decide +kernel)) ggX4_valueAt_X4_isLater
theorem dX4_valueAt_0 : decode cX4_valueAt 0 = .ok (.iconst (-1), 1) := by decide +kernel
theorem dX4_valueAt_1 : decode cX4_valueAt 1 = .ok (.istore_n 3, 1) := by decide +kernel
theorem dX4_valueAt_2 : decode cX4_valueAt 2 = .ok (.iconst 0, 1) := by decide +kernel
theorem dX4_valueAt_3 : decode cX4_valueAt 3 = .ok (.istore 4, 2) := by decide +kernel
theorem dX4_valueAt_5 : decode cX4_valueAt 5 = .ok (.iload 4, 2) := by decide +kernel
theorem dX4_valueAt_7 : decode cX4_valueAt 7 = .ok (.aload_n 0, 1) := by decide +kernel
theorem dX4_valueAt_8 : decode cX4_valueAt 8 = .ok (.getfield 7, 3) := by decide +kernel
theorem dX4_valueAt_11 : decode cX4_valueAt 11 = .ok (.bipush 12, 2) := by decide +kernel
theorem dX4_valueAt_13 : decode cX4_valueAt 13 = .ok (.iaload, 1) := by decide +kernel
theorem dX4_valueAt_14 : decode cX4_valueAt 14 = .ok (.if_icmp .ge 89, 3) := by decide +kernel
theorem dX4_valueAt_17 : decode cX4_valueAt 17 = .ok (.bipush 13, 2) := by decide +kernel
theorem dX4_valueAt_19 : decode cX4_valueAt 19 = .ok (.iconst 5, 1) := by decide +kernel
theorem dX4_valueAt_20 : decode cX4_valueAt 20 = .ok (.iload 4, 2) := by decide +kernel
theorem dX4_valueAt_22 : decode cX4_valueAt 22 = .ok (.imul, 1) := by decide +kernel
theorem dX4_valueAt_23 : decode cX4_valueAt 23 = .ok (.iadd, 1) := by decide +kernel
theorem dX4_valueAt_24 : decode cX4_valueAt 24 = .ok (.istore 5, 2) := by decide +kernel
theorem dX4_valueAt_26 : decode cX4_valueAt 26 = .ok (.aload_n 0, 1) := by decide +kernel
theorem dX4_valueAt_27 : decode cX4_valueAt 27 = .ok (.getfield 7, 3) := by decide +kernel
theorem dX4_valueAt_30 : decode cX4_valueAt 30 = .ok (.iload 5, 2) := by decide +kernel
theorem dX4_valueAt_32 : decode cX4_valueAt 32 = .ok (.iconst 1, 1) := by decide +kernel
theorem dX4_valueAt_33 : decode cX4_valueAt 33 = .ok (.iadd, 1) := by decide +kernel
theorem dX4_valueAt_34 : decode cX4_valueAt 34 = .ok (.iaload, 1) := by decide +kernel
theorem dX4_valueAt_35 : decode cX4_valueAt 35 = .ok (.aload_n 0, 1) := by decide +kernel
theorem dX4_valueAt_36 : decode cX4_valueAt 36 = .ok (.getfield 7, 3) := by decide +kernel
theorem dX4_valueAt_39 : decode cX4_valueAt 39 = .ok (.iconst 3, 1) := by decide +kernel
theorem dX4_valueAt_40 : decode cX4_valueAt 40 = .ok (.iload_n 1, 1) := by decide +kernel
theorem dX4_valueAt_41 : decode cX4_valueAt 41 = .ok (.imul, 1) := by decide +kernel
theorem dX4_valueAt_42 : decode cX4_valueAt 42 = .ok (.aload_n 0, 1) := by decide +kernel
theorem dX4_valueAt_43 : decode cX4_valueAt 43 = .ok (.getfield 7, 3) := by decide +kernel
theorem dX4_valueAt_46 : decode cX4_valueAt 46 = .ok (.iload 5, 2) := by decide +kernel
theorem dX4_valueAt_48 : decode cX4_valueAt 48 = .ok (.iaload, 1) := by decide +kernel
theorem dX4_valueAt_49 : decode cX4_valueAt 49 = .ok (.iadd, 1) := by decide +kernel
theorem dX4_valueAt_50 : decode cX4_valueAt 50 = .ok (.iaload, 1) := by decide +kernel
theorem dX4_valueAt_51 : decode cX4_valueAt 51 = .ok (.if_icmp .gt 7, 3) := by decide +kernel
theorem dX4_valueAt_54 : decode cX4_valueAt 54 = .ok (.iconst 1, 1) := by decide +kernel
theorem dX4_valueAt_55 : decode cX4_valueAt 55 = .ok (.goto 4, 3) := by decide +kernel
theorem dX4_valueAt_58 : decode cX4_valueAt 58 = .ok (.iconst 0, 1) := by decide +kernel
theorem dX4_valueAt_59 : decode cX4_valueAt 59 = .ok (.istore 6, 2) := by decide +kernel
theorem dX4_valueAt_61 : decode cX4_valueAt 61 = .ok (.iload 6, 2) := by decide +kernel
theorem dX4_valueAt_63 : decode cX4_valueAt 63 = .ok (.ifCond .eq 34, 3) := by decide +kernel
theorem dX4_valueAt_66 : decode cX4_valueAt 66 = .ok (.aload_n 0, 1) := by decide +kernel
theorem dX4_valueAt_67 : decode cX4_valueAt 67 = .ok (.getfield 7, 3) := by decide +kernel
theorem dX4_valueAt_70 : decode cX4_valueAt 70 = .ok (.iload 5, 2) := by decide +kernel
theorem dX4_valueAt_72 : decode cX4_valueAt 72 = .ok (.iconst 2, 1) := by decide +kernel
theorem dX4_valueAt_73 : decode cX4_valueAt 73 = .ok (.iadd, 1) := by decide +kernel
theorem dX4_valueAt_74 : decode cX4_valueAt 74 = .ok (.iaload, 1) := by decide +kernel
theorem dX4_valueAt_75 : decode cX4_valueAt 75 = .ok (.iload_n 2, 1) := by decide +kernel
theorem dX4_valueAt_76 : decode cX4_valueAt 76 = .ok (.if_icmp .ne 21, 3) := by decide +kernel
theorem dX4_valueAt_79 : decode cX4_valueAt 79 = .ok (.iload_n 3, 1) := by decide +kernel
theorem dX4_valueAt_80 : decode cX4_valueAt 80 = .ok (.iconst (-1), 1) := by decide +kernel
theorem dX4_valueAt_81 : decode cX4_valueAt 81 = .ok (.if_icmp .eq 13, 3) := by decide +kernel
theorem dX4_valueAt_84 : decode cX4_valueAt 84 = .ok (.aload_n 0, 1) := by decide +kernel
theorem dX4_valueAt_85 : decode cX4_valueAt 85 = .ok (.iload 4, 2) := by decide +kernel
theorem dX4_valueAt_87 : decode cX4_valueAt 87 = .ok (.iload_n 3, 1) := by decide +kernel
theorem dX4_valueAt_88 : decode cX4_valueAt 88 = .ok (.invokevirtual 76, 3) := by decide +kernel
theorem dX4_valueAt_91 : decode cX4_valueAt 91 = .ok (.ifCond .eq 6, 3) := by decide +kernel
theorem dX4_valueAt_94 : decode cX4_valueAt 94 = .ok (.iload 4, 2) := by decide +kernel
theorem dX4_valueAt_96 : decode cX4_valueAt 96 = .ok (.istore_n 3, 1) := by decide +kernel
theorem dX4_valueAt_97 : decode cX4_valueAt 97 = .ok (.iinc 4 1, 3) := by decide +kernel
theorem dX4_valueAt_100 : decode cX4_valueAt 100 = .ok (.goto (-95), 3) := by decide +kernel
theorem dX4_valueAt_103 : decode cX4_valueAt 103 = .ok (.iload_n 3, 1) := by decide +kernel
theorem dX4_valueAt_104 : decode cX4_valueAt 104 = .ok (.iconst (-1), 1) := by decide +kernel
theorem dX4_valueAt_105 : decode cX4_valueAt 105 = .ok (.if_icmp .ne 8, 3) := by decide +kernel
theorem dX4_valueAt_108 : decode cX4_valueAt 108 = .ok (.bipush 100, 2) := by decide +kernel
theorem dX4_valueAt_110 : decode cX4_valueAt 110 = .ok (.goto 16, 3) := by decide +kernel
theorem dX4_valueAt_113 : decode cX4_valueAt 113 = .ok (.aload_n 0, 1) := by decide +kernel
theorem dX4_valueAt_114 : decode cX4_valueAt 114 = .ok (.getfield 7, 3) := by decide +kernel
theorem dX4_valueAt_117 : decode cX4_valueAt 117 = .ok (.bipush 13, 2) := by decide +kernel
theorem dX4_valueAt_119 : decode cX4_valueAt 119 = .ok (.iconst 5, 1) := by decide +kernel
theorem dX4_valueAt_120 : decode cX4_valueAt 120 = .ok (.iload_n 3, 1) := by decide +kernel
theorem dX4_valueAt_121 : decode cX4_valueAt 121 = .ok (.imul, 1) := by decide +kernel
theorem dX4_valueAt_122 : decode cX4_valueAt 122 = .ok (.iadd, 1) := by decide +kernel
theorem dX4_valueAt_123 : decode cX4_valueAt 123 = .ok (.iconst 3, 1) := by decide +kernel
theorem dX4_valueAt_124 : decode cX4_valueAt 124 = .ok (.iadd, 1) := by decide +kernel
theorem dX4_valueAt_125 : decode cX4_valueAt 125 = .ok (.iaload, 1) := by decide +kernel
theorem dX4_valueAt_126 : decode cX4_valueAt 126 = .ok (.ireturn, 1) := by decide +kernel
set_option maxRecDepth 20000 in
theorem ggX4_doesRead_X4_isClient : GoodIn wsX4_doesRead wsX4_isClient := goodIn_r _ [5, 6, 7, 8, 4, 9] (by decide +kernel) (by decide +kernel)
set_option maxRecDepth 20000 in
theorem gX4_doesRead_X4_isClient : GoodIn wsX4_doesRead (va_wsS RX4 47 yX4_isClient wsX4_isClient) := goodIn_app (goodIn_of _ (by decide +kernel)) ggX4_doesRead_X4_isClient
set_option maxRecDepth 20000 in
theorem ggX4_doesRead_X4_isReplica : GoodIn wsX4_doesRead wsX4_isReplica := goodIn_r _ [12, 13, 7, 8, 4, 9] (by decide +kernel) (by decide +kernel)
set_option maxRecDepth 20000 in
theorem gX4_doesRead_X4_isReplica : GoodIn wsX4_doesRead (va_wsS RX4 69 yX4_isReplica wsX4_isReplica) := goodIn_app (goodIn_of _ (by decide +kernel)) ggX4_doesRead_X4_isReplica
set_option maxRecDepth 20000 in
theorem ggX4_doesRead_X4_isKey : GoodIn wsX4_doesRead wsX4_isKey := goodIn_r _ [16, 6, 7, 8, 4, 9] (by decide +kernel) (by decide +kernel)
set_option maxRecDepth 20000 in
theorem gX4_doesRead_X4_isKey : GoodIn wsX4_doesRead (va_wsS RX4 79 yX4_isKey wsX4_isKey) := goodIn_app (goodIn_of _ (by decide +kernel)) ggX4_doesRead_X4_isKey
set_option maxRecDepth 20000 in
theorem ggX4_doesRead_X4_breachesOfRead : GoodIn wsX4_doesRead wsX4_breachesOfRead := goodIn_r _ [20, 21, 22, 23, 4, 24, 1, 41, 42, 43, 44, 45, 46, 47, 48, 49, 50] (by decide +kernel) (by decide +kernel)
set_option maxRecDepth 20000 in
theorem gX4_doesRead_X4_breachesOfRead : GoodIn wsX4_doesRead (wsV RX4 82 RX4 yX4_breachesOfRead wsX4_breachesOfRead) := goodIn_app (goodIn_of _ (by decide +kernel)) ggX4_doesRead_X4_breachesOfRead
set_option maxRecDepth 20000 in
theorem ggX4_doesRead_X4_guarantees : GoodIn wsX4_doesRead wsX4_guarantees := goodIn_r _ [28, 1, 41, 42, 43, 44, 45, 46, 47, 48, 49, 50] (by decide +kernel) (by decide +kernel)
set_option maxRecDepth 20000 in
theorem gX4_doesRead_X4_guarantees : GoodIn wsX4_doesRead (wsV RX4 53 RX4 yX4_guarantees wsX4_guarantees) := goodIn_app (goodIn_of _ (by decide +kernel)) ggX4_doesRead_X4_guarantees
set_option maxRecDepth 20000 in
theorem ggX4_doesRead_X4_countsBreaches : GoodIn wsX4_doesRead wsX4_countsBreaches := goodIn_r _ [32, 1, 41, 42, 43, 44, 45, 46, 47, 48, 49, 50] (by decide +kernel) (by decide +kernel)
set_option maxRecDepth 20000 in
theorem gX4_doesRead_X4_countsBreaches : GoodIn wsX4_doesRead (wsV RX4 85 RX4 yX4_countsBreaches wsX4_countsBreaches) := goodIn_app (goodIn_of _ (by decide +kernel)) ggX4_doesRead_X4_countsBreaches
set_option maxRecDepth 20000 in
theorem ggX4_doesRead_X4_valueAt : GoodIn wsX4_doesRead wsX4_valueAt := goodIn_r _ [36, 1, 37, 38, 39, 4, 40, 41, 42, 43, 44, 45, 46, 47, 48, 49, 50] (by decide +kernel) (by decide +kernel)
set_option maxRecDepth 20000 in
theorem gX4_doesRead_X4_valueAt : GoodIn wsX4_doesRead (wsV RX4 89 RX4 yX4_valueAt wsX4_valueAt) := goodIn_app (goodIn_of _ (by decide +kernel)) ggX4_doesRead_X4_valueAt
theorem dX4_doesRead_0 : decode cX4_doesRead 0 = .ok (.iload_n 1, 1) := by decide +kernel
theorem dX4_doesRead_1 : decode cX4_doesRead 1 = .ok (.invokestatic 47, 3) := by decide +kernel
theorem dX4_doesRead_4 : decode cX4_doesRead 4 = .ok (.ifCond .eq 17, 3) := by decide +kernel
theorem dX4_doesRead_7 : decode cX4_doesRead 7 = .ok (.iload_n 2, 1) := by decide +kernel
theorem dX4_doesRead_8 : decode cX4_doesRead 8 = .ok (.invokestatic 69, 3) := by decide +kernel
theorem dX4_doesRead_11 : decode cX4_doesRead 11 = .ok (.ifCond .eq 10, 3) := by decide +kernel
theorem dX4_doesRead_14 : decode cX4_doesRead 14 = .ok (.iload_n 3, 1) := by decide +kernel
theorem dX4_doesRead_15 : decode cX4_doesRead 15 = .ok (.invokestatic 79, 3) := by decide +kernel
theorem dX4_doesRead_18 : decode cX4_doesRead 18 = .ok (.ifCond .ne 6, 3) := by decide +kernel
theorem dX4_doesRead_21 : decode cX4_doesRead 21 = .ok (.bipush (-2), 2) := by decide +kernel
theorem dX4_doesRead_23 : decode cX4_doesRead 23 = .ok (.ireturn, 1) := by decide +kernel
theorem dX4_doesRead_24 : decode cX4_doesRead 24 = .ok (.aload_n 0, 1) := by decide +kernel
theorem dX4_doesRead_25 : decode cX4_doesRead 25 = .ok (.iload_n 1, 1) := by decide +kernel
theorem dX4_doesRead_26 : decode cX4_doesRead 26 = .ok (.iload_n 2, 1) := by decide +kernel
theorem dX4_doesRead_27 : decode cX4_doesRead 27 = .ok (.invokevirtual 82, 3) := by decide +kernel
theorem dX4_doesRead_30 : decode cX4_doesRead 30 = .ok (.istore 4, 2) := by decide +kernel
theorem dX4_doesRead_32 : decode cX4_doesRead 32 = .ok (.iload 4, 2) := by decide +kernel
theorem dX4_doesRead_34 : decode cX4_doesRead 34 = .ok (.aload_n 0, 1) := by decide +kernel
theorem dX4_doesRead_35 : decode cX4_doesRead 35 = .ok (.iload_n 1, 1) := by decide +kernel
theorem dX4_doesRead_36 : decode cX4_doesRead 36 = .ok (.invokevirtual 53, 3) := by decide +kernel
theorem dX4_doesRead_39 : decode cX4_doesRead 39 = .ok (.iand, 1) := by decide +kernel
theorem dX4_doesRead_40 : decode cX4_doesRead 40 = .ok (.ifCond .eq 6, 3) := by decide +kernel
theorem dX4_doesRead_43 : decode cX4_doesRead 43 = .ok (.bipush (-3), 2) := by decide +kernel
theorem dX4_doesRead_45 : decode cX4_doesRead 45 = .ok (.ireturn, 1) := by decide +kernel
theorem dX4_doesRead_46 : decode cX4_doesRead 46 = .ok (.aload_n 0, 1) := by decide +kernel
theorem dX4_doesRead_47 : decode cX4_doesRead 47 = .ok (.iload 4, 2) := by decide +kernel
theorem dX4_doesRead_49 : decode cX4_doesRead 49 = .ok (.invokevirtual 85, 3) := by decide +kernel
theorem dX4_doesRead_52 : decode cX4_doesRead 52 = .ok (.sipush 313, 3) := by decide +kernel
theorem dX4_doesRead_55 : decode cX4_doesRead 55 = .ok (.bipush 7, 2) := by decide +kernel
theorem dX4_doesRead_57 : decode cX4_doesRead 57 = .ok (.iload_n 1, 1) := by decide +kernel
theorem dX4_doesRead_58 : decode cX4_doesRead 58 = .ok (.imul, 1) := by decide +kernel
theorem dX4_doesRead_59 : decode cX4_doesRead 59 = .ok (.iadd, 1) := by decide +kernel
theorem dX4_doesRead_60 : decode cX4_doesRead 60 = .ok (.iconst 1, 1) := by decide +kernel
theorem dX4_doesRead_61 : decode cX4_doesRead 61 = .ok (.iadd, 1) := by decide +kernel
theorem dX4_doesRead_62 : decode cX4_doesRead 62 = .ok (.istore 5, 2) := by decide +kernel
theorem dX4_doesRead_64 : decode cX4_doesRead 64 = .ok (.iconst 0, 1) := by decide +kernel
theorem dX4_doesRead_65 : decode cX4_doesRead 65 = .ok (.istore 6, 2) := by decide +kernel
theorem dX4_doesRead_67 : decode cX4_doesRead 67 = .ok (.iload 6, 2) := by decide +kernel
theorem dX4_doesRead_69 : decode cX4_doesRead 69 = .ok (.iconst 3, 1) := by decide +kernel
theorem dX4_doesRead_70 : decode cX4_doesRead 70 = .ok (.if_icmp .ge 62, 3) := by decide +kernel
theorem dX4_doesRead_73 : decode cX4_doesRead 73 = .ok (.aload_n 0, 1) := by decide +kernel
theorem dX4_doesRead_74 : decode cX4_doesRead 74 = .ok (.getfield 7, 3) := by decide +kernel
theorem dX4_doesRead_77 : decode cX4_doesRead 77 = .ok (.iconst 3, 1) := by decide +kernel
theorem dX4_doesRead_78 : decode cX4_doesRead 78 = .ok (.iload_n 2, 1) := by decide +kernel
theorem dX4_doesRead_79 : decode cX4_doesRead 79 = .ok (.imul, 1) := by decide +kernel
theorem dX4_doesRead_80 : decode cX4_doesRead 80 = .ok (.iload 6, 2) := by decide +kernel
theorem dX4_doesRead_82 : decode cX4_doesRead 82 = .ok (.iadd, 1) := by decide +kernel
theorem dX4_doesRead_83 : decode cX4_doesRead 83 = .ok (.iaload, 1) := by decide +kernel
theorem dX4_doesRead_84 : decode cX4_doesRead 84 = .ok (.istore 7, 2) := by decide +kernel
theorem dX4_doesRead_86 : decode cX4_doesRead 86 = .ok (.aload_n 0, 1) := by decide +kernel
theorem dX4_doesRead_87 : decode cX4_doesRead 87 = .ok (.getfield 7, 3) := by decide +kernel
theorem dX4_doesRead_90 : decode cX4_doesRead 90 = .ok (.iload 5, 2) := by decide +kernel
theorem dX4_doesRead_92 : decode cX4_doesRead 92 = .ok (.iload 6, 2) := by decide +kernel
theorem dX4_doesRead_94 : decode cX4_doesRead 94 = .ok (.iadd, 1) := by decide +kernel
theorem dX4_doesRead_95 : decode cX4_doesRead 95 = .ok (.iload 7, 2) := by decide +kernel
theorem dX4_doesRead_97 : decode cX4_doesRead 97 = .ok (.aload_n 0, 1) := by decide +kernel
theorem dX4_doesRead_98 : decode cX4_doesRead 98 = .ok (.getfield 7, 3) := by decide +kernel
theorem dX4_doesRead_101 : decode cX4_doesRead 101 = .ok (.iload 5, 2) := by decide +kernel
theorem dX4_doesRead_103 : decode cX4_doesRead 103 = .ok (.iload 6, 2) := by decide +kernel
theorem dX4_doesRead_105 : decode cX4_doesRead 105 = .ok (.iadd, 1) := by decide +kernel
theorem dX4_doesRead_106 : decode cX4_doesRead 106 = .ok (.iaload, 1) := by decide +kernel
theorem dX4_doesRead_107 : decode cX4_doesRead 107 = .ok (.if_icmp .le 8, 3) := by decide +kernel
theorem dX4_doesRead_110 : decode cX4_doesRead 110 = .ok (.iload 7, 2) := by decide +kernel
theorem dX4_doesRead_112 : decode cX4_doesRead 112 = .ok (.goto 13, 3) := by decide +kernel
theorem dX4_doesRead_115 : decode cX4_doesRead 115 = .ok (.aload_n 0, 1) := by decide +kernel
theorem dX4_doesRead_116 : decode cX4_doesRead 116 = .ok (.getfield 7, 3) := by decide +kernel
theorem dX4_doesRead_119 : decode cX4_doesRead 119 = .ok (.iload 5, 2) := by decide +kernel
theorem dX4_doesRead_121 : decode cX4_doesRead 121 = .ok (.iload 6, 2) := by decide +kernel
theorem dX4_doesRead_123 : decode cX4_doesRead 123 = .ok (.iadd, 1) := by decide +kernel
theorem dX4_doesRead_124 : decode cX4_doesRead 124 = .ok (.iaload, 1) := by decide +kernel
theorem dX4_doesRead_125 : decode cX4_doesRead 125 = .ok (.iastore, 1) := by decide +kernel
theorem dX4_doesRead_126 : decode cX4_doesRead 126 = .ok (.iinc 6 1, 3) := by decide +kernel
theorem dX4_doesRead_129 : decode cX4_doesRead 129 = .ok (.goto (-62), 3) := by decide +kernel
theorem dX4_doesRead_132 : decode cX4_doesRead 132 = .ok (.aload_n 0, 1) := by decide +kernel
theorem dX4_doesRead_133 : decode cX4_doesRead 133 = .ok (.iload_n 2, 1) := by decide +kernel
theorem dX4_doesRead_134 : decode cX4_doesRead 134 = .ok (.iload_n 3, 1) := by decide +kernel
theorem dX4_doesRead_135 : decode cX4_doesRead 135 = .ok (.invokevirtual 89, 3) := by decide +kernel
theorem dX4_doesRead_138 : decode cX4_doesRead 138 = .ok (.ireturn, 1) := by decide +kernel
set_option maxRecDepth 20000 in
theorem ggX4_read_X4_putsAside : GoodIn wsX4_read wsX4_putsAside := goodIn_r _ [5, 6, 7, 65, 66, 67, 68, 69, 70, 71, 72, 73, 74] (by decide +kernel) (by decide +kernel)
set_option maxRecDepth 20000 in
theorem gX4_read_X4_putsAside : GoodIn wsX4_read (wsV RX4 56 RX4 yX4_putsAside wsX4_putsAside) := goodIn_app (goodIn_of _ (by decide +kernel)) ggX4_read_X4_putsAside
set_option maxRecDepth 20000 in
theorem ggX4_read_X4_doesRead : GoodIn wsX4_read wsX4_doesRead := goodIn_r _ [11, 7, 12, 13, 4, 14, 15, 16, 17, 18, 19, 20, 21, 22, 23, 24, 25, 26, 27, 28, 29, 30, 31, 32, 33, 34, 35, 36, 37, 38, 39, 40, 41, 42, 43, 44, 45, 46, 47, 48, 49, 65, 66, 67, 68, 69, 70, 71, 72, 73, 74] (by decide +kernel) (by decide +kernel)
set_option maxRecDepth 20000 in
theorem gX4_read_X4_doesRead : GoodIn wsX4_read (wsV RX4 92 RX4 yX4_doesRead wsX4_doesRead) := goodIn_app (goodIn_of _ (by decide +kernel)) ggX4_read_X4_doesRead
set_option maxRecDepth 20000 in
theorem ggX4_read_X4_answered : GoodIn wsX4_read wsX4_answered := goodIn_r _ [53, 54, 55, 56, 4, 57, 58, 59, 60, 61, 62, 63, 64, 6, 65, 66, 67, 68, 69, 70, 71, 72, 73, 74] (by decide +kernel) (by decide +kernel)
set_option maxRecDepth 20000 in
theorem gX4_read_X4_answered : GoodIn wsX4_read (wsV RX4 63 RX4 yX4_answered wsX4_answered) := goodIn_app (goodIn_of _ (by decide +kernel)) ggX4_read_X4_answered
theorem dX4_read_0 : decode cX4_read 0 = .ok (.aload_n 0, 1) := by decide +kernel
theorem dX4_read_1 : decode cX4_read 1 = .ok (.invokevirtual 56, 3) := by decide +kernel
theorem dX4_read_4 : decode cX4_read 4 = .ok (.aload_n 0, 1) := by decide +kernel
theorem dX4_read_5 : decode cX4_read 5 = .ok (.aload_n 0, 1) := by decide +kernel
theorem dX4_read_6 : decode cX4_read 6 = .ok (.iload_n 1, 1) := by decide +kernel
theorem dX4_read_7 : decode cX4_read 7 = .ok (.iload_n 2, 1) := by decide +kernel
theorem dX4_read_8 : decode cX4_read 8 = .ok (.iload_n 3, 1) := by decide +kernel
theorem dX4_read_9 : decode cX4_read 9 = .ok (.invokevirtual 92, 3) := by decide +kernel
theorem dX4_read_12 : decode cX4_read 12 = .ok (.invokevirtual 63, 3) := by decide +kernel
theorem dX4_read_15 : decode cX4_read 15 = .ok (.ireturn, 1) := by decide +kernel
set_option maxRecDepth 20000 in
theorem ggX4_doesWrite_X4_isClient : GoodIn wsX4_doesWrite wsX4_isClient := goodIn_r _ [6, 7, 8, 9, 5, 10] (by decide +kernel) (by decide +kernel)
set_option maxRecDepth 20000 in
theorem gX4_doesWrite_X4_isClient : GoodIn wsX4_doesWrite (va_wsS RX4 47 yX4_isClient wsX4_isClient) := goodIn_app (goodIn_of _ (by decide +kernel)) ggX4_doesWrite_X4_isClient
set_option maxRecDepth 20000 in
theorem ggX4_doesWrite_X4_isReplica : GoodIn wsX4_doesWrite wsX4_isReplica := goodIn_r _ [13, 14, 8, 9, 5, 10] (by decide +kernel) (by decide +kernel)
set_option maxRecDepth 20000 in
theorem gX4_doesWrite_X4_isReplica : GoodIn wsX4_doesWrite (va_wsS RX4 69 yX4_isReplica wsX4_isReplica) := goodIn_app (goodIn_of _ (by decide +kernel)) ggX4_doesWrite_X4_isReplica
set_option maxRecDepth 20000 in
theorem ggX4_doesWrite_X4_isKey : GoodIn wsX4_doesWrite wsX4_isKey := goodIn_r _ [17, 7, 8, 9, 5, 10] (by decide +kernel) (by decide +kernel)
set_option maxRecDepth 20000 in
theorem gX4_doesWrite_X4_isKey : GoodIn wsX4_doesWrite (va_wsS RX4 79 yX4_isKey wsX4_isKey) := goodIn_app (goodIn_of _ (by decide +kernel)) ggX4_doesWrite_X4_isKey
set_option maxRecDepth 20000 in
theorem ggX4_doesWrite_X4_in : GoodIn wsX4_doesWrite wsX4_in := goodIn_r _ [10] (by decide +kernel) (by decide +kernel)
set_option maxRecDepth 20000 in
theorem gX4_doesWrite_X4_in : GoodIn wsX4_doesWrite (va_wsS RX4 41 yX4_in wsX4_in) := goodIn_app (goodIn_of _ (by decide +kernel)) ggX4_doesWrite_X4_in
set_option maxRecDepth 20000 in
theorem ggX4_doesWrite_X4_breachesOfWrite : GoodIn wsX4_doesWrite wsX4_breachesOfWrite := goodIn_r _ [21, 22, 23, 24, 5, 25, 2, 34, 35, 36, 37, 38, 39, 40, 41, 42, 43] (by decide +kernel) (by decide +kernel)
set_option maxRecDepth 20000 in
theorem gX4_doesWrite_X4_breachesOfWrite : GoodIn wsX4_doesWrite (wsV RX4 98 RX4 yX4_breachesOfWrite wsX4_breachesOfWrite) := goodIn_app (goodIn_of _ (by decide +kernel)) ggX4_doesWrite_X4_breachesOfWrite
set_option maxRecDepth 20000 in
theorem ggX4_doesWrite_X4_guarantees : GoodIn wsX4_doesWrite wsX4_guarantees := goodIn_r _ [29, 2, 34, 35, 36, 37, 38, 39, 40, 41, 42, 43] (by decide +kernel) (by decide +kernel)
set_option maxRecDepth 20000 in
theorem gX4_doesWrite_X4_guarantees : GoodIn wsX4_doesWrite (wsV RX4 53 RX4 yX4_guarantees wsX4_guarantees) := goodIn_app (goodIn_of _ (by decide +kernel)) ggX4_doesWrite_X4_guarantees
set_option maxRecDepth 20000 in
theorem ggX4_doesWrite_X4_countsBreaches : GoodIn wsX4_doesWrite wsX4_countsBreaches := goodIn_r _ [33, 2, 34, 35, 36, 37, 38, 39, 40, 41, 42, 43] (by decide +kernel) (by decide +kernel)
set_option maxRecDepth 20000 in
theorem gX4_doesWrite_X4_countsBreaches : GoodIn wsX4_doesWrite (wsV RX4 85 RX4 yX4_countsBreaches wsX4_countsBreaches) := goodIn_app (goodIn_of _ (by decide +kernel)) ggX4_doesWrite_X4_countsBreaches
theorem dX4_doesWrite_0 : decode cX4_doesWrite 0 = .ok (.iload_n 1, 1) := by decide +kernel
theorem dX4_doesWrite_1 : decode cX4_doesWrite 1 = .ok (.invokestatic 47, 3) := by decide +kernel
theorem dX4_doesWrite_4 : decode cX4_doesWrite 4 = .ok (.ifCond .eq 30, 3) := by decide +kernel
theorem dX4_doesWrite_7 : decode cX4_doesWrite 7 = .ok (.iload_n 2, 1) := by decide +kernel
theorem dX4_doesWrite_8 : decode cX4_doesWrite 8 = .ok (.invokestatic 69, 3) := by decide +kernel
theorem dX4_doesWrite_11 : decode cX4_doesWrite 11 = .ok (.ifCond .eq 23, 3) := by decide +kernel
theorem dX4_doesWrite_14 : decode cX4_doesWrite 14 = .ok (.iload_n 3, 1) := by decide +kernel
theorem dX4_doesWrite_15 : decode cX4_doesWrite 15 = .ok (.invokestatic 79, 3) := by decide +kernel
theorem dX4_doesWrite_18 : decode cX4_doesWrite 18 = .ok (.ifCond .eq 16, 3) := by decide +kernel
theorem dX4_doesWrite_21 : decode cX4_doesWrite 21 = .ok (.iload 4, 2) := by decide +kernel
theorem dX4_doesWrite_23 : decode cX4_doesWrite 23 = .ok (.i2l, 1) := by decide +kernel
theorem dX4_doesWrite_24 : decode cX4_doesWrite 24 = .ok (.lconst 0, 1) := by decide +kernel
theorem dX4_doesWrite_25 : decode cX4_doesWrite 25 = .ok (.ldc2_w 96, 3) := by decide +kernel
theorem dX4_doesWrite_28 : decode cX4_doesWrite 28 = .ok (.invokestatic 41, 3) := by decide +kernel
theorem dX4_doesWrite_31 : decode cX4_doesWrite 31 = .ok (.ifCond .ne 6, 3) := by decide +kernel
theorem dX4_doesWrite_34 : decode cX4_doesWrite 34 = .ok (.bipush (-2), 2) := by decide +kernel
theorem dX4_doesWrite_36 : decode cX4_doesWrite 36 = .ok (.ireturn, 1) := by decide +kernel
theorem dX4_doesWrite_37 : decode cX4_doesWrite 37 = .ok (.aload_n 0, 1) := by decide +kernel
theorem dX4_doesWrite_38 : decode cX4_doesWrite 38 = .ok (.iload_n 1, 1) := by decide +kernel
theorem dX4_doesWrite_39 : decode cX4_doesWrite 39 = .ok (.iload_n 2, 1) := by decide +kernel
theorem dX4_doesWrite_40 : decode cX4_doesWrite 40 = .ok (.invokevirtual 98, 3) := by decide +kernel
theorem dX4_doesWrite_43 : decode cX4_doesWrite 43 = .ok (.istore 5, 2) := by decide +kernel
theorem dX4_doesWrite_45 : decode cX4_doesWrite 45 = .ok (.iload 5, 2) := by decide +kernel
theorem dX4_doesWrite_47 : decode cX4_doesWrite 47 = .ok (.aload_n 0, 1) := by decide +kernel
theorem dX4_doesWrite_48 : decode cX4_doesWrite 48 = .ok (.iload_n 1, 1) := by decide +kernel
theorem dX4_doesWrite_49 : decode cX4_doesWrite 49 = .ok (.invokevirtual 53, 3) := by decide +kernel
theorem dX4_doesWrite_52 : decode cX4_doesWrite 52 = .ok (.iand, 1) := by decide +kernel
theorem dX4_doesWrite_53 : decode cX4_doesWrite 53 = .ok (.ifCond .eq 6, 3) := by decide +kernel
theorem dX4_doesWrite_56 : decode cX4_doesWrite 56 = .ok (.bipush (-3), 2) := by decide +kernel
theorem dX4_doesWrite_58 : decode cX4_doesWrite 58 = .ok (.ireturn, 1) := by decide +kernel
theorem dX4_doesWrite_59 : decode cX4_doesWrite 59 = .ok (.aload_n 0, 1) := by decide +kernel
theorem dX4_doesWrite_60 : decode cX4_doesWrite 60 = .ok (.getfield 7, 3) := by decide +kernel
theorem dX4_doesWrite_63 : decode cX4_doesWrite 63 = .ok (.bipush 12, 2) := by decide +kernel
theorem dX4_doesWrite_65 : decode cX4_doesWrite 65 = .ok (.iaload, 1) := by decide +kernel
theorem dX4_doesWrite_66 : decode cX4_doesWrite 66 = .ok (.bipush 60, 2) := by decide +kernel
theorem dX4_doesWrite_68 : decode cX4_doesWrite 68 = .ok (.if_icmp .ne 6, 3) := by decide +kernel
theorem dX4_doesWrite_71 : decode cX4_doesWrite 71 = .ok (.bipush (-4), 2) := by decide +kernel
theorem dX4_doesWrite_73 : decode cX4_doesWrite 73 = .ok (.ireturn, 1) := by decide +kernel
theorem dX4_doesWrite_74 : decode cX4_doesWrite 74 = .ok (.aload_n 0, 1) := by decide +kernel
theorem dX4_doesWrite_75 : decode cX4_doesWrite 75 = .ok (.iload 5, 2) := by decide +kernel
theorem dX4_doesWrite_77 : decode cX4_doesWrite 77 = .ok (.invokevirtual 85, 3) := by decide +kernel
theorem dX4_doesWrite_80 : decode cX4_doesWrite 80 = .ok (.aload_n 0, 1) := by decide +kernel
theorem dX4_doesWrite_81 : decode cX4_doesWrite 81 = .ok (.getfield 7, 3) := by decide +kernel
theorem dX4_doesWrite_84 : decode cX4_doesWrite 84 = .ok (.bipush 9, 2) := by decide +kernel
theorem dX4_doesWrite_86 : decode cX4_doesWrite 86 = .ok (.iload_n 2, 1) := by decide +kernel
theorem dX4_doesWrite_87 : decode cX4_doesWrite 87 = .ok (.iadd, 1) := by decide +kernel
theorem dX4_doesWrite_88 : decode cX4_doesWrite 88 = .ok (.dup2, 1) := by decide +kernel
theorem dX4_doesWrite_89 : decode cX4_doesWrite 89 = .ok (.iaload, 1) := by decide +kernel
theorem dX4_doesWrite_90 : decode cX4_doesWrite 90 = .ok (.iconst 1, 1) := by decide +kernel
theorem dX4_doesWrite_91 : decode cX4_doesWrite 91 = .ok (.iadd, 1) := by decide +kernel
theorem dX4_doesWrite_92 : decode cX4_doesWrite 92 = .ok (.iastore, 1) := by decide +kernel
theorem dX4_doesWrite_93 : decode cX4_doesWrite 93 = .ok (.aload_n 0, 1) := by decide +kernel
theorem dX4_doesWrite_94 : decode cX4_doesWrite 94 = .ok (.getfield 7, 3) := by decide +kernel
theorem dX4_doesWrite_97 : decode cX4_doesWrite 97 = .ok (.iconst 4, 1) := by decide +kernel
theorem dX4_doesWrite_98 : decode cX4_doesWrite 98 = .ok (.iload_n 2, 1) := by decide +kernel
theorem dX4_doesWrite_99 : decode cX4_doesWrite 99 = .ok (.imul, 1) := by decide +kernel
theorem dX4_doesWrite_100 : decode cX4_doesWrite 100 = .ok (.dup2, 1) := by decide +kernel
theorem dX4_doesWrite_101 : decode cX4_doesWrite 101 = .ok (.iaload, 1) := by decide +kernel
theorem dX4_doesWrite_102 : decode cX4_doesWrite 102 = .ok (.iconst 1, 1) := by decide +kernel
theorem dX4_doesWrite_103 : decode cX4_doesWrite 103 = .ok (.iadd, 1) := by decide +kernel
theorem dX4_doesWrite_104 : decode cX4_doesWrite 104 = .ok (.iastore, 1) := by decide +kernel
theorem dX4_doesWrite_105 : decode cX4_doesWrite 105 = .ok (.aload_n 0, 1) := by decide +kernel
theorem dX4_doesWrite_106 : decode cX4_doesWrite 106 = .ok (.getfield 7, 3) := by decide +kernel
theorem dX4_doesWrite_109 : decode cX4_doesWrite 109 = .ok (.iconst 4, 1) := by decide +kernel
theorem dX4_doesWrite_110 : decode cX4_doesWrite 110 = .ok (.iload_n 2, 1) := by decide +kernel
theorem dX4_doesWrite_111 : decode cX4_doesWrite 111 = .ok (.imul, 1) := by decide +kernel
theorem dX4_doesWrite_112 : decode cX4_doesWrite 112 = .ok (.iaload, 1) := by decide +kernel
theorem dX4_doesWrite_113 : decode cX4_doesWrite 113 = .ok (.istore 6, 2) := by decide +kernel
theorem dX4_doesWrite_115 : decode cX4_doesWrite 115 = .ok (.bipush 13, 2) := by decide +kernel
theorem dX4_doesWrite_117 : decode cX4_doesWrite 117 = .ok (.iconst 5, 1) := by decide +kernel
theorem dX4_doesWrite_118 : decode cX4_doesWrite 118 = .ok (.aload_n 0, 1) := by decide +kernel
theorem dX4_doesWrite_119 : decode cX4_doesWrite 119 = .ok (.getfield 7, 3) := by decide +kernel
theorem dX4_doesWrite_122 : decode cX4_doesWrite 122 = .ok (.bipush 12, 2) := by decide +kernel
theorem dX4_doesWrite_124 : decode cX4_doesWrite 124 = .ok (.iaload, 1) := by decide +kernel
theorem dX4_doesWrite_125 : decode cX4_doesWrite 125 = .ok (.imul, 1) := by decide +kernel
theorem dX4_doesWrite_126 : decode cX4_doesWrite 126 = .ok (.iadd, 1) := by decide +kernel
theorem dX4_doesWrite_127 : decode cX4_doesWrite 127 = .ok (.istore 7, 2) := by decide +kernel
theorem dX4_doesWrite_129 : decode cX4_doesWrite 129 = .ok (.aload_n 0, 1) := by decide +kernel
theorem dX4_doesWrite_130 : decode cX4_doesWrite 130 = .ok (.getfield 7, 3) := by decide +kernel
theorem dX4_doesWrite_133 : decode cX4_doesWrite 133 = .ok (.iload 7, 2) := by decide +kernel
theorem dX4_doesWrite_135 : decode cX4_doesWrite 135 = .ok (.iload_n 2, 1) := by decide +kernel
theorem dX4_doesWrite_136 : decode cX4_doesWrite 136 = .ok (.iastore, 1) := by decide +kernel
theorem dX4_doesWrite_137 : decode cX4_doesWrite 137 = .ok (.aload_n 0, 1) := by decide +kernel
theorem dX4_doesWrite_138 : decode cX4_doesWrite 138 = .ok (.getfield 7, 3) := by decide +kernel
theorem dX4_doesWrite_141 : decode cX4_doesWrite 141 = .ok (.iload 7, 2) := by decide +kernel
theorem dX4_doesWrite_143 : decode cX4_doesWrite 143 = .ok (.iconst 1, 1) := by decide +kernel
theorem dX4_doesWrite_144 : decode cX4_doesWrite 144 = .ok (.iadd, 1) := by decide +kernel
theorem dX4_doesWrite_145 : decode cX4_doesWrite 145 = .ok (.iload 6, 2) := by decide +kernel
theorem dX4_doesWrite_147 : decode cX4_doesWrite 147 = .ok (.iastore, 1) := by decide +kernel
theorem dX4_doesWrite_148 : decode cX4_doesWrite 148 = .ok (.aload_n 0, 1) := by decide +kernel
theorem dX4_doesWrite_149 : decode cX4_doesWrite 149 = .ok (.getfield 7, 3) := by decide +kernel
theorem dX4_doesWrite_152 : decode cX4_doesWrite 152 = .ok (.iload 7, 2) := by decide +kernel
theorem dX4_doesWrite_154 : decode cX4_doesWrite 154 = .ok (.iconst 2, 1) := by decide +kernel
theorem dX4_doesWrite_155 : decode cX4_doesWrite 155 = .ok (.iadd, 1) := by decide +kernel
theorem dX4_doesWrite_156 : decode cX4_doesWrite 156 = .ok (.iload_n 3, 1) := by decide +kernel
theorem dX4_doesWrite_157 : decode cX4_doesWrite 157 = .ok (.iastore, 1) := by decide +kernel
theorem dX4_doesWrite_158 : decode cX4_doesWrite 158 = .ok (.aload_n 0, 1) := by decide +kernel
theorem dX4_doesWrite_159 : decode cX4_doesWrite 159 = .ok (.getfield 7, 3) := by decide +kernel
theorem dX4_doesWrite_162 : decode cX4_doesWrite 162 = .ok (.iload 7, 2) := by decide +kernel
theorem dX4_doesWrite_164 : decode cX4_doesWrite 164 = .ok (.iconst 3, 1) := by decide +kernel
theorem dX4_doesWrite_165 : decode cX4_doesWrite 165 = .ok (.iadd, 1) := by decide +kernel
theorem dX4_doesWrite_166 : decode cX4_doesWrite 166 = .ok (.iload 4, 2) := by decide +kernel
theorem dX4_doesWrite_168 : decode cX4_doesWrite 168 = .ok (.iastore, 1) := by decide +kernel
theorem dX4_doesWrite_169 : decode cX4_doesWrite 169 = .ok (.aload_n 0, 1) := by decide +kernel
theorem dX4_doesWrite_170 : decode cX4_doesWrite 170 = .ok (.getfield 7, 3) := by decide +kernel
theorem dX4_doesWrite_173 : decode cX4_doesWrite 173 = .ok (.iload 7, 2) := by decide +kernel
theorem dX4_doesWrite_175 : decode cX4_doesWrite 175 = .ok (.iconst 4, 1) := by decide +kernel
theorem dX4_doesWrite_176 : decode cX4_doesWrite 176 = .ok (.iadd, 1) := by decide +kernel
theorem dX4_doesWrite_177 : decode cX4_doesWrite 177 = .ok (.aload_n 0, 1) := by decide +kernel
theorem dX4_doesWrite_178 : decode cX4_doesWrite 178 = .ok (.getfield 7, 3) := by decide +kernel
theorem dX4_doesWrite_181 : decode cX4_doesWrite 181 = .ok (.bipush 9, 2) := by decide +kernel
theorem dX4_doesWrite_183 : decode cX4_doesWrite 183 = .ok (.iload_n 2, 1) := by decide +kernel
theorem dX4_doesWrite_184 : decode cX4_doesWrite 184 = .ok (.iadd, 1) := by decide +kernel
theorem dX4_doesWrite_185 : decode cX4_doesWrite 185 = .ok (.iaload, 1) := by decide +kernel
theorem dX4_doesWrite_186 : decode cX4_doesWrite 186 = .ok (.iastore, 1) := by decide +kernel
theorem dX4_doesWrite_187 : decode cX4_doesWrite 187 = .ok (.aload_n 0, 1) := by decide +kernel
theorem dX4_doesWrite_188 : decode cX4_doesWrite 188 = .ok (.getfield 7, 3) := by decide +kernel
theorem dX4_doesWrite_191 : decode cX4_doesWrite 191 = .ok (.bipush 12, 2) := by decide +kernel
theorem dX4_doesWrite_193 : decode cX4_doesWrite 193 = .ok (.dup2, 1) := by decide +kernel
theorem dX4_doesWrite_194 : decode cX4_doesWrite 194 = .ok (.iaload, 1) := by decide +kernel
theorem dX4_doesWrite_195 : decode cX4_doesWrite 195 = .ok (.iconst 1, 1) := by decide +kernel
theorem dX4_doesWrite_196 : decode cX4_doesWrite 196 = .ok (.iadd, 1) := by decide +kernel
theorem dX4_doesWrite_197 : decode cX4_doesWrite 197 = .ok (.iastore, 1) := by decide +kernel
theorem dX4_doesWrite_198 : decode cX4_doesWrite 198 = .ok (.aload_n 0, 1) := by decide +kernel
theorem dX4_doesWrite_199 : decode cX4_doesWrite 199 = .ok (.getfield 7, 3) := by decide +kernel
theorem dX4_doesWrite_202 : decode cX4_doesWrite 202 = .ok (.sipush 313, 3) := by decide +kernel
theorem dX4_doesWrite_205 : decode cX4_doesWrite 205 = .ok (.bipush 7, 2) := by decide +kernel
theorem dX4_doesWrite_207 : decode cX4_doesWrite 207 = .ok (.iload_n 1, 1) := by decide +kernel
theorem dX4_doesWrite_208 : decode cX4_doesWrite 208 = .ok (.imul, 1) := by decide +kernel
theorem dX4_doesWrite_209 : decode cX4_doesWrite 209 = .ok (.iadd, 1) := by decide +kernel
theorem dX4_doesWrite_210 : decode cX4_doesWrite 210 = .ok (.iconst 4, 1) := by decide +kernel
theorem dX4_doesWrite_211 : decode cX4_doesWrite 211 = .ok (.iadd, 1) := by decide +kernel
theorem dX4_doesWrite_212 : decode cX4_doesWrite 212 = .ok (.iload_n 2, 1) := by decide +kernel
theorem dX4_doesWrite_213 : decode cX4_doesWrite 213 = .ok (.iadd, 1) := by decide +kernel
theorem dX4_doesWrite_214 : decode cX4_doesWrite 214 = .ok (.iload 6, 2) := by decide +kernel
theorem dX4_doesWrite_216 : decode cX4_doesWrite 216 = .ok (.iastore, 1) := by decide +kernel
theorem dX4_doesWrite_217 : decode cX4_doesWrite 217 = .ok (.iload 6, 2) := by decide +kernel
theorem dX4_doesWrite_219 : decode cX4_doesWrite 219 = .ok (.ireturn, 1) := by decide +kernel
set_option maxRecDepth 20000 in
theorem ggX4_write_X4_putsAside : GoodIn wsX4_write wsX4_putsAside := goodIn_r _ [5, 6, 7, 58, 59, 60, 61, 62, 63, 64, 65, 66, 67] (by decide +kernel) (by decide +kernel)
set_option maxRecDepth 20000 in
theorem gX4_write_X4_putsAside : GoodIn wsX4_write (wsV RX4 56 RX4 yX4_putsAside wsX4_putsAside) := goodIn_app (goodIn_of _ (by decide +kernel)) ggX4_write_X4_putsAside
set_option maxRecDepth 20000 in
theorem ggX4_write_X4_doesWrite : GoodIn wsX4_write wsX4_doesWrite := goodIn_r _ [11, 12, 7, 13, 14, 4, 15, 16, 17, 18, 19, 20, 21, 22, 23, 24, 25, 26, 27, 28, 29, 30, 31, 32, 33, 34, 35, 36, 37, 38, 39, 40, 41, 42, 58, 59, 60, 61, 62, 63, 64, 65, 66, 67] (by decide +kernel) (by decide +kernel)
set_option maxRecDepth 20000 in
theorem gX4_write_X4_doesWrite : GoodIn wsX4_write (wsV RX4 101 RX4 yX4_doesWrite wsX4_doesWrite) := goodIn_app (goodIn_of _ (by decide +kernel)) ggX4_write_X4_doesWrite
set_option maxRecDepth 20000 in
theorem ggX4_write_X4_answered : GoodIn wsX4_write wsX4_answered := goodIn_r _ [46, 47, 48, 49, 4, 50, 51, 52, 53, 54, 55, 56, 57, 6, 58, 59, 60, 61, 62, 63, 64, 65, 66, 67] (by decide +kernel) (by decide +kernel)
set_option maxRecDepth 20000 in
theorem gX4_write_X4_answered : GoodIn wsX4_write (wsV RX4 63 RX4 yX4_answered wsX4_answered) := goodIn_app (goodIn_of _ (by decide +kernel)) ggX4_write_X4_answered
theorem dX4_write_0 : decode cX4_write 0 = .ok (.aload_n 0, 1) := by decide +kernel
theorem dX4_write_1 : decode cX4_write 1 = .ok (.invokevirtual 56, 3) := by decide +kernel
theorem dX4_write_4 : decode cX4_write 4 = .ok (.aload_n 0, 1) := by decide +kernel
theorem dX4_write_5 : decode cX4_write 5 = .ok (.aload_n 0, 1) := by decide +kernel
theorem dX4_write_6 : decode cX4_write 6 = .ok (.iload_n 1, 1) := by decide +kernel
theorem dX4_write_7 : decode cX4_write 7 = .ok (.iload_n 2, 1) := by decide +kernel
theorem dX4_write_8 : decode cX4_write 8 = .ok (.iload_n 3, 1) := by decide +kernel
theorem dX4_write_9 : decode cX4_write 9 = .ok (.iload 4, 2) := by decide +kernel
theorem dX4_write_11 : decode cX4_write 11 = .ok (.invokevirtual 101, 3) := by decide +kernel
theorem dX4_write_14 : decode cX4_write 14 = .ok (.invokevirtual 63, 3) := by decide +kernel
theorem dX4_write_17 : decode cX4_write 17 = .ok (.ireturn, 1) := by decide +kernel
set_option maxRecDepth 20000 in
theorem ggX4_doesSync_X4_isReplica : GoodIn wsX4_doesSync wsX4_isReplica := goodIn_r _ [5, 6, 7, 8, 4, 9] (by decide +kernel) (by decide +kernel)
set_option maxRecDepth 20000 in
theorem gX4_doesSync_X4_isReplica : GoodIn wsX4_doesSync (va_wsS RX4 69 yX4_isReplica wsX4_isReplica) := goodIn_app (goodIn_of _ (by decide +kernel)) ggX4_doesSync_X4_isReplica
theorem dX4_doesSync_0 : decode cX4_doesSync 0 = .ok (.iload_n 1, 1) := by decide +kernel
theorem dX4_doesSync_1 : decode cX4_doesSync 1 = .ok (.invokestatic 69, 3) := by decide +kernel
theorem dX4_doesSync_4 : decode cX4_doesSync 4 = .ok (.ifCond .eq 15, 3) := by decide +kernel
theorem dX4_doesSync_7 : decode cX4_doesSync 7 = .ok (.iload_n 2, 1) := by decide +kernel
theorem dX4_doesSync_8 : decode cX4_doesSync 8 = .ok (.invokestatic 69, 3) := by decide +kernel
theorem dX4_doesSync_11 : decode cX4_doesSync 11 = .ok (.ifCond .eq 8, 3) := by decide +kernel
theorem dX4_doesSync_14 : decode cX4_doesSync 14 = .ok (.iload_n 1, 1) := by decide +kernel
theorem dX4_doesSync_15 : decode cX4_doesSync 15 = .ok (.iload_n 2, 1) := by decide +kernel
theorem dX4_doesSync_16 : decode cX4_doesSync 16 = .ok (.if_icmp .ne 6, 3) := by decide +kernel
theorem dX4_doesSync_19 : decode cX4_doesSync 19 = .ok (.bipush (-2), 2) := by decide +kernel
theorem dX4_doesSync_21 : decode cX4_doesSync 21 = .ok (.ireturn, 1) := by decide +kernel
theorem dX4_doesSync_22 : decode cX4_doesSync 22 = .ok (.iconst 0, 1) := by decide +kernel
theorem dX4_doesSync_23 : decode cX4_doesSync 23 = .ok (.istore_n 3, 1) := by decide +kernel
theorem dX4_doesSync_24 : decode cX4_doesSync 24 = .ok (.iconst 0, 1) := by decide +kernel
theorem dX4_doesSync_25 : decode cX4_doesSync 25 = .ok (.istore 4, 2) := by decide +kernel
theorem dX4_doesSync_27 : decode cX4_doesSync 27 = .ok (.iload 4, 2) := by decide +kernel
theorem dX4_doesSync_29 : decode cX4_doesSync 29 = .ok (.aload_n 0, 1) := by decide +kernel
theorem dX4_doesSync_30 : decode cX4_doesSync 30 = .ok (.getfield 7, 3) := by decide +kernel
theorem dX4_doesSync_33 : decode cX4_doesSync 33 = .ok (.bipush 12, 2) := by decide +kernel
theorem dX4_doesSync_35 : decode cX4_doesSync 35 = .ok (.iaload, 1) := by decide +kernel
theorem dX4_doesSync_36 : decode cX4_doesSync 36 = .ok (.if_icmp .ge 125, 3) := by decide +kernel
theorem dX4_doesSync_39 : decode cX4_doesSync 39 = .ok (.bipush 13, 2) := by decide +kernel
theorem dX4_doesSync_41 : decode cX4_doesSync 41 = .ok (.iconst 5, 1) := by decide +kernel
theorem dX4_doesSync_42 : decode cX4_doesSync 42 = .ok (.iload 4, 2) := by decide +kernel
theorem dX4_doesSync_44 : decode cX4_doesSync 44 = .ok (.imul, 1) := by decide +kernel
theorem dX4_doesSync_45 : decode cX4_doesSync 45 = .ok (.iadd, 1) := by decide +kernel
theorem dX4_doesSync_46 : decode cX4_doesSync 46 = .ok (.istore 5, 2) := by decide +kernel
theorem dX4_doesSync_48 : decode cX4_doesSync 48 = .ok (.aload_n 0, 1) := by decide +kernel
theorem dX4_doesSync_49 : decode cX4_doesSync 49 = .ok (.getfield 7, 3) := by decide +kernel
theorem dX4_doesSync_52 : decode cX4_doesSync 52 = .ok (.iload 5, 2) := by decide +kernel
theorem dX4_doesSync_54 : decode cX4_doesSync 54 = .ok (.iconst 1, 1) := by decide +kernel
theorem dX4_doesSync_55 : decode cX4_doesSync 55 = .ok (.iadd, 1) := by decide +kernel
theorem dX4_doesSync_56 : decode cX4_doesSync 56 = .ok (.iaload, 1) := by decide +kernel
theorem dX4_doesSync_57 : decode cX4_doesSync 57 = .ok (.istore 6, 2) := by decide +kernel
theorem dX4_doesSync_59 : decode cX4_doesSync 59 = .ok (.iload 6, 2) := by decide +kernel
theorem dX4_doesSync_61 : decode cX4_doesSync 61 = .ok (.aload_n 0, 1) := by decide +kernel
theorem dX4_doesSync_62 : decode cX4_doesSync 62 = .ok (.getfield 7, 3) := by decide +kernel
theorem dX4_doesSync_65 : decode cX4_doesSync 65 = .ok (.iconst 3, 1) := by decide +kernel
theorem dX4_doesSync_66 : decode cX4_doesSync 66 = .ok (.iload_n 1, 1) := by decide +kernel
theorem dX4_doesSync_67 : decode cX4_doesSync 67 = .ok (.imul, 1) := by decide +kernel
theorem dX4_doesSync_68 : decode cX4_doesSync 68 = .ok (.aload_n 0, 1) := by decide +kernel
theorem dX4_doesSync_69 : decode cX4_doesSync 69 = .ok (.getfield 7, 3) := by decide +kernel
theorem dX4_doesSync_72 : decode cX4_doesSync 72 = .ok (.iload 5, 2) := by decide +kernel
theorem dX4_doesSync_74 : decode cX4_doesSync 74 = .ok (.iaload, 1) := by decide +kernel
theorem dX4_doesSync_75 : decode cX4_doesSync 75 = .ok (.iadd, 1) := by decide +kernel
theorem dX4_doesSync_76 : decode cX4_doesSync 76 = .ok (.iaload, 1) := by decide +kernel
theorem dX4_doesSync_77 : decode cX4_doesSync 77 = .ok (.if_icmp .gt 78, 3) := by decide +kernel
theorem dX4_doesSync_80 : decode cX4_doesSync 80 = .ok (.iload 6, 2) := by decide +kernel
theorem dX4_doesSync_82 : decode cX4_doesSync 82 = .ok (.aload_n 0, 1) := by decide +kernel
theorem dX4_doesSync_83 : decode cX4_doesSync 83 = .ok (.getfield 7, 3) := by decide +kernel
theorem dX4_doesSync_86 : decode cX4_doesSync 86 = .ok (.iconst 3, 1) := by decide +kernel
theorem dX4_doesSync_87 : decode cX4_doesSync 87 = .ok (.iload_n 2, 1) := by decide +kernel
theorem dX4_doesSync_88 : decode cX4_doesSync 88 = .ok (.imul, 1) := by decide +kernel
theorem dX4_doesSync_89 : decode cX4_doesSync 89 = .ok (.aload_n 0, 1) := by decide +kernel
theorem dX4_doesSync_90 : decode cX4_doesSync 90 = .ok (.getfield 7, 3) := by decide +kernel
theorem dX4_doesSync_93 : decode cX4_doesSync 93 = .ok (.iload 5, 2) := by decide +kernel
theorem dX4_doesSync_95 : decode cX4_doesSync 95 = .ok (.iaload, 1) := by decide +kernel
theorem dX4_doesSync_96 : decode cX4_doesSync 96 = .ok (.iadd, 1) := by decide +kernel
theorem dX4_doesSync_97 : decode cX4_doesSync 97 = .ok (.iaload, 1) := by decide +kernel
theorem dX4_doesSync_98 : decode cX4_doesSync 98 = .ok (.if_icmp .le 57, 3) := by decide +kernel
theorem dX4_doesSync_101 : decode cX4_doesSync 101 = .ok (.iinc 3 1, 3) := by decide +kernel
theorem dX4_doesSync_104 : decode cX4_doesSync 104 = .ok (.aload_n 0, 1) := by decide +kernel
theorem dX4_doesSync_105 : decode cX4_doesSync 105 = .ok (.getfield 7, 3) := by decide +kernel
theorem dX4_doesSync_108 : decode cX4_doesSync 108 = .ok (.bipush 9, 2) := by decide +kernel
theorem dX4_doesSync_110 : decode cX4_doesSync 110 = .ok (.iload_n 2, 1) := by decide +kernel
theorem dX4_doesSync_111 : decode cX4_doesSync 111 = .ok (.iadd, 1) := by decide +kernel
theorem dX4_doesSync_112 : decode cX4_doesSync 112 = .ok (.aload_n 0, 1) := by decide +kernel
theorem dX4_doesSync_113 : decode cX4_doesSync 113 = .ok (.getfield 7, 3) := by decide +kernel
theorem dX4_doesSync_116 : decode cX4_doesSync 116 = .ok (.iload 5, 2) := by decide +kernel
theorem dX4_doesSync_118 : decode cX4_doesSync 118 = .ok (.iconst 4, 1) := by decide +kernel
theorem dX4_doesSync_119 : decode cX4_doesSync 119 = .ok (.iadd, 1) := by decide +kernel
theorem dX4_doesSync_120 : decode cX4_doesSync 120 = .ok (.iaload, 1) := by decide +kernel
theorem dX4_doesSync_121 : decode cX4_doesSync 121 = .ok (.aload_n 0, 1) := by decide +kernel
theorem dX4_doesSync_122 : decode cX4_doesSync 122 = .ok (.getfield 7, 3) := by decide +kernel
theorem dX4_doesSync_125 : decode cX4_doesSync 125 = .ok (.bipush 9, 2) := by decide +kernel
theorem dX4_doesSync_127 : decode cX4_doesSync 127 = .ok (.iload_n 2, 1) := by decide +kernel
theorem dX4_doesSync_128 : decode cX4_doesSync 128 = .ok (.iadd, 1) := by decide +kernel
theorem dX4_doesSync_129 : decode cX4_doesSync 129 = .ok (.iaload, 1) := by decide +kernel
theorem dX4_doesSync_130 : decode cX4_doesSync 130 = .ok (.if_icmp .le 15, 3) := by decide +kernel
theorem dX4_doesSync_133 : decode cX4_doesSync 133 = .ok (.aload_n 0, 1) := by decide +kernel
theorem dX4_doesSync_134 : decode cX4_doesSync 134 = .ok (.getfield 7, 3) := by decide +kernel
theorem dX4_doesSync_137 : decode cX4_doesSync 137 = .ok (.iload 5, 2) := by decide +kernel
theorem dX4_doesSync_139 : decode cX4_doesSync 139 = .ok (.iconst 4, 1) := by decide +kernel
theorem dX4_doesSync_140 : decode cX4_doesSync 140 = .ok (.iadd, 1) := by decide +kernel
theorem dX4_doesSync_141 : decode cX4_doesSync 141 = .ok (.iaload, 1) := by decide +kernel
theorem dX4_doesSync_142 : decode cX4_doesSync 142 = .ok (.goto 12, 3) := by decide +kernel
theorem dX4_doesSync_145 : decode cX4_doesSync 145 = .ok (.aload_n 0, 1) := by decide +kernel
theorem dX4_doesSync_146 : decode cX4_doesSync 146 = .ok (.getfield 7, 3) := by decide +kernel
theorem dX4_doesSync_149 : decode cX4_doesSync 149 = .ok (.bipush 9, 2) := by decide +kernel
theorem dX4_doesSync_151 : decode cX4_doesSync 151 = .ok (.iload_n 2, 1) := by decide +kernel
theorem dX4_doesSync_152 : decode cX4_doesSync 152 = .ok (.iadd, 1) := by decide +kernel
theorem dX4_doesSync_153 : decode cX4_doesSync 153 = .ok (.iaload, 1) := by decide +kernel
theorem dX4_doesSync_154 : decode cX4_doesSync 154 = .ok (.iastore, 1) := by decide +kernel
theorem dX4_doesSync_155 : decode cX4_doesSync 155 = .ok (.iinc 4 1, 3) := by decide +kernel
theorem dX4_doesSync_158 : decode cX4_doesSync 158 = .ok (.goto (-131), 3) := by decide +kernel
theorem dX4_doesSync_161 : decode cX4_doesSync 161 = .ok (.iconst 0, 1) := by decide +kernel
theorem dX4_doesSync_162 : decode cX4_doesSync 162 = .ok (.istore 4, 2) := by decide +kernel
theorem dX4_doesSync_164 : decode cX4_doesSync 164 = .ok (.iload 4, 2) := by decide +kernel
theorem dX4_doesSync_166 : decode cX4_doesSync 166 = .ok (.iconst 3, 1) := by decide +kernel
theorem dX4_doesSync_167 : decode cX4_doesSync 167 = .ok (.if_icmp .ge 65, 3) := by decide +kernel
theorem dX4_doesSync_170 : decode cX4_doesSync 170 = .ok (.aload_n 0, 1) := by decide +kernel
theorem dX4_doesSync_171 : decode cX4_doesSync 171 = .ok (.getfield 7, 3) := by decide +kernel
theorem dX4_doesSync_174 : decode cX4_doesSync 174 = .ok (.iconst 3, 1) := by decide +kernel
theorem dX4_doesSync_175 : decode cX4_doesSync 175 = .ok (.iload_n 1, 1) := by decide +kernel
theorem dX4_doesSync_176 : decode cX4_doesSync 176 = .ok (.imul, 1) := by decide +kernel
theorem dX4_doesSync_177 : decode cX4_doesSync 177 = .ok (.iload 4, 2) := by decide +kernel
theorem dX4_doesSync_179 : decode cX4_doesSync 179 = .ok (.iadd, 1) := by decide +kernel
theorem dX4_doesSync_180 : decode cX4_doesSync 180 = .ok (.iaload, 1) := by decide +kernel
theorem dX4_doesSync_181 : decode cX4_doesSync 181 = .ok (.istore 5, 2) := by decide +kernel
theorem dX4_doesSync_183 : decode cX4_doesSync 183 = .ok (.aload_n 0, 1) := by decide +kernel
theorem dX4_doesSync_184 : decode cX4_doesSync 184 = .ok (.getfield 7, 3) := by decide +kernel
theorem dX4_doesSync_187 : decode cX4_doesSync 187 = .ok (.iconst 3, 1) := by decide +kernel
theorem dX4_doesSync_188 : decode cX4_doesSync 188 = .ok (.iload_n 2, 1) := by decide +kernel
theorem dX4_doesSync_189 : decode cX4_doesSync 189 = .ok (.imul, 1) := by decide +kernel
theorem dX4_doesSync_190 : decode cX4_doesSync 190 = .ok (.iload 4, 2) := by decide +kernel
theorem dX4_doesSync_192 : decode cX4_doesSync 192 = .ok (.iadd, 1) := by decide +kernel
theorem dX4_doesSync_193 : decode cX4_doesSync 193 = .ok (.iload 5, 2) := by decide +kernel
theorem dX4_doesSync_195 : decode cX4_doesSync 195 = .ok (.aload_n 0, 1) := by decide +kernel
theorem dX4_doesSync_196 : decode cX4_doesSync 196 = .ok (.getfield 7, 3) := by decide +kernel
theorem dX4_doesSync_199 : decode cX4_doesSync 199 = .ok (.iconst 3, 1) := by decide +kernel
theorem dX4_doesSync_200 : decode cX4_doesSync 200 = .ok (.iload_n 2, 1) := by decide +kernel
theorem dX4_doesSync_201 : decode cX4_doesSync 201 = .ok (.imul, 1) := by decide +kernel
theorem dX4_doesSync_202 : decode cX4_doesSync 202 = .ok (.iload 4, 2) := by decide +kernel
theorem dX4_doesSync_204 : decode cX4_doesSync 204 = .ok (.iadd, 1) := by decide +kernel
theorem dX4_doesSync_205 : decode cX4_doesSync 205 = .ok (.iaload, 1) := by decide +kernel
theorem dX4_doesSync_206 : decode cX4_doesSync 206 = .ok (.if_icmp .le 8, 3) := by decide +kernel
theorem dX4_doesSync_209 : decode cX4_doesSync 209 = .ok (.iload 5, 2) := by decide +kernel
theorem dX4_doesSync_211 : decode cX4_doesSync 211 = .ok (.goto 14, 3) := by decide +kernel
theorem dX4_doesSync_214 : decode cX4_doesSync 214 = .ok (.aload_n 0, 1) := by decide +kernel
theorem dX4_doesSync_215 : decode cX4_doesSync 215 = .ok (.getfield 7, 3) := by decide +kernel
theorem dX4_doesSync_218 : decode cX4_doesSync 218 = .ok (.iconst 3, 1) := by decide +kernel
theorem dX4_doesSync_219 : decode cX4_doesSync 219 = .ok (.iload_n 2, 1) := by decide +kernel
theorem dX4_doesSync_220 : decode cX4_doesSync 220 = .ok (.imul, 1) := by decide +kernel
theorem dX4_doesSync_221 : decode cX4_doesSync 221 = .ok (.iload 4, 2) := by decide +kernel
theorem dX4_doesSync_223 : decode cX4_doesSync 223 = .ok (.iadd, 1) := by decide +kernel
theorem dX4_doesSync_224 : decode cX4_doesSync 224 = .ok (.iaload, 1) := by decide +kernel
theorem dX4_doesSync_225 : decode cX4_doesSync 225 = .ok (.iastore, 1) := by decide +kernel
theorem dX4_doesSync_226 : decode cX4_doesSync 226 = .ok (.iinc 4 1, 3) := by decide +kernel
theorem dX4_doesSync_229 : decode cX4_doesSync 229 = .ok (.goto (-65), 3) := by decide +kernel
theorem dX4_doesSync_232 : decode cX4_doesSync 232 = .ok (.iload_n 3, 1) := by decide +kernel
theorem dX4_doesSync_233 : decode cX4_doesSync 233 = .ok (.ireturn, 1) := by decide +kernel
set_option maxRecDepth 20000 in
theorem ggX4_sync_X4_putsAside : GoodIn wsX4_sync wsX4_putsAside := goodIn_r _ [5, 6, 7, 34, 35, 36, 37, 38, 39, 40, 41, 42, 43] (by decide +kernel) (by decide +kernel)
set_option maxRecDepth 20000 in
theorem gX4_sync_X4_putsAside : GoodIn wsX4_sync (wsV RX4 56 RX4 yX4_putsAside wsX4_putsAside) := goodIn_app (goodIn_of _ (by decide +kernel)) ggX4_sync_X4_putsAside
set_option maxRecDepth 20000 in
theorem ggX4_sync_X4_doesSync : GoodIn wsX4_sync wsX4_doesSync := goodIn_r _ [11, 7, 12, 13, 4, 14, 15, 16, 17, 18, 34, 35, 36, 37, 38, 39, 40, 41, 42, 43] (by decide +kernel) (by decide +kernel)
set_option maxRecDepth 20000 in
theorem gX4_sync_X4_doesSync : GoodIn wsX4_sync (wsV RX4 105 RX4 yX4_doesSync wsX4_doesSync) := goodIn_app (goodIn_of _ (by decide +kernel)) ggX4_sync_X4_doesSync
set_option maxRecDepth 20000 in
theorem ggX4_sync_X4_answered : GoodIn wsX4_sync wsX4_answered := goodIn_r _ [22, 23, 24, 25, 4, 26, 27, 28, 29, 30, 31, 32, 33, 6, 34, 35, 36, 37, 38, 39, 40, 41, 42, 43] (by decide +kernel) (by decide +kernel)
set_option maxRecDepth 20000 in
theorem gX4_sync_X4_answered : GoodIn wsX4_sync (wsV RX4 63 RX4 yX4_answered wsX4_answered) := goodIn_app (goodIn_of _ (by decide +kernel)) ggX4_sync_X4_answered
theorem dX4_sync_0 : decode cX4_sync 0 = .ok (.aload_n 0, 1) := by decide +kernel
theorem dX4_sync_1 : decode cX4_sync 1 = .ok (.invokevirtual 56, 3) := by decide +kernel
theorem dX4_sync_4 : decode cX4_sync 4 = .ok (.aload_n 0, 1) := by decide +kernel
theorem dX4_sync_5 : decode cX4_sync 5 = .ok (.aload_n 0, 1) := by decide +kernel
theorem dX4_sync_6 : decode cX4_sync 6 = .ok (.iload_n 1, 1) := by decide +kernel
theorem dX4_sync_7 : decode cX4_sync 7 = .ok (.iload_n 2, 1) := by decide +kernel
theorem dX4_sync_8 : decode cX4_sync 8 = .ok (.invokevirtual 105, 3) := by decide +kernel
theorem dX4_sync_11 : decode cX4_sync 11 = .ok (.invokevirtual 63, 3) := by decide +kernel
theorem dX4_sync_14 : decode cX4_sync 14 = .ok (.ireturn, 1) := by decide +kernel
set_option maxRecDepth 20000 in
theorem ggX4_readBreaches_X4_isClient : GoodIn wsX4_readBreaches wsX4_isClient := goodIn_r _ [4, 5, 6, 7, 3, 8] (by decide +kernel) (by decide +kernel)
set_option maxRecDepth 20000 in
theorem gX4_readBreaches_X4_isClient : GoodIn wsX4_readBreaches (va_wsS RX4 47 yX4_isClient wsX4_isClient) := goodIn_app (goodIn_of _ (by decide +kernel)) ggX4_readBreaches_X4_isClient
set_option maxRecDepth 20000 in
theorem ggX4_readBreaches_X4_isReplica : GoodIn wsX4_readBreaches wsX4_isReplica := goodIn_r _ [11, 12, 6, 7, 3, 8] (by decide +kernel) (by decide +kernel)
set_option maxRecDepth 20000 in
theorem gX4_readBreaches_X4_isReplica : GoodIn wsX4_readBreaches (va_wsS RX4 69 yX4_isReplica wsX4_isReplica) := goodIn_app (goodIn_of _ (by decide +kernel)) ggX4_readBreaches_X4_isReplica
set_option maxRecDepth 20000 in
theorem ggX4_readBreaches_X4_breachesOfRead : GoodIn wsX4_readBreaches wsX4_breachesOfRead := goodIn_r _ [16, 17, 18, 19, 3, 20, 21, 27, 28, 29, 30, 31, 32, 33, 34, 35, 36] (by decide +kernel) (by decide +kernel)
set_option maxRecDepth 20000 in
theorem gX4_readBreaches_X4_breachesOfRead : GoodIn wsX4_readBreaches (wsV RX4 82 RX4 yX4_breachesOfRead wsX4_breachesOfRead) := goodIn_app (goodIn_of _ (by decide +kernel)) ggX4_readBreaches_X4_breachesOfRead
set_option maxRecDepth 20000 in
theorem ggX4_readBreaches_X4_error : GoodIn wsX4_readBreaches wsX4_error := goodIn_r _ [25, 26, 27, 28, 29, 30, 31, 32, 33, 34, 35, 36] (by decide +kernel) (by decide +kernel)
set_option maxRecDepth 20000 in
theorem gX4_readBreaches_X4_error : GoodIn wsX4_readBreaches (wsV RX4 28 RX4 yX4_error wsX4_error) := goodIn_app (goodIn_of _ (by decide +kernel)) ggX4_readBreaches_X4_error
theorem dX4_readBreaches_0 : decode cX4_readBreaches 0 = .ok (.iload_n 1, 1) := by decide +kernel
theorem dX4_readBreaches_1 : decode cX4_readBreaches 1 = .ok (.invokestatic 47, 3) := by decide +kernel
theorem dX4_readBreaches_4 : decode cX4_readBreaches 4 = .ok (.ifCond .eq 19, 3) := by decide +kernel
theorem dX4_readBreaches_7 : decode cX4_readBreaches 7 = .ok (.iload_n 2, 1) := by decide +kernel
theorem dX4_readBreaches_8 : decode cX4_readBreaches 8 = .ok (.invokestatic 69, 3) := by decide +kernel
theorem dX4_readBreaches_11 : decode cX4_readBreaches 11 = .ok (.ifCond .eq 12, 3) := by decide +kernel
theorem dX4_readBreaches_14 : decode cX4_readBreaches 14 = .ok (.aload_n 0, 1) := by decide +kernel
theorem dX4_readBreaches_15 : decode cX4_readBreaches 15 = .ok (.iload_n 1, 1) := by decide +kernel
theorem dX4_readBreaches_16 : decode cX4_readBreaches 16 = .ok (.iload_n 2, 1) := by decide +kernel
theorem dX4_readBreaches_17 : decode cX4_readBreaches 17 = .ok (.invokevirtual 82, 3) := by decide +kernel
theorem dX4_readBreaches_20 : decode cX4_readBreaches 20 = .ok (.goto 9, 3) := by decide +kernel
theorem dX4_readBreaches_23 : decode cX4_readBreaches 23 = .ok (.aload_n 0, 1) := by decide +kernel
theorem dX4_readBreaches_24 : decode cX4_readBreaches 24 = .ok (.bipush (-2), 2) := by decide +kernel
theorem dX4_readBreaches_26 : decode cX4_readBreaches 26 = .ok (.invokevirtual 28, 3) := by decide +kernel
theorem dX4_readBreaches_29 : decode cX4_readBreaches 29 = .ok (.ireturn, 1) := by decide +kernel
set_option maxRecDepth 20000 in
theorem ggX4_writeBreaches_X4_isClient : GoodIn wsX4_writeBreaches wsX4_isClient := goodIn_r _ [4, 5, 6, 7, 3, 8] (by decide +kernel) (by decide +kernel)
set_option maxRecDepth 20000 in
theorem gX4_writeBreaches_X4_isClient : GoodIn wsX4_writeBreaches (va_wsS RX4 47 yX4_isClient wsX4_isClient) := goodIn_app (goodIn_of _ (by decide +kernel)) ggX4_writeBreaches_X4_isClient
set_option maxRecDepth 20000 in
theorem ggX4_writeBreaches_X4_isReplica : GoodIn wsX4_writeBreaches wsX4_isReplica := goodIn_r _ [11, 12, 6, 7, 3, 8] (by decide +kernel) (by decide +kernel)
set_option maxRecDepth 20000 in
theorem gX4_writeBreaches_X4_isReplica : GoodIn wsX4_writeBreaches (va_wsS RX4 69 yX4_isReplica wsX4_isReplica) := goodIn_app (goodIn_of _ (by decide +kernel)) ggX4_writeBreaches_X4_isReplica
set_option maxRecDepth 20000 in
theorem ggX4_writeBreaches_X4_breachesOfWrite : GoodIn wsX4_writeBreaches wsX4_breachesOfWrite := goodIn_r _ [16, 17, 18, 19, 3, 20, 21, 27, 28, 29, 30, 31, 32, 33, 34, 35, 36] (by decide +kernel) (by decide +kernel)
set_option maxRecDepth 20000 in
theorem gX4_writeBreaches_X4_breachesOfWrite : GoodIn wsX4_writeBreaches (wsV RX4 98 RX4 yX4_breachesOfWrite wsX4_breachesOfWrite) := goodIn_app (goodIn_of _ (by decide +kernel)) ggX4_writeBreaches_X4_breachesOfWrite
set_option maxRecDepth 20000 in
theorem ggX4_writeBreaches_X4_error : GoodIn wsX4_writeBreaches wsX4_error := goodIn_r _ [25, 26, 27, 28, 29, 30, 31, 32, 33, 34, 35, 36] (by decide +kernel) (by decide +kernel)
set_option maxRecDepth 20000 in
theorem gX4_writeBreaches_X4_error : GoodIn wsX4_writeBreaches (wsV RX4 28 RX4 yX4_error wsX4_error) := goodIn_app (goodIn_of _ (by decide +kernel)) ggX4_writeBreaches_X4_error
theorem dX4_writeBreaches_0 : decode cX4_writeBreaches 0 = .ok (.iload_n 1, 1) := by decide +kernel
theorem dX4_writeBreaches_1 : decode cX4_writeBreaches 1 = .ok (.invokestatic 47, 3) := by decide +kernel
theorem dX4_writeBreaches_4 : decode cX4_writeBreaches 4 = .ok (.ifCond .eq 19, 3) := by decide +kernel
theorem dX4_writeBreaches_7 : decode cX4_writeBreaches 7 = .ok (.iload_n 2, 1) := by decide +kernel
theorem dX4_writeBreaches_8 : decode cX4_writeBreaches 8 = .ok (.invokestatic 69, 3) := by decide +kernel
theorem dX4_writeBreaches_11 : decode cX4_writeBreaches 11 = .ok (.ifCond .eq 12, 3) := by decide +kernel
theorem dX4_writeBreaches_14 : decode cX4_writeBreaches 14 = .ok (.aload_n 0, 1) := by decide +kernel
theorem dX4_writeBreaches_15 : decode cX4_writeBreaches 15 = .ok (.iload_n 1, 1) := by decide +kernel
theorem dX4_writeBreaches_16 : decode cX4_writeBreaches 16 = .ok (.iload_n 2, 1) := by decide +kernel
theorem dX4_writeBreaches_17 : decode cX4_writeBreaches 17 = .ok (.invokevirtual 98, 3) := by decide +kernel
theorem dX4_writeBreaches_20 : decode cX4_writeBreaches 20 = .ok (.goto 9, 3) := by decide +kernel
theorem dX4_writeBreaches_23 : decode cX4_writeBreaches 23 = .ok (.aload_n 0, 1) := by decide +kernel
theorem dX4_writeBreaches_24 : decode cX4_writeBreaches 24 = .ok (.bipush (-2), 2) := by decide +kernel
theorem dX4_writeBreaches_26 : decode cX4_writeBreaches 26 = .ok (.invokevirtual 28, 3) := by decide +kernel
theorem dX4_writeBreaches_29 : decode cX4_writeBreaches 29 = .ok (.ireturn, 1) := by decide +kernel
set_option maxRecDepth 20000 in
theorem ggX4_readableReplica_X4_isClient : GoodIn wsX4_readableReplica wsX4_isClient := goodIn_r _ [4, 5, 6, 7, 3, 8] (by decide +kernel) (by decide +kernel)
set_option maxRecDepth 20000 in
theorem gX4_readableReplica_X4_isClient : GoodIn wsX4_readableReplica (va_wsS RX4 47 yX4_isClient wsX4_isClient) := goodIn_app (goodIn_of _ (by decide +kernel)) ggX4_readableReplica_X4_isClient
set_option maxRecDepth 20000 in
theorem ggX4_readableReplica_X4_error : GoodIn wsX4_readableReplica wsX4_error := goodIn_r _ [12, 13, 27, 28, 29, 30, 31, 32, 33, 34, 35, 36] (by decide +kernel) (by decide +kernel)
set_option maxRecDepth 20000 in
theorem gX4_readableReplica_X4_error : GoodIn wsX4_readableReplica (wsV RX4 28 RX4 yX4_error wsX4_error) := goodIn_app (goodIn_of _ (by decide +kernel)) ggX4_readableReplica_X4_error
set_option maxRecDepth 20000 in
theorem ggX4_readableReplica_X4_breachesOfRead : GoodIn wsX4_readableReplica wsX4_breachesOfRead := goodIn_r _ [17, 18, 19, 20, 3, 21, 22, 27, 28, 29, 30, 31, 32, 33, 34, 35, 36] (by decide +kernel) (by decide +kernel)
set_option maxRecDepth 20000 in
theorem gX4_readableReplica_X4_breachesOfRead : GoodIn wsX4_readableReplica (wsV RX4 82 RX4 yX4_breachesOfRead wsX4_breachesOfRead) := goodIn_app (goodIn_of _ (by decide +kernel)) ggX4_readableReplica_X4_breachesOfRead
set_option maxRecDepth 20000 in
theorem ggX4_readableReplica_X4_guarantees : GoodIn wsX4_readableReplica wsX4_guarantees := goodIn_r _ [26, 22, 27, 28, 29, 30, 31, 32, 33, 34, 35, 36] (by decide +kernel) (by decide +kernel)
set_option maxRecDepth 20000 in
theorem gX4_readableReplica_X4_guarantees : GoodIn wsX4_readableReplica (wsV RX4 53 RX4 yX4_guarantees wsX4_guarantees) := goodIn_app (goodIn_of _ (by decide +kernel)) ggX4_readableReplica_X4_guarantees
theorem dX4_readableReplica_0 : decode cX4_readableReplica 0 = .ok (.iload_n 1, 1) := by decide +kernel
theorem dX4_readableReplica_1 : decode cX4_readableReplica 1 = .ok (.invokestatic 47, 3) := by decide +kernel
theorem dX4_readableReplica_4 : decode cX4_readableReplica 4 = .ok (.ifCond .ne 10, 3) := by decide +kernel
theorem dX4_readableReplica_7 : decode cX4_readableReplica 7 = .ok (.aload_n 0, 1) := by decide +kernel
theorem dX4_readableReplica_8 : decode cX4_readableReplica 8 = .ok (.bipush (-2), 2) := by decide +kernel
theorem dX4_readableReplica_10 : decode cX4_readableReplica 10 = .ok (.invokevirtual 28, 3) := by decide +kernel
theorem dX4_readableReplica_13 : decode cX4_readableReplica 13 = .ok (.ireturn, 1) := by decide +kernel
theorem dX4_readableReplica_14 : decode cX4_readableReplica 14 = .ok (.iconst 0, 1) := by decide +kernel
theorem dX4_readableReplica_15 : decode cX4_readableReplica 15 = .ok (.istore_n 2, 1) := by decide +kernel
theorem dX4_readableReplica_16 : decode cX4_readableReplica 16 = .ok (.iload_n 2, 1) := by decide +kernel
theorem dX4_readableReplica_17 : decode cX4_readableReplica 17 = .ok (.iconst 3, 1) := by decide +kernel
theorem dX4_readableReplica_18 : decode cX4_readableReplica 18 = .ok (.if_icmp .ge 26, 3) := by decide +kernel
theorem dX4_readableReplica_21 : decode cX4_readableReplica 21 = .ok (.aload_n 0, 1) := by decide +kernel
theorem dX4_readableReplica_22 : decode cX4_readableReplica 22 = .ok (.iload_n 1, 1) := by decide +kernel
theorem dX4_readableReplica_23 : decode cX4_readableReplica 23 = .ok (.iload_n 2, 1) := by decide +kernel
theorem dX4_readableReplica_24 : decode cX4_readableReplica 24 = .ok (.invokevirtual 82, 3) := by decide +kernel
theorem dX4_readableReplica_27 : decode cX4_readableReplica 27 = .ok (.aload_n 0, 1) := by decide +kernel
theorem dX4_readableReplica_28 : decode cX4_readableReplica 28 = .ok (.iload_n 1, 1) := by decide +kernel
theorem dX4_readableReplica_29 : decode cX4_readableReplica 29 = .ok (.invokevirtual 53, 3) := by decide +kernel
theorem dX4_readableReplica_32 : decode cX4_readableReplica 32 = .ok (.iand, 1) := by decide +kernel
theorem dX4_readableReplica_33 : decode cX4_readableReplica 33 = .ok (.ifCond .ne 5, 3) := by decide +kernel
theorem dX4_readableReplica_36 : decode cX4_readableReplica 36 = .ok (.iload_n 2, 1) := by decide +kernel
theorem dX4_readableReplica_37 : decode cX4_readableReplica 37 = .ok (.ireturn, 1) := by decide +kernel
theorem dX4_readableReplica_38 : decode cX4_readableReplica 38 = .ok (.iinc 2 1, 3) := by decide +kernel
theorem dX4_readableReplica_41 : decode cX4_readableReplica 41 = .ok (.goto (-25), 3) := by decide +kernel
theorem dX4_readableReplica_44 : decode cX4_readableReplica 44 = .ok (.iconst (-1), 1) := by decide +kernel
theorem dX4_readableReplica_45 : decode cX4_readableReplica 45 = .ok (.ireturn, 1) := by decide +kernel
set_option maxRecDepth 20000 in
theorem ggX4_writableReplica_X4_isClient : GoodIn wsX4_writableReplica wsX4_isClient := goodIn_r _ [4, 5, 6, 7, 3, 8] (by decide +kernel) (by decide +kernel)
set_option maxRecDepth 20000 in
theorem gX4_writableReplica_X4_isClient : GoodIn wsX4_writableReplica (va_wsS RX4 47 yX4_isClient wsX4_isClient) := goodIn_app (goodIn_of _ (by decide +kernel)) ggX4_writableReplica_X4_isClient
set_option maxRecDepth 20000 in
theorem ggX4_writableReplica_X4_error : GoodIn wsX4_writableReplica wsX4_error := goodIn_r _ [12, 13, 27, 28, 29, 30, 31, 32, 33, 34, 35, 36] (by decide +kernel) (by decide +kernel)
set_option maxRecDepth 20000 in
theorem gX4_writableReplica_X4_error : GoodIn wsX4_writableReplica (wsV RX4 28 RX4 yX4_error wsX4_error) := goodIn_app (goodIn_of _ (by decide +kernel)) ggX4_writableReplica_X4_error
set_option maxRecDepth 20000 in
theorem ggX4_writableReplica_X4_breachesOfWrite : GoodIn wsX4_writableReplica wsX4_breachesOfWrite := goodIn_r _ [17, 18, 19, 20, 3, 21, 22, 27, 28, 29, 30, 31, 32, 33, 34, 35, 36] (by decide +kernel) (by decide +kernel)
set_option maxRecDepth 20000 in
theorem gX4_writableReplica_X4_breachesOfWrite : GoodIn wsX4_writableReplica (wsV RX4 98 RX4 yX4_breachesOfWrite wsX4_breachesOfWrite) := goodIn_app (goodIn_of _ (by decide +kernel)) ggX4_writableReplica_X4_breachesOfWrite
end
section
set_option maxRecDepth 20000 in
theorem ggX4_writableReplica_X4_guarantees : GoodIn wsX4_writableReplica wsX4_guarantees := goodIn_r _ [26, 22, 27, 28, 29, 30, 31, 32, 33, 34, 35, 36] (by decide +kernel) (by decide +kernel)
set_option maxRecDepth 20000 in
theorem gX4_writableReplica_X4_guarantees : GoodIn wsX4_writableReplica (wsV RX4 53 RX4 yX4_guarantees wsX4_guarantees) := goodIn_app (goodIn_of _ (by decide +kernel)) ggX4_writableReplica_X4_guarantees
theorem dX4_writableReplica_0 : decode cX4_writableReplica 0 = .ok (.iload_n 1, 1) := by decide +kernel
theorem dX4_writableReplica_1 : decode cX4_writableReplica 1 = .ok (.invokestatic 47, 3) := by decide +kernel
theorem dX4_writableReplica_4 : decode cX4_writableReplica 4 = .ok (.ifCond .ne 10, 3) := by decide +kernel
theorem dX4_writableReplica_7 : decode cX4_writableReplica 7 = .ok (.aload_n 0, 1) := by decide +kernel
theorem dX4_writableReplica_8 : decode cX4_writableReplica 8 = .ok (.bipush (-2), 2) := by decide +kernel
theorem dX4_writableReplica_10 : decode cX4_writableReplica 10 = .ok (.invokevirtual 28, 3) := by decide +kernel
theorem dX4_writableReplica_13 : decode cX4_writableReplica 13 = .ok (.ireturn, 1) := by decide +kernel
theorem dX4_writableReplica_14 : decode cX4_writableReplica 14 = .ok (.iconst 0, 1) := by decide +kernel
theorem dX4_writableReplica_15 : decode cX4_writableReplica 15 = .ok (.istore_n 2, 1) := by decide +kernel
theorem dX4_writableReplica_16 : decode cX4_writableReplica 16 = .ok (.iload_n 2, 1) := by decide +kernel
theorem dX4_writableReplica_17 : decode cX4_writableReplica 17 = .ok (.iconst 3, 1) := by decide +kernel
theorem dX4_writableReplica_18 : decode cX4_writableReplica 18 = .ok (.if_icmp .ge 26, 3) := by decide +kernel
theorem dX4_writableReplica_21 : decode cX4_writableReplica 21 = .ok (.aload_n 0, 1) := by decide +kernel
theorem dX4_writableReplica_22 : decode cX4_writableReplica 22 = .ok (.iload_n 1, 1) := by decide +kernel
theorem dX4_writableReplica_23 : decode cX4_writableReplica 23 = .ok (.iload_n 2, 1) := by decide +kernel
theorem dX4_writableReplica_24 : decode cX4_writableReplica 24 = .ok (.invokevirtual 98, 3) := by decide +kernel
theorem dX4_writableReplica_27 : decode cX4_writableReplica 27 = .ok (.aload_n 0, 1) := by decide +kernel
theorem dX4_writableReplica_28 : decode cX4_writableReplica 28 = .ok (.iload_n 1, 1) := by decide +kernel
theorem dX4_writableReplica_29 : decode cX4_writableReplica 29 = .ok (.invokevirtual 53, 3) := by decide +kernel
theorem dX4_writableReplica_32 : decode cX4_writableReplica 32 = .ok (.iand, 1) := by decide +kernel
theorem dX4_writableReplica_33 : decode cX4_writableReplica 33 = .ok (.ifCond .ne 5, 3) := by decide +kernel
theorem dX4_writableReplica_36 : decode cX4_writableReplica 36 = .ok (.iload_n 2, 1) := by decide +kernel
theorem dX4_writableReplica_37 : decode cX4_writableReplica 37 = .ok (.ireturn, 1) := by decide +kernel
theorem dX4_writableReplica_38 : decode cX4_writableReplica 38 = .ok (.iinc 2 1, 3) := by decide +kernel
theorem dX4_writableReplica_41 : decode cX4_writableReplica 41 = .ok (.goto (-25), 3) := by decide +kernel
theorem dX4_writableReplica_44 : decode cX4_writableReplica 44 = .ok (.iconst (-1), 1) := by decide +kernel
theorem dX4_writableReplica_45 : decode cX4_writableReplica 45 = .ok (.ireturn, 1) := by decide +kernel
theorem dX4_isCoveredBy_0 : decode cX4_isCoveredBy 0 = .ok (.iconst 1, 1) := by decide +kernel
theorem dX4_isCoveredBy_1 : decode cX4_isCoveredBy 1 = .ok (.istore_n 3, 1) := by decide +kernel
theorem dX4_isCoveredBy_2 : decode cX4_isCoveredBy 2 = .ok (.iconst 0, 1) := by decide +kernel
theorem dX4_isCoveredBy_3 : decode cX4_isCoveredBy 3 = .ok (.istore 4, 2) := by decide +kernel
theorem dX4_isCoveredBy_5 : decode cX4_isCoveredBy 5 = .ok (.iload 4, 2) := by decide +kernel
theorem dX4_isCoveredBy_7 : decode cX4_isCoveredBy 7 = .ok (.iconst 3, 1) := by decide +kernel
theorem dX4_isCoveredBy_8 : decode cX4_isCoveredBy 8 = .ok (.if_icmp .ge 95, 3) := by decide +kernel
theorem dX4_isCoveredBy_11 : decode cX4_isCoveredBy 11 = .ok (.iconst 0, 1) := by decide +kernel
theorem dX4_isCoveredBy_12 : decode cX4_isCoveredBy 12 = .ok (.istore 5, 2) := by decide +kernel
theorem dX4_isCoveredBy_14 : decode cX4_isCoveredBy 14 = .ok (.iconst 0, 1) := by decide +kernel
theorem dX4_isCoveredBy_15 : decode cX4_isCoveredBy 15 = .ok (.istore 6, 2) := by decide +kernel
theorem dX4_isCoveredBy_17 : decode cX4_isCoveredBy 17 = .ok (.iload 6, 2) := by decide +kernel
theorem dX4_isCoveredBy_19 : decode cX4_isCoveredBy 19 = .ok (.iconst 3, 1) := by decide +kernel
theorem dX4_isCoveredBy_20 : decode cX4_isCoveredBy 20 = .ok (.if_icmp .ge 53, 3) := by decide +kernel
theorem dX4_isCoveredBy_23 : decode cX4_isCoveredBy 23 = .ok (.iload_n 1, 1) := by decide +kernel
theorem dX4_isCoveredBy_24 : decode cX4_isCoveredBy 24 = .ok (.iload 6, 2) := by decide +kernel
theorem dX4_isCoveredBy_26 : decode cX4_isCoveredBy 26 = .ok (.ishr, 1) := by decide +kernel
theorem dX4_isCoveredBy_27 : decode cX4_isCoveredBy 27 = .ok (.iconst 1, 1) := by decide +kernel
theorem dX4_isCoveredBy_28 : decode cX4_isCoveredBy 28 = .ok (.iand, 1) := by decide +kernel
theorem dX4_isCoveredBy_29 : decode cX4_isCoveredBy 29 = .ok (.iconst 1, 1) := by decide +kernel
theorem dX4_isCoveredBy_30 : decode cX4_isCoveredBy 30 = .ok (.if_icmp .ne 18, 3) := by decide +kernel
theorem dX4_isCoveredBy_33 : decode cX4_isCoveredBy 33 = .ok (.aload_n 0, 1) := by decide +kernel
theorem dX4_isCoveredBy_34 : decode cX4_isCoveredBy 34 = .ok (.getfield 7, 3) := by decide +kernel
theorem dX4_isCoveredBy_37 : decode cX4_isCoveredBy 37 = .ok (.iconst 3, 1) := by decide +kernel
theorem dX4_isCoveredBy_38 : decode cX4_isCoveredBy 38 = .ok (.iload 6, 2) := by decide +kernel
theorem dX4_isCoveredBy_40 : decode cX4_isCoveredBy 40 = .ok (.imul, 1) := by decide +kernel
theorem dX4_isCoveredBy_41 : decode cX4_isCoveredBy 41 = .ok (.iload 4, 2) := by decide +kernel
theorem dX4_isCoveredBy_43 : decode cX4_isCoveredBy 43 = .ok (.iadd, 1) := by decide +kernel
theorem dX4_isCoveredBy_44 : decode cX4_isCoveredBy 44 = .ok (.iaload, 1) := by decide +kernel
theorem dX4_isCoveredBy_45 : decode cX4_isCoveredBy 45 = .ok (.goto 4, 3) := by decide +kernel
theorem dX4_isCoveredBy_48 : decode cX4_isCoveredBy 48 = .ok (.iconst 0, 1) := by decide +kernel
theorem dX4_isCoveredBy_49 : decode cX4_isCoveredBy 49 = .ok (.istore 7, 2) := by decide +kernel
theorem dX4_isCoveredBy_51 : decode cX4_isCoveredBy 51 = .ok (.iload 7, 2) := by decide +kernel
theorem dX4_isCoveredBy_53 : decode cX4_isCoveredBy 53 = .ok (.iload 5, 2) := by decide +kernel
theorem dX4_isCoveredBy_55 : decode cX4_isCoveredBy 55 = .ok (.if_icmp .le 8, 3) := by decide +kernel
theorem dX4_isCoveredBy_58 : decode cX4_isCoveredBy 58 = .ok (.iload 7, 2) := by decide +kernel
theorem dX4_isCoveredBy_60 : decode cX4_isCoveredBy 60 = .ok (.goto 5, 3) := by decide +kernel
theorem dX4_isCoveredBy_63 : decode cX4_isCoveredBy 63 = .ok (.iload 5, 2) := by decide +kernel
theorem dX4_isCoveredBy_65 : decode cX4_isCoveredBy 65 = .ok (.istore 5, 2) := by decide +kernel
theorem dX4_isCoveredBy_67 : decode cX4_isCoveredBy 67 = .ok (.iinc 6 1, 3) := by decide +kernel
theorem dX4_isCoveredBy_70 : decode cX4_isCoveredBy 70 = .ok (.goto (-53), 3) := by decide +kernel
theorem dX4_isCoveredBy_73 : decode cX4_isCoveredBy 73 = .ok (.iload_n 3, 1) := by decide +kernel
theorem dX4_isCoveredBy_74 : decode cX4_isCoveredBy 74 = .ok (.ifCond .eq 21, 3) := by decide +kernel
theorem dX4_isCoveredBy_77 : decode cX4_isCoveredBy 77 = .ok (.aload_n 0, 1) := by decide +kernel
theorem dX4_isCoveredBy_78 : decode cX4_isCoveredBy 78 = .ok (.getfield 7, 3) := by decide +kernel
theorem dX4_isCoveredBy_81 : decode cX4_isCoveredBy 81 = .ok (.iload_n 2, 1) := by decide +kernel
theorem dX4_isCoveredBy_82 : decode cX4_isCoveredBy 82 = .ok (.iload 4, 2) := by decide +kernel
theorem dX4_isCoveredBy_84 : decode cX4_isCoveredBy 84 = .ok (.iadd, 1) := by decide +kernel
theorem dX4_isCoveredBy_85 : decode cX4_isCoveredBy 85 = .ok (.iaload, 1) := by decide +kernel
theorem dX4_isCoveredBy_86 : decode cX4_isCoveredBy 86 = .ok (.iload 5, 2) := by decide +kernel
theorem dX4_isCoveredBy_88 : decode cX4_isCoveredBy 88 = .ok (.if_icmp .gt 7, 3) := by decide +kernel
theorem dX4_isCoveredBy_91 : decode cX4_isCoveredBy 91 = .ok (.iconst 1, 1) := by decide +kernel
theorem dX4_isCoveredBy_92 : decode cX4_isCoveredBy 92 = .ok (.goto 4, 3) := by decide +kernel
theorem dX4_isCoveredBy_95 : decode cX4_isCoveredBy 95 = .ok (.iconst 0, 1) := by decide +kernel
theorem dX4_isCoveredBy_96 : decode cX4_isCoveredBy 96 = .ok (.istore_n 3, 1) := by decide +kernel
theorem dX4_isCoveredBy_97 : decode cX4_isCoveredBy 97 = .ok (.iinc 4 1, 3) := by decide +kernel
theorem dX4_isCoveredBy_100 : decode cX4_isCoveredBy 100 = .ok (.goto (-95), 3) := by decide +kernel
theorem dX4_isCoveredBy_103 : decode cX4_isCoveredBy 103 = .ok (.iload_n 3, 1) := by decide +kernel
theorem dX4_isCoveredBy_104 : decode cX4_isCoveredBy 104 = .ok (.ireturn, 1) := by decide +kernel
set_option maxRecDepth 20000 in
theorem ggX4_isReadBy_X4_guarantees : GoodIn wsX4_isReadBy wsX4_guarantees := goodIn_r _ [5, 6, 11, 12, 13, 14, 15, 16, 17, 18, 19, 20] (by decide +kernel) (by decide +kernel)
set_option maxRecDepth 20000 in
theorem gX4_isReadBy_X4_guarantees : GoodIn wsX4_isReadBy (wsV RX4 53 RX4 yX4_guarantees wsX4_guarantees) := goodIn_app (goodIn_of _ (by decide +kernel)) ggX4_isReadBy_X4_guarantees
set_option maxRecDepth 20000 in
theorem ggX4_isReadBy_X4_isCoveredBy : GoodIn wsX4_isReadBy wsX4_isCoveredBy := goodIn_r _ [10, 6, 11, 12, 13, 14, 15, 16, 17, 18, 19, 20] (by decide +kernel) (by decide +kernel)
set_option maxRecDepth 20000 in
theorem gX4_isReadBy_X4_isCoveredBy : GoodIn wsX4_isReadBy (wsV RX4 108 RX4 yX4_isCoveredBy wsX4_isCoveredBy) := goodIn_app (goodIn_of _ (by decide +kernel)) ggX4_isReadBy_X4_isCoveredBy
theorem dX4_isReadBy_0 : decode cX4_isReadBy 0 = .ok (.sipush 313, 3) := by decide +kernel
theorem dX4_isReadBy_3 : decode cX4_isReadBy 3 = .ok (.bipush 7, 2) := by decide +kernel
theorem dX4_isReadBy_5 : decode cX4_isReadBy 5 = .ok (.iload_n 1, 1) := by decide +kernel
theorem dX4_isReadBy_6 : decode cX4_isReadBy 6 = .ok (.imul, 1) := by decide +kernel
theorem dX4_isReadBy_7 : decode cX4_isReadBy 7 = .ok (.iadd, 1) := by decide +kernel
theorem dX4_isReadBy_8 : decode cX4_isReadBy 8 = .ok (.istore_n 3, 1) := by decide +kernel
theorem dX4_isReadBy_9 : decode cX4_isReadBy 9 = .ok (.aload_n 0, 1) := by decide +kernel
theorem dX4_isReadBy_10 : decode cX4_isReadBy 10 = .ok (.iload_n 1, 1) := by decide +kernel
theorem dX4_isReadBy_11 : decode cX4_isReadBy 11 = .ok (.invokevirtual 53, 3) := by decide +kernel
theorem dX4_isReadBy_14 : decode cX4_isReadBy 14 = .ok (.istore 4, 2) := by decide +kernel
theorem dX4_isReadBy_16 : decode cX4_isReadBy 16 = .ok (.iload 4, 2) := by decide +kernel
theorem dX4_isReadBy_18 : decode cX4_isReadBy 18 = .ok (.iconst 1, 1) := by decide +kernel
theorem dX4_isReadBy_19 : decode cX4_isReadBy 19 = .ok (.iand, 1) := by decide +kernel
theorem dX4_isReadBy_20 : decode cX4_isReadBy 20 = .ok (.ifCond .eq 14, 3) := by decide +kernel
theorem dX4_isReadBy_23 : decode cX4_isReadBy 23 = .ok (.aload_n 0, 1) := by decide +kernel
theorem dX4_isReadBy_24 : decode cX4_isReadBy 24 = .ok (.iload_n 2, 1) := by decide +kernel
theorem dX4_isReadBy_25 : decode cX4_isReadBy 25 = .ok (.iload_n 3, 1) := by decide +kernel
theorem dX4_isReadBy_26 : decode cX4_isReadBy 26 = .ok (.iconst 4, 1) := by decide +kernel
theorem dX4_isReadBy_27 : decode cX4_isReadBy 27 = .ok (.iadd, 1) := by decide +kernel
theorem dX4_isReadBy_28 : decode cX4_isReadBy 28 = .ok (.invokevirtual 108, 3) := by decide +kernel
theorem dX4_isReadBy_31 : decode cX4_isReadBy 31 = .ok (.ifCond .eq 25, 3) := by decide +kernel
theorem dX4_isReadBy_34 : decode cX4_isReadBy 34 = .ok (.iload 4, 2) := by decide +kernel
theorem dX4_isReadBy_36 : decode cX4_isReadBy 36 = .ok (.iconst 2, 1) := by decide +kernel
theorem dX4_isReadBy_37 : decode cX4_isReadBy 37 = .ok (.iand, 1) := by decide +kernel
theorem dX4_isReadBy_38 : decode cX4_isReadBy 38 = .ok (.ifCond .eq 14, 3) := by decide +kernel
theorem dX4_isReadBy_41 : decode cX4_isReadBy 41 = .ok (.aload_n 0, 1) := by decide +kernel
theorem dX4_isReadBy_42 : decode cX4_isReadBy 42 = .ok (.iload_n 2, 1) := by decide +kernel
theorem dX4_isReadBy_43 : decode cX4_isReadBy 43 = .ok (.iload_n 3, 1) := by decide +kernel
theorem dX4_isReadBy_44 : decode cX4_isReadBy 44 = .ok (.iconst 1, 1) := by decide +kernel
theorem dX4_isReadBy_45 : decode cX4_isReadBy 45 = .ok (.iadd, 1) := by decide +kernel
theorem dX4_isReadBy_46 : decode cX4_isReadBy 46 = .ok (.invokevirtual 108, 3) := by decide +kernel
theorem dX4_isReadBy_49 : decode cX4_isReadBy 49 = .ok (.ifCond .eq 7, 3) := by decide +kernel
theorem dX4_isReadBy_52 : decode cX4_isReadBy 52 = .ok (.iconst 1, 1) := by decide +kernel
theorem dX4_isReadBy_53 : decode cX4_isReadBy 53 = .ok (.goto 4, 3) := by decide +kernel
theorem dX4_isReadBy_56 : decode cX4_isReadBy 56 = .ok (.iconst 0, 1) := by decide +kernel
theorem dX4_isReadBy_57 : decode cX4_isReadBy 57 = .ok (.ireturn, 1) := by decide +kernel
theorem dX4_bits_0 : decode cX4_bits 0 = .ok (.iload_n 0, 1) := by decide +kernel
theorem dX4_bits_1 : decode cX4_bits 1 = .ok (.iconst 1, 1) := by decide +kernel
theorem dX4_bits_2 : decode cX4_bits 2 = .ok (.iand, 1) := by decide +kernel
theorem dX4_bits_3 : decode cX4_bits 3 = .ok (.iload_n 0, 1) := by decide +kernel
theorem dX4_bits_4 : decode cX4_bits 4 = .ok (.iconst 1, 1) := by decide +kernel
theorem dX4_bits_5 : decode cX4_bits 5 = .ok (.ishr, 1) := by decide +kernel
theorem dX4_bits_6 : decode cX4_bits 6 = .ok (.iconst 1, 1) := by decide +kernel
theorem dX4_bits_7 : decode cX4_bits 7 = .ok (.iand, 1) := by decide +kernel
theorem dX4_bits_8 : decode cX4_bits 8 = .ok (.iadd, 1) := by decide +kernel
theorem dX4_bits_9 : decode cX4_bits 9 = .ok (.iload_n 0, 1) := by decide +kernel
theorem dX4_bits_10 : decode cX4_bits 10 = .ok (.iconst 2, 1) := by decide +kernel
theorem dX4_bits_11 : decode cX4_bits 11 = .ok (.ishr, 1) := by decide +kernel
theorem dX4_bits_12 : decode cX4_bits 12 = .ok (.iconst 1, 1) := by decide +kernel
theorem dX4_bits_13 : decode cX4_bits 13 = .ok (.iand, 1) := by decide +kernel
theorem dX4_bits_14 : decode cX4_bits 14 = .ok (.iadd, 1) := by decide +kernel
theorem dX4_bits_15 : decode cX4_bits 15 = .ok (.ireturn, 1) := by decide +kernel
set_option maxRecDepth 20000 in
theorem ggX4_syncsForRead_X4_isClient : GoodIn wsX4_syncsForRead wsX4_isClient := goodIn_r _ [4, 5, 6, 7, 3, 8] (by decide +kernel) (by decide +kernel)
set_option maxRecDepth 20000 in
theorem gX4_syncsForRead_X4_isClient : GoodIn wsX4_syncsForRead (va_wsS RX4 47 yX4_isClient wsX4_isClient) := goodIn_app (goodIn_of _ (by decide +kernel)) ggX4_syncsForRead_X4_isClient
set_option maxRecDepth 20000 in
theorem ggX4_syncsForRead_X4_isReplica : GoodIn wsX4_syncsForRead wsX4_isReplica := goodIn_r _ [11, 12, 6, 7, 3, 8] (by decide +kernel) (by decide +kernel)
set_option maxRecDepth 20000 in
theorem gX4_syncsForRead_X4_isReplica : GoodIn wsX4_syncsForRead (va_wsS RX4 69 yX4_isReplica wsX4_isReplica) := goodIn_app (goodIn_of _ (by decide +kernel)) ggX4_syncsForRead_X4_isReplica
set_option maxRecDepth 20000 in
theorem ggX4_syncsForRead_X4_error : GoodIn wsX4_syncsForRead wsX4_error := goodIn_r _ [16, 17, 34, 35, 36, 37, 38, 39, 40, 41, 42, 43] (by decide +kernel) (by decide +kernel)
set_option maxRecDepth 20000 in
theorem gX4_syncsForRead_X4_error : GoodIn wsX4_syncsForRead (wsV RX4 28 RX4 yX4_error wsX4_error) := goodIn_app (goodIn_of _ (by decide +kernel)) ggX4_syncsForRead_X4_error
set_option maxRecDepth 20000 in
theorem ggX4_syncsForRead_X4_bits : GoodIn wsX4_syncsForRead wsX4_bits := goodIn_r _ [20] (by decide +kernel) (by decide +kernel)
set_option maxRecDepth 20000 in
theorem gX4_syncsForRead_X4_bits : GoodIn wsX4_syncsForRead (va_wsS RX4 111 yX4_bits wsX4_bits) := goodIn_app (goodIn_of _ (by decide +kernel)) ggX4_syncsForRead_X4_bits
set_option maxRecDepth 20000 in
theorem ggX4_syncsForRead_X4_isReadBy : GoodIn wsX4_syncsForRead wsX4_isReadBy := goodIn_r _ [24, 25, 26, 27, 3, 28, 29, 30, 31, 32, 33, 34, 35, 36, 37, 38, 39, 40, 41, 42, 43] (by decide +kernel) (by decide +kernel)
set_option maxRecDepth 20000 in
theorem gX4_syncsForRead_X4_isReadBy : GoodIn wsX4_syncsForRead (wsV RX4 114 RX4 yX4_isReadBy wsX4_isReadBy) := goodIn_app (goodIn_of _ (by decide +kernel)) ggX4_syncsForRead_X4_isReadBy
theorem dX4_syncsForRead_0 : decode cX4_syncsForRead 0 = .ok (.iload_n 1, 1) := by decide +kernel
theorem dX4_syncsForRead_1 : decode cX4_syncsForRead 1 = .ok (.invokestatic 47, 3) := by decide +kernel
theorem dX4_syncsForRead_4 : decode cX4_syncsForRead 4 = .ok (.ifCond .eq 10, 3) := by decide +kernel
theorem dX4_syncsForRead_7 : decode cX4_syncsForRead 7 = .ok (.iload_n 2, 1) := by decide +kernel
theorem dX4_syncsForRead_8 : decode cX4_syncsForRead 8 = .ok (.invokestatic 69, 3) := by decide +kernel
theorem dX4_syncsForRead_11 : decode cX4_syncsForRead 11 = .ok (.ifCond .ne 10, 3) := by decide +kernel
theorem dX4_syncsForRead_14 : decode cX4_syncsForRead 14 = .ok (.aload_n 0, 1) := by decide +kernel
theorem dX4_syncsForRead_15 : decode cX4_syncsForRead 15 = .ok (.bipush (-2), 2) := by decide +kernel
theorem dX4_syncsForRead_17 : decode cX4_syncsForRead 17 = .ok (.invokevirtual 28, 3) := by decide +kernel
theorem dX4_syncsForRead_20 : decode cX4_syncsForRead 20 = .ok (.ireturn, 1) := by decide +kernel
theorem dX4_syncsForRead_21 : decode cX4_syncsForRead 21 = .ok (.iconst (-1), 1) := by decide +kernel
theorem dX4_syncsForRead_22 : decode cX4_syncsForRead 22 = .ok (.istore_n 3, 1) := by decide +kernel
theorem dX4_syncsForRead_23 : decode cX4_syncsForRead 23 = .ok (.iconst 0, 1) := by decide +kernel
theorem dX4_syncsForRead_24 : decode cX4_syncsForRead 24 = .ok (.istore 4, 2) := by decide +kernel
theorem dX4_syncsForRead_26 : decode cX4_syncsForRead 26 = .ok (.iload 4, 2) := by decide +kernel
theorem dX4_syncsForRead_28 : decode cX4_syncsForRead 28 = .ok (.bipush 8, 2) := by decide +kernel
theorem dX4_syncsForRead_30 : decode cX4_syncsForRead 30 = .ok (.if_icmp .ge 80, 3) := by decide +kernel
theorem dX4_syncsForRead_33 : decode cX4_syncsForRead 33 = .ok (.iload 4, 2) := by decide +kernel
theorem dX4_syncsForRead_35 : decode cX4_syncsForRead 35 = .ok (.iload_n 2, 1) := by decide +kernel
theorem dX4_syncsForRead_36 : decode cX4_syncsForRead 36 = .ok (.ishr, 1) := by decide +kernel
theorem dX4_syncsForRead_37 : decode cX4_syncsForRead 37 = .ok (.iconst 1, 1) := by decide +kernel
theorem dX4_syncsForRead_38 : decode cX4_syncsForRead 38 = .ok (.iand, 1) := by decide +kernel
theorem dX4_syncsForRead_39 : decode cX4_syncsForRead 39 = .ok (.ifCond .ne 7, 3) := by decide +kernel
theorem dX4_syncsForRead_42 : decode cX4_syncsForRead 42 = .ok (.iconst 1, 1) := by decide +kernel
theorem dX4_syncsForRead_43 : decode cX4_syncsForRead 43 = .ok (.goto 4, 3) := by decide +kernel
theorem dX4_syncsForRead_46 : decode cX4_syncsForRead 46 = .ok (.iconst 0, 1) := by decide +kernel
theorem dX4_syncsForRead_47 : decode cX4_syncsForRead 47 = .ok (.istore 5, 2) := by decide +kernel
theorem dX4_syncsForRead_49 : decode cX4_syncsForRead 49 = .ok (.iload_n 3, 1) := by decide +kernel
theorem dX4_syncsForRead_50 : decode cX4_syncsForRead 50 = .ok (.iconst (-1), 1) := by decide +kernel
theorem dX4_syncsForRead_51 : decode cX4_syncsForRead 51 = .ok (.if_icmp .eq 15, 3) := by decide +kernel
theorem dX4_syncsForRead_54 : decode cX4_syncsForRead 54 = .ok (.iload 4, 2) := by decide +kernel
theorem dX4_syncsForRead_56 : decode cX4_syncsForRead 56 = .ok (.invokestatic 111, 3) := by decide +kernel
theorem dX4_syncsForRead_59 : decode cX4_syncsForRead 59 = .ok (.iload_n 3, 1) := by decide +kernel
theorem dX4_syncsForRead_60 : decode cX4_syncsForRead 60 = .ok (.invokestatic 111, 3) := by decide +kernel
theorem dX4_syncsForRead_63 : decode cX4_syncsForRead 63 = .ok (.if_icmp .ge 7, 3) := by decide +kernel
theorem dX4_syncsForRead_66 : decode cX4_syncsForRead 66 = .ok (.iconst 1, 1) := by decide +kernel
theorem dX4_syncsForRead_67 : decode cX4_syncsForRead 67 = .ok (.goto 4, 3) := by decide +kernel
theorem dX4_syncsForRead_70 : decode cX4_syncsForRead 70 = .ok (.iconst 0, 1) := by decide +kernel
theorem dX4_syncsForRead_71 : decode cX4_syncsForRead 71 = .ok (.istore 6, 2) := by decide +kernel
theorem dX4_syncsForRead_73 : decode cX4_syncsForRead 73 = .ok (.iload 5, 2) := by decide +kernel
theorem dX4_syncsForRead_75 : decode cX4_syncsForRead 75 = .ok (.ifCond .eq 27, 3) := by decide +kernel
theorem dX4_syncsForRead_78 : decode cX4_syncsForRead 78 = .ok (.iload 6, 2) := by decide +kernel
theorem dX4_syncsForRead_80 : decode cX4_syncsForRead 80 = .ok (.ifCond .eq 22, 3) := by decide +kernel
theorem dX4_syncsForRead_83 : decode cX4_syncsForRead 83 = .ok (.aload_n 0, 1) := by decide +kernel
theorem dX4_syncsForRead_84 : decode cX4_syncsForRead 84 = .ok (.iload_n 1, 1) := by decide +kernel
theorem dX4_syncsForRead_85 : decode cX4_syncsForRead 85 = .ok (.iload 4, 2) := by decide +kernel
theorem dX4_syncsForRead_87 : decode cX4_syncsForRead 87 = .ok (.iconst 1, 1) := by decide +kernel
theorem dX4_syncsForRead_88 : decode cX4_syncsForRead 88 = .ok (.iload_n 2, 1) := by decide +kernel
theorem dX4_syncsForRead_89 : decode cX4_syncsForRead 89 = .ok (.ishl, 1) := by decide +kernel
theorem dX4_syncsForRead_90 : decode cX4_syncsForRead 90 = .ok (.ior, 1) := by decide +kernel
theorem dX4_syncsForRead_91 : decode cX4_syncsForRead 91 = .ok (.invokevirtual 114, 3) := by decide +kernel
theorem dX4_syncsForRead_94 : decode cX4_syncsForRead 94 = .ok (.ifCond .eq 8, 3) := by decide +kernel
theorem dX4_syncsForRead_97 : decode cX4_syncsForRead 97 = .ok (.iload 4, 2) := by decide +kernel
theorem dX4_syncsForRead_99 : decode cX4_syncsForRead 99 = .ok (.goto 4, 3) := by decide +kernel
theorem dX4_syncsForRead_102 : decode cX4_syncsForRead 102 = .ok (.iload_n 3, 1) := by decide +kernel
theorem dX4_syncsForRead_103 : decode cX4_syncsForRead 103 = .ok (.istore_n 3, 1) := by decide +kernel
theorem dX4_syncsForRead_104 : decode cX4_syncsForRead 104 = .ok (.iinc 4 1, 3) := by decide +kernel
theorem dX4_syncsForRead_107 : decode cX4_syncsForRead 107 = .ok (.goto (-81), 3) := by decide +kernel
theorem dX4_syncsForRead_110 : decode cX4_syncsForRead 110 = .ok (.iload_n 3, 1) := by decide +kernel
theorem dX4_syncsForRead_111 : decode cX4_syncsForRead 111 = .ok (.ireturn, 1) := by decide +kernel
set_option maxRecDepth 20000 in
theorem ggX4_count_X4_isReplica : GoodIn wsX4_count wsX4_isReplica := goodIn_r _ [5, 6, 7, 8, 4, 9] (by decide +kernel) (by decide +kernel)
set_option maxRecDepth 20000 in
theorem gX4_count_X4_isReplica : GoodIn wsX4_count (va_wsS RX4 69 yX4_isReplica wsX4_isReplica) := goodIn_app (goodIn_of _ (by decide +kernel)) ggX4_count_X4_isReplica
set_option maxRecDepth 20000 in
theorem ggX4_count_X4_error : GoodIn wsX4_count wsX4_error := goodIn_r _ [13, 14, 15, 16, 17, 18, 19, 20, 21, 22, 23, 24] (by decide +kernel) (by decide +kernel)
set_option maxRecDepth 20000 in
theorem gX4_count_X4_error : GoodIn wsX4_count (wsV RX4 28 RX4 yX4_error wsX4_error) := goodIn_app (goodIn_of _ (by decide +kernel)) ggX4_count_X4_error
theorem dX4_count_0 : decode cX4_count 0 = .ok (.iload_n 1, 1) := by decide +kernel
theorem dX4_count_1 : decode cX4_count 1 = .ok (.invokestatic 69, 3) := by decide +kernel
theorem dX4_count_4 : decode cX4_count 4 = .ok (.ifCond .eq 23, 3) := by decide +kernel
theorem dX4_count_7 : decode cX4_count 7 = .ok (.iload_n 2, 1) := by decide +kernel
theorem dX4_count_8 : decode cX4_count 8 = .ok (.invokestatic 69, 3) := by decide +kernel
theorem dX4_count_11 : decode cX4_count 11 = .ok (.ifCond .eq 16, 3) := by decide +kernel
theorem dX4_count_14 : decode cX4_count 14 = .ok (.aload_n 0, 1) := by decide +kernel
theorem dX4_count_15 : decode cX4_count 15 = .ok (.getfield 7, 3) := by decide +kernel
theorem dX4_count_18 : decode cX4_count 18 = .ok (.iconst 3, 1) := by decide +kernel
theorem dX4_count_19 : decode cX4_count 19 = .ok (.iload_n 1, 1) := by decide +kernel
theorem dX4_count_20 : decode cX4_count 20 = .ok (.imul, 1) := by decide +kernel
theorem dX4_count_21 : decode cX4_count 21 = .ok (.iload_n 2, 1) := by decide +kernel
theorem dX4_count_22 : decode cX4_count 22 = .ok (.iadd, 1) := by decide +kernel
theorem dX4_count_23 : decode cX4_count 23 = .ok (.iaload, 1) := by decide +kernel
theorem dX4_count_24 : decode cX4_count 24 = .ok (.goto 9, 3) := by decide +kernel
theorem dX4_count_27 : decode cX4_count 27 = .ok (.aload_n 0, 1) := by decide +kernel
theorem dX4_count_28 : decode cX4_count 28 = .ok (.bipush (-2), 2) := by decide +kernel
theorem dX4_count_30 : decode cX4_count 30 = .ok (.invokevirtual 28, 3) := by decide +kernel
theorem dX4_count_33 : decode cX4_count 33 = .ok (.ireturn, 1) := by decide +kernel
set_option maxRecDepth 20000 in
theorem ggX4_clock_X4_isReplica : GoodIn wsX4_clock wsX4_isReplica := goodIn_r _ [5, 6, 7, 8, 4, 9] (by decide +kernel) (by decide +kernel)
set_option maxRecDepth 20000 in
theorem gX4_clock_X4_isReplica : GoodIn wsX4_clock (va_wsS RX4 69 yX4_isReplica wsX4_isReplica) := goodIn_app (goodIn_of _ (by decide +kernel)) ggX4_clock_X4_isReplica
set_option maxRecDepth 20000 in
theorem ggX4_clock_X4_error : GoodIn wsX4_clock wsX4_error := goodIn_r _ [13, 14, 15, 16, 17, 18, 19, 20, 21, 22, 23, 24] (by decide +kernel) (by decide +kernel)
set_option maxRecDepth 20000 in
theorem gX4_clock_X4_error : GoodIn wsX4_clock (wsV RX4 28 RX4 yX4_error wsX4_error) := goodIn_app (goodIn_of _ (by decide +kernel)) ggX4_clock_X4_error
theorem dX4_clock_0 : decode cX4_clock 0 = .ok (.iload_n 1, 1) := by decide +kernel
theorem dX4_clock_1 : decode cX4_clock 1 = .ok (.invokestatic 69, 3) := by decide +kernel
theorem dX4_clock_4 : decode cX4_clock 4 = .ok (.ifCond .eq 15, 3) := by decide +kernel
theorem dX4_clock_7 : decode cX4_clock 7 = .ok (.aload_n 0, 1) := by decide +kernel
theorem dX4_clock_8 : decode cX4_clock 8 = .ok (.getfield 7, 3) := by decide +kernel
theorem dX4_clock_11 : decode cX4_clock 11 = .ok (.bipush 9, 2) := by decide +kernel
theorem dX4_clock_13 : decode cX4_clock 13 = .ok (.iload_n 1, 1) := by decide +kernel
theorem dX4_clock_14 : decode cX4_clock 14 = .ok (.iadd, 1) := by decide +kernel
theorem dX4_clock_15 : decode cX4_clock 15 = .ok (.iaload, 1) := by decide +kernel
theorem dX4_clock_16 : decode cX4_clock 16 = .ok (.goto 9, 3) := by decide +kernel
theorem dX4_clock_19 : decode cX4_clock 19 = .ok (.aload_n 0, 1) := by decide +kernel
theorem dX4_clock_20 : decode cX4_clock 20 = .ok (.bipush (-2), 2) := by decide +kernel
theorem dX4_clock_22 : decode cX4_clock 22 = .ok (.invokevirtual 28, 3) := by decide +kernel
theorem dX4_clock_25 : decode cX4_clock 25 = .ok (.ireturn, 1) := by decide +kernel
set_option maxRecDepth 20000 in
theorem ggX4_peek_X4_isReplica : GoodIn wsX4_peek wsX4_isReplica := goodIn_r _ [4, 5, 6, 7, 3, 8] (by decide +kernel) (by decide +kernel)
set_option maxRecDepth 20000 in
theorem gX4_peek_X4_isReplica : GoodIn wsX4_peek (va_wsS RX4 69 yX4_isReplica wsX4_isReplica) := goodIn_app (goodIn_of _ (by decide +kernel)) ggX4_peek_X4_isReplica
set_option maxRecDepth 20000 in
theorem ggX4_peek_X4_isKey : GoodIn wsX4_peek wsX4_isKey := goodIn_r _ [11, 12, 6, 7, 3, 8] (by decide +kernel) (by decide +kernel)
set_option maxRecDepth 20000 in
theorem gX4_peek_X4_isKey : GoodIn wsX4_peek (va_wsS RX4 79 yX4_isKey wsX4_isKey) := goodIn_app (goodIn_of _ (by decide +kernel)) ggX4_peek_X4_isKey
set_option maxRecDepth 20000 in
theorem ggX4_peek_X4_error : GoodIn wsX4_peek wsX4_error := goodIn_r _ [16, 17, 27, 28, 29, 30, 31, 32, 33, 34, 35, 36] (by decide +kernel) (by decide +kernel)
set_option maxRecDepth 20000 in
theorem gX4_peek_X4_error : GoodIn wsX4_peek (wsV RX4 28 RX4 yX4_error wsX4_error) := goodIn_app (goodIn_of _ (by decide +kernel)) ggX4_peek_X4_error
set_option maxRecDepth 20000 in
theorem ggX4_peek_X4_valueAt : GoodIn wsX4_peek wsX4_valueAt := goodIn_r _ [21, 22, 23, 24, 25, 3, 26, 27, 28, 29, 30, 31, 32, 33, 34, 35, 36] (by decide +kernel) (by decide +kernel)
set_option maxRecDepth 20000 in
theorem gX4_peek_X4_valueAt : GoodIn wsX4_peek (wsV RX4 89 RX4 yX4_valueAt wsX4_valueAt) := goodIn_app (goodIn_of _ (by decide +kernel)) ggX4_peek_X4_valueAt
theorem dX4_peek_0 : decode cX4_peek 0 = .ok (.iload_n 1, 1) := by decide +kernel
theorem dX4_peek_1 : decode cX4_peek 1 = .ok (.invokestatic 69, 3) := by decide +kernel
theorem dX4_peek_4 : decode cX4_peek 4 = .ok (.ifCond .eq 10, 3) := by decide +kernel
theorem dX4_peek_7 : decode cX4_peek 7 = .ok (.iload_n 2, 1) := by decide +kernel
theorem dX4_peek_8 : decode cX4_peek 8 = .ok (.invokestatic 79, 3) := by decide +kernel
theorem dX4_peek_11 : decode cX4_peek 11 = .ok (.ifCond .ne 10, 3) := by decide +kernel
theorem dX4_peek_14 : decode cX4_peek 14 = .ok (.aload_n 0, 1) := by decide +kernel
theorem dX4_peek_15 : decode cX4_peek 15 = .ok (.bipush (-2), 2) := by decide +kernel
theorem dX4_peek_17 : decode cX4_peek 17 = .ok (.invokevirtual 28, 3) := by decide +kernel
theorem dX4_peek_20 : decode cX4_peek 20 = .ok (.ireturn, 1) := by decide +kernel
theorem dX4_peek_21 : decode cX4_peek 21 = .ok (.aload_n 0, 1) := by decide +kernel
theorem dX4_peek_22 : decode cX4_peek 22 = .ok (.iload_n 1, 1) := by decide +kernel
theorem dX4_peek_23 : decode cX4_peek 23 = .ok (.iload_n 2, 1) := by decide +kernel
theorem dX4_peek_24 : decode cX4_peek 24 = .ok (.invokevirtual 89, 3) := by decide +kernel
theorem dX4_peek_27 : decode cX4_peek 27 = .ok (.istore_n 3, 1) := by decide +kernel
theorem dX4_peek_28 : decode cX4_peek 28 = .ok (.iload_n 3, 1) := by decide +kernel
theorem dX4_peek_29 : decode cX4_peek 29 = .ok (.bipush 100, 2) := by decide +kernel
theorem dX4_peek_31 : decode cX4_peek 31 = .ok (.if_icmp .ne 12, 3) := by decide +kernel
theorem dX4_peek_34 : decode cX4_peek 34 = .ok (.aload_n 0, 1) := by decide +kernel
theorem dX4_peek_35 : decode cX4_peek 35 = .ok (.bipush (-5), 2) := by decide +kernel
theorem dX4_peek_37 : decode cX4_peek 37 = .ok (.invokevirtual 28, 3) := by decide +kernel
theorem dX4_peek_40 : decode cX4_peek 40 = .ok (.goto 4, 3) := by decide +kernel
theorem dX4_peek_43 : decode cX4_peek 43 = .ok (.iload_n 3, 1) := by decide +kernel
theorem dX4_peek_44 : decode cX4_peek 44 = .ok (.ireturn, 1) := by decide +kernel
set_option maxRecDepth 20000 in
theorem ggX4_compare_X4_isReplica : GoodIn wsX4_compare wsX4_isReplica := goodIn_r _ [4, 5, 6, 7, 3, 8] (by decide +kernel) (by decide +kernel)
set_option maxRecDepth 20000 in
theorem gX4_compare_X4_isReplica : GoodIn wsX4_compare (va_wsS RX4 69 yX4_isReplica wsX4_isReplica) := goodIn_app (goodIn_of _ (by decide +kernel)) ggX4_compare_X4_isReplica
set_option maxRecDepth 20000 in
theorem ggX4_compare_X4_error : GoodIn wsX4_compare wsX4_error := goodIn_r _ [12, 13, 19, 20, 21, 22, 23, 24, 25, 26, 27, 28] (by decide +kernel) (by decide +kernel)
set_option maxRecDepth 20000 in
theorem gX4_compare_X4_error : GoodIn wsX4_compare (wsV RX4 28 RX4 yX4_error wsX4_error) := goodIn_app (goodIn_of _ (by decide +kernel)) ggX4_compare_X4_error
set_option maxRecDepth 20000 in
theorem ggX4_compare_X4_covers : GoodIn wsX4_compare wsX4_covers := goodIn_r _ [17, 18, 19, 20, 21, 22, 23, 24, 25, 26, 27, 28] (by decide +kernel) (by decide +kernel)
set_option maxRecDepth 20000 in
theorem gX4_compare_X4_covers : GoodIn wsX4_compare (wsV RX4 72 RX4 yX4_covers wsX4_covers) := goodIn_app (goodIn_of _ (by decide +kernel)) ggX4_compare_X4_covers
theorem dX4_compare_0 : decode cX4_compare 0 = .ok (.iload_n 1, 1) := by decide +kernel
theorem dX4_compare_1 : decode cX4_compare 1 = .ok (.invokestatic 69, 3) := by decide +kernel
theorem dX4_compare_4 : decode cX4_compare 4 = .ok (.ifCond .eq 10, 3) := by decide +kernel
theorem dX4_compare_7 : decode cX4_compare 7 = .ok (.iload_n 2, 1) := by decide +kernel
theorem dX4_compare_8 : decode cX4_compare 8 = .ok (.invokestatic 69, 3) := by decide +kernel
theorem dX4_compare_11 : decode cX4_compare 11 = .ok (.ifCond .ne 10, 3) := by decide +kernel
theorem dX4_compare_14 : decode cX4_compare 14 = .ok (.aload_n 0, 1) := by decide +kernel
theorem dX4_compare_15 : decode cX4_compare 15 = .ok (.bipush (-2), 2) := by decide +kernel
theorem dX4_compare_17 : decode cX4_compare 17 = .ok (.invokevirtual 28, 3) := by decide +kernel
theorem dX4_compare_20 : decode cX4_compare 20 = .ok (.ireturn, 1) := by decide +kernel
theorem dX4_compare_21 : decode cX4_compare 21 = .ok (.aload_n 0, 1) := by decide +kernel
theorem dX4_compare_22 : decode cX4_compare 22 = .ok (.iconst 3, 1) := by decide +kernel
theorem dX4_compare_23 : decode cX4_compare 23 = .ok (.iload_n 1, 1) := by decide +kernel
theorem dX4_compare_24 : decode cX4_compare 24 = .ok (.imul, 1) := by decide +kernel
theorem dX4_compare_25 : decode cX4_compare 25 = .ok (.iconst 3, 1) := by decide +kernel
theorem dX4_compare_26 : decode cX4_compare 26 = .ok (.iload_n 2, 1) := by decide +kernel
theorem dX4_compare_27 : decode cX4_compare 27 = .ok (.imul, 1) := by decide +kernel
theorem dX4_compare_28 : decode cX4_compare 28 = .ok (.invokevirtual 72, 3) := by decide +kernel
theorem dX4_compare_31 : decode cX4_compare 31 = .ok (.istore_n 3, 1) := by decide +kernel
theorem dX4_compare_32 : decode cX4_compare 32 = .ok (.aload_n 0, 1) := by decide +kernel
theorem dX4_compare_33 : decode cX4_compare 33 = .ok (.iconst 3, 1) := by decide +kernel
theorem dX4_compare_34 : decode cX4_compare 34 = .ok (.iload_n 2, 1) := by decide +kernel
theorem dX4_compare_35 : decode cX4_compare 35 = .ok (.imul, 1) := by decide +kernel
theorem dX4_compare_36 : decode cX4_compare 36 = .ok (.iconst 3, 1) := by decide +kernel
theorem dX4_compare_37 : decode cX4_compare 37 = .ok (.iload_n 1, 1) := by decide +kernel
theorem dX4_compare_38 : decode cX4_compare 38 = .ok (.imul, 1) := by decide +kernel
theorem dX4_compare_39 : decode cX4_compare 39 = .ok (.invokevirtual 72, 3) := by decide +kernel
theorem dX4_compare_42 : decode cX4_compare 42 = .ok (.istore 4, 2) := by decide +kernel
theorem dX4_compare_44 : decode cX4_compare 44 = .ok (.iload_n 3, 1) := by decide +kernel
theorem dX4_compare_45 : decode cX4_compare 45 = .ok (.ifCond .eq 12, 3) := by decide +kernel
theorem dX4_compare_48 : decode cX4_compare 48 = .ok (.iload 4, 2) := by decide +kernel
theorem dX4_compare_50 : decode cX4_compare 50 = .ok (.ifCond .eq 7, 3) := by decide +kernel
theorem dX4_compare_53 : decode cX4_compare 53 = .ok (.iconst 0, 1) := by decide +kernel
theorem dX4_compare_54 : decode cX4_compare 54 = .ok (.goto 21, 3) := by decide +kernel
theorem dX4_compare_57 : decode cX4_compare 57 = .ok (.iload_n 3, 1) := by decide +kernel
theorem dX4_compare_58 : decode cX4_compare 58 = .ok (.ifCond .eq 7, 3) := by decide +kernel
theorem dX4_compare_61 : decode cX4_compare 61 = .ok (.iconst 1, 1) := by decide +kernel
theorem dX4_compare_62 : decode cX4_compare 62 = .ok (.goto 13, 3) := by decide +kernel
theorem dX4_compare_65 : decode cX4_compare 65 = .ok (.iload 4, 2) := by decide +kernel
theorem dX4_compare_67 : decode cX4_compare 67 = .ok (.ifCond .eq 7, 3) := by decide +kernel
theorem dX4_compare_70 : decode cX4_compare 70 = .ok (.iconst 2, 1) := by decide +kernel
theorem dX4_compare_71 : decode cX4_compare 71 = .ok (.goto 4, 3) := by decide +kernel
theorem dX4_compare_74 : decode cX4_compare 74 = .ok (.iconst 3, 1) := by decide +kernel
theorem dX4_compare_75 : decode cX4_compare 75 = .ok (.ireturn, 1) := by decide +kernel
set_option maxRecDepth 20000 in
theorem ggX4_breaches_X4_in : GoodIn wsX4_breaches wsX4_in := goodIn_r _ [6] (by decide +kernel) (by decide +kernel)
set_option maxRecDepth 20000 in
theorem gX4_breaches_X4_in : GoodIn wsX4_breaches (va_wsS RX4 41 yX4_in wsX4_in) := goodIn_app (goodIn_of _ (by decide +kernel)) ggX4_breaches_X4_in
set_option maxRecDepth 20000 in
theorem ggX4_breaches_X4_error : GoodIn wsX4_breaches wsX4_error := goodIn_r _ [10, 11, 12, 13, 14, 15, 16, 17, 18, 19, 20, 21] (by decide +kernel) (by decide +kernel)
set_option maxRecDepth 20000 in
theorem gX4_breaches_X4_error : GoodIn wsX4_breaches (wsV RX4 28 RX4 yX4_error wsX4_error) := goodIn_app (goodIn_of _ (by decide +kernel)) ggX4_breaches_X4_error
theorem dX4_breaches_0 : decode cX4_breaches 0 = .ok (.iload_n 1, 1) := by decide +kernel
theorem dX4_breaches_1 : decode cX4_breaches 1 = .ok (.i2l, 1) := by decide +kernel
theorem dX4_breaches_2 : decode cX4_breaches 2 = .ok (.lconst 0, 1) := by decide +kernel
theorem dX4_breaches_3 : decode cX4_breaches 3 = .ok (.ldc2_w 39, 3) := by decide +kernel
theorem dX4_breaches_6 : decode cX4_breaches 6 = .ok (.invokestatic 41, 3) := by decide +kernel
theorem dX4_breaches_9 : decode cX4_breaches 9 = .ok (.ifCond .eq 16, 3) := by decide +kernel
theorem dX4_breaches_12 : decode cX4_breaches 12 = .ok (.aload_n 0, 1) := by decide +kernel
theorem dX4_breaches_13 : decode cX4_breaches 13 = .ok (.getfield 7, 3) := by decide +kernel
theorem dX4_breaches_16 : decode cX4_breaches 16 = .ok (.sipush 341, 3) := by decide +kernel
theorem dX4_breaches_19 : decode cX4_breaches 19 = .ok (.iload_n 1, 1) := by decide +kernel
theorem dX4_breaches_20 : decode cX4_breaches 20 = .ok (.iadd, 1) := by decide +kernel
theorem dX4_breaches_21 : decode cX4_breaches 21 = .ok (.iaload, 1) := by decide +kernel
theorem dX4_breaches_22 : decode cX4_breaches 22 = .ok (.goto 9, 3) := by decide +kernel
theorem dX4_breaches_25 : decode cX4_breaches 25 = .ok (.aload_n 0, 1) := by decide +kernel
theorem dX4_breaches_26 : decode cX4_breaches 26 = .ok (.bipush (-2), 2) := by decide +kernel
theorem dX4_breaches_28 : decode cX4_breaches 28 = .ok (.invokevirtual 28, 3) := by decide +kernel
theorem dX4_breaches_31 : decode cX4_breaches 31 = .ok (.ireturn, 1) := by decide +kernel
set_option maxRecDepth 20000 in
theorem ggX4_append_X4_in : GoodIn wsX4_append wsX4_in := goodIn_r _ [7] (by decide +kernel) (by decide +kernel)
set_option maxRecDepth 20000 in
theorem gX4_append_X4_in : GoodIn wsX4_append (va_wsS RX4 41 yX4_in wsX4_in) := goodIn_app (goodIn_of _ (by decide +kernel)) ggX4_append_X4_in
set_option maxRecDepth 20000 in
theorem ggX4_append_X4_error : GoodIn wsX4_append wsX4_error := goodIn_r _ [11, 12, 13, 14, 15, 16, 17, 18, 19, 20, 21, 22] (by decide +kernel) (by decide +kernel)
set_option maxRecDepth 20000 in
theorem gX4_append_X4_error : GoodIn wsX4_append (wsV RX4 28 RX4 yX4_error wsX4_error) := goodIn_app (goodIn_of _ (by decide +kernel)) ggX4_append_X4_error
theorem dX4_append_0 : decode cX4_append 0 = .ok (.iload_n 1, 1) := by decide +kernel
theorem dX4_append_1 : decode cX4_append 1 = .ok (.i2l, 1) := by decide +kernel
theorem dX4_append_2 : decode cX4_append 2 = .ok (.lconst 0, 1) := by decide +kernel
theorem dX4_append_3 : decode cX4_append 3 = .ok (.ldc2_w 117, 3) := by decide +kernel
theorem dX4_append_6 : decode cX4_append 6 = .ok (.invokestatic 41, 3) := by decide +kernel
theorem dX4_append_9 : decode cX4_append 9 = .ok (.ifCond .ne 10, 3) := by decide +kernel
theorem dX4_append_12 : decode cX4_append 12 = .ok (.aload_n 0, 1) := by decide +kernel
theorem dX4_append_13 : decode cX4_append 13 = .ok (.bipush (-2), 2) := by decide +kernel
theorem dX4_append_15 : decode cX4_append 15 = .ok (.invokevirtual 28, 3) := by decide +kernel
theorem dX4_append_18 : decode cX4_append 18 = .ok (.ireturn, 1) := by decide +kernel
theorem dX4_append_19 : decode cX4_append 19 = .ok (.aload_n 0, 1) := by decide +kernel
theorem dX4_append_20 : decode cX4_append 20 = .ok (.getfield 119, 3) := by decide +kernel
theorem dX4_append_23 : decode cX4_append 23 = .ok (.bipush 100, 2) := by decide +kernel
theorem dX4_append_25 : decode cX4_append 25 = .ok (.if_icmp .ne 10, 3) := by decide +kernel
theorem dX4_append_28 : decode cX4_append 28 = .ok (.aload_n 0, 1) := by decide +kernel
theorem dX4_append_29 : decode cX4_append 29 = .ok (.bipush (-4), 2) := by decide +kernel
theorem dX4_append_31 : decode cX4_append 31 = .ok (.invokevirtual 28, 3) := by decide +kernel
theorem dX4_append_34 : decode cX4_append 34 = .ok (.ireturn, 1) := by decide +kernel
theorem dX4_append_35 : decode cX4_append 35 = .ok (.aload_n 0, 1) := by decide +kernel
theorem dX4_append_36 : decode cX4_append 36 = .ok (.getfield 22, 3) := by decide +kernel
theorem dX4_append_39 : decode cX4_append 39 = .ok (.aload_n 0, 1) := by decide +kernel
theorem dX4_append_40 : decode cX4_append 40 = .ok (.getfield 119, 3) := by decide +kernel
theorem dX4_append_43 : decode cX4_append 43 = .ok (.iload_n 1, 1) := by decide +kernel
theorem dX4_append_44 : decode cX4_append 44 = .ok (.iastore, 1) := by decide +kernel
theorem dX4_append_45 : decode cX4_append 45 = .ok (.aload_n 0, 1) := by decide +kernel
theorem dX4_append_46 : decode cX4_append 46 = .ok (.dup, 1) := by decide +kernel
theorem dX4_append_47 : decode cX4_append 47 = .ok (.getfield 119, 3) := by decide +kernel
theorem dX4_append_50 : decode cX4_append 50 = .ok (.iconst 1, 1) := by decide +kernel
theorem dX4_append_51 : decode cX4_append 51 = .ok (.iadd, 1) := by decide +kernel
theorem dX4_append_52 : decode cX4_append 52 = .ok (.putfield 119, 3) := by decide +kernel
theorem dX4_append_55 : decode cX4_append 55 = .ok (.aload_n 0, 1) := by decide +kernel
theorem dX4_append_56 : decode cX4_append 56 = .ok (.getfield 119, 3) := by decide +kernel
theorem dX4_append_59 : decode cX4_append 59 = .ok (.ireturn, 1) := by decide +kernel
theorem dX4_clearText_0 : decode cX4_clearText 0 = .ok (.aload_n 0, 1) := by decide +kernel
theorem dX4_clearText_1 : decode cX4_clearText 1 = .ok (.getfield 119, 3) := by decide +kernel
theorem dX4_clearText_4 : decode cX4_clearText 4 = .ok (.istore_n 1, 1) := by decide +kernel
theorem dX4_clearText_5 : decode cX4_clearText 5 = .ok (.aload_n 0, 1) := by decide +kernel
theorem dX4_clearText_6 : decode cX4_clearText 6 = .ok (.iconst 0, 1) := by decide +kernel
theorem dX4_clearText_7 : decode cX4_clearText 7 = .ok (.putfield 119, 3) := by decide +kernel
theorem dX4_clearText_10 : decode cX4_clearText 10 = .ok (.iload_n 1, 1) := by decide +kernel
theorem dX4_clearText_11 : decode cX4_clearText 11 = .ok (.ireturn, 1) := by decide +kernel
theorem dX4_here_0 : decode cX4_here 0 = .ok (.aload_n 0, 1) := by decide +kernel
theorem dX4_here_1 : decode cX4_here 1 = .ok (.getfield 122, 3) := by decide +kernel
theorem dX4_here_4 : decode cX4_here 4 = .ok (.aload_n 0, 1) := by decide +kernel
theorem dX4_here_5 : decode cX4_here 5 = .ok (.getfield 119, 3) := by decide +kernel
theorem dX4_here_8 : decode cX4_here 8 = .ok (.if_icmp .ge 30, 3) := by decide +kernel
theorem dX4_here_11 : decode cX4_here 11 = .ok (.aload_n 0, 1) := by decide +kernel
theorem dX4_here_12 : decode cX4_here 12 = .ok (.getfield 22, 3) := by decide +kernel
theorem dX4_here_15 : decode cX4_here 15 = .ok (.aload_n 0, 1) := by decide +kernel
theorem dX4_here_16 : decode cX4_here 16 = .ok (.getfield 122, 3) := by decide +kernel
theorem dX4_here_19 : decode cX4_here 19 = .ok (.iaload, 1) := by decide +kernel
theorem dX4_here_20 : decode cX4_here 20 = .ok (.bipush 32, 2) := by decide +kernel
theorem dX4_here_22 : decode cX4_here 22 = .ok (.if_icmp .ne 16, 3) := by decide +kernel
theorem dX4_here_25 : decode cX4_here 25 = .ok (.aload_n 0, 1) := by decide +kernel
theorem dX4_here_26 : decode cX4_here 26 = .ok (.dup, 1) := by decide +kernel
theorem dX4_here_27 : decode cX4_here 27 = .ok (.getfield 122, 3) := by decide +kernel
theorem dX4_here_30 : decode cX4_here 30 = .ok (.iconst 1, 1) := by decide +kernel
theorem dX4_here_31 : decode cX4_here 31 = .ok (.iadd, 1) := by decide +kernel
theorem dX4_here_32 : decode cX4_here 32 = .ok (.putfield 122, 3) := by decide +kernel
theorem dX4_here_35 : decode cX4_here 35 = .ok (.goto (-35), 3) := by decide +kernel
theorem dX4_here_38 : decode cX4_here 38 = .ok (.aload_n 0, 1) := by decide +kernel
theorem dX4_here_39 : decode cX4_here 39 = .ok (.getfield 122, 3) := by decide +kernel
theorem dX4_here_42 : decode cX4_here 42 = .ok (.aload_n 0, 1) := by decide +kernel
theorem dX4_here_43 : decode cX4_here 43 = .ok (.getfield 119, 3) := by decide +kernel
theorem dX4_here_46 : decode cX4_here 46 = .ok (.if_icmp .ge 15, 3) := by decide +kernel
theorem dX4_here_49 : decode cX4_here 49 = .ok (.aload_n 0, 1) := by decide +kernel
theorem dX4_here_50 : decode cX4_here 50 = .ok (.getfield 22, 3) := by decide +kernel
theorem dX4_here_53 : decode cX4_here 53 = .ok (.aload_n 0, 1) := by decide +kernel
theorem dX4_here_54 : decode cX4_here 54 = .ok (.getfield 122, 3) := by decide +kernel
theorem dX4_here_57 : decode cX4_here 57 = .ok (.iaload, 1) := by decide +kernel
theorem dX4_here_58 : decode cX4_here 58 = .ok (.goto 4, 3) := by decide +kernel
theorem dX4_here_61 : decode cX4_here 61 = .ok (.iconst (-1), 1) := by decide +kernel
theorem dX4_here_62 : decode cX4_here 62 = .ok (.ireturn, 1) := by decide +kernel
set_option maxRecDepth 20000 in
theorem ggX4_isDigit_X4_in : GoodIn wsX4_isDigit wsX4_in := goodIn_r _ [9] (by decide +kernel) (by decide +kernel)
set_option maxRecDepth 20000 in
theorem gX4_isDigit_X4_in : GoodIn wsX4_isDigit (va_wsS RX4 41 yX4_in wsX4_in) := goodIn_app (goodIn_of _ (by decide +kernel)) ggX4_isDigit_X4_in
theorem dX4_isDigit_0 : decode cX4_isDigit 0 = .ok (.aload_n 0, 1) := by decide +kernel
theorem dX4_isDigit_1 : decode cX4_isDigit 1 = .ok (.getfield 122, 3) := by decide +kernel
theorem dX4_isDigit_4 : decode cX4_isDigit 4 = .ok (.aload_n 0, 1) := by decide +kernel
theorem dX4_isDigit_5 : decode cX4_isDigit 5 = .ok (.getfield 119, 3) := by decide +kernel
theorem dX4_isDigit_8 : decode cX4_isDigit 8 = .ok (.if_icmp .ge 29, 3) := by decide +kernel
theorem dX4_isDigit_11 : decode cX4_isDigit 11 = .ok (.aload_n 0, 1) := by decide +kernel
theorem dX4_isDigit_12 : decode cX4_isDigit 12 = .ok (.getfield 22, 3) := by decide +kernel
theorem dX4_isDigit_15 : decode cX4_isDigit 15 = .ok (.aload_n 0, 1) := by decide +kernel
theorem dX4_isDigit_16 : decode cX4_isDigit 16 = .ok (.getfield 122, 3) := by decide +kernel
theorem dX4_isDigit_19 : decode cX4_isDigit 19 = .ok (.iaload, 1) := by decide +kernel
theorem dX4_isDigit_20 : decode cX4_isDigit 20 = .ok (.i2l, 1) := by decide +kernel
theorem dX4_isDigit_21 : decode cX4_isDigit 21 = .ok (.ldc2_w 125, 3) := by decide +kernel
theorem dX4_isDigit_24 : decode cX4_isDigit 24 = .ok (.ldc2_w 127, 3) := by decide +kernel
theorem dX4_isDigit_27 : decode cX4_isDigit 27 = .ok (.invokestatic 41, 3) := by decide +kernel
theorem dX4_isDigit_30 : decode cX4_isDigit 30 = .ok (.ifCond .eq 7, 3) := by decide +kernel
theorem dX4_isDigit_33 : decode cX4_isDigit 33 = .ok (.iconst 1, 1) := by decide +kernel
theorem dX4_isDigit_34 : decode cX4_isDigit 34 = .ok (.goto 4, 3) := by decide +kernel
theorem dX4_isDigit_37 : decode cX4_isDigit 37 = .ok (.iconst 0, 1) := by decide +kernel
theorem dX4_isDigit_38 : decode cX4_isDigit 38 = .ok (.ireturn, 1) := by decide +kernel
set_option maxRecDepth 20000 in
theorem ggX4_takesNumber_X4_here : GoodIn wsX4_takesNumber wsX4_here := goodIn_r _ [10, 5, 11, 4, 19, 20, 21, 22, 23, 24, 25, 26, 27, 28] (by decide +kernel) (by decide +kernel)
set_option maxRecDepth 20000 in
theorem gX4_takesNumber_X4_here : GoodIn wsX4_takesNumber (wsV RX4 129 RX4 yX4_here wsX4_here) := goodIn_app (goodIn_of _ (by decide +kernel)) ggX4_takesNumber_X4_here
set_option maxRecDepth 20000 in
theorem ggX4_takesNumber_X4_in : GoodIn wsX4_takesNumber wsX4_in := goodIn_r _ [14] (by decide +kernel) (by decide +kernel)
set_option maxRecDepth 20000 in
theorem gX4_takesNumber_X4_in : GoodIn wsX4_takesNumber (va_wsS RX4 41 yX4_in wsX4_in) := goodIn_app (goodIn_of _ (by decide +kernel)) ggX4_takesNumber_X4_in
set_option maxRecDepth 20000 in
theorem ggX4_takesNumber_X4_isDigit : GoodIn wsX4_takesNumber wsX4_isDigit := goodIn_r _ [18, 5, 11, 4, 1, 2, 12, 13, 9, 14, 19, 20, 21, 22, 23, 24, 25, 26, 27, 28] (by decide +kernel) (by decide +kernel)
set_option maxRecDepth 20000 in
theorem gX4_takesNumber_X4_isDigit : GoodIn wsX4_takesNumber (wsV RX4 133 RX4 yX4_isDigit wsX4_isDigit) := goodIn_app (goodIn_of _ (by decide +kernel)) ggX4_takesNumber_X4_isDigit
theorem dX4_takesNumber_0 : decode cX4_takesNumber 0 = .ok (.aload_n 0, 1) := by decide +kernel
theorem dX4_takesNumber_1 : decode cX4_takesNumber 1 = .ok (.invokevirtual 129, 3) := by decide +kernel
theorem dX4_takesNumber_4 : decode cX4_takesNumber 4 = .ok (.istore_n 2, 1) := by decide +kernel
theorem dX4_takesNumber_5 : decode cX4_takesNumber 5 = .ok (.iload_n 2, 1) := by decide +kernel
theorem dX4_takesNumber_6 : decode cX4_takesNumber 6 = .ok (.i2l, 1) := by decide +kernel
theorem dX4_takesNumber_7 : decode cX4_takesNumber 7 = .ok (.ldc2_w 125, 3) := by decide +kernel
theorem dX4_takesNumber_10 : decode cX4_takesNumber 10 = .ok (.ldc2_w 127, 3) := by decide +kernel
theorem dX4_takesNumber_13 : decode cX4_takesNumber 13 = .ok (.invokestatic 41, 3) := by decide +kernel
theorem dX4_takesNumber_16 : decode cX4_takesNumber 16 = .ok (.ifCond .ne 5, 3) := by decide +kernel
theorem dX4_takesNumber_19 : decode cX4_takesNumber 19 = .ok (.iconst 0, 1) := by decide +kernel
theorem dX4_takesNumber_20 : decode cX4_takesNumber 20 = .ok (.ireturn, 1) := by decide +kernel
theorem dX4_takesNumber_21 : decode cX4_takesNumber 21 = .ok (.aload_n 0, 1) := by decide +kernel
theorem dX4_takesNumber_22 : decode cX4_takesNumber 22 = .ok (.getfield 25, 3) := by decide +kernel
theorem dX4_takesNumber_25 : decode cX4_takesNumber 25 = .ok (.iload_n 1, 1) := by decide +kernel
theorem dX4_takesNumber_26 : decode cX4_takesNumber 26 = .ok (.iconst 0, 1) := by decide +kernel
theorem dX4_takesNumber_27 : decode cX4_takesNumber 27 = .ok (.iastore, 1) := by decide +kernel
theorem dX4_takesNumber_28 : decode cX4_takesNumber 28 = .ok (.iconst 0, 1) := by decide +kernel
theorem dX4_takesNumber_29 : decode cX4_takesNumber 29 = .ok (.istore_n 3, 1) := by decide +kernel
theorem dX4_takesNumber_30 : decode cX4_takesNumber 30 = .ok (.iload_n 3, 1) := by decide +kernel
theorem dX4_takesNumber_31 : decode cX4_takesNumber 31 = .ok (.iconst 2, 1) := by decide +kernel
theorem dX4_takesNumber_32 : decode cX4_takesNumber 32 = .ok (.if_icmp .ge 54, 3) := by decide +kernel
theorem dX4_takesNumber_35 : decode cX4_takesNumber 35 = .ok (.aload_n 0, 1) := by decide +kernel
theorem dX4_takesNumber_36 : decode cX4_takesNumber 36 = .ok (.invokevirtual 133, 3) := by decide +kernel
theorem dX4_takesNumber_39 : decode cX4_takesNumber 39 = .ok (.ifCond .eq 47, 3) := by decide +kernel
theorem dX4_takesNumber_42 : decode cX4_takesNumber 42 = .ok (.aload_n 0, 1) := by decide +kernel
theorem dX4_takesNumber_43 : decode cX4_takesNumber 43 = .ok (.getfield 25, 3) := by decide +kernel
theorem dX4_takesNumber_46 : decode cX4_takesNumber 46 = .ok (.iload_n 1, 1) := by decide +kernel
theorem dX4_takesNumber_47 : decode cX4_takesNumber 47 = .ok (.bipush 10, 2) := by decide +kernel
theorem dX4_takesNumber_49 : decode cX4_takesNumber 49 = .ok (.aload_n 0, 1) := by decide +kernel
theorem dX4_takesNumber_50 : decode cX4_takesNumber 50 = .ok (.getfield 25, 3) := by decide +kernel
theorem dX4_takesNumber_53 : decode cX4_takesNumber 53 = .ok (.iload_n 1, 1) := by decide +kernel
theorem dX4_takesNumber_54 : decode cX4_takesNumber 54 = .ok (.iaload, 1) := by decide +kernel
theorem dX4_takesNumber_55 : decode cX4_takesNumber 55 = .ok (.imul, 1) := by decide +kernel
theorem dX4_takesNumber_56 : decode cX4_takesNumber 56 = .ok (.aload_n 0, 1) := by decide +kernel
theorem dX4_takesNumber_57 : decode cX4_takesNumber 57 = .ok (.getfield 22, 3) := by decide +kernel
theorem dX4_takesNumber_60 : decode cX4_takesNumber 60 = .ok (.aload_n 0, 1) := by decide +kernel
theorem dX4_takesNumber_61 : decode cX4_takesNumber 61 = .ok (.getfield 122, 3) := by decide +kernel
theorem dX4_takesNumber_64 : decode cX4_takesNumber 64 = .ok (.iaload, 1) := by decide +kernel
theorem dX4_takesNumber_65 : decode cX4_takesNumber 65 = .ok (.iadd, 1) := by decide +kernel
theorem dX4_takesNumber_66 : decode cX4_takesNumber 66 = .ok (.bipush 48, 2) := by decide +kernel
theorem dX4_takesNumber_68 : decode cX4_takesNumber 68 = .ok (.isub, 1) := by decide +kernel
theorem dX4_takesNumber_69 : decode cX4_takesNumber 69 = .ok (.iastore, 1) := by decide +kernel
theorem dX4_takesNumber_70 : decode cX4_takesNumber 70 = .ok (.aload_n 0, 1) := by decide +kernel
theorem dX4_takesNumber_71 : decode cX4_takesNumber 71 = .ok (.dup, 1) := by decide +kernel
theorem dX4_takesNumber_72 : decode cX4_takesNumber 72 = .ok (.getfield 122, 3) := by decide +kernel
theorem dX4_takesNumber_75 : decode cX4_takesNumber 75 = .ok (.iconst 1, 1) := by decide +kernel
theorem dX4_takesNumber_76 : decode cX4_takesNumber 76 = .ok (.iadd, 1) := by decide +kernel
theorem dX4_takesNumber_77 : decode cX4_takesNumber 77 = .ok (.putfield 122, 3) := by decide +kernel
theorem dX4_takesNumber_80 : decode cX4_takesNumber 80 = .ok (.iinc 3 1, 3) := by decide +kernel
theorem dX4_takesNumber_83 : decode cX4_takesNumber 83 = .ok (.goto (-53), 3) := by decide +kernel
theorem dX4_takesNumber_86 : decode cX4_takesNumber 86 = .ok (.aload_n 0, 1) := by decide +kernel
theorem dX4_takesNumber_87 : decode cX4_takesNumber 87 = .ok (.invokevirtual 133, 3) := by decide +kernel
theorem dX4_takesNumber_90 : decode cX4_takesNumber 90 = .ok (.ifCond .ne 7, 3) := by decide +kernel
theorem dX4_takesNumber_93 : decode cX4_takesNumber 93 = .ok (.iconst 1, 1) := by decide +kernel
theorem dX4_takesNumber_94 : decode cX4_takesNumber 94 = .ok (.goto 4, 3) := by decide +kernel
theorem dX4_takesNumber_97 : decode cX4_takesNumber 97 = .ok (.iconst 0, 1) := by decide +kernel
theorem dX4_takesNumber_98 : decode cX4_takesNumber 98 = .ok (.ireturn, 1) := by decide +kernel
theorem dX4_numbersOf_0 : decode cX4_numbersOf 0 = .ok (.iload_n 0, 1) := by decide +kernel
theorem dX4_numbersOf_1 : decode cX4_numbersOf 1 = .ok (.bipush 102, 2) := by decide +kernel
theorem dX4_numbersOf_3 : decode cX4_numbersOf 3 = .ok (.if_icmp .ne 7, 3) := by decide +kernel
theorem dX4_numbersOf_6 : decode cX4_numbersOf 6 = .ok (.iconst 1, 1) := by decide +kernel
theorem dX4_numbersOf_7 : decode cX4_numbersOf 7 = .ok (.goto 40, 3) := by decide +kernel
theorem dX4_numbersOf_10 : decode cX4_numbersOf 10 = .ok (.iload_n 0, 1) := by decide +kernel
theorem dX4_numbersOf_11 : decode cX4_numbersOf 11 = .ok (.bipush 103, 2) := by decide +kernel
theorem dX4_numbersOf_13 : decode cX4_numbersOf 13 = .ok (.if_icmp .eq 9, 3) := by decide +kernel
theorem dX4_numbersOf_16 : decode cX4_numbersOf 16 = .ok (.iload_n 0, 1) := by decide +kernel
theorem dX4_numbersOf_17 : decode cX4_numbersOf 17 = .ok (.bipush 115, 2) := by decide +kernel
theorem dX4_numbersOf_19 : decode cX4_numbersOf 19 = .ok (.if_icmp .ne 7, 3) := by decide +kernel
theorem dX4_numbersOf_22 : decode cX4_numbersOf 22 = .ok (.iconst 2, 1) := by decide +kernel
theorem dX4_numbersOf_23 : decode cX4_numbersOf 23 = .ok (.goto 24, 3) := by decide +kernel
theorem dX4_numbersOf_26 : decode cX4_numbersOf 26 = .ok (.iload_n 0, 1) := by decide +kernel
theorem dX4_numbersOf_27 : decode cX4_numbersOf 27 = .ok (.bipush 114, 2) := by decide +kernel
theorem dX4_numbersOf_29 : decode cX4_numbersOf 29 = .ok (.if_icmp .ne 7, 3) := by decide +kernel
theorem dX4_numbersOf_32 : decode cX4_numbersOf 32 = .ok (.iconst 3, 1) := by decide +kernel
theorem dX4_numbersOf_33 : decode cX4_numbersOf 33 = .ok (.goto 14, 3) := by decide +kernel
theorem dX4_numbersOf_36 : decode cX4_numbersOf 36 = .ok (.iload_n 0, 1) := by decide +kernel
theorem dX4_numbersOf_37 : decode cX4_numbersOf 37 = .ok (.bipush 119, 2) := by decide +kernel
theorem dX4_numbersOf_39 : decode cX4_numbersOf 39 = .ok (.if_icmp .ne 7, 3) := by decide +kernel
theorem dX4_numbersOf_42 : decode cX4_numbersOf 42 = .ok (.iconst 4, 1) := by decide +kernel
theorem dX4_numbersOf_43 : decode cX4_numbersOf 43 = .ok (.goto 4, 3) := by decide +kernel
theorem dX4_numbersOf_46 : decode cX4_numbersOf 46 = .ok (.iconst (-1), 1) := by decide +kernel
theorem dX4_numbersOf_47 : decode cX4_numbersOf 47 = .ok (.ireturn, 1) := by decide +kernel
set_option maxRecDepth 20000 in
theorem ggX4_takesCommand_X4_here : GoodIn wsX4_takesCommand wsX4_here := goodIn_r _ [7, 2, 8, 9, 27, 28, 29, 30, 31, 32, 33, 34, 35, 36] (by decide +kernel) (by decide +kernel)
set_option maxRecDepth 20000 in
theorem gX4_takesCommand_X4_here : GoodIn wsX4_takesCommand (wsV RX4 129 RX4 yX4_here wsX4_here) := goodIn_app (goodIn_of _ (by decide +kernel)) ggX4_takesCommand_X4_here
set_option maxRecDepth 20000 in
theorem ggX4_takesCommand_X4_numbersOf : GoodIn wsX4_takesCommand wsX4_numbersOf := goodIn_r _ [12] (by decide +kernel) (by decide +kernel)
set_option maxRecDepth 20000 in
theorem gX4_takesCommand_X4_numbersOf : GoodIn wsX4_takesCommand (va_wsS RX4 140 yX4_numbersOf wsX4_numbersOf) := goodIn_app (goodIn_of _ (by decide +kernel)) ggX4_takesCommand_X4_numbersOf
set_option maxRecDepth 20000 in
theorem ggX4_takesCommand_X4_takesNumber : GoodIn wsX4_takesCommand wsX4_takesNumber := goodIn_r _ [16, 17, 18, 19, 9, 2, 3, 4, 5, 6, 7, 8, 20, 21, 22, 23, 24, 25, 26, 27, 28, 29, 30, 31, 32, 33, 34, 35, 36] (by decide +kernel) (by decide +kernel)
set_option maxRecDepth 20000 in
theorem gX4_takesCommand_X4_takesNumber : GoodIn wsX4_takesCommand (wsV RX4 143 RX4 yX4_takesNumber wsX4_takesNumber) := goodIn_app (goodIn_of _ (by decide +kernel)) ggX4_takesCommand_X4_takesNumber
theorem dX4_takesCommand_0 : decode cX4_takesCommand 0 = .ok (.aload_n 0, 1) := by decide +kernel
theorem dX4_takesCommand_1 : decode cX4_takesCommand 1 = .ok (.aload_n 0, 1) := by decide +kernel
theorem dX4_takesCommand_2 : decode cX4_takesCommand 2 = .ok (.invokevirtual 129, 3) := by decide +kernel
theorem dX4_takesCommand_5 : decode cX4_takesCommand 5 = .ok (.putfield 137, 3) := by decide +kernel
theorem dX4_takesCommand_8 : decode cX4_takesCommand 8 = .ok (.aload_n 0, 1) := by decide +kernel
theorem dX4_takesCommand_9 : decode cX4_takesCommand 9 = .ok (.getfield 137, 3) := by decide +kernel
theorem dX4_takesCommand_12 : decode cX4_takesCommand 12 = .ok (.invokestatic 140, 3) := by decide +kernel
theorem dX4_takesCommand_15 : decode cX4_takesCommand 15 = .ok (.istore_n 1, 1) := by decide +kernel
theorem dX4_takesCommand_16 : decode cX4_takesCommand 16 = .ok (.iload_n 1, 1) := by decide +kernel
theorem dX4_takesCommand_17 : decode cX4_takesCommand 17 = .ok (.iconst (-1), 1) := by decide +kernel
theorem dX4_takesCommand_18 : decode cX4_takesCommand 18 = .ok (.if_icmp .ne 5, 3) := by decide +kernel
theorem dX4_takesCommand_21 : decode cX4_takesCommand 21 = .ok (.iconst 0, 1) := by decide +kernel
theorem dX4_takesCommand_22 : decode cX4_takesCommand 22 = .ok (.ireturn, 1) := by decide +kernel
theorem dX4_takesCommand_23 : decode cX4_takesCommand 23 = .ok (.aload_n 0, 1) := by decide +kernel
theorem dX4_takesCommand_24 : decode cX4_takesCommand 24 = .ok (.dup, 1) := by decide +kernel
theorem dX4_takesCommand_25 : decode cX4_takesCommand 25 = .ok (.getfield 122, 3) := by decide +kernel
theorem dX4_takesCommand_28 : decode cX4_takesCommand 28 = .ok (.iconst 1, 1) := by decide +kernel
theorem dX4_takesCommand_29 : decode cX4_takesCommand 29 = .ok (.iadd, 1) := by decide +kernel
theorem dX4_takesCommand_30 : decode cX4_takesCommand 30 = .ok (.putfield 122, 3) := by decide +kernel
theorem dX4_takesCommand_33 : decode cX4_takesCommand 33 = .ok (.iconst 0, 1) := by decide +kernel
theorem dX4_takesCommand_34 : decode cX4_takesCommand 34 = .ok (.istore_n 2, 1) := by decide +kernel
theorem dX4_takesCommand_35 : decode cX4_takesCommand 35 = .ok (.iload_n 2, 1) := by decide +kernel
theorem dX4_takesCommand_36 : decode cX4_takesCommand 36 = .ok (.iload_n 1, 1) := by decide +kernel
theorem dX4_takesCommand_37 : decode cX4_takesCommand 37 = .ok (.if_icmp .ge 19, 3) := by decide +kernel
theorem dX4_takesCommand_40 : decode cX4_takesCommand 40 = .ok (.aload_n 0, 1) := by decide +kernel
theorem dX4_takesCommand_41 : decode cX4_takesCommand 41 = .ok (.iload_n 2, 1) := by decide +kernel
theorem dX4_takesCommand_42 : decode cX4_takesCommand 42 = .ok (.invokevirtual 143, 3) := by decide +kernel
theorem dX4_takesCommand_45 : decode cX4_takesCommand 45 = .ok (.ifCond .ne 5, 3) := by decide +kernel
theorem dX4_takesCommand_48 : decode cX4_takesCommand 48 = .ok (.iconst 0, 1) := by decide +kernel
theorem dX4_takesCommand_49 : decode cX4_takesCommand 49 = .ok (.ireturn, 1) := by decide +kernel
theorem dX4_takesCommand_50 : decode cX4_takesCommand 50 = .ok (.iinc 2 1, 3) := by decide +kernel
theorem dX4_takesCommand_53 : decode cX4_takesCommand 53 = .ok (.goto (-18), 3) := by decide +kernel
theorem dX4_takesCommand_56 : decode cX4_takesCommand 56 = .ok (.aload_n 0, 1) := by decide +kernel
theorem dX4_takesCommand_57 : decode cX4_takesCommand 57 = .ok (.invokevirtual 129, 3) := by decide +kernel
theorem dX4_takesCommand_60 : decode cX4_takesCommand 60 = .ok (.bipush 59, 2) := by decide +kernel
theorem dX4_takesCommand_62 : decode cX4_takesCommand 62 = .ok (.if_icmp .eq 5, 3) := by decide +kernel
theorem dX4_takesCommand_65 : decode cX4_takesCommand 65 = .ok (.iconst 0, 1) := by decide +kernel
theorem dX4_takesCommand_66 : decode cX4_takesCommand 66 = .ok (.ireturn, 1) := by decide +kernel
theorem dX4_takesCommand_67 : decode cX4_takesCommand 67 = .ok (.aload_n 0, 1) := by decide +kernel
theorem dX4_takesCommand_68 : decode cX4_takesCommand 68 = .ok (.dup, 1) := by decide +kernel
theorem dX4_takesCommand_69 : decode cX4_takesCommand 69 = .ok (.getfield 122, 3) := by decide +kernel
theorem dX4_takesCommand_72 : decode cX4_takesCommand 72 = .ok (.iconst 1, 1) := by decide +kernel
theorem dX4_takesCommand_73 : decode cX4_takesCommand 73 = .ok (.iadd, 1) := by decide +kernel
theorem dX4_takesCommand_74 : decode cX4_takesCommand 74 = .ok (.putfield 122, 3) := by decide +kernel
theorem dX4_takesCommand_77 : decode cX4_takesCommand 77 = .ok (.iconst 1, 1) := by decide +kernel
theorem dX4_takesCommand_78 : decode cX4_takesCommand 78 = .ok (.ireturn, 1) := by decide +kernel
set_option maxRecDepth 20000 in
theorem ggX4_doesCommand_X4_doesForget : GoodIn wsX4_doesCommand wsX4_doesForget := goodIn_r _ [7, 8, 9, 10, 6, 11, 12, 13, 14, 15, 69, 70, 71, 72, 73, 74, 75, 76, 77, 78] (by decide +kernel) (by decide +kernel)
set_option maxRecDepth 20000 in
theorem gX4_doesCommand_X4_doesForget : GoodIn wsX4_doesCommand (wsV RX4 66 RX4 yX4_doesForget wsX4_doesForget) := goodIn_app (goodIn_of _ (by decide +kernel)) ggX4_doesCommand_X4_doesForget
set_option maxRecDepth 20000 in
theorem ggX4_doesCommand_X4_doesSet : GoodIn wsX4_doesCommand wsX4_doesSet := goodIn_r _ [19, 20, 8, 9, 10, 6, 11, 12, 13, 14, 15, 21, 22, 23, 24, 69, 70, 71, 72, 73, 74, 75, 76, 77, 78] (by decide +kernel) (by decide +kernel)
set_option maxRecDepth 20000 in
theorem gX4_doesCommand_X4_doesSet : GoodIn wsX4_doesCommand (wsV RX4 59 RX4 yX4_doesSet wsX4_doesSet) := goodIn_app (goodIn_of _ (by decide +kernel)) ggX4_doesCommand_X4_doesSet
set_option maxRecDepth 20000 in
theorem ggX4_doesCommand_X4_doesSync : GoodIn wsX4_doesCommand wsX4_doesSync := goodIn_r _ [28, 8, 29, 30, 6, 31, 32, 13, 14, 15, 69, 70, 71, 72, 73, 74, 75, 76, 77, 78] (by decide +kernel) (by decide +kernel)
set_option maxRecDepth 20000 in
theorem gX4_doesCommand_X4_doesSync : GoodIn wsX4_doesCommand (wsV RX4 105 RX4 yX4_doesSync wsX4_doesSync) := goodIn_app (goodIn_of _ (by decide +kernel)) ggX4_doesCommand_X4_doesSync
set_option maxRecDepth 20000 in
theorem ggX4_doesCommand_X4_doesRead : GoodIn wsX4_doesCommand wsX4_doesRead := goodIn_r _ [36, 8, 9, 10, 6, 11, 12, 13, 14, 15, 29, 30, 31, 32, 37, 38, 39, 40, 41, 42, 43, 44, 45, 46, 47, 21, 22, 23, 24, 48, 49, 50, 51, 52, 53, 54, 55, 56, 57, 58, 59, 69, 70, 71, 72, 73, 74, 75, 76, 77, 78] (by decide +kernel) (by decide +kernel)
set_option maxRecDepth 20000 in
theorem gX4_doesCommand_X4_doesRead : GoodIn wsX4_doesCommand (wsV RX4 92 RX4 yX4_doesRead wsX4_doesRead) := goodIn_app (goodIn_of _ (by decide +kernel)) ggX4_doesCommand_X4_doesRead
set_option maxRecDepth 20000 in
theorem ggX4_doesCommand_X4_doesWrite : GoodIn wsX4_doesCommand wsX4_doesWrite := goodIn_r _ [63, 64, 8, 9, 10, 6, 11, 12, 13, 14, 15, 29, 30, 31, 32, 37, 38, 39, 65, 66, 67, 68, 44, 45, 46, 47, 21, 22, 23, 24, 48, 49, 50, 51, 69, 70, 71, 72, 73, 74, 75, 76, 77, 78] (by decide +kernel) (by decide +kernel)
set_option maxRecDepth 20000 in
theorem gX4_doesCommand_X4_doesWrite : GoodIn wsX4_doesCommand (wsV RX4 101 RX4 yX4_doesWrite wsX4_doesWrite) := goodIn_app (goodIn_of _ (by decide +kernel)) ggX4_doesCommand_X4_doesWrite
theorem dX4_doesCommand_0 : decode cX4_doesCommand 0 = .ok (.aload_n 0, 1) := by decide +kernel
theorem dX4_doesCommand_1 : decode cX4_doesCommand 1 = .ok (.getfield 25, 3) := by decide +kernel
theorem dX4_doesCommand_4 : decode cX4_doesCommand 4 = .ok (.iconst 0, 1) := by decide +kernel
theorem dX4_doesCommand_5 : decode cX4_doesCommand 5 = .ok (.iaload, 1) := by decide +kernel
theorem dX4_doesCommand_6 : decode cX4_doesCommand 6 = .ok (.istore_n 1, 1) := by decide +kernel
theorem dX4_doesCommand_7 : decode cX4_doesCommand 7 = .ok (.aload_n 0, 1) := by decide +kernel
theorem dX4_doesCommand_8 : decode cX4_doesCommand 8 = .ok (.getfield 25, 3) := by decide +kernel
theorem dX4_doesCommand_11 : decode cX4_doesCommand 11 = .ok (.iconst 1, 1) := by decide +kernel
theorem dX4_doesCommand_12 : decode cX4_doesCommand 12 = .ok (.iaload, 1) := by decide +kernel
theorem dX4_doesCommand_13 : decode cX4_doesCommand 13 = .ok (.istore_n 2, 1) := by decide +kernel
theorem dX4_doesCommand_14 : decode cX4_doesCommand 14 = .ok (.aload_n 0, 1) := by decide +kernel
theorem dX4_doesCommand_15 : decode cX4_doesCommand 15 = .ok (.getfield 137, 3) := by decide +kernel
theorem dX4_doesCommand_18 : decode cX4_doesCommand 18 = .ok (.lookupswitch 75 #[(102, 42), (103, 48), (114, 62), (115, 55)], 42) := by decide +kernel
theorem dX4_doesCommand_60 : decode cX4_doesCommand 60 = .ok (.aload_n 0, 1) := by decide +kernel
theorem dX4_doesCommand_61 : decode cX4_doesCommand 61 = .ok (.iload_n 1, 1) := by decide +kernel
theorem dX4_doesCommand_62 : decode cX4_doesCommand 62 = .ok (.invokevirtual 66, 3) := by decide +kernel
theorem dX4_doesCommand_65 : decode cX4_doesCommand 65 = .ok (.ireturn, 1) := by decide +kernel
theorem dX4_doesCommand_66 : decode cX4_doesCommand 66 = .ok (.aload_n 0, 1) := by decide +kernel
theorem dX4_doesCommand_67 : decode cX4_doesCommand 67 = .ok (.iload_n 1, 1) := by decide +kernel
theorem dX4_doesCommand_68 : decode cX4_doesCommand 68 = .ok (.iload_n 2, 1) := by decide +kernel
theorem dX4_doesCommand_69 : decode cX4_doesCommand 69 = .ok (.invokevirtual 59, 3) := by decide +kernel
theorem dX4_doesCommand_72 : decode cX4_doesCommand 72 = .ok (.ireturn, 1) := by decide +kernel
theorem dX4_doesCommand_73 : decode cX4_doesCommand 73 = .ok (.aload_n 0, 1) := by decide +kernel
theorem dX4_doesCommand_74 : decode cX4_doesCommand 74 = .ok (.iload_n 1, 1) := by decide +kernel
theorem dX4_doesCommand_75 : decode cX4_doesCommand 75 = .ok (.iload_n 2, 1) := by decide +kernel
theorem dX4_doesCommand_76 : decode cX4_doesCommand 76 = .ok (.invokevirtual 105, 3) := by decide +kernel
theorem dX4_doesCommand_79 : decode cX4_doesCommand 79 = .ok (.ireturn, 1) := by decide +kernel
theorem dX4_doesCommand_80 : decode cX4_doesCommand 80 = .ok (.aload_n 0, 1) := by decide +kernel
theorem dX4_doesCommand_81 : decode cX4_doesCommand 81 = .ok (.iload_n 1, 1) := by decide +kernel
theorem dX4_doesCommand_82 : decode cX4_doesCommand 82 = .ok (.iload_n 2, 1) := by decide +kernel
theorem dX4_doesCommand_83 : decode cX4_doesCommand 83 = .ok (.aload_n 0, 1) := by decide +kernel
theorem dX4_doesCommand_84 : decode cX4_doesCommand 84 = .ok (.getfield 25, 3) := by decide +kernel
theorem dX4_doesCommand_87 : decode cX4_doesCommand 87 = .ok (.iconst 2, 1) := by decide +kernel
theorem dX4_doesCommand_88 : decode cX4_doesCommand 88 = .ok (.iaload, 1) := by decide +kernel
theorem dX4_doesCommand_89 : decode cX4_doesCommand 89 = .ok (.invokevirtual 92, 3) := by decide +kernel
theorem dX4_doesCommand_92 : decode cX4_doesCommand 92 = .ok (.ireturn, 1) := by decide +kernel
theorem dX4_doesCommand_93 : decode cX4_doesCommand 93 = .ok (.aload_n 0, 1) := by decide +kernel
theorem dX4_doesCommand_94 : decode cX4_doesCommand 94 = .ok (.iload_n 1, 1) := by decide +kernel
theorem dX4_doesCommand_95 : decode cX4_doesCommand 95 = .ok (.iload_n 2, 1) := by decide +kernel
theorem dX4_doesCommand_96 : decode cX4_doesCommand 96 = .ok (.aload_n 0, 1) := by decide +kernel
theorem dX4_doesCommand_97 : decode cX4_doesCommand 97 = .ok (.getfield 25, 3) := by decide +kernel
theorem dX4_doesCommand_100 : decode cX4_doesCommand 100 = .ok (.iconst 2, 1) := by decide +kernel
theorem dX4_doesCommand_101 : decode cX4_doesCommand 101 = .ok (.iaload, 1) := by decide +kernel
theorem dX4_doesCommand_102 : decode cX4_doesCommand 102 = .ok (.aload_n 0, 1) := by decide +kernel
theorem dX4_doesCommand_103 : decode cX4_doesCommand 103 = .ok (.getfield 25, 3) := by decide +kernel
theorem dX4_doesCommand_106 : decode cX4_doesCommand 106 = .ok (.iconst 3, 1) := by decide +kernel
theorem dX4_doesCommand_107 : decode cX4_doesCommand 107 = .ok (.iaload, 1) := by decide +kernel
theorem dX4_doesCommand_108 : decode cX4_doesCommand 108 = .ok (.invokevirtual 101, 3) := by decide +kernel
theorem dX4_doesCommand_111 : decode cX4_doesCommand 111 = .ok (.ireturn, 1) := by decide +kernel
set_option maxRecDepth 20000 in
theorem ggX4_execute_X4_takesCommand : GoodIn wsX4_execute wsX4_takesCommand := goodIn_r _ [8, 9, 1, 10, 11, 12, 7, 13, 14, 15, 16, 17, 18, 19, 20, 21, 22, 23, 24, 25, 26, 27, 28, 29, 30, 31, 32, 108, 109, 110, 111, 112, 113, 114, 115, 116, 117] (by decide +kernel) (by decide +kernel)
set_option maxRecDepth 20000 in
theorem gX4_execute_X4_takesCommand : GoodIn wsX4_execute (wsV RX4 146 RX4 yX4_takesCommand wsX4_takesCommand) := goodIn_app (goodIn_of _ (by decide +kernel)) ggX4_execute_X4_takesCommand
set_option maxRecDepth 20000 in
theorem ggX4_execute_X4_here : GoodIn wsX4_execute wsX4_here := goodIn_r _ [13, 1, 14, 15, 108, 109, 110, 111, 112, 113, 114, 115, 116, 117] (by decide +kernel) (by decide +kernel)
set_option maxRecDepth 20000 in
theorem gX4_execute_X4_here : GoodIn wsX4_execute (wsV RX4 129 RX4 yX4_here wsX4_here) := goodIn_app (goodIn_of _ (by decide +kernel)) ggX4_execute_X4_here
set_option maxRecDepth 20000 in
theorem ggX4_execute_X4_putsAside : GoodIn wsX4_execute wsX4_putsAside := goodIn_r _ [36, 3, 2, 108, 109, 110, 111, 112, 113, 114, 115, 116, 117] (by decide +kernel) (by decide +kernel)
set_option maxRecDepth 20000 in
theorem gX4_execute_X4_putsAside : GoodIn wsX4_execute (wsV RX4 56 RX4 yX4_putsAside wsX4_putsAside) := goodIn_app (goodIn_of _ (by decide +kernel)) ggX4_execute_X4_putsAside
set_option maxRecDepth 20000 in
theorem ggX4_execute_X4_doesCommand : GoodIn wsX4_execute wsX4_doesCommand := goodIn_r _ [40, 25, 9, 41, 42, 43, 7, 44, 2, 45, 46, 47, 48, 26, 27, 28, 49, 50, 51, 52, 53, 54, 55, 56, 57, 58, 59, 60, 61, 62, 63, 64, 65, 66, 67, 68, 69, 70, 71, 72, 73, 74, 75, 76, 77, 78, 79, 80, 81, 82, 83, 84, 85, 86, 87, 88, 89, 90, 91, 92, 93, 94, 95, 96, 97, 98, 99, 100, 101, 108, 109, 110, 111, 112, 113, 114, 115, 116, 117] (by decide +kernel) (by decide +kernel)
set_option maxRecDepth 20000 in
theorem gX4_execute_X4_doesCommand : GoodIn wsX4_execute (wsV RX4 149 RX4 yX4_doesCommand wsX4_doesCommand) := goodIn_app (goodIn_of _ (by decide +kernel)) ggX4_execute_X4_doesCommand
set_option maxRecDepth 20000 in
theorem ggX4_execute_X4_savesAside : GoodIn wsX4_execute wsX4_savesAside := goodIn_r _ [105, 106, 107, 3, 108, 109, 110, 111, 112, 113, 114, 115, 116, 117] (by decide +kernel) (by decide +kernel)
set_option maxRecDepth 20000 in
theorem gX4_execute_X4_savesAside : GoodIn wsX4_execute (wsV RX4 32 RX4 yX4_savesAside wsX4_savesAside) := goodIn_app (goodIn_of _ (by decide +kernel)) ggX4_execute_X4_savesAside
theorem dX4_execute_0 : decode cX4_execute 0 = .ok (.aload_n 0, 1) := by decide +kernel
theorem dX4_execute_1 : decode cX4_execute 1 = .ok (.iconst 0, 1) := by decide +kernel
theorem dX4_execute_2 : decode cX4_execute 2 = .ok (.putfield 122, 3) := by decide +kernel
theorem dX4_execute_5 : decode cX4_execute 5 = .ok (.iconst 0, 1) := by decide +kernel
theorem dX4_execute_6 : decode cX4_execute 6 = .ok (.istore_n 1, 1) := by decide +kernel
theorem dX4_execute_7 : decode cX4_execute 7 = .ok (.aload_n 0, 1) := by decide +kernel
theorem dX4_execute_8 : decode cX4_execute 8 = .ok (.invokevirtual 146, 3) := by decide +kernel
theorem dX4_execute_11 : decode cX4_execute 11 = .ok (.ifCond .ne 11, 3) := by decide +kernel
theorem dX4_execute_14 : decode cX4_execute 14 = .ok (.bipush (-10), 2) := by decide +kernel
theorem dX4_execute_16 : decode cX4_execute 16 = .ok (.aload_n 0, 1) := by decide +kernel
theorem dX4_execute_17 : decode cX4_execute 17 = .ok (.getfield 122, 3) := by decide +kernel
theorem dX4_execute_20 : decode cX4_execute 20 = .ok (.isub, 1) := by decide +kernel
theorem dX4_execute_21 : decode cX4_execute 21 = .ok (.ireturn, 1) := by decide +kernel
theorem dX4_execute_22 : decode cX4_execute 22 = .ok (.iinc 1 1, 3) := by decide +kernel
theorem dX4_execute_25 : decode cX4_execute 25 = .ok (.aload_n 0, 1) := by decide +kernel
theorem dX4_execute_26 : decode cX4_execute 26 = .ok (.invokevirtual 129, 3) := by decide +kernel
theorem dX4_execute_29 : decode cX4_execute 29 = .ok (.iconst (-1), 1) := by decide +kernel
theorem dX4_execute_30 : decode cX4_execute 30 = .ok (.if_icmp .ne (-23), 3) := by decide +kernel
theorem dX4_execute_33 : decode cX4_execute 33 = .ok (.aload_n 0, 1) := by decide +kernel
theorem dX4_execute_34 : decode cX4_execute 34 = .ok (.invokevirtual 56, 3) := by decide +kernel
theorem dX4_execute_37 : decode cX4_execute 37 = .ok (.aload_n 0, 1) := by decide +kernel
theorem dX4_execute_38 : decode cX4_execute 38 = .ok (.iconst 0, 1) := by decide +kernel
theorem dX4_execute_39 : decode cX4_execute 39 = .ok (.putfield 122, 3) := by decide +kernel
theorem dX4_execute_42 : decode cX4_execute 42 = .ok (.iconst 0, 1) := by decide +kernel
theorem dX4_execute_43 : decode cX4_execute 43 = .ok (.istore_n 2, 1) := by decide +kernel
theorem dX4_execute_44 : decode cX4_execute 44 = .ok (.iconst 0, 1) := by decide +kernel
theorem dX4_execute_45 : decode cX4_execute 45 = .ok (.istore_n 3, 1) := by decide +kernel
theorem dX4_execute_46 : decode cX4_execute 46 = .ok (.iload_n 3, 1) := by decide +kernel
theorem dX4_execute_47 : decode cX4_execute 47 = .ok (.iload_n 1, 1) := by decide +kernel
theorem dX4_execute_48 : decode cX4_execute 48 = .ok (.if_icmp .ge 87, 3) := by decide +kernel
theorem dX4_execute_51 : decode cX4_execute 51 = .ok (.aload_n 0, 1) := by decide +kernel
theorem dX4_execute_52 : decode cX4_execute 52 = .ok (.invokevirtual 146, 3) := by decide +kernel
theorem dX4_execute_55 : decode cX4_execute 55 = .ok (.istore 4, 2) := by decide +kernel
theorem dX4_execute_57 : decode cX4_execute 57 = .ok (.aload_n 0, 1) := by decide +kernel
theorem dX4_execute_58 : decode cX4_execute 58 = .ok (.invokevirtual 149, 3) := by decide +kernel
theorem dX4_execute_61 : decode cX4_execute 61 = .ok (.istore 5, 2) := by decide +kernel
theorem dX4_execute_63 : decode cX4_execute 63 = .ok (.iload 5, 2) := by decide +kernel
theorem dX4_execute_65 : decode cX4_execute 65 = .ok (.bipush (-2), 2) := by decide +kernel
theorem dX4_execute_67 : decode cX4_execute 67 = .ok (.if_icmp .eq 10, 3) := by decide +kernel
theorem dX4_execute_70 : decode cX4_execute 70 = .ok (.iload 5, 2) := by decide +kernel
theorem dX4_execute_72 : decode cX4_execute 72 = .ok (.bipush (-4), 2) := by decide +kernel
theorem dX4_execute_74 : decode cX4_execute 74 = .ok (.if_icmp .ne 40, 3) := by decide +kernel
theorem dX4_execute_77 : decode cX4_execute 77 = .ok (.iconst 0, 1) := by decide +kernel
theorem dX4_execute_78 : decode cX4_execute 78 = .ok (.istore 6, 2) := by decide +kernel
theorem dX4_execute_80 : decode cX4_execute 80 = .ok (.iload 6, 2) := by decide +kernel
theorem dX4_execute_82 : decode cX4_execute 82 = .ok (.sipush 345, 3) := by decide +kernel
theorem dX4_execute_85 : decode cX4_execute 85 = .ok (.if_icmp .ge 23, 3) := by decide +kernel
theorem dX4_execute_88 : decode cX4_execute 88 = .ok (.aload_n 0, 1) := by decide +kernel
theorem dX4_execute_89 : decode cX4_execute 89 = .ok (.getfield 7, 3) := by decide +kernel
theorem dX4_execute_92 : decode cX4_execute 92 = .ok (.iload 6, 2) := by decide +kernel
theorem dX4_execute_94 : decode cX4_execute 94 = .ok (.aload_n 0, 1) := by decide +kernel
theorem dX4_execute_95 : decode cX4_execute 95 = .ok (.getfield 16, 3) := by decide +kernel
theorem dX4_execute_98 : decode cX4_execute 98 = .ok (.iload 6, 2) := by decide +kernel
theorem dX4_execute_100 : decode cX4_execute 100 = .ok (.iaload, 1) := by decide +kernel
theorem dX4_execute_101 : decode cX4_execute 101 = .ok (.iastore, 1) := by decide +kernel
theorem dX4_execute_102 : decode cX4_execute 102 = .ok (.iinc 6 1, 3) := by decide +kernel
theorem dX4_execute_105 : decode cX4_execute 105 = .ok (.goto (-25), 3) := by decide +kernel
theorem dX4_execute_108 : decode cX4_execute 108 = .ok (.sipush (-1000), 3) := by decide +kernel
theorem dX4_execute_111 : decode cX4_execute 111 = .ok (.iload_n 3, 1) := by decide +kernel
theorem dX4_execute_112 : decode cX4_execute 112 = .ok (.isub, 1) := by decide +kernel
theorem dX4_execute_113 : decode cX4_execute 113 = .ok (.ireturn, 1) := by decide +kernel
theorem dX4_execute_114 : decode cX4_execute 114 = .ok (.iload_n 2, 1) := by decide +kernel
theorem dX4_execute_115 : decode cX4_execute 115 = .ok (.iload 5, 2) := by decide +kernel
theorem dX4_execute_117 : decode cX4_execute 117 = .ok (.bipush (-3), 2) := by decide +kernel
theorem dX4_execute_119 : decode cX4_execute 119 = .ok (.if_icmp .ne 7, 3) := by decide +kernel
theorem dX4_execute_122 : decode cX4_execute 122 = .ok (.iconst 0, 1) := by decide +kernel
theorem dX4_execute_123 : decode cX4_execute 123 = .ok (.goto 4, 3) := by decide +kernel
theorem dX4_execute_126 : decode cX4_execute 126 = .ok (.iconst 1, 1) := by decide +kernel
theorem dX4_execute_127 : decode cX4_execute 127 = .ok (.iadd, 1) := by decide +kernel
theorem dX4_execute_128 : decode cX4_execute 128 = .ok (.istore_n 2, 1) := by decide +kernel
theorem dX4_execute_129 : decode cX4_execute 129 = .ok (.iinc 3 1, 3) := by decide +kernel
theorem dX4_execute_132 : decode cX4_execute 132 = .ok (.goto (-86), 3) := by decide +kernel
theorem dX4_execute_135 : decode cX4_execute 135 = .ok (.aload_n 0, 1) := by decide +kernel
theorem dX4_execute_136 : decode cX4_execute 136 = .ok (.invokevirtual 32, 3) := by decide +kernel
theorem dX4_execute_139 : decode cX4_execute 139 = .ok (.iload_n 2, 1) := by decide +kernel
theorem dX4_execute_140 : decode cX4_execute 140 = .ok (.ireturn, 1) := by decide +kernel
set_option maxRecDepth 20000 in
theorem ggX4_undo_X4_error : GoodIn wsX4_undo wsX4_error := goodIn_r _ [8, 9, 10, 11, 12, 13, 14, 15, 16, 17, 18, 19] (by decide +kernel) (by decide +kernel)
set_option maxRecDepth 20000 in
theorem gX4_undo_X4_error : GoodIn wsX4_undo (wsV RX4 28 RX4 yX4_error wsX4_error) := goodIn_app (goodIn_of _ (by decide +kernel)) ggX4_undo_X4_error
theorem dX4_undo_0 : decode cX4_undo 0 = .ok (.aload_n 0, 1) := by decide +kernel
theorem dX4_undo_1 : decode cX4_undo 1 = .ok (.getfield 35, 3) := by decide +kernel
theorem dX4_undo_4 : decode cX4_undo 4 = .ok (.ifCond .ne 10, 3) := by decide +kernel
theorem dX4_undo_7 : decode cX4_undo 7 = .ok (.aload_n 0, 1) := by decide +kernel
theorem dX4_undo_8 : decode cX4_undo 8 = .ok (.bipush (-6), 2) := by decide +kernel
theorem dX4_undo_10 : decode cX4_undo 10 = .ok (.invokevirtual 28, 3) := by decide +kernel
theorem dX4_undo_13 : decode cX4_undo 13 = .ok (.ireturn, 1) := by decide +kernel
theorem dX4_undo_14 : decode cX4_undo 14 = .ok (.aload_n 0, 1) := by decide +kernel
theorem dX4_undo_15 : decode cX4_undo 15 = .ok (.dup, 1) := by decide +kernel
theorem dX4_undo_16 : decode cX4_undo 16 = .ok (.getfield 35, 3) := by decide +kernel
theorem dX4_undo_19 : decode cX4_undo 19 = .ok (.iconst 1, 1) := by decide +kernel
theorem dX4_undo_20 : decode cX4_undo 20 = .ok (.isub, 1) := by decide +kernel
theorem dX4_undo_21 : decode cX4_undo 21 = .ok (.putfield 35, 3) := by decide +kernel
theorem dX4_undo_24 : decode cX4_undo 24 = .ok (.iconst 0, 1) := by decide +kernel
theorem dX4_undo_25 : decode cX4_undo 25 = .ok (.istore_n 1, 1) := by decide +kernel
theorem dX4_undo_26 : decode cX4_undo 26 = .ok (.iload_n 1, 1) := by decide +kernel
theorem dX4_undo_27 : decode cX4_undo 27 = .ok (.sipush 345, 3) := by decide +kernel
theorem dX4_undo_30 : decode cX4_undo 30 = .ok (.if_icmp .ge 30, 3) := by decide +kernel
theorem dX4_undo_33 : decode cX4_undo 33 = .ok (.aload_n 0, 1) := by decide +kernel
theorem dX4_undo_34 : decode cX4_undo 34 = .ok (.getfield 7, 3) := by decide +kernel
theorem dX4_undo_37 : decode cX4_undo 37 = .ok (.iload_n 1, 1) := by decide +kernel
theorem dX4_undo_38 : decode cX4_undo 38 = .ok (.aload_n 0, 1) := by decide +kernel
theorem dX4_undo_39 : decode cX4_undo 39 = .ok (.getfield 13, 3) := by decide +kernel
theorem dX4_undo_42 : decode cX4_undo 42 = .ok (.sipush 345, 3) := by decide +kernel
theorem dX4_undo_45 : decode cX4_undo 45 = .ok (.aload_n 0, 1) := by decide +kernel
theorem dX4_undo_46 : decode cX4_undo 46 = .ok (.getfield 35, 3) := by decide +kernel
theorem dX4_undo_49 : decode cX4_undo 49 = .ok (.imul, 1) := by decide +kernel
theorem dX4_undo_50 : decode cX4_undo 50 = .ok (.iload_n 1, 1) := by decide +kernel
theorem dX4_undo_51 : decode cX4_undo 51 = .ok (.iadd, 1) := by decide +kernel
theorem dX4_undo_52 : decode cX4_undo 52 = .ok (.iaload, 1) := by decide +kernel
theorem dX4_undo_53 : decode cX4_undo 53 = .ok (.iastore, 1) := by decide +kernel
theorem dX4_undo_54 : decode cX4_undo 54 = .ok (.iinc 1 1, 3) := by decide +kernel
theorem dX4_undo_57 : decode cX4_undo 57 = .ok (.goto (-31), 3) := by decide +kernel
theorem dX4_undo_60 : decode cX4_undo 60 = .ok (.aload_n 0, 1) := by decide +kernel
theorem dX4_undo_61 : decode cX4_undo 61 = .ok (.getfield 35, 3) := by decide +kernel
theorem dX4_undo_64 : decode cX4_undo 64 = .ok (.ireturn, 1) := by decide +kernel
set_option maxRecDepth 20000 in
theorem ggX4_errorCount_X4_in : GoodIn wsX4_errorCount wsX4_in := goodIn_r _ [7] (by decide +kernel) (by decide +kernel)
set_option maxRecDepth 20000 in
theorem gX4_errorCount_X4_in : GoodIn wsX4_errorCount (va_wsS RX4 41 yX4_in wsX4_in) := goodIn_app (goodIn_of _ (by decide +kernel)) ggX4_errorCount_X4_in
set_option maxRecDepth 20000 in
theorem ggX4_errorCount_X4_error : GoodIn wsX4_errorCount wsX4_error := goodIn_r _ [11, 3, 12, 13, 14, 15, 16, 17, 18, 19, 20, 21] (by decide +kernel) (by decide +kernel)
set_option maxRecDepth 20000 in
theorem gX4_errorCount_X4_error : GoodIn wsX4_errorCount (wsV RX4 28 RX4 yX4_error wsX4_error) := goodIn_app (goodIn_of _ (by decide +kernel)) ggX4_errorCount_X4_error
theorem dX4_errorCount_0 : decode cX4_errorCount 0 = .ok (.iload_n 1, 1) := by decide +kernel
theorem dX4_errorCount_1 : decode cX4_errorCount 1 = .ok (.i2l, 1) := by decide +kernel
theorem dX4_errorCount_2 : decode cX4_errorCount 2 = .ok (.ldc2_w 152, 3) := by decide +kernel
theorem dX4_errorCount_5 : decode cX4_errorCount 5 = .ok (.ldc2_w 154, 3) := by decide +kernel
theorem dX4_errorCount_8 : decode cX4_errorCount 8 = .ok (.invokestatic 41, 3) := by decide +kernel
theorem dX4_errorCount_11 : decode cX4_errorCount 11 = .ok (.ifCond .eq 15, 3) := by decide +kernel
theorem dX4_errorCount_14 : decode cX4_errorCount 14 = .ok (.aload_n 0, 1) := by decide +kernel
theorem dX4_errorCount_15 : decode cX4_errorCount 15 = .ok (.getfield 19, 3) := by decide +kernel
theorem dX4_errorCount_18 : decode cX4_errorCount 18 = .ok (.bipush (-2), 2) := by decide +kernel
theorem dX4_errorCount_20 : decode cX4_errorCount 20 = .ok (.iload_n 1, 1) := by decide +kernel
theorem dX4_errorCount_21 : decode cX4_errorCount 21 = .ok (.isub, 1) := by decide +kernel
end
section
theorem dX4_errorCount_22 : decode cX4_errorCount 22 = .ok (.iaload, 1) := by decide +kernel
theorem dX4_errorCount_23 : decode cX4_errorCount 23 = .ok (.goto 9, 3) := by decide +kernel
theorem dX4_errorCount_26 : decode cX4_errorCount 26 = .ok (.aload_n 0, 1) := by decide +kernel
theorem dX4_errorCount_27 : decode cX4_errorCount 27 = .ok (.bipush (-2), 2) := by decide +kernel
theorem dX4_errorCount_29 : decode cX4_errorCount 29 = .ok (.invokevirtual 28, 3) := by decide +kernel
theorem dX4_errorCount_32 : decode cX4_errorCount 32 = .ok (.ireturn, 1) := by decide +kernel
theorem dX4_writes_0 : decode cX4_writes 0 = .ok (.aload_n 0, 1) := by decide +kernel
theorem dX4_writes_1 : decode cX4_writes 1 = .ok (.getfield 7, 3) := by decide +kernel
theorem dX4_writes_4 : decode cX4_writes 4 = .ok (.bipush 12, 2) := by decide +kernel
theorem dX4_writes_6 : decode cX4_writes 6 = .ok (.iaload, 1) := by decide +kernel
theorem dX4_writes_7 : decode cX4_writes 7 = .ok (.ireturn, 1) := by decide +kernel
set_option maxRecDepth 20000 in
theorem ggX4_digest_X4_valueAt : GoodIn wsX4_digest wsX4_valueAt := goodIn_r _ [11, 4, 12, 13, 14, 10, 15, 16, 17, 18, 19, 20, 21, 22, 23, 24, 25] (by decide +kernel) (by decide +kernel)
set_option maxRecDepth 20000 in
theorem gX4_digest_X4_valueAt : GoodIn wsX4_digest (wsV RX4 89 RX4 yX4_valueAt wsX4_valueAt) := goodIn_app (goodIn_of _ (by decide +kernel)) ggX4_digest_X4_valueAt
theorem dX4_digest_0 : decode cX4_digest 0 = .ok (.ldc2_w 156, 3) := by decide +kernel
theorem dX4_digest_3 : decode cX4_digest 3 = .ok (.lstore_n 1, 1) := by decide +kernel
theorem dX4_digest_4 : decode cX4_digest 4 = .ok (.iconst 0, 1) := by decide +kernel
theorem dX4_digest_5 : decode cX4_digest 5 = .ok (.istore_n 3, 1) := by decide +kernel
theorem dX4_digest_6 : decode cX4_digest 6 = .ok (.iload_n 3, 1) := by decide +kernel
theorem dX4_digest_7 : decode cX4_digest 7 = .ok (.iconst 5, 1) := by decide +kernel
theorem dX4_digest_8 : decode cX4_digest 8 = .ok (.if_icmp .ge 23, 3) := by decide +kernel
theorem dX4_digest_11 : decode cX4_digest 11 = .ok (.ldc2_w 158, 3) := by decide +kernel
theorem dX4_digest_14 : decode cX4_digest 14 = .ok (.lload_n 1, 1) := by decide +kernel
theorem dX4_digest_15 : decode cX4_digest 15 = .ok (.lmul, 1) := by decide +kernel
theorem dX4_digest_16 : decode cX4_digest 16 = .ok (.aload_n 0, 1) := by decide +kernel
theorem dX4_digest_17 : decode cX4_digest 17 = .ok (.getfield 19, 3) := by decide +kernel
theorem dX4_digest_20 : decode cX4_digest 20 = .ok (.iload_n 3, 1) := by decide +kernel
theorem dX4_digest_21 : decode cX4_digest 21 = .ok (.iaload, 1) := by decide +kernel
theorem dX4_digest_22 : decode cX4_digest 22 = .ok (.i2l, 1) := by decide +kernel
theorem dX4_digest_23 : decode cX4_digest 23 = .ok (.ladd, 1) := by decide +kernel
theorem dX4_digest_24 : decode cX4_digest 24 = .ok (.lstore_n 1, 1) := by decide +kernel
theorem dX4_digest_25 : decode cX4_digest 25 = .ok (.iinc 3 1, 3) := by decide +kernel
theorem dX4_digest_28 : decode cX4_digest 28 = .ok (.goto (-22), 3) := by decide +kernel
theorem dX4_digest_31 : decode cX4_digest 31 = .ok (.ldc2_w 158, 3) := by decide +kernel
theorem dX4_digest_34 : decode cX4_digest 34 = .ok (.lload_n 1, 1) := by decide +kernel
theorem dX4_digest_35 : decode cX4_digest 35 = .ok (.lmul, 1) := by decide +kernel
theorem dX4_digest_36 : decode cX4_digest 36 = .ok (.aload_n 0, 1) := by decide +kernel
theorem dX4_digest_37 : decode cX4_digest 37 = .ok (.getfield 7, 3) := by decide +kernel
theorem dX4_digest_40 : decode cX4_digest 40 = .ok (.bipush 12, 2) := by decide +kernel
theorem dX4_digest_42 : decode cX4_digest 42 = .ok (.iaload, 1) := by decide +kernel
theorem dX4_digest_43 : decode cX4_digest 43 = .ok (.i2l, 1) := by decide +kernel
theorem dX4_digest_44 : decode cX4_digest 44 = .ok (.ladd, 1) := by decide +kernel
theorem dX4_digest_45 : decode cX4_digest 45 = .ok (.lstore_n 1, 1) := by decide +kernel
theorem dX4_digest_46 : decode cX4_digest 46 = .ok (.iconst 0, 1) := by decide +kernel
theorem dX4_digest_47 : decode cX4_digest 47 = .ok (.istore_n 3, 1) := by decide +kernel
theorem dX4_digest_48 : decode cX4_digest 48 = .ok (.iload_n 3, 1) := by decide +kernel
theorem dX4_digest_49 : decode cX4_digest 49 = .ok (.iconst 3, 1) := by decide +kernel
theorem dX4_digest_50 : decode cX4_digest 50 = .ok (.if_icmp .ge 90, 3) := by decide +kernel
theorem dX4_digest_53 : decode cX4_digest 53 = .ok (.iconst 0, 1) := by decide +kernel
theorem dX4_digest_54 : decode cX4_digest 54 = .ok (.istore 4, 2) := by decide +kernel
theorem dX4_digest_56 : decode cX4_digest 56 = .ok (.iload 4, 2) := by decide +kernel
theorem dX4_digest_58 : decode cX4_digest 58 = .ok (.iconst 3, 1) := by decide +kernel
theorem dX4_digest_59 : decode cX4_digest 59 = .ok (.if_icmp .ge 28, 3) := by decide +kernel
theorem dX4_digest_62 : decode cX4_digest 62 = .ok (.ldc2_w 158, 3) := by decide +kernel
theorem dX4_digest_65 : decode cX4_digest 65 = .ok (.lload_n 1, 1) := by decide +kernel
theorem dX4_digest_66 : decode cX4_digest 66 = .ok (.lmul, 1) := by decide +kernel
theorem dX4_digest_67 : decode cX4_digest 67 = .ok (.aload_n 0, 1) := by decide +kernel
theorem dX4_digest_68 : decode cX4_digest 68 = .ok (.getfield 7, 3) := by decide +kernel
theorem dX4_digest_71 : decode cX4_digest 71 = .ok (.iconst 3, 1) := by decide +kernel
theorem dX4_digest_72 : decode cX4_digest 72 = .ok (.iload_n 3, 1) := by decide +kernel
theorem dX4_digest_73 : decode cX4_digest 73 = .ok (.imul, 1) := by decide +kernel
theorem dX4_digest_74 : decode cX4_digest 74 = .ok (.iload 4, 2) := by decide +kernel
theorem dX4_digest_76 : decode cX4_digest 76 = .ok (.iadd, 1) := by decide +kernel
theorem dX4_digest_77 : decode cX4_digest 77 = .ok (.iaload, 1) := by decide +kernel
theorem dX4_digest_78 : decode cX4_digest 78 = .ok (.i2l, 1) := by decide +kernel
theorem dX4_digest_79 : decode cX4_digest 79 = .ok (.ladd, 1) := by decide +kernel
theorem dX4_digest_80 : decode cX4_digest 80 = .ok (.lstore_n 1, 1) := by decide +kernel
theorem dX4_digest_81 : decode cX4_digest 81 = .ok (.iinc 4 1, 3) := by decide +kernel
theorem dX4_digest_84 : decode cX4_digest 84 = .ok (.goto (-28), 3) := by decide +kernel
theorem dX4_digest_87 : decode cX4_digest 87 = .ok (.ldc2_w 158, 3) := by decide +kernel
theorem dX4_digest_90 : decode cX4_digest 90 = .ok (.lload_n 1, 1) := by decide +kernel
theorem dX4_digest_91 : decode cX4_digest 91 = .ok (.lmul, 1) := by decide +kernel
theorem dX4_digest_92 : decode cX4_digest 92 = .ok (.aload_n 0, 1) := by decide +kernel
theorem dX4_digest_93 : decode cX4_digest 93 = .ok (.getfield 7, 3) := by decide +kernel
theorem dX4_digest_96 : decode cX4_digest 96 = .ok (.bipush 9, 2) := by decide +kernel
theorem dX4_digest_98 : decode cX4_digest 98 = .ok (.iload_n 3, 1) := by decide +kernel
theorem dX4_digest_99 : decode cX4_digest 99 = .ok (.iadd, 1) := by decide +kernel
theorem dX4_digest_100 : decode cX4_digest 100 = .ok (.iaload, 1) := by decide +kernel
theorem dX4_digest_101 : decode cX4_digest 101 = .ok (.i2l, 1) := by decide +kernel
theorem dX4_digest_102 : decode cX4_digest 102 = .ok (.ladd, 1) := by decide +kernel
theorem dX4_digest_103 : decode cX4_digest 103 = .ok (.lstore_n 1, 1) := by decide +kernel
theorem dX4_digest_104 : decode cX4_digest 104 = .ok (.iconst 0, 1) := by decide +kernel
theorem dX4_digest_105 : decode cX4_digest 105 = .ok (.istore 4, 2) := by decide +kernel
theorem dX4_digest_107 : decode cX4_digest 107 = .ok (.iload 4, 2) := by decide +kernel
theorem dX4_digest_109 : decode cX4_digest 109 = .ok (.iconst 4, 1) := by decide +kernel
theorem dX4_digest_110 : decode cX4_digest 110 = .ok (.if_icmp .ge 24, 3) := by decide +kernel
theorem dX4_digest_113 : decode cX4_digest 113 = .ok (.ldc2_w 158, 3) := by decide +kernel
theorem dX4_digest_116 : decode cX4_digest 116 = .ok (.lload_n 1, 1) := by decide +kernel
theorem dX4_digest_117 : decode cX4_digest 117 = .ok (.lmul, 1) := by decide +kernel
theorem dX4_digest_118 : decode cX4_digest 118 = .ok (.aload_n 0, 1) := by decide +kernel
theorem dX4_digest_119 : decode cX4_digest 119 = .ok (.iload_n 3, 1) := by decide +kernel
theorem dX4_digest_120 : decode cX4_digest 120 = .ok (.iload 4, 2) := by decide +kernel
theorem dX4_digest_122 : decode cX4_digest 122 = .ok (.invokevirtual 89, 3) := by decide +kernel
theorem dX4_digest_125 : decode cX4_digest 125 = .ok (.i2l, 1) := by decide +kernel
theorem dX4_digest_126 : decode cX4_digest 126 = .ok (.ladd, 1) := by decide +kernel
theorem dX4_digest_127 : decode cX4_digest 127 = .ok (.lstore_n 1, 1) := by decide +kernel
theorem dX4_digest_128 : decode cX4_digest 128 = .ok (.iinc 4 1, 3) := by decide +kernel
theorem dX4_digest_131 : decode cX4_digest 131 = .ok (.goto (-24), 3) := by decide +kernel
theorem dX4_digest_134 : decode cX4_digest 134 = .ok (.iinc 3 1, 3) := by decide +kernel
theorem dX4_digest_137 : decode cX4_digest 137 = .ok (.goto (-89), 3) := by decide +kernel
theorem dX4_digest_140 : decode cX4_digest 140 = .ok (.sipush 313, 3) := by decide +kernel
theorem dX4_digest_143 : decode cX4_digest 143 = .ok (.istore_n 3, 1) := by decide +kernel
theorem dX4_digest_144 : decode cX4_digest 144 = .ok (.iload_n 3, 1) := by decide +kernel
theorem dX4_digest_145 : decode cX4_digest 145 = .ok (.sipush 345, 3) := by decide +kernel
theorem dX4_digest_148 : decode cX4_digest 148 = .ok (.if_icmp .ge 23, 3) := by decide +kernel
theorem dX4_digest_151 : decode cX4_digest 151 = .ok (.ldc2_w 158, 3) := by decide +kernel
theorem dX4_digest_154 : decode cX4_digest 154 = .ok (.lload_n 1, 1) := by decide +kernel
theorem dX4_digest_155 : decode cX4_digest 155 = .ok (.lmul, 1) := by decide +kernel
theorem dX4_digest_156 : decode cX4_digest 156 = .ok (.aload_n 0, 1) := by decide +kernel
theorem dX4_digest_157 : decode cX4_digest 157 = .ok (.getfield 7, 3) := by decide +kernel
theorem dX4_digest_160 : decode cX4_digest 160 = .ok (.iload_n 3, 1) := by decide +kernel
theorem dX4_digest_161 : decode cX4_digest 161 = .ok (.iaload, 1) := by decide +kernel
theorem dX4_digest_162 : decode cX4_digest 162 = .ok (.i2l, 1) := by decide +kernel
theorem dX4_digest_163 : decode cX4_digest 163 = .ok (.ladd, 1) := by decide +kernel
theorem dX4_digest_164 : decode cX4_digest 164 = .ok (.lstore_n 1, 1) := by decide +kernel
theorem dX4_digest_165 : decode cX4_digest 165 = .ok (.iinc 3 1, 3) := by decide +kernel
theorem dX4_digest_168 : decode cX4_digest 168 = .ok (.goto (-24), 3) := by decide +kernel
theorem dX4_digest_171 : decode cX4_digest 171 = .ok (.ldc2_w 158, 3) := by decide +kernel
theorem dX4_digest_174 : decode cX4_digest 174 = .ok (.lload_n 1, 1) := by decide +kernel
theorem dX4_digest_175 : decode cX4_digest 175 = .ok (.lmul, 1) := by decide +kernel
theorem dX4_digest_176 : decode cX4_digest 176 = .ok (.aload_n 0, 1) := by decide +kernel
theorem dX4_digest_177 : decode cX4_digest 177 = .ok (.getfield 119, 3) := by decide +kernel
theorem dX4_digest_180 : decode cX4_digest 180 = .ok (.i2l, 1) := by decide +kernel
theorem dX4_digest_181 : decode cX4_digest 181 = .ok (.ladd, 1) := by decide +kernel
theorem dX4_digest_182 : decode cX4_digest 182 = .ok (.lstore_n 1, 1) := by decide +kernel
theorem dX4_digest_183 : decode cX4_digest 183 = .ok (.ldc2_w 158, 3) := by decide +kernel
theorem dX4_digest_186 : decode cX4_digest 186 = .ok (.lload_n 1, 1) := by decide +kernel
theorem dX4_digest_187 : decode cX4_digest 187 = .ok (.lmul, 1) := by decide +kernel
theorem dX4_digest_188 : decode cX4_digest 188 = .ok (.aload_n 0, 1) := by decide +kernel
theorem dX4_digest_189 : decode cX4_digest 189 = .ok (.getfield 35, 3) := by decide +kernel
theorem dX4_digest_192 : decode cX4_digest 192 = .ok (.i2l, 1) := by decide +kernel
theorem dX4_digest_193 : decode cX4_digest 193 = .ok (.ladd, 1) := by decide +kernel
theorem dX4_digest_194 : decode cX4_digest 194 = .ok (.lreturn, 1) := by decide +kernel
theorem dJ9_max_7cf53_0 : decode cJ9_max_7cf53 0 = .ok (.iload_n 0, 1) := by decide +kernel
theorem dJ9_max_7cf53_1 : decode cJ9_max_7cf53 1 = .ok (.iload_n 1, 1) := by decide +kernel
theorem dJ9_max_7cf53_2 : decode cJ9_max_7cf53 2 = .ok (.if_icmp .lt 7, 3) := by decide +kernel
theorem dJ9_max_7cf53_5 : decode cJ9_max_7cf53 5 = .ok (.iload_n 0, 1) := by decide +kernel
theorem dJ9_max_7cf53_6 : decode cJ9_max_7cf53 6 = .ok (.goto 4, 3) := by decide +kernel
theorem dJ9_max_7cf53_9 : decode cJ9_max_7cf53 9 = .ok (.iload_n 1, 1) := by decide +kernel
theorem dJ9_max_7cf53_10 : decode cJ9_max_7cf53 10 = .ok (.ireturn, 1) := by decide +kernel
theorem dJ9_min_7cf53_0 : decode cJ9_min_7cf53 0 = .ok (.iload_n 0, 1) := by decide +kernel
theorem dJ9_min_7cf53_1 : decode cJ9_min_7cf53 1 = .ok (.iload_n 1, 1) := by decide +kernel
theorem dJ9_min_7cf53_2 : decode cJ9_min_7cf53 2 = .ok (.if_icmp .gt 7, 3) := by decide +kernel
theorem dJ9_min_7cf53_5 : decode cJ9_min_7cf53 5 = .ok (.iload_n 0, 1) := by decide +kernel
theorem dJ9_min_7cf53_6 : decode cJ9_min_7cf53 6 = .ok (.goto 4, 3) := by decide +kernel
theorem dJ9_min_7cf53_9 : decode cJ9_min_7cf53 9 = .ok (.iload_n 1, 1) := by decide +kernel
theorem dJ9_min_7cf53_10 : decode cJ9_min_7cf53 10 = .ok (.ireturn, 1) := by decide +kernel
set_option maxRecDepth 20000 in
theorem ggL_law_X3_init : GoodIn wsL_law wsX3_init := goodIn_r _ [8, 9, 10, 11, 12, 13, 14, 15, 16, 17, 18, 19, 20, 21, 22, 23, 24, 25, 26, 27, 28, 29, 30, 31, 32, 33, 34, 35, 36, 37, 38, 39, 40, 41, 42, 43, 44, 45, 46, 47, 48, 49, 50, 51, 52, 53, 54, 55, 56, 57, 58, 59, 60, 61, 591, 592, 593, 594, 595, 596, 597, 598, 599, 600, 601, 602, 577, 578, 579, 580, 603, 604, 605, 606, 607, 608, 609, 610, 611, 612, 613] (by decide +kernel) (by decide +kernel)
set_option maxRecDepth 20000 in
theorem gL_law_X3_init : GoodIn wsL_law (wsX3_init) := ggL_law_X3_init
set_option maxRecDepth 20000 in
theorem ggL_law_X4_init : GoodIn wsL_law wsX4_init := goodIn_r _ [64, 65, 10, 11, 24, 66, 67, 68, 69, 70, 71, 581, 582, 583, 584, 585, 586, 587, 588, 589, 590] (by decide +kernel) (by decide +kernel)
set_option maxRecDepth 20000 in
theorem gL_law_X4_init : GoodIn wsL_law (wsX4_init) := ggL_law_X4_init
set_option maxRecDepth 20000 in
theorem ggL_law_X3_setGuarantees : GoodIn wsL_law wsX3_setGuarantees := goodIn_r _ [75, 19, 15, 76, 77, 78, 18, 79, 47, 48, 80, 81, 82, 14, 83, 29, 30, 31, 32, 33, 34, 36, 37, 38, 39, 40, 41, 84, 85, 86, 87, 88, 89, 90, 91, 92, 93, 94, 95, 96, 97, 98, 99, 100, 101, 102, 2, 103, 104, 105, 106, 107, 108, 109, 110, 111, 112, 113, 114, 49, 115, 116, 117, 118, 119, 25, 120, 121, 122, 577, 578, 579, 580, 603, 604, 605, 591, 592, 593, 594, 595, 596, 597, 598, 599, 600, 601, 602] (by decide +kernel) (by decide +kernel)
set_option maxRecDepth 20000 in
theorem gL_law_X3_setGuarantees : GoodIn wsL_law (wsV RL 13 RX3 yX3_setGuarantees wsX3_setGuarantees) := goodIn_app (goodIn_of _ (by decide +kernel)) ggL_law_X3_setGuarantees
set_option maxRecDepth 20000 in
theorem ggL_law_X4_setGuarantees : GoodIn wsL_law wsX4_setGuarantees := goodIn_r _ [126, 127, 128, 129, 5, 130, 68, 66, 131, 132, 133, 134, 135, 136, 137, 138, 139, 140, 141, 142, 143, 144, 145, 146, 147, 148, 149, 150, 151, 152, 153, 154, 69, 155, 156, 157, 158, 159, 67, 581, 582, 583, 584, 585, 586, 587, 588, 589, 590] (by decide +kernel) (by decide +kernel)
set_option maxRecDepth 20000 in
theorem gL_law_X4_setGuarantees : GoodIn wsL_law (wsV RL 17 RX4 yX4_setGuarantees wsX4_setGuarantees) := goodIn_app (goodIn_of _ (by decide +kernel)) ggL_law_X4_setGuarantees
set_option maxRecDepth 20000 in
theorem ggL_law_X3_forget : GoodIn wsL_law wsX3_forget := goodIn_r _ [163, 19, 15, 76, 77, 78, 18, 79, 47, 48, 80, 81, 82, 14, 83, 29, 30, 31, 32, 33, 34, 36, 37, 38, 39, 40, 41, 84, 85, 86, 87, 88, 89, 90, 91, 92, 93, 94, 95, 96, 97, 164, 165, 166, 167, 102, 2, 103, 104, 105, 106, 107, 108, 109, 110, 111, 112, 113, 114, 49, 115, 116, 117, 118, 119, 25, 120, 121, 122, 577, 578, 579, 580, 603, 604, 605, 591, 592, 593, 594, 595, 596, 597, 598, 599, 600, 601, 602] (by decide +kernel) (by decide +kernel)
set_option maxRecDepth 20000 in
theorem gL_law_X3_forget : GoodIn wsL_law (wsV RL 18 RX3 yX3_forget wsX3_forget) := goodIn_app (goodIn_of _ (by decide +kernel)) ggL_law_X3_forget
set_option maxRecDepth 20000 in
theorem ggL_law_X4_forget : GoodIn wsL_law wsX4_forget := goodIn_r _ [171, 127, 128, 129, 5, 130, 68, 66, 172, 173, 174, 175, 136, 137, 138, 139, 140, 141, 142, 147, 148, 149, 150, 151, 152, 153, 154, 69, 155, 156, 157, 158, 159, 67, 581, 582, 583, 584, 585, 586, 587, 588, 589, 590] (by decide +kernel) (by decide +kernel)
set_option maxRecDepth 20000 in
theorem gL_law_X4_forget : GoodIn wsL_law (wsV RL 22 RX4 yX4_forget wsX4_forget) := goodIn_app (goodIn_of _ (by decide +kernel)) ggL_law_X4_forget
set_option maxRecDepth 20000 in
theorem ggL_law_X3_readCount : GoodIn wsL_law wsX3_readCount := goodIn_r _ [179, 15, 180, 181, 102, 2, 103, 104, 105, 106, 182, 183, 184, 116, 117, 118, 119, 25, 120, 121, 122, 577, 578, 579, 580, 591, 592, 593, 594, 595, 596, 597, 598, 599, 600, 601, 602] (by decide +kernel) (by decide +kernel)
set_option maxRecDepth 20000 in
theorem gL_law_X3_readCount : GoodIn wsL_law (wsV RL 23 RX3 yX3_readCount wsX3_readCount) := goodIn_app (goodIn_of _ (by decide +kernel)) ggL_law_X3_readCount
set_option maxRecDepth 20000 in
theorem ggL_law_X4_readCount : GoodIn wsL_law wsX4_readCount := goodIn_r _ [188, 66, 136, 137, 5, 138, 139, 140, 141, 142, 189, 190, 191, 192, 151, 152, 153, 154, 69, 581, 582, 583, 584, 585, 586, 587, 588, 589, 590] (by decide +kernel) (by decide +kernel)
set_option maxRecDepth 20000 in
theorem gL_law_X4_readCount : GoodIn wsL_law (wsV RL 26 RX4 yX4_readCount wsX4_readCount) := goodIn_app (goodIn_of _ (by decide +kernel)) ggL_law_X4_readCount
set_option maxRecDepth 20000 in
theorem ggL_law_X3_writeCount : GoodIn wsL_law wsX3_writeCount := goodIn_r _ [196, 15, 197, 181, 102, 2, 103, 104, 105, 106, 182, 183, 184, 116, 117, 118, 119, 25, 120, 121, 122, 577, 578, 579, 580, 591, 592, 593, 594, 595, 596, 597, 598, 599, 600, 601, 602] (by decide +kernel) (by decide +kernel)
set_option maxRecDepth 20000 in
theorem gL_law_X3_writeCount : GoodIn wsL_law (wsV RL 27 RX3 yX3_writeCount wsX3_writeCount) := goodIn_app (goodIn_of _ (by decide +kernel)) ggL_law_X3_writeCount
set_option maxRecDepth 20000 in
theorem ggL_law_X4_writeCount : GoodIn wsL_law wsX4_writeCount := goodIn_r _ [201, 66, 136, 137, 5, 138, 139, 140, 141, 142, 189, 190, 191, 192, 151, 152, 153, 154, 69, 581, 582, 583, 584, 585, 586, 587, 588, 589, 590] (by decide +kernel) (by decide +kernel)
set_option maxRecDepth 20000 in
theorem gL_law_X4_writeCount : GoodIn wsL_law (wsV RL 30 RX4 yX4_writeCount wsX4_writeCount) := goodIn_app (goodIn_of _ (by decide +kernel)) ggL_law_X4_writeCount
set_option maxRecDepth 20000 in
theorem ggL_law_X3_read : GoodIn wsL_law wsX3_read := goodIn_r _ [205, 19, 15, 76, 77, 78, 18, 79, 47, 48, 80, 81, 82, 14, 83, 29, 30, 31, 32, 33, 34, 36, 37, 38, 39, 40, 41, 84, 85, 86, 87, 88, 89, 90, 91, 92, 93, 94, 95, 96, 97, 206, 207, 208, 209, 102, 2, 103, 104, 105, 106, 183, 184, 210, 211, 212, 213, 214, 215, 216, 217, 218, 219, 220, 221, 222, 223, 224, 225, 226, 227, 228, 229, 230, 231, 232, 233, 234, 235, 236, 237, 238, 239, 240, 241, 242, 243, 244, 245, 246, 247, 248, 249, 107, 108, 109, 110, 111, 112, 113, 114, 49, 115, 116, 117, 118, 119, 25, 120, 121, 122, 577, 578, 579, 580, 603, 604, 605, 591, 592, 593, 594, 595, 596, 597, 598, 599, 600, 601, 602] (by decide +kernel) (by decide +kernel)
set_option maxRecDepth 20000 in
theorem gL_law_X3_read : GoodIn wsL_law (wsV RL 31 RX3 yX3_read wsX3_read) := goodIn_app (goodIn_of _ (by decide +kernel)) ggL_law_X3_read
set_option maxRecDepth 20000 in
theorem ggL_law_X4_read : GoodIn wsL_law wsX4_read := goodIn_r _ [253, 127, 128, 129, 5, 130, 68, 66, 254, 255, 256, 257, 136, 137, 138, 139, 140, 141, 142, 189, 190, 191, 192, 258, 259, 260, 261, 262, 263, 264, 265, 266, 267, 268, 143, 144, 145, 146, 269, 270, 271, 272, 273, 274, 275, 276, 277, 278, 279, 280, 147, 148, 149, 150, 151, 152, 153, 154, 69, 155, 156, 157, 158, 159, 67, 581, 582, 583, 584, 585, 586, 587, 588, 589, 590] (by decide +kernel) (by decide +kernel)
set_option maxRecDepth 20000 in
theorem gL_law_X4_read : GoodIn wsL_law (wsV RL 35 RX4 yX4_read wsX4_read) := goodIn_app (goodIn_of _ (by decide +kernel)) ggL_law_X4_read
set_option maxRecDepth 20000 in
theorem ggL_law_X3_write : GoodIn wsL_law wsX3_write := goodIn_r _ [284, 19, 15, 76, 77, 78, 18, 79, 47, 48, 80, 81, 82, 14, 83, 29, 30, 31, 32, 33, 34, 36, 37, 38, 39, 40, 41, 84, 85, 86, 87, 88, 89, 90, 91, 92, 93, 94, 95, 96, 97, 285, 286, 287, 288, 102, 2, 103, 104, 105, 106, 183, 184, 210, 211, 289, 290, 291, 292, 212, 213, 218, 219, 220, 221, 222, 223, 224, 225, 226, 227, 228, 229, 230, 231, 232, 233, 234, 107, 108, 109, 110, 111, 112, 113, 114, 49, 115, 116, 117, 118, 119, 25, 120, 121, 122, 577, 578, 579, 580, 603, 604, 605, 591, 592, 593, 594, 595, 596, 597, 598, 599, 600, 601, 602] (by decide +kernel) (by decide +kernel)
set_option maxRecDepth 20000 in
theorem gL_law_X3_write : GoodIn wsL_law (wsV RL 36 RX3 yX3_write wsX3_write) := goodIn_app (goodIn_of _ (by decide +kernel)) ggL_law_X3_write
set_option maxRecDepth 20000 in
theorem ggL_law_X4_write : GoodIn wsL_law wsX4_write := goodIn_r _ [296, 127, 128, 129, 5, 130, 68, 66, 297, 298, 299, 300, 301, 136, 137, 138, 139, 140, 141, 142, 189, 190, 191, 192, 258, 259, 260, 302, 303, 304, 305, 265, 266, 267, 268, 143, 144, 145, 146, 269, 270, 271, 272, 147, 148, 149, 150, 151, 152, 153, 154, 69, 155, 156, 157, 158, 159, 67, 581, 582, 583, 584, 585, 586, 587, 588, 589, 590] (by decide +kernel) (by decide +kernel)
set_option maxRecDepth 20000 in
theorem gL_law_X4_write : GoodIn wsL_law (wsV RL 40 RX4 yX4_write wsX4_write) := goodIn_app (goodIn_of _ (by decide +kernel)) ggL_law_X4_write
set_option maxRecDepth 20000 in
theorem ggL_law_X3_sync : GoodIn wsL_law wsX3_sync := goodIn_r _ [309, 19, 15, 76, 77, 78, 18, 79, 47, 48, 80, 81, 82, 14, 83, 29, 30, 31, 32, 33, 34, 36, 37, 38, 39, 40, 41, 84, 85, 86, 87, 88, 89, 90, 91, 92, 93, 94, 95, 96, 97, 310, 311, 312, 313, 226, 227, 228, 183, 2, 184, 104, 105, 106, 242, 243, 244, 245, 235, 236, 237, 107, 108, 109, 110, 111, 112, 113, 114, 49, 115, 116, 117, 118, 119, 25, 120, 121, 122, 577, 578, 579, 580, 603, 604, 605, 591, 592, 593, 594, 595, 596, 597, 598, 599, 600, 601, 602] (by decide +kernel) (by decide +kernel)
set_option maxRecDepth 20000 in
theorem gL_law_X3_sync : GoodIn wsL_law (wsV RL 41 RX3 yX3_sync wsX3_sync) := goodIn_app (goodIn_of _ (by decide +kernel)) ggL_law_X3_sync
set_option maxRecDepth 20000 in
theorem ggL_law_X4_sync : GoodIn wsL_law wsX4_sync := goodIn_r _ [317, 127, 128, 129, 5, 130, 68, 66, 318, 319, 320, 321, 189, 190, 191, 192, 140, 141, 142, 147, 148, 149, 150, 151, 152, 153, 154, 69, 155, 156, 157, 158, 159, 67, 581, 582, 583, 584, 585, 586, 587, 588, 589, 590] (by decide +kernel) (by decide +kernel)
set_option maxRecDepth 20000 in
theorem gL_law_X4_sync : GoodIn wsL_law (wsV RL 44 RX4 yX4_sync wsX4_sync) := goodIn_app (goodIn_of _ (by decide +kernel)) ggL_law_X4_sync
set_option maxRecDepth 20000 in
theorem ggL_law_X3_readBreaches : GoodIn wsL_law wsX3_readBreaches := goodIn_r _ [325, 15, 181, 102, 2, 103, 104, 105, 106, 182, 183, 184, 116, 117, 118, 119, 25, 120, 121, 122, 326, 212, 213, 327, 215, 216, 14, 217, 40, 39, 218, 219, 220, 221, 222, 223, 224, 225, 36, 226, 227, 89, 228, 229, 230, 577, 578, 579, 580, 591, 592, 593, 594, 595, 596, 597, 598, 599, 600, 601, 602] (by decide +kernel) (by decide +kernel)
set_option maxRecDepth 20000 in
theorem gL_law_X3_readBreaches : GoodIn wsL_law (wsV RL 45 RX3 yX3_readBreaches wsX3_readBreaches) := goodIn_app (goodIn_of _ (by decide +kernel)) ggL_law_X3_readBreaches
set_option maxRecDepth 20000 in
theorem ggL_law_X4_readBreaches : GoodIn wsL_law wsX4_readBreaches := goodIn_r _ [331, 136, 137, 5, 138, 139, 140, 141, 142, 189, 190, 191, 192, 261, 262, 263, 264, 265, 266, 267, 268, 66, 151, 152, 153, 154, 69, 581, 582, 583, 584, 585, 586, 587, 588, 589, 590] (by decide +kernel) (by decide +kernel)
set_option maxRecDepth 20000 in
theorem gL_law_X4_readBreaches : GoodIn wsL_law (wsV RL 48 RX4 yX4_readBreaches wsX4_readBreaches) := goodIn_app (goodIn_of _ (by decide +kernel)) ggL_law_X4_readBreaches
set_option maxRecDepth 20000 in
theorem ggL_law_X3_writeBreaches : GoodIn wsL_law wsX3_writeBreaches := goodIn_r _ [335, 15, 181, 102, 2, 103, 104, 105, 106, 182, 183, 184, 116, 117, 118, 119, 25, 120, 121, 122, 336, 290, 291, 14, 292, 39, 40, 212, 213, 218, 219, 220, 221, 222, 223, 224, 225, 36, 226, 227, 89, 228, 229, 230, 577, 578, 579, 580, 591, 592, 593, 594, 595, 596, 597, 598, 599, 600, 601, 602] (by decide +kernel) (by decide +kernel)
set_option maxRecDepth 20000 in
theorem gL_law_X3_writeBreaches : GoodIn wsL_law (wsV RL 49 RX3 yX3_writeBreaches wsX3_writeBreaches) := goodIn_app (goodIn_of _ (by decide +kernel)) ggL_law_X3_writeBreaches
set_option maxRecDepth 20000 in
theorem ggL_law_X4_writeBreaches : GoodIn wsL_law wsX4_writeBreaches := goodIn_r _ [340, 136, 137, 5, 138, 139, 140, 141, 142, 189, 190, 191, 192, 302, 303, 304, 305, 265, 266, 267, 268, 66, 151, 152, 153, 154, 69, 581, 582, 583, 584, 585, 586, 587, 588, 589, 590] (by decide +kernel) (by decide +kernel)
set_option maxRecDepth 20000 in
theorem gL_law_X4_writeBreaches : GoodIn wsL_law (wsV RL 52 RX4 yX4_writeBreaches wsX4_writeBreaches) := goodIn_app (goodIn_of _ (by decide +kernel)) ggL_law_X4_writeBreaches
set_option maxRecDepth 20000 in
theorem ggL_law_X3_readableReplica : GoodIn wsL_law wsX3_readableReplica := goodIn_r _ [344, 15, 181, 102, 2, 103, 104, 105, 106, 116, 117, 118, 119, 25, 120, 121, 122, 326, 212, 213, 345, 346, 347, 14, 348, 38, 214, 215, 216, 217, 40, 39, 218, 219, 220, 221, 222, 223, 224, 225, 36, 226, 227, 89, 228, 229, 230, 577, 578, 579, 580, 591, 592, 593, 594, 595, 596, 597, 598, 599, 600, 601, 602] (by decide +kernel) (by decide +kernel)
set_option maxRecDepth 20000 in
theorem gL_law_X3_readableReplica : GoodIn wsL_law (wsV RL 53 RX3 yX3_readableReplica wsX3_readableReplica) := goodIn_app (goodIn_of _ (by decide +kernel)) ggL_law_X3_readableReplica
set_option maxRecDepth 20000 in
theorem ggL_law_X4_readableReplica : GoodIn wsL_law wsX4_readableReplica := goodIn_r _ [352, 136, 137, 5, 138, 139, 140, 141, 142, 151, 152, 153, 154, 69, 261, 262, 263, 264, 265, 266, 267, 268, 66, 143, 144, 145, 146, 581, 582, 583, 584, 585, 586, 587, 588, 589, 590] (by decide +kernel) (by decide +kernel)
set_option maxRecDepth 20000 in
theorem gL_law_X4_readableReplica : GoodIn wsL_law (wsV RL 56 RX4 yX4_readableReplica wsX4_readableReplica) := goodIn_app (goodIn_of _ (by decide +kernel)) ggL_law_X4_readableReplica
set_option maxRecDepth 20000 in
theorem ggL_law_X3_writableReplica : GoodIn wsL_law wsX3_writableReplica := goodIn_r _ [356, 15, 181, 102, 2, 103, 104, 105, 106, 116, 117, 118, 119, 25, 120, 121, 122, 357, 358, 359, 14, 360, 38, 289, 290, 291, 292, 39, 40, 212, 213, 218, 219, 220, 221, 222, 223, 224, 225, 36, 226, 227, 89, 228, 229, 230, 577, 578, 579, 580, 591, 592, 593, 594, 595, 596, 597, 598, 599, 600, 601, 602] (by decide +kernel) (by decide +kernel)
set_option maxRecDepth 20000 in
theorem gL_law_X3_writableReplica : GoodIn wsL_law (wsV RL 57 RX3 yX3_writableReplica wsX3_writableReplica) := goodIn_app (goodIn_of _ (by decide +kernel)) ggL_law_X3_writableReplica
set_option maxRecDepth 20000 in
theorem ggL_law_X4_writableReplica : GoodIn wsL_law wsX4_writableReplica := goodIn_r _ [364, 136, 137, 5, 138, 139, 140, 141, 142, 151, 152, 153, 154, 69, 302, 303, 304, 305, 265, 266, 267, 268, 66, 143, 144, 145, 146, 581, 582, 583, 584, 585, 586, 587, 588, 589, 590] (by decide +kernel) (by decide +kernel)
set_option maxRecDepth 20000 in
theorem gL_law_X4_writableReplica : GoodIn wsL_law (wsV RL 60 RX4 yX4_writableReplica wsX4_writableReplica) := goodIn_app (goodIn_of _ (by decide +kernel)) ggL_law_X4_writableReplica
set_option maxRecDepth 20000 in
theorem ggL_law_X3_syncsForRead : GoodIn wsL_law wsX3_syncsForRead := goodIn_r _ [368, 15, 181, 102, 2, 103, 104, 105, 106, 182, 183, 184, 116, 117, 118, 119, 25, 120, 121, 122, 369, 229, 230, 326, 212, 213, 345, 346, 347, 14, 348, 38, 214, 215, 216, 217, 40, 39, 218, 219, 220, 221, 222, 223, 224, 225, 36, 226, 227, 89, 228, 577, 578, 579, 580, 591, 592, 593, 594, 595, 596, 597, 598, 599, 600, 601, 602] (by decide +kernel) (by decide +kernel)
set_option maxRecDepth 20000 in
theorem gL_law_X3_syncsForRead : GoodIn wsL_law (wsV RL 61 RX3 yX3_syncsForRead wsX3_syncsForRead) := goodIn_app (goodIn_of _ (by decide +kernel)) ggL_law_X3_syncsForRead
set_option maxRecDepth 20000 in
theorem ggL_law_X4_syncsForRead : GoodIn wsL_law wsX4_syncsForRead := goodIn_r _ [373, 136, 137, 5, 138, 139, 140, 141, 142, 189, 190, 191, 192, 151, 152, 153, 154, 69, 374, 375, 376, 377, 378, 379, 380, 143, 144, 145, 146, 66, 381, 382, 383, 384, 581, 582, 583, 584, 585, 586, 587, 588, 589, 590] (by decide +kernel) (by decide +kernel)
set_option maxRecDepth 20000 in
theorem gL_law_X4_syncsForRead : GoodIn wsL_law (wsV RL 64 RX4 yX4_syncsForRead wsX4_syncsForRead) := goodIn_app (goodIn_of _ (by decide +kernel)) ggL_law_X4_syncsForRead
set_option maxRecDepth 20000 in
theorem ggL_law_X3_count : GoodIn wsL_law wsX3_count := goodIn_r _ [388, 15, 389, 182, 183, 2, 184, 104, 105, 106, 116, 117, 118, 119, 25, 120, 121, 122, 577, 578, 579, 580, 591, 592, 593, 594, 595, 596, 597, 598, 599, 600, 601, 602] (by decide +kernel) (by decide +kernel)
set_option maxRecDepth 20000 in
theorem gL_law_X3_count : GoodIn wsL_law (wsV RL 65 RX3 yX3_count wsX3_count) := goodIn_app (goodIn_of _ (by decide +kernel)) ggL_law_X3_count
set_option maxRecDepth 20000 in
theorem ggL_law_X4_count : GoodIn wsL_law wsX4_count := goodIn_r _ [393, 66, 189, 190, 5, 191, 192, 140, 141, 142, 151, 152, 153, 154, 69, 581, 582, 583, 584, 585, 586, 587, 588, 589, 590] (by decide +kernel) (by decide +kernel)
set_option maxRecDepth 20000 in
theorem gL_law_X4_count : GoodIn wsL_law (wsV RL 68 RX4 yX4_count wsX4_count) := goodIn_app (goodIn_of _ (by decide +kernel)) ggL_law_X4_count
set_option maxRecDepth 20000 in
theorem ggL_law_X3_clock : GoodIn wsL_law wsX3_clock := goodIn_r _ [397, 15, 398, 182, 183, 2, 184, 104, 105, 106, 116, 117, 118, 119, 25, 120, 121, 122, 577, 578, 579, 580, 591, 592, 593, 594, 595, 596, 597, 598, 599, 600, 601, 602] (by decide +kernel) (by decide +kernel)
set_option maxRecDepth 20000 in
theorem gL_law_X3_clock : GoodIn wsL_law (wsV RL 69 RX3 yX3_clock wsX3_clock) := goodIn_app (goodIn_of _ (by decide +kernel)) ggL_law_X3_clock
set_option maxRecDepth 20000 in
theorem ggL_law_X4_clock : GoodIn wsL_law wsX4_clock := goodIn_r _ [402, 66, 189, 190, 5, 191, 192, 140, 141, 142, 151, 152, 153, 154, 69, 581, 582, 583, 584, 585, 586, 587, 588, 589, 590] (by decide +kernel) (by decide +kernel)
set_option maxRecDepth 20000 in
theorem gL_law_X4_clock : GoodIn wsL_law (wsV RL 72 RX4 yX4_clock wsX4_clock) := goodIn_app (goodIn_of _ (by decide +kernel)) ggL_law_X4_clock
set_option maxRecDepth 20000 in
theorem ggL_law_X3_peek : GoodIn wsL_law wsX3_peek := goodIn_r _ [406, 15, 182, 183, 2, 184, 104, 105, 106, 407, 210, 211, 116, 117, 118, 119, 25, 120, 121, 122, 408, 239, 240, 14, 241, 29, 32, 33, 242, 243, 244, 245, 31, 36, 30, 246, 247, 248, 249, 34, 577, 578, 579, 580, 591, 592, 593, 594, 595, 596, 597, 598, 599, 600, 601, 602] (by decide +kernel) (by decide +kernel)
set_option maxRecDepth 20000 in
theorem gL_law_X3_peek : GoodIn wsL_law (wsV RL 73 RX3 yX3_peek wsX3_peek) := goodIn_app (goodIn_of _ (by decide +kernel)) ggL_law_X3_peek
set_option maxRecDepth 20000 in
theorem ggL_law_X4_peek : GoodIn wsL_law wsX4_peek := goodIn_r _ [412, 189, 190, 5, 191, 192, 140, 141, 142, 258, 259, 260, 139, 151, 152, 153, 154, 69, 273, 274, 275, 276, 66, 277, 278, 279, 280, 581, 582, 583, 584, 585, 586, 587, 588, 589, 590] (by decide +kernel) (by decide +kernel)
set_option maxRecDepth 20000 in
theorem gL_law_X4_peek : GoodIn wsL_law (wsV RL 76 RX4 yX4_peek wsX4_peek) := goodIn_app (goodIn_of _ (by decide +kernel)) ggL_law_X4_peek
set_option maxRecDepth 20000 in
theorem ggL_law_X3_compare : GoodIn wsL_law wsX3_compare := goodIn_r _ [416, 15, 389, 182, 183, 2, 184, 104, 105, 106, 116, 117, 118, 119, 25, 120, 121, 122, 326, 212, 213, 417, 219, 220, 14, 221, 222, 223, 224, 225, 36, 226, 227, 89, 228, 229, 230, 577, 578, 579, 580, 591, 592, 593, 594, 595, 596, 597, 598, 599, 600, 601, 602] (by decide +kernel) (by decide +kernel)
set_option maxRecDepth 20000 in
theorem gL_law_X3_compare : GoodIn wsL_law (wsV RL 77 RX3 yX3_compare wsX3_compare) := goodIn_app (goodIn_of _ (by decide +kernel)) ggL_law_X3_compare
set_option maxRecDepth 20000 in
theorem ggL_law_X4_compare : GoodIn wsL_law wsX4_compare := goodIn_r _ [421, 189, 190, 5, 191, 192, 140, 141, 142, 151, 152, 153, 154, 69, 265, 266, 267, 268, 66, 581, 582, 583, 584, 585, 586, 587, 588, 589, 590] (by decide +kernel) (by decide +kernel)
set_option maxRecDepth 20000 in
theorem gL_law_X4_compare : GoodIn wsL_law (wsV RL 80 RX4 yX4_compare wsX4_compare) := goodIn_app (goodIn_of _ (by decide +kernel)) ggL_law_X4_compare
set_option maxRecDepth 20000 in
theorem ggL_law_X3_breaches : GoodIn wsL_law wsX3_breaches := goodIn_r _ [425, 15, 426, 104, 105, 2, 106, 116, 117, 118, 119, 25, 120, 121, 122, 577, 578, 579, 580, 591, 592, 593, 594, 595, 596, 597, 598, 599, 600, 601, 602] (by decide +kernel) (by decide +kernel)
set_option maxRecDepth 20000 in
theorem gL_law_X3_breaches : GoodIn wsL_law (wsV RL 81 RX3 yX3_breaches wsX3_breaches) := goodIn_app (goodIn_of _ (by decide +kernel)) ggL_law_X3_breaches
set_option maxRecDepth 20000 in
theorem ggL_law_X4_breaches : GoodIn wsL_law wsX4_breaches := goodIn_r _ [430, 139, 66, 140, 141, 5, 142, 151, 152, 153, 154, 69, 581, 582, 583, 584, 585, 586, 587, 588, 589, 590] (by decide +kernel) (by decide +kernel)
set_option maxRecDepth 20000 in
theorem gL_law_X4_breaches : GoodIn wsL_law (wsV RL 84 RX4 yX4_breaches wsX4_breaches) := goodIn_app (goodIn_of _ (by decide +kernel)) ggL_law_X4_breaches
set_option maxRecDepth 20000 in
theorem ggL_law_X3_append : GoodIn wsL_law wsX3_append := goodIn_r _ [434, 23, 104, 105, 2, 106, 116, 117, 118, 119, 25, 120, 121, 122, 435, 436, 437, 22, 438, 54, 53, 577, 578, 579, 580, 606, 607, 608, 609, 610, 611, 612, 613] (by decide +kernel) (by decide +kernel)
set_option maxRecDepth 20000 in
theorem gL_law_X3_append : GoodIn wsL_law (wsV RL 85 RX3 yX3_append wsX3_append) := goodIn_app (goodIn_of _ (by decide +kernel)) ggL_law_X3_append
set_option maxRecDepth 20000 in
theorem ggL_law_X4_append : GoodIn wsL_law wsX4_append := goodIn_r _ [442, 443, 444, 70, 140, 141, 5, 142, 151, 152, 153, 154, 69, 581, 582, 583, 584, 585, 586, 587, 588, 589, 590] (by decide +kernel) (by decide +kernel)
set_option maxRecDepth 20000 in
theorem gL_law_X4_append : GoodIn wsL_law (wsV RL 88 RX4 yX4_append wsX4_append) := goodIn_app (goodIn_of _ (by decide +kernel)) ggL_law_X4_append
set_option maxRecDepth 20000 in
theorem ggL_law_X3_clearText : GoodIn wsL_law wsX3_clearText := goodIn_r _ [448, 23, 449, 577, 578, 579, 580, 606, 607, 608, 609, 610, 611, 612, 613] (by decide +kernel) (by decide +kernel)
set_option maxRecDepth 20000 in
theorem gL_law_X3_clearText : GoodIn wsL_law (wsV RL 89 RX3 yX3_clearText wsX3_clearText) := goodIn_app (goodIn_of _ (by decide +kernel)) ggL_law_X3_clearText
set_option maxRecDepth 20000 in
theorem ggL_law_X4_clearText : GoodIn wsL_law wsX4_clearText := goodIn_r _ [453, 444, 581, 582, 583, 584, 585, 586, 587, 588, 589, 590] (by decide +kernel) (by decide +kernel)
set_option maxRecDepth 20000 in
theorem gL_law_X4_clearText : GoodIn wsL_law (wsV RL 93 RX4 yX4_clearText wsX4_clearText) := goodIn_app (goodIn_of _ (by decide +kernel)) ggL_law_X4_clearText
set_option maxRecDepth 20000 in
theorem ggL_law_X3_execute : GoodIn wsL_law wsX3_execute := goodIn_r _ [457, 23, 19, 15, 458, 459, 460, 461, 22, 462, 58, 59, 54, 53, 463, 464, 465, 466, 61, 467, 468, 469, 470, 55, 60, 471, 472, 473, 474, 475, 476, 477, 478, 479, 480, 481, 57, 76, 77, 78, 18, 79, 47, 48, 80, 81, 82, 14, 83, 29, 30, 31, 32, 33, 34, 36, 37, 38, 39, 40, 41, 84, 85, 86, 87, 88, 89, 90, 91, 92, 93, 94, 95, 96, 97, 482, 483, 484, 2, 485, 486, 487, 98, 99, 100, 101, 102, 103, 104, 105, 106, 206, 207, 208, 209, 183, 184, 210, 211, 212, 213, 214, 215, 216, 217, 218, 219, 220, 221, 222, 223, 224, 225, 226, 227, 228, 229, 230, 231, 232, 233, 234, 235, 236, 237, 238, 239, 240, 241, 242, 243, 244, 245, 246, 247, 248, 249, 285, 286, 287, 288, 289, 290, 291, 292, 310, 311, 312, 313, 164, 165, 166, 167, 488, 489, 490, 491, 111, 112, 113, 114, 49, 115, 577, 578, 579, 580, 606, 607, 608, 609, 610, 611, 612, 613, 603, 604, 605, 591, 592, 593, 594, 595, 596, 597, 598, 599, 600, 601, 602] (by decide +kernel) (by decide +kernel)
set_option maxRecDepth 20000 in
theorem gL_law_X3_execute : GoodIn wsL_law (wsV RL 94 RX3 yX3_execute wsX3_execute) := goodIn_app (goodIn_of _ (by decide +kernel)) ggL_law_X3_execute
set_option maxRecDepth 20000 in
theorem ggL_law_X4_execute : GoodIn wsL_law wsX4_execute := goodIn_r _ [495, 496, 66, 68, 497, 498, 499, 5, 500, 501, 502, 503, 504, 505, 444, 70, 506, 507, 508, 509, 510, 511, 512, 513, 514, 71, 140, 141, 142, 515, 516, 517, 518, 127, 128, 129, 130, 519, 520, 521, 522, 172, 173, 174, 175, 136, 137, 138, 139, 131, 132, 133, 134, 135, 143, 144, 145, 146, 318, 319, 320, 321, 189, 190, 191, 192, 254, 255, 256, 257, 258, 259, 260, 261, 262, 263, 264, 265, 266, 267, 268, 269, 270, 271, 272, 273, 274, 275, 276, 277, 278, 279, 280, 297, 298, 299, 300, 301, 302, 303, 304, 305, 155, 156, 157, 158, 159, 67, 581, 582, 583, 584, 585, 586, 587, 588, 589, 590] (by decide +kernel) (by decide +kernel)
set_option maxRecDepth 20000 in
theorem gL_law_X4_execute : GoodIn wsL_law (wsV RL 97 RX4 yX4_execute wsX4_execute) := goodIn_app (goodIn_of _ (by decide +kernel)) ggL_law_X4_execute
set_option maxRecDepth 20000 in
theorem ggL_law_X3_undo : GoodIn wsL_law wsX3_undo := goodIn_r _ [526, 19, 15, 527, 528, 529, 530, 18, 531, 49, 48, 47, 80, 81, 82, 14, 83, 29, 30, 31, 32, 33, 34, 36, 37, 38, 39, 40, 41, 84, 85, 86, 87, 88, 89, 90, 91, 92, 93, 94, 95, 96, 97, 116, 117, 118, 2, 119, 25, 120, 121, 122, 577, 578, 579, 580, 603, 604, 605, 591, 592, 593, 594, 595, 596, 597, 598, 599, 600, 601, 602] (by decide +kernel) (by decide +kernel)
set_option maxRecDepth 20000 in
theorem gL_law_X3_undo : GoodIn wsL_law (wsV RL 98 RX3 yX3_undo wsX3_undo) := goodIn_app (goodIn_of _ (by decide +kernel)) ggL_law_X3_undo
set_option maxRecDepth 20000 in
theorem ggL_law_X4_undo : GoodIn wsL_law wsX4_undo := goodIn_r _ [535, 159, 66, 67, 151, 152, 153, 5, 154, 69, 581, 582, 583, 584, 585, 586, 587, 588, 589, 590] (by decide +kernel) (by decide +kernel)
set_option maxRecDepth 20000 in
theorem gL_law_X4_undo : GoodIn wsL_law (wsV RL 101 RX4 yX4_undo wsX4_undo) := goodIn_app (goodIn_of _ (by decide +kernel)) ggL_law_X4_undo
set_option maxRecDepth 20000 in
theorem ggL_law_X3_errorCount : GoodIn wsL_law wsX3_errorCount := goodIn_r _ [539, 25, 120, 121, 2, 122, 116, 117, 118, 119, 577, 578, 579, 580] (by decide +kernel) (by decide +kernel)
set_option maxRecDepth 20000 in
theorem gL_law_X3_errorCount : GoodIn wsL_law (wsV RL 102 RX3 yX3_errorCount wsX3_errorCount) := goodIn_app (goodIn_of _ (by decide +kernel)) ggL_law_X3_errorCount
set_option maxRecDepth 20000 in
theorem ggL_law_X4_errorCount : GoodIn wsL_law wsX4_errorCount := goodIn_r _ [543, 544, 545, 69, 140, 141, 5, 142, 151, 152, 153, 154, 581, 582, 583, 584, 585, 586, 587, 588, 589, 590] (by decide +kernel) (by decide +kernel)
set_option maxRecDepth 20000 in
theorem gL_law_X4_errorCount : GoodIn wsL_law (wsV RL 105 RX4 yX4_errorCount wsX4_errorCount) := goodIn_app (goodIn_of _ (by decide +kernel)) ggL_law_X4_errorCount
set_option maxRecDepth 20000 in
theorem ggL_law_X3_writes : GoodIn wsL_law wsX3_writes := goodIn_r _ [549, 15, 550, 577, 578, 579, 580, 591, 592, 593, 594, 595, 596, 597, 598, 599, 600, 601, 602] (by decide +kernel) (by decide +kernel)
set_option maxRecDepth 20000 in
theorem gL_law_X3_writes : GoodIn wsL_law (wsV RL 106 RX3 yX3_writes wsX3_writes) := goodIn_app (goodIn_of _ (by decide +kernel)) ggL_law_X3_writes
set_option maxRecDepth 20000 in
theorem ggL_law_X4_writes : GoodIn wsL_law wsX4_writes := goodIn_r _ [554, 66, 581, 582, 583, 584, 585, 586, 587, 588, 589, 590] (by decide +kernel) (by decide +kernel)
set_option maxRecDepth 20000 in
theorem gL_law_X4_writes : GoodIn wsL_law (wsV RL 109 RX4 yX4_writes wsX4_writes) := goodIn_app (goodIn_of _ (by decide +kernel)) ggL_law_X4_writes
set_option maxRecDepth 20000 in
theorem ggL_law_X3_digest : GoodIn wsL_law wsX3_digest := goodIn_r _ [558, 559, 25, 15, 23, 449, 19, 527, 560, 561, 2, 562, 563, 564, 565, 566, 567, 568, 569, 14, 570, 29, 36, 37, 38, 39, 40, 41, 238, 239, 240, 241, 32, 33, 242, 243, 244, 245, 31, 30, 246, 247, 248, 249, 34, 577, 578, 579, 580, 606, 607, 608, 609, 610, 611, 612, 613, 603, 604, 605, 591, 592, 593, 594, 595, 596, 597, 598, 599, 600, 601, 602] (by decide +kernel) (by decide +kernel)
set_option maxRecDepth 20000 in
theorem gL_law_X3_digest : GoodIn wsL_law (wsV RL 110 RX3 yX3_digest wsX3_digest) := goodIn_app (goodIn_of _ (by decide +kernel)) ggL_law_X3_digest
set_option maxRecDepth 20000 in
theorem ggL_law_X4_digest : GoodIn wsL_law wsX4_digest := goodIn_r _ [574, 575, 576, 69, 66, 444, 159, 273, 274, 275, 5, 276, 277, 278, 279, 280, 581, 582, 583, 584, 585, 586, 587, 588, 589, 590] (by decide +kernel) (by decide +kernel)
set_option maxRecDepth 20000 in
theorem gL_law_X4_digest : GoodIn wsL_law (wsV RL 114 RX4 yX4_digest wsX4_digest) := goodIn_app (goodIn_of _ (by decide +kernel)) ggL_law_X4_digest
theorem dL_law_0 : decode cL_law 0 = .ok (.new 7, 3) := by decide +kernel
theorem dL_law_3 : decode cL_law 3 = .ok (.dup, 1) := by decide +kernel
theorem dL_law_4 : decode cL_law 4 = .ok (.invokespecial 9, 3) := by decide +kernel
theorem dL_law_7 : decode cL_law 7 = .ok (.astore_n 1, 1) := by decide +kernel
theorem dL_law_8 : decode cL_law 8 = .ok (.new 10, 3) := by decide +kernel
theorem dL_law_11 : decode cL_law 11 = .ok (.dup, 1) := by decide +kernel
theorem dL_law_12 : decode cL_law 12 = .ok (.invokespecial 12, 3) := by decide +kernel
theorem dL_law_15 : decode cL_law 15 = .ok (.astore_n 2, 1) := by decide +kernel
theorem dL_law_16 : decode cL_law 16 = .ok (.iconst 0, 1) := by decide +kernel
theorem dL_law_17 : decode cL_law 17 = .ok (.istore_n 3, 1) := by decide +kernel
theorem dL_law_18 : decode cL_law 18 = .ok (.iload_n 3, 1) := by decide +kernel
theorem dL_law_19 : decode cL_law 19 = .ok (.aload_n 0, 1) := by decide +kernel
theorem dL_law_20 : decode cL_law 20 = .ok (.arraylength, 1) := by decide +kernel
theorem dL_law_21 : decode cL_law 21 = .ok (.iconst 5, 1) := by decide +kernel
theorem dL_law_22 : decode cL_law 22 = .ok (.isub, 1) := by decide +kernel
theorem dL_law_23 : decode cL_law 23 = .ok (.if_icmp .gt 780, 3) := by decide +kernel
theorem dL_law_26 : decode cL_law 26 = .ok (.aload_n 0, 1) := by decide +kernel
theorem dL_law_27 : decode cL_law 27 = .ok (.iload_n 3, 1) := by decide +kernel
theorem dL_law_28 : decode cL_law 28 = .ok (.iaload, 1) := by decide +kernel
theorem dL_law_29 : decode cL_law 29 = .ok (.bipush 31, 2) := by decide +kernel
theorem dL_law_31 : decode cL_law 31 = .ok (.iand, 1) := by decide +kernel
theorem dL_law_32 : decode cL_law 32 = .ok (.tableswitch 765 0 23 #[112, 145, 168, 201, 234, 277, 330, 363, 396, 429, 452, 475, 508, 541, 564, 597, 630, 653, 676, 689, 702, 715, 738, 751], 112) := by decide +kernel
theorem dL_law_144 : decode cL_law 144 = .ok (.aload_n 1, 1) := by decide +kernel
theorem dL_law_145 : decode cL_law 145 = .ok (.aload_n 0, 1) := by decide +kernel
theorem dL_law_146 : decode cL_law 146 = .ok (.iload_n 3, 1) := by decide +kernel
theorem dL_law_147 : decode cL_law 147 = .ok (.iconst 1, 1) := by decide +kernel
theorem dL_law_148 : decode cL_law 148 = .ok (.iadd, 1) := by decide +kernel
theorem dL_law_149 : decode cL_law 149 = .ok (.iaload, 1) := by decide +kernel
theorem dL_law_150 : decode cL_law 150 = .ok (.aload_n 0, 1) := by decide +kernel
theorem dL_law_151 : decode cL_law 151 = .ok (.iload_n 3, 1) := by decide +kernel
theorem dL_law_152 : decode cL_law 152 = .ok (.iconst 2, 1) := by decide +kernel
theorem dL_law_153 : decode cL_law 153 = .ok (.iadd, 1) := by decide +kernel
theorem dL_law_154 : decode cL_law 154 = .ok (.iaload, 1) := by decide +kernel
theorem dL_law_155 : decode cL_law 155 = .ok (.invokevirtual 13, 3) := by decide +kernel
theorem dL_law_158 : decode cL_law 158 = .ok (.aload_n 2, 1) := by decide +kernel
theorem dL_law_159 : decode cL_law 159 = .ok (.aload_n 0, 1) := by decide +kernel
theorem dL_law_160 : decode cL_law 160 = .ok (.iload_n 3, 1) := by decide +kernel
theorem dL_law_161 : decode cL_law 161 = .ok (.iconst 1, 1) := by decide +kernel
theorem dL_law_162 : decode cL_law 162 = .ok (.iadd, 1) := by decide +kernel
theorem dL_law_163 : decode cL_law 163 = .ok (.iaload, 1) := by decide +kernel
theorem dL_law_164 : decode cL_law 164 = .ok (.aload_n 0, 1) := by decide +kernel
theorem dL_law_165 : decode cL_law 165 = .ok (.iload_n 3, 1) := by decide +kernel
theorem dL_law_166 : decode cL_law 166 = .ok (.iconst 2, 1) := by decide +kernel
theorem dL_law_167 : decode cL_law 167 = .ok (.iadd, 1) := by decide +kernel
theorem dL_law_168 : decode cL_law 168 = .ok (.iaload, 1) := by decide +kernel
theorem dL_law_169 : decode cL_law 169 = .ok (.invokevirtual 17, 3) := by decide +kernel
theorem dL_law_172 : decode cL_law 172 = .ok (.if_icmp .eq 625, 3) := by decide +kernel
theorem dL_law_175 : decode cL_law 175 = .ok (.iconst 0, 1) := by decide +kernel
theorem dL_law_176 : decode cL_law 176 = .ok (.ireturn, 1) := by decide +kernel
theorem dL_law_177 : decode cL_law 177 = .ok (.aload_n 1, 1) := by decide +kernel
theorem dL_law_178 : decode cL_law 178 = .ok (.aload_n 0, 1) := by decide +kernel
theorem dL_law_179 : decode cL_law 179 = .ok (.iload_n 3, 1) := by decide +kernel
theorem dL_law_180 : decode cL_law 180 = .ok (.iconst 1, 1) := by decide +kernel
theorem dL_law_181 : decode cL_law 181 = .ok (.iadd, 1) := by decide +kernel
theorem dL_law_182 : decode cL_law 182 = .ok (.iaload, 1) := by decide +kernel
theorem dL_law_183 : decode cL_law 183 = .ok (.invokevirtual 18, 3) := by decide +kernel
theorem dL_law_186 : decode cL_law 186 = .ok (.aload_n 2, 1) := by decide +kernel
theorem dL_law_187 : decode cL_law 187 = .ok (.aload_n 0, 1) := by decide +kernel
theorem dL_law_188 : decode cL_law 188 = .ok (.iload_n 3, 1) := by decide +kernel
theorem dL_law_189 : decode cL_law 189 = .ok (.iconst 1, 1) := by decide +kernel
theorem dL_law_190 : decode cL_law 190 = .ok (.iadd, 1) := by decide +kernel
theorem dL_law_191 : decode cL_law 191 = .ok (.iaload, 1) := by decide +kernel
theorem dL_law_192 : decode cL_law 192 = .ok (.invokevirtual 22, 3) := by decide +kernel
theorem dL_law_195 : decode cL_law 195 = .ok (.if_icmp .eq 602, 3) := by decide +kernel
theorem dL_law_198 : decode cL_law 198 = .ok (.iconst 0, 1) := by decide +kernel
theorem dL_law_199 : decode cL_law 199 = .ok (.ireturn, 1) := by decide +kernel
theorem dL_law_200 : decode cL_law 200 = .ok (.aload_n 1, 1) := by decide +kernel
theorem dL_law_201 : decode cL_law 201 = .ok (.aload_n 0, 1) := by decide +kernel
theorem dL_law_202 : decode cL_law 202 = .ok (.iload_n 3, 1) := by decide +kernel
theorem dL_law_203 : decode cL_law 203 = .ok (.iconst 1, 1) := by decide +kernel
theorem dL_law_204 : decode cL_law 204 = .ok (.iadd, 1) := by decide +kernel
theorem dL_law_205 : decode cL_law 205 = .ok (.iaload, 1) := by decide +kernel
theorem dL_law_206 : decode cL_law 206 = .ok (.aload_n 0, 1) := by decide +kernel
theorem dL_law_207 : decode cL_law 207 = .ok (.iload_n 3, 1) := by decide +kernel
theorem dL_law_208 : decode cL_law 208 = .ok (.iconst 2, 1) := by decide +kernel
theorem dL_law_209 : decode cL_law 209 = .ok (.iadd, 1) := by decide +kernel
theorem dL_law_210 : decode cL_law 210 = .ok (.iaload, 1) := by decide +kernel
theorem dL_law_211 : decode cL_law 211 = .ok (.invokevirtual 23, 3) := by decide +kernel
theorem dL_law_214 : decode cL_law 214 = .ok (.aload_n 2, 1) := by decide +kernel
theorem dL_law_215 : decode cL_law 215 = .ok (.aload_n 0, 1) := by decide +kernel
theorem dL_law_216 : decode cL_law 216 = .ok (.iload_n 3, 1) := by decide +kernel
theorem dL_law_217 : decode cL_law 217 = .ok (.iconst 1, 1) := by decide +kernel
theorem dL_law_218 : decode cL_law 218 = .ok (.iadd, 1) := by decide +kernel
theorem dL_law_219 : decode cL_law 219 = .ok (.iaload, 1) := by decide +kernel
theorem dL_law_220 : decode cL_law 220 = .ok (.aload_n 0, 1) := by decide +kernel
theorem dL_law_221 : decode cL_law 221 = .ok (.iload_n 3, 1) := by decide +kernel
theorem dL_law_222 : decode cL_law 222 = .ok (.iconst 2, 1) := by decide +kernel
theorem dL_law_223 : decode cL_law 223 = .ok (.iadd, 1) := by decide +kernel
theorem dL_law_224 : decode cL_law 224 = .ok (.iaload, 1) := by decide +kernel
theorem dL_law_225 : decode cL_law 225 = .ok (.invokevirtual 26, 3) := by decide +kernel
theorem dL_law_228 : decode cL_law 228 = .ok (.if_icmp .eq 569, 3) := by decide +kernel
theorem dL_law_231 : decode cL_law 231 = .ok (.iconst 0, 1) := by decide +kernel
theorem dL_law_232 : decode cL_law 232 = .ok (.ireturn, 1) := by decide +kernel
theorem dL_law_233 : decode cL_law 233 = .ok (.aload_n 1, 1) := by decide +kernel
theorem dL_law_234 : decode cL_law 234 = .ok (.aload_n 0, 1) := by decide +kernel
theorem dL_law_235 : decode cL_law 235 = .ok (.iload_n 3, 1) := by decide +kernel
theorem dL_law_236 : decode cL_law 236 = .ok (.iconst 1, 1) := by decide +kernel
theorem dL_law_237 : decode cL_law 237 = .ok (.iadd, 1) := by decide +kernel
theorem dL_law_238 : decode cL_law 238 = .ok (.iaload, 1) := by decide +kernel
theorem dL_law_239 : decode cL_law 239 = .ok (.aload_n 0, 1) := by decide +kernel
theorem dL_law_240 : decode cL_law 240 = .ok (.iload_n 3, 1) := by decide +kernel
theorem dL_law_241 : decode cL_law 241 = .ok (.iconst 2, 1) := by decide +kernel
theorem dL_law_242 : decode cL_law 242 = .ok (.iadd, 1) := by decide +kernel
theorem dL_law_243 : decode cL_law 243 = .ok (.iaload, 1) := by decide +kernel
theorem dL_law_244 : decode cL_law 244 = .ok (.invokevirtual 27, 3) := by decide +kernel
theorem dL_law_247 : decode cL_law 247 = .ok (.aload_n 2, 1) := by decide +kernel
theorem dL_law_248 : decode cL_law 248 = .ok (.aload_n 0, 1) := by decide +kernel
theorem dL_law_249 : decode cL_law 249 = .ok (.iload_n 3, 1) := by decide +kernel
theorem dL_law_250 : decode cL_law 250 = .ok (.iconst 1, 1) := by decide +kernel
theorem dL_law_251 : decode cL_law 251 = .ok (.iadd, 1) := by decide +kernel
theorem dL_law_252 : decode cL_law 252 = .ok (.iaload, 1) := by decide +kernel
theorem dL_law_253 : decode cL_law 253 = .ok (.aload_n 0, 1) := by decide +kernel
theorem dL_law_254 : decode cL_law 254 = .ok (.iload_n 3, 1) := by decide +kernel
theorem dL_law_255 : decode cL_law 255 = .ok (.iconst 2, 1) := by decide +kernel
theorem dL_law_256 : decode cL_law 256 = .ok (.iadd, 1) := by decide +kernel
theorem dL_law_257 : decode cL_law 257 = .ok (.iaload, 1) := by decide +kernel
theorem dL_law_258 : decode cL_law 258 = .ok (.invokevirtual 30, 3) := by decide +kernel
theorem dL_law_261 : decode cL_law 261 = .ok (.if_icmp .eq 536, 3) := by decide +kernel
theorem dL_law_264 : decode cL_law 264 = .ok (.iconst 0, 1) := by decide +kernel
theorem dL_law_265 : decode cL_law 265 = .ok (.ireturn, 1) := by decide +kernel
theorem dL_law_266 : decode cL_law 266 = .ok (.aload_n 1, 1) := by decide +kernel
theorem dL_law_267 : decode cL_law 267 = .ok (.aload_n 0, 1) := by decide +kernel
theorem dL_law_268 : decode cL_law 268 = .ok (.iload_n 3, 1) := by decide +kernel
theorem dL_law_269 : decode cL_law 269 = .ok (.iconst 1, 1) := by decide +kernel
theorem dL_law_270 : decode cL_law 270 = .ok (.iadd, 1) := by decide +kernel
theorem dL_law_271 : decode cL_law 271 = .ok (.iaload, 1) := by decide +kernel
theorem dL_law_272 : decode cL_law 272 = .ok (.aload_n 0, 1) := by decide +kernel
theorem dL_law_273 : decode cL_law 273 = .ok (.iload_n 3, 1) := by decide +kernel
theorem dL_law_274 : decode cL_law 274 = .ok (.iconst 2, 1) := by decide +kernel
theorem dL_law_275 : decode cL_law 275 = .ok (.iadd, 1) := by decide +kernel
theorem dL_law_276 : decode cL_law 276 = .ok (.iaload, 1) := by decide +kernel
theorem dL_law_277 : decode cL_law 277 = .ok (.aload_n 0, 1) := by decide +kernel
theorem dL_law_278 : decode cL_law 278 = .ok (.iload_n 3, 1) := by decide +kernel
theorem dL_law_279 : decode cL_law 279 = .ok (.iconst 3, 1) := by decide +kernel
theorem dL_law_280 : decode cL_law 280 = .ok (.iadd, 1) := by decide +kernel
theorem dL_law_281 : decode cL_law 281 = .ok (.iaload, 1) := by decide +kernel
theorem dL_law_282 : decode cL_law 282 = .ok (.invokevirtual 31, 3) := by decide +kernel
theorem dL_law_285 : decode cL_law 285 = .ok (.aload_n 2, 1) := by decide +kernel
theorem dL_law_286 : decode cL_law 286 = .ok (.aload_n 0, 1) := by decide +kernel
theorem dL_law_287 : decode cL_law 287 = .ok (.iload_n 3, 1) := by decide +kernel
theorem dL_law_288 : decode cL_law 288 = .ok (.iconst 1, 1) := by decide +kernel
theorem dL_law_289 : decode cL_law 289 = .ok (.iadd, 1) := by decide +kernel
theorem dL_law_290 : decode cL_law 290 = .ok (.iaload, 1) := by decide +kernel
theorem dL_law_291 : decode cL_law 291 = .ok (.aload_n 0, 1) := by decide +kernel
theorem dL_law_292 : decode cL_law 292 = .ok (.iload_n 3, 1) := by decide +kernel
theorem dL_law_293 : decode cL_law 293 = .ok (.iconst 2, 1) := by decide +kernel
theorem dL_law_294 : decode cL_law 294 = .ok (.iadd, 1) := by decide +kernel
theorem dL_law_295 : decode cL_law 295 = .ok (.iaload, 1) := by decide +kernel
theorem dL_law_296 : decode cL_law 296 = .ok (.aload_n 0, 1) := by decide +kernel
theorem dL_law_297 : decode cL_law 297 = .ok (.iload_n 3, 1) := by decide +kernel
theorem dL_law_298 : decode cL_law 298 = .ok (.iconst 3, 1) := by decide +kernel
theorem dL_law_299 : decode cL_law 299 = .ok (.iadd, 1) := by decide +kernel
theorem dL_law_300 : decode cL_law 300 = .ok (.iaload, 1) := by decide +kernel
theorem dL_law_301 : decode cL_law 301 = .ok (.invokevirtual 35, 3) := by decide +kernel
theorem dL_law_304 : decode cL_law 304 = .ok (.if_icmp .eq 493, 3) := by decide +kernel
theorem dL_law_307 : decode cL_law 307 = .ok (.iconst 0, 1) := by decide +kernel
theorem dL_law_308 : decode cL_law 308 = .ok (.ireturn, 1) := by decide +kernel
theorem dL_law_309 : decode cL_law 309 = .ok (.aload_n 1, 1) := by decide +kernel
theorem dL_law_310 : decode cL_law 310 = .ok (.aload_n 0, 1) := by decide +kernel
theorem dL_law_311 : decode cL_law 311 = .ok (.iload_n 3, 1) := by decide +kernel
theorem dL_law_312 : decode cL_law 312 = .ok (.iconst 1, 1) := by decide +kernel
theorem dL_law_313 : decode cL_law 313 = .ok (.iadd, 1) := by decide +kernel
theorem dL_law_314 : decode cL_law 314 = .ok (.iaload, 1) := by decide +kernel
theorem dL_law_315 : decode cL_law 315 = .ok (.aload_n 0, 1) := by decide +kernel
theorem dL_law_316 : decode cL_law 316 = .ok (.iload_n 3, 1) := by decide +kernel
theorem dL_law_317 : decode cL_law 317 = .ok (.iconst 2, 1) := by decide +kernel
theorem dL_law_318 : decode cL_law 318 = .ok (.iadd, 1) := by decide +kernel
theorem dL_law_319 : decode cL_law 319 = .ok (.iaload, 1) := by decide +kernel
theorem dL_law_320 : decode cL_law 320 = .ok (.aload_n 0, 1) := by decide +kernel
theorem dL_law_321 : decode cL_law 321 = .ok (.iload_n 3, 1) := by decide +kernel
theorem dL_law_322 : decode cL_law 322 = .ok (.iconst 3, 1) := by decide +kernel
theorem dL_law_323 : decode cL_law 323 = .ok (.iadd, 1) := by decide +kernel
theorem dL_law_324 : decode cL_law 324 = .ok (.iaload, 1) := by decide +kernel
theorem dL_law_325 : decode cL_law 325 = .ok (.aload_n 0, 1) := by decide +kernel
theorem dL_law_326 : decode cL_law 326 = .ok (.iload_n 3, 1) := by decide +kernel
theorem dL_law_327 : decode cL_law 327 = .ok (.iconst 4, 1) := by decide +kernel
theorem dL_law_328 : decode cL_law 328 = .ok (.iadd, 1) := by decide +kernel
theorem dL_law_329 : decode cL_law 329 = .ok (.iaload, 1) := by decide +kernel
theorem dL_law_330 : decode cL_law 330 = .ok (.invokevirtual 36, 3) := by decide +kernel
theorem dL_law_333 : decode cL_law 333 = .ok (.aload_n 2, 1) := by decide +kernel
theorem dL_law_334 : decode cL_law 334 = .ok (.aload_n 0, 1) := by decide +kernel
theorem dL_law_335 : decode cL_law 335 = .ok (.iload_n 3, 1) := by decide +kernel
theorem dL_law_336 : decode cL_law 336 = .ok (.iconst 1, 1) := by decide +kernel
theorem dL_law_337 : decode cL_law 337 = .ok (.iadd, 1) := by decide +kernel
theorem dL_law_338 : decode cL_law 338 = .ok (.iaload, 1) := by decide +kernel
theorem dL_law_339 : decode cL_law 339 = .ok (.aload_n 0, 1) := by decide +kernel
theorem dL_law_340 : decode cL_law 340 = .ok (.iload_n 3, 1) := by decide +kernel
theorem dL_law_341 : decode cL_law 341 = .ok (.iconst 2, 1) := by decide +kernel
theorem dL_law_342 : decode cL_law 342 = .ok (.iadd, 1) := by decide +kernel
theorem dL_law_343 : decode cL_law 343 = .ok (.iaload, 1) := by decide +kernel
theorem dL_law_344 : decode cL_law 344 = .ok (.aload_n 0, 1) := by decide +kernel
theorem dL_law_345 : decode cL_law 345 = .ok (.iload_n 3, 1) := by decide +kernel
theorem dL_law_346 : decode cL_law 346 = .ok (.iconst 3, 1) := by decide +kernel
theorem dL_law_347 : decode cL_law 347 = .ok (.iadd, 1) := by decide +kernel
theorem dL_law_348 : decode cL_law 348 = .ok (.iaload, 1) := by decide +kernel
theorem dL_law_349 : decode cL_law 349 = .ok (.aload_n 0, 1) := by decide +kernel
theorem dL_law_350 : decode cL_law 350 = .ok (.iload_n 3, 1) := by decide +kernel
theorem dL_law_351 : decode cL_law 351 = .ok (.iconst 4, 1) := by decide +kernel
theorem dL_law_352 : decode cL_law 352 = .ok (.iadd, 1) := by decide +kernel
theorem dL_law_353 : decode cL_law 353 = .ok (.iaload, 1) := by decide +kernel
theorem dL_law_354 : decode cL_law 354 = .ok (.invokevirtual 40, 3) := by decide +kernel
theorem dL_law_357 : decode cL_law 357 = .ok (.if_icmp .eq 440, 3) := by decide +kernel
theorem dL_law_360 : decode cL_law 360 = .ok (.iconst 0, 1) := by decide +kernel
theorem dL_law_361 : decode cL_law 361 = .ok (.ireturn, 1) := by decide +kernel
theorem dL_law_362 : decode cL_law 362 = .ok (.aload_n 1, 1) := by decide +kernel
theorem dL_law_363 : decode cL_law 363 = .ok (.aload_n 0, 1) := by decide +kernel
theorem dL_law_364 : decode cL_law 364 = .ok (.iload_n 3, 1) := by decide +kernel
theorem dL_law_365 : decode cL_law 365 = .ok (.iconst 1, 1) := by decide +kernel
theorem dL_law_366 : decode cL_law 366 = .ok (.iadd, 1) := by decide +kernel
theorem dL_law_367 : decode cL_law 367 = .ok (.iaload, 1) := by decide +kernel
theorem dL_law_368 : decode cL_law 368 = .ok (.aload_n 0, 1) := by decide +kernel
theorem dL_law_369 : decode cL_law 369 = .ok (.iload_n 3, 1) := by decide +kernel
theorem dL_law_370 : decode cL_law 370 = .ok (.iconst 2, 1) := by decide +kernel
theorem dL_law_371 : decode cL_law 371 = .ok (.iadd, 1) := by decide +kernel
theorem dL_law_372 : decode cL_law 372 = .ok (.iaload, 1) := by decide +kernel
theorem dL_law_373 : decode cL_law 373 = .ok (.invokevirtual 41, 3) := by decide +kernel
theorem dL_law_376 : decode cL_law 376 = .ok (.aload_n 2, 1) := by decide +kernel
theorem dL_law_377 : decode cL_law 377 = .ok (.aload_n 0, 1) := by decide +kernel
theorem dL_law_378 : decode cL_law 378 = .ok (.iload_n 3, 1) := by decide +kernel
theorem dL_law_379 : decode cL_law 379 = .ok (.iconst 1, 1) := by decide +kernel
theorem dL_law_380 : decode cL_law 380 = .ok (.iadd, 1) := by decide +kernel
theorem dL_law_381 : decode cL_law 381 = .ok (.iaload, 1) := by decide +kernel
theorem dL_law_382 : decode cL_law 382 = .ok (.aload_n 0, 1) := by decide +kernel
theorem dL_law_383 : decode cL_law 383 = .ok (.iload_n 3, 1) := by decide +kernel
theorem dL_law_384 : decode cL_law 384 = .ok (.iconst 2, 1) := by decide +kernel
theorem dL_law_385 : decode cL_law 385 = .ok (.iadd, 1) := by decide +kernel
theorem dL_law_386 : decode cL_law 386 = .ok (.iaload, 1) := by decide +kernel
theorem dL_law_387 : decode cL_law 387 = .ok (.invokevirtual 44, 3) := by decide +kernel
theorem dL_law_390 : decode cL_law 390 = .ok (.if_icmp .eq 407, 3) := by decide +kernel
theorem dL_law_393 : decode cL_law 393 = .ok (.iconst 0, 1) := by decide +kernel
theorem dL_law_394 : decode cL_law 394 = .ok (.ireturn, 1) := by decide +kernel
theorem dL_law_395 : decode cL_law 395 = .ok (.aload_n 1, 1) := by decide +kernel
theorem dL_law_396 : decode cL_law 396 = .ok (.aload_n 0, 1) := by decide +kernel
theorem dL_law_397 : decode cL_law 397 = .ok (.iload_n 3, 1) := by decide +kernel
theorem dL_law_398 : decode cL_law 398 = .ok (.iconst 1, 1) := by decide +kernel
theorem dL_law_399 : decode cL_law 399 = .ok (.iadd, 1) := by decide +kernel
theorem dL_law_400 : decode cL_law 400 = .ok (.iaload, 1) := by decide +kernel
theorem dL_law_401 : decode cL_law 401 = .ok (.aload_n 0, 1) := by decide +kernel
theorem dL_law_402 : decode cL_law 402 = .ok (.iload_n 3, 1) := by decide +kernel
theorem dL_law_403 : decode cL_law 403 = .ok (.iconst 2, 1) := by decide +kernel
theorem dL_law_404 : decode cL_law 404 = .ok (.iadd, 1) := by decide +kernel
theorem dL_law_405 : decode cL_law 405 = .ok (.iaload, 1) := by decide +kernel
theorem dL_law_406 : decode cL_law 406 = .ok (.invokevirtual 45, 3) := by decide +kernel
theorem dL_law_409 : decode cL_law 409 = .ok (.aload_n 2, 1) := by decide +kernel
theorem dL_law_410 : decode cL_law 410 = .ok (.aload_n 0, 1) := by decide +kernel
theorem dL_law_411 : decode cL_law 411 = .ok (.iload_n 3, 1) := by decide +kernel
theorem dL_law_412 : decode cL_law 412 = .ok (.iconst 1, 1) := by decide +kernel
theorem dL_law_413 : decode cL_law 413 = .ok (.iadd, 1) := by decide +kernel
theorem dL_law_414 : decode cL_law 414 = .ok (.iaload, 1) := by decide +kernel
theorem dL_law_415 : decode cL_law 415 = .ok (.aload_n 0, 1) := by decide +kernel
theorem dL_law_416 : decode cL_law 416 = .ok (.iload_n 3, 1) := by decide +kernel
theorem dL_law_417 : decode cL_law 417 = .ok (.iconst 2, 1) := by decide +kernel
theorem dL_law_418 : decode cL_law 418 = .ok (.iadd, 1) := by decide +kernel
theorem dL_law_419 : decode cL_law 419 = .ok (.iaload, 1) := by decide +kernel
theorem dL_law_420 : decode cL_law 420 = .ok (.invokevirtual 48, 3) := by decide +kernel
theorem dL_law_423 : decode cL_law 423 = .ok (.if_icmp .eq 374, 3) := by decide +kernel
theorem dL_law_426 : decode cL_law 426 = .ok (.iconst 0, 1) := by decide +kernel
theorem dL_law_427 : decode cL_law 427 = .ok (.ireturn, 1) := by decide +kernel
theorem dL_law_428 : decode cL_law 428 = .ok (.aload_n 1, 1) := by decide +kernel
theorem dL_law_429 : decode cL_law 429 = .ok (.aload_n 0, 1) := by decide +kernel
theorem dL_law_430 : decode cL_law 430 = .ok (.iload_n 3, 1) := by decide +kernel
theorem dL_law_431 : decode cL_law 431 = .ok (.iconst 1, 1) := by decide +kernel
theorem dL_law_432 : decode cL_law 432 = .ok (.iadd, 1) := by decide +kernel
theorem dL_law_433 : decode cL_law 433 = .ok (.iaload, 1) := by decide +kernel
theorem dL_law_434 : decode cL_law 434 = .ok (.aload_n 0, 1) := by decide +kernel
theorem dL_law_435 : decode cL_law 435 = .ok (.iload_n 3, 1) := by decide +kernel
theorem dL_law_436 : decode cL_law 436 = .ok (.iconst 2, 1) := by decide +kernel
theorem dL_law_437 : decode cL_law 437 = .ok (.iadd, 1) := by decide +kernel
theorem dL_law_438 : decode cL_law 438 = .ok (.iaload, 1) := by decide +kernel
theorem dL_law_439 : decode cL_law 439 = .ok (.invokevirtual 49, 3) := by decide +kernel
theorem dL_law_442 : decode cL_law 442 = .ok (.aload_n 2, 1) := by decide +kernel
theorem dL_law_443 : decode cL_law 443 = .ok (.aload_n 0, 1) := by decide +kernel
theorem dL_law_444 : decode cL_law 444 = .ok (.iload_n 3, 1) := by decide +kernel
theorem dL_law_445 : decode cL_law 445 = .ok (.iconst 1, 1) := by decide +kernel
theorem dL_law_446 : decode cL_law 446 = .ok (.iadd, 1) := by decide +kernel
theorem dL_law_447 : decode cL_law 447 = .ok (.iaload, 1) := by decide +kernel
theorem dL_law_448 : decode cL_law 448 = .ok (.aload_n 0, 1) := by decide +kernel
theorem dL_law_449 : decode cL_law 449 = .ok (.iload_n 3, 1) := by decide +kernel
theorem dL_law_450 : decode cL_law 450 = .ok (.iconst 2, 1) := by decide +kernel
theorem dL_law_451 : decode cL_law 451 = .ok (.iadd, 1) := by decide +kernel
theorem dL_law_452 : decode cL_law 452 = .ok (.iaload, 1) := by decide +kernel
theorem dL_law_453 : decode cL_law 453 = .ok (.invokevirtual 52, 3) := by decide +kernel
theorem dL_law_456 : decode cL_law 456 = .ok (.if_icmp .eq 341, 3) := by decide +kernel
theorem dL_law_459 : decode cL_law 459 = .ok (.iconst 0, 1) := by decide +kernel
theorem dL_law_460 : decode cL_law 460 = .ok (.ireturn, 1) := by decide +kernel
theorem dL_law_461 : decode cL_law 461 = .ok (.aload_n 1, 1) := by decide +kernel
theorem dL_law_462 : decode cL_law 462 = .ok (.aload_n 0, 1) := by decide +kernel
theorem dL_law_463 : decode cL_law 463 = .ok (.iload_n 3, 1) := by decide +kernel
theorem dL_law_464 : decode cL_law 464 = .ok (.iconst 1, 1) := by decide +kernel
theorem dL_law_465 : decode cL_law 465 = .ok (.iadd, 1) := by decide +kernel
theorem dL_law_466 : decode cL_law 466 = .ok (.iaload, 1) := by decide +kernel
theorem dL_law_467 : decode cL_law 467 = .ok (.invokevirtual 53, 3) := by decide +kernel
theorem dL_law_470 : decode cL_law 470 = .ok (.aload_n 2, 1) := by decide +kernel
theorem dL_law_471 : decode cL_law 471 = .ok (.aload_n 0, 1) := by decide +kernel
theorem dL_law_472 : decode cL_law 472 = .ok (.iload_n 3, 1) := by decide +kernel
theorem dL_law_473 : decode cL_law 473 = .ok (.iconst 1, 1) := by decide +kernel
theorem dL_law_474 : decode cL_law 474 = .ok (.iadd, 1) := by decide +kernel
theorem dL_law_475 : decode cL_law 475 = .ok (.iaload, 1) := by decide +kernel
theorem dL_law_476 : decode cL_law 476 = .ok (.invokevirtual 56, 3) := by decide +kernel
theorem dL_law_479 : decode cL_law 479 = .ok (.if_icmp .eq 318, 3) := by decide +kernel
theorem dL_law_482 : decode cL_law 482 = .ok (.iconst 0, 1) := by decide +kernel
theorem dL_law_483 : decode cL_law 483 = .ok (.ireturn, 1) := by decide +kernel
theorem dL_law_484 : decode cL_law 484 = .ok (.aload_n 1, 1) := by decide +kernel
theorem dL_law_485 : decode cL_law 485 = .ok (.aload_n 0, 1) := by decide +kernel
theorem dL_law_486 : decode cL_law 486 = .ok (.iload_n 3, 1) := by decide +kernel
theorem dL_law_487 : decode cL_law 487 = .ok (.iconst 1, 1) := by decide +kernel
theorem dL_law_488 : decode cL_law 488 = .ok (.iadd, 1) := by decide +kernel
theorem dL_law_489 : decode cL_law 489 = .ok (.iaload, 1) := by decide +kernel
theorem dL_law_490 : decode cL_law 490 = .ok (.invokevirtual 57, 3) := by decide +kernel
theorem dL_law_493 : decode cL_law 493 = .ok (.aload_n 2, 1) := by decide +kernel
theorem dL_law_494 : decode cL_law 494 = .ok (.aload_n 0, 1) := by decide +kernel
theorem dL_law_495 : decode cL_law 495 = .ok (.iload_n 3, 1) := by decide +kernel
theorem dL_law_496 : decode cL_law 496 = .ok (.iconst 1, 1) := by decide +kernel
theorem dL_law_497 : decode cL_law 497 = .ok (.iadd, 1) := by decide +kernel
theorem dL_law_498 : decode cL_law 498 = .ok (.iaload, 1) := by decide +kernel
theorem dL_law_499 : decode cL_law 499 = .ok (.invokevirtual 60, 3) := by decide +kernel
theorem dL_law_502 : decode cL_law 502 = .ok (.if_icmp .eq 295, 3) := by decide +kernel
theorem dL_law_505 : decode cL_law 505 = .ok (.iconst 0, 1) := by decide +kernel
theorem dL_law_506 : decode cL_law 506 = .ok (.ireturn, 1) := by decide +kernel
theorem dL_law_507 : decode cL_law 507 = .ok (.aload_n 1, 1) := by decide +kernel
theorem dL_law_508 : decode cL_law 508 = .ok (.aload_n 0, 1) := by decide +kernel
theorem dL_law_509 : decode cL_law 509 = .ok (.iload_n 3, 1) := by decide +kernel
theorem dL_law_510 : decode cL_law 510 = .ok (.iconst 1, 1) := by decide +kernel
theorem dL_law_511 : decode cL_law 511 = .ok (.iadd, 1) := by decide +kernel
theorem dL_law_512 : decode cL_law 512 = .ok (.iaload, 1) := by decide +kernel
theorem dL_law_513 : decode cL_law 513 = .ok (.aload_n 0, 1) := by decide +kernel
theorem dL_law_514 : decode cL_law 514 = .ok (.iload_n 3, 1) := by decide +kernel
theorem dL_law_515 : decode cL_law 515 = .ok (.iconst 2, 1) := by decide +kernel
theorem dL_law_516 : decode cL_law 516 = .ok (.iadd, 1) := by decide +kernel
theorem dL_law_517 : decode cL_law 517 = .ok (.iaload, 1) := by decide +kernel
theorem dL_law_518 : decode cL_law 518 = .ok (.invokevirtual 61, 3) := by decide +kernel
theorem dL_law_521 : decode cL_law 521 = .ok (.aload_n 2, 1) := by decide +kernel
theorem dL_law_522 : decode cL_law 522 = .ok (.aload_n 0, 1) := by decide +kernel
theorem dL_law_523 : decode cL_law 523 = .ok (.iload_n 3, 1) := by decide +kernel
theorem dL_law_524 : decode cL_law 524 = .ok (.iconst 1, 1) := by decide +kernel
theorem dL_law_525 : decode cL_law 525 = .ok (.iadd, 1) := by decide +kernel
theorem dL_law_526 : decode cL_law 526 = .ok (.iaload, 1) := by decide +kernel
theorem dL_law_527 : decode cL_law 527 = .ok (.aload_n 0, 1) := by decide +kernel
theorem dL_law_528 : decode cL_law 528 = .ok (.iload_n 3, 1) := by decide +kernel
theorem dL_law_529 : decode cL_law 529 = .ok (.iconst 2, 1) := by decide +kernel
theorem dL_law_530 : decode cL_law 530 = .ok (.iadd, 1) := by decide +kernel
theorem dL_law_531 : decode cL_law 531 = .ok (.iaload, 1) := by decide +kernel
theorem dL_law_532 : decode cL_law 532 = .ok (.invokevirtual 64, 3) := by decide +kernel
theorem dL_law_535 : decode cL_law 535 = .ok (.if_icmp .eq 262, 3) := by decide +kernel
theorem dL_law_538 : decode cL_law 538 = .ok (.iconst 0, 1) := by decide +kernel
theorem dL_law_539 : decode cL_law 539 = .ok (.ireturn, 1) := by decide +kernel
theorem dL_law_540 : decode cL_law 540 = .ok (.aload_n 1, 1) := by decide +kernel
theorem dL_law_541 : decode cL_law 541 = .ok (.aload_n 0, 1) := by decide +kernel
theorem dL_law_542 : decode cL_law 542 = .ok (.iload_n 3, 1) := by decide +kernel
theorem dL_law_543 : decode cL_law 543 = .ok (.iconst 1, 1) := by decide +kernel
theorem dL_law_544 : decode cL_law 544 = .ok (.iadd, 1) := by decide +kernel
theorem dL_law_545 : decode cL_law 545 = .ok (.iaload, 1) := by decide +kernel
theorem dL_law_546 : decode cL_law 546 = .ok (.aload_n 0, 1) := by decide +kernel
theorem dL_law_547 : decode cL_law 547 = .ok (.iload_n 3, 1) := by decide +kernel
theorem dL_law_548 : decode cL_law 548 = .ok (.iconst 2, 1) := by decide +kernel
theorem dL_law_549 : decode cL_law 549 = .ok (.iadd, 1) := by decide +kernel
theorem dL_law_550 : decode cL_law 550 = .ok (.iaload, 1) := by decide +kernel
theorem dL_law_551 : decode cL_law 551 = .ok (.invokevirtual 65, 3) := by decide +kernel
theorem dL_law_554 : decode cL_law 554 = .ok (.aload_n 2, 1) := by decide +kernel
theorem dL_law_555 : decode cL_law 555 = .ok (.aload_n 0, 1) := by decide +kernel
theorem dL_law_556 : decode cL_law 556 = .ok (.iload_n 3, 1) := by decide +kernel
theorem dL_law_557 : decode cL_law 557 = .ok (.iconst 1, 1) := by decide +kernel
theorem dL_law_558 : decode cL_law 558 = .ok (.iadd, 1) := by decide +kernel
theorem dL_law_559 : decode cL_law 559 = .ok (.iaload, 1) := by decide +kernel
theorem dL_law_560 : decode cL_law 560 = .ok (.aload_n 0, 1) := by decide +kernel
theorem dL_law_561 : decode cL_law 561 = .ok (.iload_n 3, 1) := by decide +kernel
theorem dL_law_562 : decode cL_law 562 = .ok (.iconst 2, 1) := by decide +kernel
theorem dL_law_563 : decode cL_law 563 = .ok (.iadd, 1) := by decide +kernel
theorem dL_law_564 : decode cL_law 564 = .ok (.iaload, 1) := by decide +kernel
theorem dL_law_565 : decode cL_law 565 = .ok (.invokevirtual 68, 3) := by decide +kernel
theorem dL_law_568 : decode cL_law 568 = .ok (.if_icmp .eq 229, 3) := by decide +kernel
theorem dL_law_571 : decode cL_law 571 = .ok (.iconst 0, 1) := by decide +kernel
theorem dL_law_572 : decode cL_law 572 = .ok (.ireturn, 1) := by decide +kernel
theorem dL_law_573 : decode cL_law 573 = .ok (.aload_n 1, 1) := by decide +kernel
theorem dL_law_574 : decode cL_law 574 = .ok (.aload_n 0, 1) := by decide +kernel
theorem dL_law_575 : decode cL_law 575 = .ok (.iload_n 3, 1) := by decide +kernel
theorem dL_law_576 : decode cL_law 576 = .ok (.iconst 1, 1) := by decide +kernel
theorem dL_law_577 : decode cL_law 577 = .ok (.iadd, 1) := by decide +kernel
theorem dL_law_578 : decode cL_law 578 = .ok (.iaload, 1) := by decide +kernel
theorem dL_law_579 : decode cL_law 579 = .ok (.invokevirtual 69, 3) := by decide +kernel
theorem dL_law_582 : decode cL_law 582 = .ok (.aload_n 2, 1) := by decide +kernel
theorem dL_law_583 : decode cL_law 583 = .ok (.aload_n 0, 1) := by decide +kernel
theorem dL_law_584 : decode cL_law 584 = .ok (.iload_n 3, 1) := by decide +kernel
theorem dL_law_585 : decode cL_law 585 = .ok (.iconst 1, 1) := by decide +kernel
theorem dL_law_586 : decode cL_law 586 = .ok (.iadd, 1) := by decide +kernel
theorem dL_law_587 : decode cL_law 587 = .ok (.iaload, 1) := by decide +kernel
theorem dL_law_588 : decode cL_law 588 = .ok (.invokevirtual 72, 3) := by decide +kernel
theorem dL_law_591 : decode cL_law 591 = .ok (.if_icmp .eq 206, 3) := by decide +kernel
theorem dL_law_594 : decode cL_law 594 = .ok (.iconst 0, 1) := by decide +kernel
theorem dL_law_595 : decode cL_law 595 = .ok (.ireturn, 1) := by decide +kernel
theorem dL_law_596 : decode cL_law 596 = .ok (.aload_n 1, 1) := by decide +kernel
theorem dL_law_597 : decode cL_law 597 = .ok (.aload_n 0, 1) := by decide +kernel
theorem dL_law_598 : decode cL_law 598 = .ok (.iload_n 3, 1) := by decide +kernel
theorem dL_law_599 : decode cL_law 599 = .ok (.iconst 1, 1) := by decide +kernel
theorem dL_law_600 : decode cL_law 600 = .ok (.iadd, 1) := by decide +kernel
theorem dL_law_601 : decode cL_law 601 = .ok (.iaload, 1) := by decide +kernel
theorem dL_law_602 : decode cL_law 602 = .ok (.aload_n 0, 1) := by decide +kernel
theorem dL_law_603 : decode cL_law 603 = .ok (.iload_n 3, 1) := by decide +kernel
theorem dL_law_604 : decode cL_law 604 = .ok (.iconst 2, 1) := by decide +kernel
theorem dL_law_605 : decode cL_law 605 = .ok (.iadd, 1) := by decide +kernel
theorem dL_law_606 : decode cL_law 606 = .ok (.iaload, 1) := by decide +kernel
theorem dL_law_607 : decode cL_law 607 = .ok (.invokevirtual 73, 3) := by decide +kernel
theorem dL_law_610 : decode cL_law 610 = .ok (.aload_n 2, 1) := by decide +kernel
theorem dL_law_611 : decode cL_law 611 = .ok (.aload_n 0, 1) := by decide +kernel
theorem dL_law_612 : decode cL_law 612 = .ok (.iload_n 3, 1) := by decide +kernel
theorem dL_law_613 : decode cL_law 613 = .ok (.iconst 1, 1) := by decide +kernel
theorem dL_law_614 : decode cL_law 614 = .ok (.iadd, 1) := by decide +kernel
theorem dL_law_615 : decode cL_law 615 = .ok (.iaload, 1) := by decide +kernel
theorem dL_law_616 : decode cL_law 616 = .ok (.aload_n 0, 1) := by decide +kernel
theorem dL_law_617 : decode cL_law 617 = .ok (.iload_n 3, 1) := by decide +kernel
theorem dL_law_618 : decode cL_law 618 = .ok (.iconst 2, 1) := by decide +kernel
theorem dL_law_619 : decode cL_law 619 = .ok (.iadd, 1) := by decide +kernel
theorem dL_law_620 : decode cL_law 620 = .ok (.iaload, 1) := by decide +kernel
theorem dL_law_621 : decode cL_law 621 = .ok (.invokevirtual 76, 3) := by decide +kernel
theorem dL_law_624 : decode cL_law 624 = .ok (.if_icmp .eq 173, 3) := by decide +kernel
theorem dL_law_627 : decode cL_law 627 = .ok (.iconst 0, 1) := by decide +kernel
theorem dL_law_628 : decode cL_law 628 = .ok (.ireturn, 1) := by decide +kernel
theorem dL_law_629 : decode cL_law 629 = .ok (.aload_n 1, 1) := by decide +kernel
theorem dL_law_630 : decode cL_law 630 = .ok (.aload_n 0, 1) := by decide +kernel
theorem dL_law_631 : decode cL_law 631 = .ok (.iload_n 3, 1) := by decide +kernel
theorem dL_law_632 : decode cL_law 632 = .ok (.iconst 1, 1) := by decide +kernel
theorem dL_law_633 : decode cL_law 633 = .ok (.iadd, 1) := by decide +kernel
theorem dL_law_634 : decode cL_law 634 = .ok (.iaload, 1) := by decide +kernel
theorem dL_law_635 : decode cL_law 635 = .ok (.aload_n 0, 1) := by decide +kernel
theorem dL_law_636 : decode cL_law 636 = .ok (.iload_n 3, 1) := by decide +kernel
theorem dL_law_637 : decode cL_law 637 = .ok (.iconst 2, 1) := by decide +kernel
theorem dL_law_638 : decode cL_law 638 = .ok (.iadd, 1) := by decide +kernel
theorem dL_law_639 : decode cL_law 639 = .ok (.iaload, 1) := by decide +kernel
theorem dL_law_640 : decode cL_law 640 = .ok (.invokevirtual 77, 3) := by decide +kernel
theorem dL_law_643 : decode cL_law 643 = .ok (.aload_n 2, 1) := by decide +kernel
theorem dL_law_644 : decode cL_law 644 = .ok (.aload_n 0, 1) := by decide +kernel
theorem dL_law_645 : decode cL_law 645 = .ok (.iload_n 3, 1) := by decide +kernel
theorem dL_law_646 : decode cL_law 646 = .ok (.iconst 1, 1) := by decide +kernel
theorem dL_law_647 : decode cL_law 647 = .ok (.iadd, 1) := by decide +kernel
theorem dL_law_648 : decode cL_law 648 = .ok (.iaload, 1) := by decide +kernel
theorem dL_law_649 : decode cL_law 649 = .ok (.aload_n 0, 1) := by decide +kernel
theorem dL_law_650 : decode cL_law 650 = .ok (.iload_n 3, 1) := by decide +kernel
theorem dL_law_651 : decode cL_law 651 = .ok (.iconst 2, 1) := by decide +kernel
theorem dL_law_652 : decode cL_law 652 = .ok (.iadd, 1) := by decide +kernel
theorem dL_law_653 : decode cL_law 653 = .ok (.iaload, 1) := by decide +kernel
theorem dL_law_654 : decode cL_law 654 = .ok (.invokevirtual 80, 3) := by decide +kernel
theorem dL_law_657 : decode cL_law 657 = .ok (.if_icmp .eq 140, 3) := by decide +kernel
theorem dL_law_660 : decode cL_law 660 = .ok (.iconst 0, 1) := by decide +kernel
theorem dL_law_661 : decode cL_law 661 = .ok (.ireturn, 1) := by decide +kernel
theorem dL_law_662 : decode cL_law 662 = .ok (.aload_n 1, 1) := by decide +kernel
theorem dL_law_663 : decode cL_law 663 = .ok (.aload_n 0, 1) := by decide +kernel
theorem dL_law_664 : decode cL_law 664 = .ok (.iload_n 3, 1) := by decide +kernel
theorem dL_law_665 : decode cL_law 665 = .ok (.iconst 1, 1) := by decide +kernel
theorem dL_law_666 : decode cL_law 666 = .ok (.iadd, 1) := by decide +kernel
theorem dL_law_667 : decode cL_law 667 = .ok (.iaload, 1) := by decide +kernel
theorem dL_law_668 : decode cL_law 668 = .ok (.invokevirtual 81, 3) := by decide +kernel
theorem dL_law_671 : decode cL_law 671 = .ok (.aload_n 2, 1) := by decide +kernel
theorem dL_law_672 : decode cL_law 672 = .ok (.aload_n 0, 1) := by decide +kernel
theorem dL_law_673 : decode cL_law 673 = .ok (.iload_n 3, 1) := by decide +kernel
theorem dL_law_674 : decode cL_law 674 = .ok (.iconst 1, 1) := by decide +kernel
theorem dL_law_675 : decode cL_law 675 = .ok (.iadd, 1) := by decide +kernel
theorem dL_law_676 : decode cL_law 676 = .ok (.iaload, 1) := by decide +kernel
theorem dL_law_677 : decode cL_law 677 = .ok (.invokevirtual 84, 3) := by decide +kernel
theorem dL_law_680 : decode cL_law 680 = .ok (.if_icmp .eq 117, 3) := by decide +kernel
theorem dL_law_683 : decode cL_law 683 = .ok (.iconst 0, 1) := by decide +kernel
theorem dL_law_684 : decode cL_law 684 = .ok (.ireturn, 1) := by decide +kernel
theorem dL_law_685 : decode cL_law 685 = .ok (.aload_n 1, 1) := by decide +kernel
theorem dL_law_686 : decode cL_law 686 = .ok (.aload_n 0, 1) := by decide +kernel
theorem dL_law_687 : decode cL_law 687 = .ok (.iload_n 3, 1) := by decide +kernel
theorem dL_law_688 : decode cL_law 688 = .ok (.iconst 1, 1) := by decide +kernel
theorem dL_law_689 : decode cL_law 689 = .ok (.iadd, 1) := by decide +kernel
theorem dL_law_690 : decode cL_law 690 = .ok (.iaload, 1) := by decide +kernel
theorem dL_law_691 : decode cL_law 691 = .ok (.invokevirtual 85, 3) := by decide +kernel
theorem dL_law_694 : decode cL_law 694 = .ok (.aload_n 2, 1) := by decide +kernel
theorem dL_law_695 : decode cL_law 695 = .ok (.aload_n 0, 1) := by decide +kernel
theorem dL_law_696 : decode cL_law 696 = .ok (.iload_n 3, 1) := by decide +kernel
theorem dL_law_697 : decode cL_law 697 = .ok (.iconst 1, 1) := by decide +kernel
theorem dL_law_698 : decode cL_law 698 = .ok (.iadd, 1) := by decide +kernel
theorem dL_law_699 : decode cL_law 699 = .ok (.iaload, 1) := by decide +kernel
theorem dL_law_700 : decode cL_law 700 = .ok (.invokevirtual 88, 3) := by decide +kernel
theorem dL_law_703 : decode cL_law 703 = .ok (.if_icmp .eq 94, 3) := by decide +kernel
theorem dL_law_706 : decode cL_law 706 = .ok (.iconst 0, 1) := by decide +kernel
theorem dL_law_707 : decode cL_law 707 = .ok (.ireturn, 1) := by decide +kernel
theorem dL_law_708 : decode cL_law 708 = .ok (.aload_n 1, 1) := by decide +kernel
theorem dL_law_709 : decode cL_law 709 = .ok (.invokevirtual 89, 3) := by decide +kernel
theorem dL_law_712 : decode cL_law 712 = .ok (.aload_n 2, 1) := by decide +kernel
theorem dL_law_713 : decode cL_law 713 = .ok (.invokevirtual 93, 3) := by decide +kernel
theorem dL_law_716 : decode cL_law 716 = .ok (.if_icmp .eq 81, 3) := by decide +kernel
theorem dL_law_719 : decode cL_law 719 = .ok (.iconst 0, 1) := by decide +kernel
theorem dL_law_720 : decode cL_law 720 = .ok (.ireturn, 1) := by decide +kernel
theorem dL_law_721 : decode cL_law 721 = .ok (.aload_n 1, 1) := by decide +kernel
theorem dL_law_722 : decode cL_law 722 = .ok (.invokevirtual 94, 3) := by decide +kernel
theorem dL_law_725 : decode cL_law 725 = .ok (.aload_n 2, 1) := by decide +kernel
theorem dL_law_726 : decode cL_law 726 = .ok (.invokevirtual 97, 3) := by decide +kernel
theorem dL_law_729 : decode cL_law 729 = .ok (.if_icmp .eq 68, 3) := by decide +kernel
theorem dL_law_732 : decode cL_law 732 = .ok (.iconst 0, 1) := by decide +kernel
theorem dL_law_733 : decode cL_law 733 = .ok (.ireturn, 1) := by decide +kernel
theorem dL_law_734 : decode cL_law 734 = .ok (.aload_n 1, 1) := by decide +kernel
theorem dL_law_735 : decode cL_law 735 = .ok (.invokevirtual 98, 3) := by decide +kernel
theorem dL_law_738 : decode cL_law 738 = .ok (.aload_n 2, 1) := by decide +kernel
theorem dL_law_739 : decode cL_law 739 = .ok (.invokevirtual 101, 3) := by decide +kernel
theorem dL_law_742 : decode cL_law 742 = .ok (.if_icmp .eq 55, 3) := by decide +kernel
theorem dL_law_745 : decode cL_law 745 = .ok (.iconst 0, 1) := by decide +kernel
theorem dL_law_746 : decode cL_law 746 = .ok (.ireturn, 1) := by decide +kernel
theorem dL_law_747 : decode cL_law 747 = .ok (.aload_n 1, 1) := by decide +kernel
theorem dL_law_748 : decode cL_law 748 = .ok (.aload_n 0, 1) := by decide +kernel
theorem dL_law_749 : decode cL_law 749 = .ok (.iload_n 3, 1) := by decide +kernel
theorem dL_law_750 : decode cL_law 750 = .ok (.iconst 1, 1) := by decide +kernel
theorem dL_law_751 : decode cL_law 751 = .ok (.iadd, 1) := by decide +kernel
theorem dL_law_752 : decode cL_law 752 = .ok (.iaload, 1) := by decide +kernel
theorem dL_law_753 : decode cL_law 753 = .ok (.invokevirtual 102, 3) := by decide +kernel
theorem dL_law_756 : decode cL_law 756 = .ok (.aload_n 2, 1) := by decide +kernel
theorem dL_law_757 : decode cL_law 757 = .ok (.aload_n 0, 1) := by decide +kernel
theorem dL_law_758 : decode cL_law 758 = .ok (.iload_n 3, 1) := by decide +kernel
theorem dL_law_759 : decode cL_law 759 = .ok (.iconst 1, 1) := by decide +kernel
theorem dL_law_760 : decode cL_law 760 = .ok (.iadd, 1) := by decide +kernel
theorem dL_law_761 : decode cL_law 761 = .ok (.iaload, 1) := by decide +kernel
theorem dL_law_762 : decode cL_law 762 = .ok (.invokevirtual 105, 3) := by decide +kernel
theorem dL_law_765 : decode cL_law 765 = .ok (.if_icmp .eq 32, 3) := by decide +kernel
theorem dL_law_768 : decode cL_law 768 = .ok (.iconst 0, 1) := by decide +kernel
theorem dL_law_769 : decode cL_law 769 = .ok (.ireturn, 1) := by decide +kernel
theorem dL_law_770 : decode cL_law 770 = .ok (.aload_n 1, 1) := by decide +kernel
theorem dL_law_771 : decode cL_law 771 = .ok (.invokevirtual 106, 3) := by decide +kernel
theorem dL_law_774 : decode cL_law 774 = .ok (.aload_n 2, 1) := by decide +kernel
theorem dL_law_775 : decode cL_law 775 = .ok (.invokevirtual 109, 3) := by decide +kernel
theorem dL_law_778 : decode cL_law 778 = .ok (.if_icmp .eq 19, 3) := by decide +kernel
theorem dL_law_781 : decode cL_law 781 = .ok (.iconst 0, 1) := by decide +kernel
theorem dL_law_782 : decode cL_law 782 = .ok (.ireturn, 1) := by decide +kernel
theorem dL_law_783 : decode cL_law 783 = .ok (.aload_n 1, 1) := by decide +kernel
theorem dL_law_784 : decode cL_law 784 = .ok (.invokevirtual 110, 3) := by decide +kernel
theorem dL_law_787 : decode cL_law 787 = .ok (.aload_n 2, 1) := by decide +kernel
theorem dL_law_788 : decode cL_law 788 = .ok (.invokevirtual 114, 3) := by decide +kernel
theorem dL_law_791 : decode cL_law 791 = .ok (.lcmp, 1) := by decide +kernel
theorem dL_law_792 : decode cL_law 792 = .ok (.ifCond .eq 5, 3) := by decide +kernel
theorem dL_law_795 : decode cL_law 795 = .ok (.iconst 0, 1) := by decide +kernel
theorem dL_law_796 : decode cL_law 796 = .ok (.ireturn, 1) := by decide +kernel
theorem dL_law_797 : decode cL_law 797 = .ok (.iinc 3 5, 3) := by decide +kernel
end
section
theorem dL_law_800 : decode cL_law 800 = .ok (.goto (-782), 3) := by decide +kernel
theorem dL_law_803 : decode cL_law 803 = .ok (.iconst 1, 1) := by decide +kernel
theorem dL_law_804 : decode cL_law 804 = .ok (.ireturn, 1) := by decide +kernel
end
section
/-! ===== rooms and words, by program ===== -/
abbrev rmX0_prepare : Room := { frames := 4, cells := 0, slots := 0, locals := 104 }
abbrev rmX0_restorePrepared : Room := { frames := 4, cells := 0, slots := 0, locals := 104 }
abbrev rmX0_keepPrepared : Room := { frames := 1, cells := 0, slots := 0, locals := 21 }
abbrev rmX0_restoreNewest : Room := { frames := 4, cells := 0, slots := 0, locals := 104 }
abbrev rmX1_add : Room := { frames := 0, cells := 0, slots := 0, locals := 0 }
abbrev rmX1_parse : Room := { frames := 3, cells := 0, slots := 0, locals := 63 }
abbrev rmX1_accepts : Room := { frames := 2, cells := 0, slots := 0, locals := 42 }
abbrev rmX1_beginsCommand : Room := { frames := 1, cells := 0, slots := 0, locals := 20 }
abbrev rmX1_endsCommand : Room := { frames := 1, cells := 0, slots := 0, locals := 20 }
abbrev rmX1_takesDigit : Room := { frames := 1, cells := 0, slots := 0, locals := 20 }
abbrev rmX1_numbersAfter : Room := { frames := 0, cells := 0, slots := 0, locals := 0 }
abbrev rmX2_copyFrom : Room := { frames := 3, cells := 0, slots := 0, locals := 83 }
abbrev rmX2_changeGuarantees : Room := { frames := 2, cells := 0, slots := 0, locals := 41 }
abbrev rmX2_clearVectors : Room := { frames := 2, cells := 0, slots := 0, locals := 41 }
abbrev rmX2_readKey : Room := { frames := 4, cells := 0, slots := 0, locals := 91 }
abbrev rmX2_writeKey : Room := { frames := 4, cells := 0, slots := 0, locals := 91 }
abbrev rmX2_synchronize : Room := { frames := 2, cells := 0, slots := 0, locals := 43 }
abbrev rmX2_isReadAllowed : Room := { frames := 4, cells := 0, slots := 0, locals := 91 }
abbrev rmX2_isWriteAllowed : Room := { frames := 4, cells := 0, slots := 0, locals := 91 }
abbrev rmX2_unmetByRead : Room := { frames := 3, cells := 0, slots := 0, locals := 68 }
abbrev rmX2_unmetByWrite : Room := { frames := 3, cells := 0, slots := 0, locals := 68 }
abbrev rmX2_covers : Room := { frames := 2, cells := 0, slots := 0, locals := 45 }
abbrev rmX2_greatestCount : Room := { frames := 1, cells := 0, slots := 0, locals := 21 }
abbrev rmX2_valueAt : Room := { frames := 1, cells := 0, slots := 0, locals := 22 }
abbrev rmX2_knows : Room := { frames := 0, cells := 0, slots := 0, locals := 0 }
abbrev rmX2_isLater : Room := { frames := 0, cells := 0, slots := 0, locals := 0 }
abbrev rmX2_countBreaches : Room := { frames := 1, cells := 0, slots := 0, locals := 21 }
abbrev rmX2_mixInto : Room := { frames := 2, cells := 0, slots := 0, locals := 48 }
abbrev rmX2_merge : Room := { frames := 1, cells := 0, slots := 0, locals := 21 }
abbrev rmX2_copyRow : Room := { frames := 1, cells := 0, slots := 0, locals := 40 }
abbrev rmX2_copyRows : Room := { frames := 2, cells := 0, slots := 0, locals := 61 }
abbrev rmX3_setGuarantees : Room := { frames := 5, cells := 0, slots := 0, locals := 125 }
abbrev rmX3_forget : Room := { frames := 5, cells := 0, slots := 0, locals := 125 }
abbrev rmX3_readCount : Room := { frames := 2, cells := 0, slots := 0, locals := 41 }
abbrev rmX3_writeCount : Room := { frames := 2, cells := 0, slots := 0, locals := 41 }
abbrev rmX3_read : Room := { frames := 5, cells := 0, slots := 0, locals := 125 }
abbrev rmX3_write : Room := { frames := 5, cells := 0, slots := 0, locals := 125 }
abbrev rmX3_sync : Room := { frames := 5, cells := 0, slots := 0, locals := 125 }
abbrev rmX3_readBreaches : Room := { frames := 4, cells := 0, slots := 0, locals := 91 }
abbrev rmX3_writeBreaches : Room := { frames := 4, cells := 0, slots := 0, locals := 91 }
abbrev rmX3_readableReplica : Room := { frames := 5, cells := 0, slots := 0, locals := 113 }
abbrev rmX3_writableReplica : Room := { frames := 5, cells := 0, slots := 0, locals := 113 }
abbrev rmX3_syncsForRead : Room := { frames := 5, cells := 0, slots := 0, locals := 113 }
abbrev rmX3_count : Room := { frames := 2, cells := 0, slots := 0, locals := 41 }
abbrev rmX3_clock : Room := { frames := 2, cells := 0, slots := 0, locals := 41 }
abbrev rmX3_peek : Room := { frames := 2, cells := 0, slots := 0, locals := 46 }
abbrev rmX3_compare : Room := { frames := 3, cells := 0, slots := 0, locals := 68 }
abbrev rmX3_breaches : Room := { frames := 2, cells := 0, slots := 0, locals := 41 }
abbrev rmX3_append : Room := { frames := 2, cells := 0, slots := 0, locals := 41 }
abbrev rmX3_clearText : Room := { frames := 0, cells := 0, slots := 0, locals := 0 }
abbrev rmX3_execute : Room := { frames := 6, cells := 0, slots := 0, locals := 138 }
abbrev rmX3_undo : Room := { frames := 5, cells := 0, slots := 0, locals := 125 }
abbrev rmX3_errorCount : Room := { frames := 2, cells := 0, slots := 0, locals := 41 }
abbrev rmX3_writes : Room := { frames := 0, cells := 0, slots := 0, locals := 0 }
abbrev rmX3_digest : Room := { frames := 3, cells := 0, slots := 0, locals := 72 }
abbrev rmX3_runCommand : Room := { frames := 5, cells := 0, slots := 0, locals := 116 }
abbrev rmX3_endUndoable : Room := { frames := 2, cells := 0, slots := 0, locals := 41 }
abbrev rmX3_counted : Room := { frames := 1, cells := 0, slots := 0, locals := 20 }
abbrev rmX3_isErrorCode : Room := { frames := 0, cells := 0, slots := 0, locals := 0 }
abbrev rmX3_isBelow : Room := { frames := 0, cells := 0, slots := 0, locals := 0 }
abbrev rmX3_isClient : Room := { frames := 1, cells := 0, slots := 0, locals := 21 }
abbrev rmX3_isReplica : Room := { frames := 1, cells := 0, slots := 0, locals := 21 }
abbrev rmX3_isKey : Room := { frames := 1, cells := 0, slots := 0, locals := 21 }
abbrev rmX3_only : Room := { frames := 0, cells := 0, slots := 0, locals := 0 }
abbrev rmX3_contains : Room := { frames := 0, cells := 0, slots := 0, locals := 0 }
abbrev rmX3_mix : Room := { frames := 0, cells := 0, slots := 0, locals := 0 }
abbrev rmX3_mixAll : Room := { frames := 1, cells := 0, slots := 0, locals := 22 }
abbrev rmX4_in : Room := { frames := 0, cells := 0, slots := 0, locals := 0 }
abbrev rmX4_error : Room := { frames := 0, cells := 0, slots := 0, locals := 0 }
abbrev rmX4_answered : Room := { frames := 1, cells := 0, slots := 0, locals := 21 }
abbrev rmX4_putsAside : Room := { frames := 0, cells := 0, slots := 0, locals := 0 }
abbrev rmX4_savesAside : Room := { frames := 0, cells := 0, slots := 0, locals := 0 }
abbrev rmX4_isClient : Room := { frames := 1, cells := 0, slots := 0, locals := 25 }
abbrev rmX4_isReplica : Room := { frames := 1, cells := 0, slots := 0, locals := 25 }
abbrev rmX4_isKey : Room := { frames := 1, cells := 0, slots := 0, locals := 25 }
abbrev rmX4_guarantees : Room := { frames := 0, cells := 0, slots := 0, locals := 0 }
abbrev rmX4_doesSet : Room := { frames := 2, cells := 0, slots := 0, locals := 45 }
abbrev rmX4_setGuarantees : Room := { frames := 3, cells := 0, slots := 0, locals := 68 }
abbrev rmX4_doesForget : Room := { frames := 2, cells := 0, slots := 0, locals := 45 }
abbrev rmX4_forget : Room := { frames := 3, cells := 0, slots := 0, locals := 68 }
abbrev rmX4_readCount : Room := { frames := 2, cells := 0, slots := 0, locals := 45 }
abbrev rmX4_writeCount : Room := { frames := 2, cells := 0, slots := 0, locals := 45 }
abbrev rmX4_covers : Room := { frames := 0, cells := 0, slots := 0, locals := 0 }
abbrev rmX4_breachesOfRead : Room := { frames := 1, cells := 0, slots := 0, locals := 24 }
abbrev rmX4_breachesOfWrite : Room := { frames := 1, cells := 0, slots := 0, locals := 24 }
abbrev rmX4_countsBreaches : Room := { frames := 0, cells := 0, slots := 0, locals := 0 }
abbrev rmX4_isLater : Room := { frames := 0, cells := 0, slots := 0, locals := 0 }
abbrev rmX4_valueAt : Room := { frames := 1, cells := 0, slots := 0, locals := 24 }
abbrev rmX4_doesRead : Room := { frames := 2, cells := 0, slots := 0, locals := 50 }
abbrev rmX4_read : Room := { frames := 3, cells := 0, slots := 0, locals := 77 }
abbrev rmX4_doesWrite : Room := { frames := 2, cells := 0, slots := 0, locals := 47 }
abbrev rmX4_write : Room := { frames := 3, cells := 0, slots := 0, locals := 74 }
abbrev rmX4_doesSync : Room := { frames := 2, cells := 0, slots := 0, locals := 45 }
abbrev rmX4_sync : Room := { frames := 3, cells := 0, slots := 0, locals := 71 }
abbrev rmX4_readBreaches : Room := { frames := 2, cells := 0, slots := 0, locals := 47 }
abbrev rmX4_writeBreaches : Room := { frames := 2, cells := 0, slots := 0, locals := 47 }
abbrev rmX4_readableReplica : Room := { frames := 2, cells := 0, slots := 0, locals := 47 }
abbrev rmX4_writableReplica : Room := { frames := 2, cells := 0, slots := 0, locals := 47 }
abbrev rmX4_isCoveredBy : Room := { frames := 0, cells := 0, slots := 0, locals := 0 }
abbrev rmX4_isReadBy : Room := { frames := 1, cells := 0, slots := 0, locals := 27 }
abbrev rmX4_bits : Room := { frames := 0, cells := 0, slots := 0, locals := 0 }
abbrev rmX4_syncsForRead : Room := { frames := 2, cells := 0, slots := 0, locals := 51 }
abbrev rmX4_count : Room := { frames := 2, cells := 0, slots := 0, locals := 45 }
abbrev rmX4_clock : Room := { frames := 2, cells := 0, slots := 0, locals := 45 }
abbrev rmX4_peek : Room := { frames := 2, cells := 0, slots := 0, locals := 50 }
abbrev rmX4_compare : Room := { frames := 2, cells := 0, slots := 0, locals := 45 }
abbrev rmX4_breaches : Room := { frames := 1, cells := 0, slots := 0, locals := 25 }
abbrev rmX4_append : Room := { frames := 1, cells := 0, slots := 0, locals := 25 }
abbrev rmX4_clearText : Room := { frames := 0, cells := 0, slots := 0, locals := 0 }
abbrev rmX4_here : Room := { frames := 0, cells := 0, slots := 0, locals := 0 }
abbrev rmX4_isDigit : Room := { frames := 1, cells := 0, slots := 0, locals := 25 }
abbrev rmX4_takesNumber : Room := { frames := 2, cells := 0, slots := 0, locals := 45 }
abbrev rmX4_numbersOf : Room := { frames := 0, cells := 0, slots := 0, locals := 0 }
abbrev rmX4_takesCommand : Room := { frames := 3, cells := 0, slots := 0, locals := 68 }
abbrev rmX4_doesCommand : Room := { frames := 3, cells := 0, slots := 0, locals := 77 }
abbrev rmX4_execute : Room := { frames := 4, cells := 0, slots := 0, locals := 99 }
abbrev rmX4_undo : Room := { frames := 1, cells := 0, slots := 0, locals := 21 }
abbrev rmX4_errorCount : Room := { frames := 1, cells := 0, slots := 0, locals := 25 }
abbrev rmX4_writes : Room := { frames := 0, cells := 0, slots := 0, locals := 0 }
abbrev rmX4_digest : Room := { frames := 2, cells := 0, slots := 0, locals := 50 }
theorem inX0_prepare_X0 : ∀ w ∈ u_ws (cg_T 0).1 (cg_T 0).2.1 (cg_T 0).2.2, w ∈ wsX0_prepare := by decide +kernel
theorem flX0_prepare_13 : Cond.fieldLink RX0 13 ((cg_T 0).2.1 0).1 ((cg_T 0).2.1 0).2.1 ((cg_T 0).2.1 0).2.2.1 ∈ wsX0_prepare := by decide +kernel
theorem flX0_prepare_17 : Cond.fieldLink RX0 17 ((cg_T 0).2.1 1).1 ((cg_T 0).2.1 1).2.1 ((cg_T 0).2.1 1).2.2.1 ∈ wsX0_prepare := by decide +kernel
theorem hvX2_copyFrom : yX2_copyFrom.cls = (cg_T 2).1 ∧ yX2_copyFrom.cls ≠ "java/lang/invoke/MethodHandle" ∧ yX2_copyFrom.cls ≠ "java/lang/invoke/VarHandle" ∧ (parseMethodDescriptor yX2_copyFrom.desc).map (fun d => d.parameters.length) = some 1 := by decide +kernel
theorem inX0_restorePrepared_X0 : ∀ w ∈ u_ws (cg_T 0).1 (cg_T 0).2.1 (cg_T 0).2.2, w ∈ wsX0_restorePrepared := by decide +kernel
theorem flX0_restorePrepared_13 : Cond.fieldLink RX0 13 ((cg_T 0).2.1 0).1 ((cg_T 0).2.1 0).2.1 ((cg_T 0).2.1 0).2.2.1 ∈ wsX0_restorePrepared := by decide +kernel
theorem flX0_restorePrepared_17 : Cond.fieldLink RX0 17 ((cg_T 0).2.1 1).1 ((cg_T 0).2.1 1).2.1 ((cg_T 0).2.1 1).2.2.1 ∈ wsX0_restorePrepared := by decide +kernel
theorem inX0_keepPrepared_X0 : ∀ w ∈ u_ws (cg_T 0).1 (cg_T 0).2.1 (cg_T 0).2.2, w ∈ wsX0_keepPrepared := by decide +kernel
theorem flX0_keepPrepared_17 : Cond.fieldLink RX0 17 ((cg_T 0).2.1 1).1 ((cg_T 0).2.1 1).2.1 ((cg_T 0).2.1 1).2.2.1 ∈ wsX0_keepPrepared := by decide +kernel
theorem flX0_keepPrepared_21 : Cond.fieldLink RX0 21 ((cg_T 0).2.1 2).1 ((cg_T 0).2.1 2).2.1 ((cg_T 0).2.1 2).2.2.1 ∈ wsX0_keepPrepared := by decide +kernel
theorem mmX0_keepPrepared_min : Cond.methodLink RX0 29 Lib.Math.min.name ∈ wsX0_keepPrepared ∧ Cond.static Lib.Math.min.name ∈ wsX0_keepPrepared ∧ Cond.initialized "java/lang/Math" ∈ wsX0_keepPrepared ∧ Cond.code Lib.Math.min.name Lib.Math.min.code 2 (some .int) ∈ wsX0_keepPrepared := by decide +kernel
theorem inX0_restoreNewest_X0 : ∀ w ∈ u_ws (cg_T 0).1 (cg_T 0).2.1 (cg_T 0).2.2, w ∈ wsX0_restoreNewest := by decide +kernel
theorem flX0_restoreNewest_21 : Cond.fieldLink RX0 21 ((cg_T 0).2.1 2).1 ((cg_T 0).2.1 2).2.1 ((cg_T 0).2.1 2).2.2.1 ∈ wsX0_restoreNewest := by decide +kernel
theorem flX0_restoreNewest_17 : Cond.fieldLink RX0 17 ((cg_T 0).2.1 1).1 ((cg_T 0).2.1 1).2.1 ((cg_T 0).2.1 1).2.2.1 ∈ wsX0_restoreNewest := by decide +kernel
theorem flX0_restoreNewest_13 : Cond.fieldLink RX0 13 ((cg_T 0).2.1 0).1 ((cg_T 0).2.1 0).2.1 ((cg_T 0).2.1 0).2.2.1 ∈ wsX0_restoreNewest := by decide +kernel
theorem inX1_add_X1 : ∀ w ∈ u_ws (cg_T 1).1 (cg_T 1).2.1 (cg_T 1).2.2, w ∈ wsX1_add := by decide +kernel
theorem flX1_add_15 : Cond.fieldLink RX1 15 ((cg_T 1).2.1 1).1 ((cg_T 1).2.1 1).2.1 ((cg_T 1).2.1 1).2.2.1 ∈ wsX1_add := by decide +kernel
theorem flX1_add_9 : Cond.fieldLink RX1 9 ((cg_T 1).2.1 0).1 ((cg_T 1).2.1 0).2.1 ((cg_T 1).2.1 0).2.2.1 ∈ wsX1_add := by decide +kernel
theorem inX1_parse_X1 : ∀ w ∈ u_ws (cg_T 1).1 (cg_T 1).2.1 (cg_T 1).2.2, w ∈ wsX1_parse := by decide +kernel
theorem flX1_parse_27 : Cond.fieldLink RX1 27 ((cg_T 1).2.1 4).1 ((cg_T 1).2.1 4).2.1 ((cg_T 1).2.1 4).2.2.1 ∈ wsX1_parse := by decide +kernel
theorem flX1_parse_30 : Cond.fieldLink RX1 30 ((cg_T 1).2.1 5).1 ((cg_T 1).2.1 5).2.1 ((cg_T 1).2.1 5).2.2.1 ∈ wsX1_parse := by decide +kernel
theorem flX1_parse_15 : Cond.fieldLink RX1 15 ((cg_T 1).2.1 1).1 ((cg_T 1).2.1 1).2.1 ((cg_T 1).2.1 1).2.2.1 ∈ wsX1_parse := by decide +kernel
theorem flX1_parse_9 : Cond.fieldLink RX1 9 ((cg_T 1).2.1 0).1 ((cg_T 1).2.1 0).2.1 ((cg_T 1).2.1 0).2.2.1 ∈ wsX1_parse := by decide +kernel
theorem hvX1_accepts : yX1_accepts.cls = (cg_T 1).1 ∧ yX1_accepts.cls ≠ "java/lang/invoke/MethodHandle" ∧ yX1_accepts.cls ≠ "java/lang/invoke/VarHandle" ∧ (parseMethodDescriptor yX1_accepts.desc).map (fun d => d.parameters.length) = some 1 := by decide +kernel
theorem inX1_accepts_X1 : ∀ w ∈ u_ws (cg_T 1).1 (cg_T 1).2.1 (cg_T 1).2.2, w ∈ wsX1_accepts := by decide +kernel
theorem flX1_accepts_37 : Cond.fieldLink RX1 37 ((cg_T 1).2.1 7).1 ((cg_T 1).2.1 7).2.1 ((cg_T 1).2.1 7).2.2.1 ∈ wsX1_accepts := by decide +kernel
theorem flX1_accepts_30 : Cond.fieldLink RX1 30 ((cg_T 1).2.1 5).1 ((cg_T 1).2.1 5).2.1 ((cg_T 1).2.1 5).2.2.1 ∈ wsX1_accepts := by decide +kernel
theorem hvX1_beginsCommand : yX1_beginsCommand.cls = (cg_T 1).1 ∧ yX1_beginsCommand.cls ≠ "java/lang/invoke/MethodHandle" ∧ yX1_beginsCommand.cls ≠ "java/lang/invoke/VarHandle" ∧ (parseMethodDescriptor yX1_beginsCommand.desc).map (fun d => d.parameters.length) = some 1 := by decide +kernel
theorem hvX1_endsCommand : yX1_endsCommand.cls = (cg_T 1).1 ∧ yX1_endsCommand.cls ≠ "java/lang/invoke/MethodHandle" ∧ yX1_endsCommand.cls ≠ "java/lang/invoke/VarHandle" ∧ (parseMethodDescriptor yX1_endsCommand.desc).map (fun d => d.parameters.length) = some 0 := by decide +kernel
theorem hvX1_takesDigit : yX1_takesDigit.cls = (cg_T 1).1 ∧ yX1_takesDigit.cls ≠ "java/lang/invoke/MethodHandle" ∧ yX1_takesDigit.cls ≠ "java/lang/invoke/VarHandle" ∧ (parseMethodDescriptor yX1_takesDigit.desc).map (fun d => d.parameters.length) = some 1 := by decide +kernel
theorem inX1_beginsCommand_X1 : ∀ w ∈ u_ws (cg_T 1).1 (cg_T 1).2.1 (cg_T 1).2.2, w ∈ wsX1_beginsCommand := by decide +kernel
theorem flX1_beginsCommand_27 : Cond.fieldLink RX1 27 ((cg_T 1).2.1 4).1 ((cg_T 1).2.1 4).2.1 ((cg_T 1).2.1 4).2.2.1 ∈ wsX1_beginsCommand := by decide +kernel
theorem flX1_beginsCommand_19 : Cond.fieldLink RX1 19 ((cg_T 1).2.1 2).1 ((cg_T 1).2.1 2).2.1 ((cg_T 1).2.1 2).2.2.1 ∈ wsX1_beginsCommand := by decide +kernel
theorem flX1_beginsCommand_30 : Cond.fieldLink RX1 30 ((cg_T 1).2.1 5).1 ((cg_T 1).2.1 5).2.1 ((cg_T 1).2.1 5).2.2.1 ∈ wsX1_beginsCommand := by decide +kernel
theorem flX1_beginsCommand_34 : Cond.fieldLink RX1 34 ((cg_T 1).2.1 6).1 ((cg_T 1).2.1 6).2.1 ((cg_T 1).2.1 6).2.2.1 ∈ wsX1_beginsCommand := by decide +kernel
theorem flX1_beginsCommand_37 : Cond.fieldLink RX1 37 ((cg_T 1).2.1 7).1 ((cg_T 1).2.1 7).2.1 ((cg_T 1).2.1 7).2.2.1 ∈ wsX1_beginsCommand := by decide +kernel
theorem hsX1_numbersAfter : yX1_numbersAfter.cls ≠ "java/lang/invoke/MethodHandle" ∧ yX1_numbersAfter.cls ≠ "java/lang/invoke/VarHandle" ∧ (parseMethodDescriptor yX1_numbersAfter.desc).map (fun d => d.parameters.length) = some 1 := by decide +kernel
theorem inX1_endsCommand_X1 : ∀ w ∈ u_ws (cg_T 1).1 (cg_T 1).2.1 (cg_T 1).2.2, w ∈ wsX1_endsCommand := by decide +kernel
theorem flX1_endsCommand_34 : Cond.fieldLink RX1 34 ((cg_T 1).2.1 6).1 ((cg_T 1).2.1 6).2.1 ((cg_T 1).2.1 6).2.2.1 ∈ wsX1_endsCommand := by decide +kernel
theorem flX1_endsCommand_19 : Cond.fieldLink RX1 19 ((cg_T 1).2.1 2).1 ((cg_T 1).2.1 2).2.1 ((cg_T 1).2.1 2).2.2.1 ∈ wsX1_endsCommand := by decide +kernel
theorem flX1_endsCommand_27 : Cond.fieldLink RX1 27 ((cg_T 1).2.1 4).1 ((cg_T 1).2.1 4).2.1 ((cg_T 1).2.1 4).2.2.1 ∈ wsX1_endsCommand := by decide +kernel
theorem flX1_endsCommand_30 : Cond.fieldLink RX1 30 ((cg_T 1).2.1 5).1 ((cg_T 1).2.1 5).2.1 ((cg_T 1).2.1 5).2.2.1 ∈ wsX1_endsCommand := by decide +kernel
theorem inX1_takesDigit_X1 : ∀ w ∈ u_ws (cg_T 1).1 (cg_T 1).2.1 (cg_T 1).2.2, w ∈ wsX1_takesDigit := by decide +kernel
theorem flX1_takesDigit_37 : Cond.fieldLink RX1 37 ((cg_T 1).2.1 7).1 ((cg_T 1).2.1 7).2.1 ((cg_T 1).2.1 7).2.2.1 ∈ wsX1_takesDigit := by decide +kernel
theorem flX1_takesDigit_24 : Cond.fieldLink RX1 24 ((cg_T 1).2.1 3).1 ((cg_T 1).2.1 3).2.1 ((cg_T 1).2.1 3).2.2.1 ∈ wsX1_takesDigit := by decide +kernel
theorem flX1_takesDigit_27 : Cond.fieldLink RX1 27 ((cg_T 1).2.1 4).1 ((cg_T 1).2.1 4).2.1 ((cg_T 1).2.1 4).2.2.1 ∈ wsX1_takesDigit := by decide +kernel
theorem flX1_takesDigit_34 : Cond.fieldLink RX1 34 ((cg_T 1).2.1 6).1 ((cg_T 1).2.1 6).2.1 ((cg_T 1).2.1 6).2.2.1 ∈ wsX1_takesDigit := by decide +kernel
theorem flX1_takesDigit_19 : Cond.fieldLink RX1 19 ((cg_T 1).2.1 2).1 ((cg_T 1).2.1 2).2.1 ((cg_T 1).2.1 2).2.2.1 ∈ wsX1_takesDigit := by decide +kernel
theorem inX2_copyFrom_X2 : ∀ w ∈ u_ws (cg_T 2).1 (cg_T 2).2.1 (cg_T 2).2.2, w ∈ wsX2_copyFrom := by decide +kernel
theorem flX2_copyFrom_9 : Cond.fieldLink RX2 9 ((cg_T 2).2.1 0).1 ((cg_T 2).2.1 0).2.1 ((cg_T 2).2.1 0).2.2.1 ∈ wsX2_copyFrom := by decide +kernel
theorem flX2_copyFrom_15 : Cond.fieldLink RX2 15 ((cg_T 2).2.1 1).1 ((cg_T 2).2.1 1).2.1 ((cg_T 2).2.1 1).2.2.1 ∈ wsX2_copyFrom := by decide +kernel
theorem flX2_copyFrom_19 : Cond.fieldLink RX2 19 ((cg_T 2).2.1 2).1 ((cg_T 2).2.1 2).2.1 ((cg_T 2).2.1 2).2.2.1 ∈ wsX2_copyFrom := by decide +kernel
theorem flX2_copyFrom_22 : Cond.fieldLink RX2 22 ((cg_T 2).2.1 3).1 ((cg_T 2).2.1 3).2.1 ((cg_T 2).2.1 3).2.2.1 ∈ wsX2_copyFrom := by decide +kernel
theorem flX2_copyFrom_25 : Cond.fieldLink RX2 25 ((cg_T 2).2.1 4).1 ((cg_T 2).2.1 4).2.1 ((cg_T 2).2.1 4).2.2.1 ∈ wsX2_copyFrom := by decide +kernel
theorem flX2_copyFrom_28 : Cond.fieldLink RX2 28 ((cg_T 2).2.1 5).1 ((cg_T 2).2.1 5).2.1 ((cg_T 2).2.1 5).2.2.1 ∈ wsX2_copyFrom := by decide +kernel
theorem flX2_copyFrom_33 : Cond.fieldLink RX2 33 ((cg_T 2).2.1 6).1 ((cg_T 2).2.1 6).2.1 ((cg_T 2).2.1 6).2.2.1 ∈ wsX2_copyFrom := by decide +kernel
theorem flX2_copyFrom_36 : Cond.fieldLink RX2 36 ((cg_T 2).2.1 7).1 ((cg_T 2).2.1 7).2.1 ((cg_T 2).2.1 7).2.2.1 ∈ wsX2_copyFrom := by decide +kernel
theorem flX2_copyFrom_39 : Cond.fieldLink RX2 39 ((cg_T 2).2.1 8).1 ((cg_T 2).2.1 8).2.1 ((cg_T 2).2.1 8).2.2.1 ∈ wsX2_copyFrom := by decide +kernel
theorem flX2_copyFrom_42 : Cond.fieldLink RX2 42 ((cg_T 2).2.1 9).1 ((cg_T 2).2.1 9).2.1 ((cg_T 2).2.1 9).2.2.1 ∈ wsX2_copyFrom := by decide +kernel
theorem flX2_copyFrom_45 : Cond.fieldLink RX2 45 ((cg_T 2).2.1 10).1 ((cg_T 2).2.1 10).2.1 ((cg_T 2).2.1 10).2.2.1 ∈ wsX2_copyFrom := by decide +kernel
theorem flX2_copyFrom_48 : Cond.fieldLink RX2 48 ((cg_T 2).2.1 11).1 ((cg_T 2).2.1 11).2.1 ((cg_T 2).2.1 11).2.2.1 ∈ wsX2_copyFrom := by decide +kernel
theorem hsX2_copyRow : yX2_copyRow.cls ≠ "java/lang/invoke/MethodHandle" ∧ yX2_copyRow.cls ≠ "java/lang/invoke/VarHandle" ∧ (parseMethodDescriptor yX2_copyRow.desc).map (fun d => d.parameters.length) = some 2 := by decide +kernel
theorem hsX2_copyRows : yX2_copyRows.cls ≠ "java/lang/invoke/MethodHandle" ∧ yX2_copyRows.cls ≠ "java/lang/invoke/VarHandle" ∧ (parseMethodDescriptor yX2_copyRows.desc).map (fun d => d.parameters.length) = some 2 := by decide +kernel
theorem inX2_changeGuarantees_X2 : ∀ w ∈ u_ws (cg_T 2).1 (cg_T 2).2.1 (cg_T 2).2.2, w ∈ wsX2_changeGuarantees := by decide +kernel
theorem flX2_changeGuarantees_39 : Cond.fieldLink RX2 39 ((cg_T 2).2.1 8).1 ((cg_T 2).2.1 8).2.1 ((cg_T 2).2.1 8).2.2.1 ∈ wsX2_changeGuarantees := by decide +kernel
theorem hsX3_isClient : yX3_isClient.cls ≠ "java/lang/invoke/MethodHandle" ∧ yX3_isClient.cls ≠ "java/lang/invoke/VarHandle" ∧ (parseMethodDescriptor yX3_isClient.desc).map (fun d => d.parameters.length) = some 1 := by decide +kernel
theorem neX3_isClient : Cond.methodLinkNest RX2 59 yX3_isClient RX3 ∈ cg_nests := by decide +kernel
theorem isX2_changeGuarantees_X3_isClient : Cond.initialized yX3_isClient.cls ∈ wsX2_changeGuarantees ∧ Cond.static yX3_isClient ∈ wsX2_changeGuarantees := by decide +kernel
theorem hsX3_isBelow : yX3_isBelow.cls ≠ "java/lang/invoke/MethodHandle" ∧ yX3_isBelow.cls ≠ "java/lang/invoke/VarHandle" ∧ (parseMethodDescriptor yX3_isBelow.desc).map (fun d => d.parameters.length) = some 2 := by decide +kernel
theorem neX3_isBelow : Cond.methodLinkNest RX2 63 yX3_isBelow RX3 ∈ cg_nests := by decide +kernel
theorem isX2_changeGuarantees_X3_isBelow : Cond.initialized yX3_isBelow.cls ∈ wsX2_changeGuarantees ∧ Cond.static yX3_isBelow ∈ wsX2_changeGuarantees := by decide +kernel
theorem inX2_clearVectors_X2 : ∀ w ∈ u_ws (cg_T 2).1 (cg_T 2).2.1 (cg_T 2).2.2, w ∈ wsX2_clearVectors := by decide +kernel
theorem flX2_clearVectors_42 : Cond.fieldLink RX2 42 ((cg_T 2).2.1 9).1 ((cg_T 2).2.1 9).2.1 ((cg_T 2).2.1 9).2.2.1 ∈ wsX2_clearVectors := by decide +kernel
theorem flX2_clearVectors_45 : Cond.fieldLink RX2 45 ((cg_T 2).2.1 10).1 ((cg_T 2).2.1 10).2.1 ((cg_T 2).2.1 10).2.2.1 ∈ wsX2_clearVectors := by decide +kernel
theorem isX2_clearVectors_X3_isClient : Cond.initialized yX3_isClient.cls ∈ wsX2_clearVectors ∧ Cond.static yX3_isClient ∈ wsX2_clearVectors := by decide +kernel
theorem inX2_readKey_X2 : ∀ w ∈ u_ws (cg_T 2).1 (cg_T 2).2.1 (cg_T 2).2.2, w ∈ wsX2_readKey := by decide +kernel
theorem flX2_readKey_39 : Cond.fieldLink RX2 39 ((cg_T 2).2.1 8).1 ((cg_T 2).2.1 8).2.1 ((cg_T 2).2.1 8).2.2.1 ∈ wsX2_readKey := by decide +kernel
theorem flX2_readKey_33 : Cond.fieldLink RX2 33 ((cg_T 2).2.1 6).1 ((cg_T 2).2.1 6).2.1 ((cg_T 2).2.1 6).2.2.1 ∈ wsX2_readKey := by decide +kernel
theorem flX2_readKey_42 : Cond.fieldLink RX2 42 ((cg_T 2).2.1 9).1 ((cg_T 2).2.1 9).2.1 ((cg_T 2).2.1 9).2.2.1 ∈ wsX2_readKey := by decide +kernel
theorem isX2_readKey_X3_isClient : Cond.initialized yX3_isClient.cls ∈ wsX2_readKey ∧ Cond.static yX3_isClient ∈ wsX2_readKey := by decide +kernel
theorem hsX3_isReplica : yX3_isReplica.cls ≠ "java/lang/invoke/MethodHandle" ∧ yX3_isReplica.cls ≠ "java/lang/invoke/VarHandle" ∧ (parseMethodDescriptor yX3_isReplica.desc).map (fun d => d.parameters.length) = some 1 := by decide +kernel
theorem neX3_isReplica : Cond.methodLinkNest RX2 67 yX3_isReplica RX3 ∈ cg_nests := by decide +kernel
theorem isX2_readKey_X3_isReplica : Cond.initialized yX3_isReplica.cls ∈ wsX2_readKey ∧ Cond.static yX3_isReplica ∈ wsX2_readKey := by decide +kernel
theorem hsX3_isKey : yX3_isKey.cls ≠ "java/lang/invoke/MethodHandle" ∧ yX3_isKey.cls ≠ "java/lang/invoke/VarHandle" ∧ (parseMethodDescriptor yX3_isKey.desc).map (fun d => d.parameters.length) = some 1 := by decide +kernel
theorem neX3_isKey : Cond.methodLinkNest RX2 70 yX3_isKey RX3 ∈ cg_nests := by decide +kernel
theorem isX2_readKey_X3_isKey : Cond.initialized yX3_isKey.cls ∈ wsX2_readKey ∧ Cond.static yX3_isKey ∈ wsX2_readKey := by decide +kernel
theorem hsX3_only : yX3_only.cls ≠ "java/lang/invoke/MethodHandle" ∧ yX3_only.cls ≠ "java/lang/invoke/VarHandle" ∧ (parseMethodDescriptor yX3_only.desc).map (fun d => d.parameters.length) = some 1 := by decide +kernel
theorem neX3_only : Cond.methodLinkNest RX2 73 yX3_only RX3 ∈ cg_nests := by decide +kernel
theorem isX2_readKey_X3_only : Cond.initialized yX3_only.cls ∈ wsX2_readKey ∧ Cond.static yX3_only ∈ wsX2_readKey := by decide +kernel
theorem hvX2_unmetByRead : yX2_unmetByRead.cls = (cg_T 2).1 ∧ yX2_unmetByRead.cls ≠ "java/lang/invoke/MethodHandle" ∧ yX2_unmetByRead.cls ≠ "java/lang/invoke/VarHandle" ∧ (parseMethodDescriptor yX2_unmetByRead.desc).map (fun d => d.parameters.length) = some 2 := by decide +kernel
theorem hvX2_countBreaches : yX2_countBreaches.cls = (cg_T 2).1 ∧ yX2_countBreaches.cls ≠ "java/lang/invoke/MethodHandle" ∧ yX2_countBreaches.cls ≠ "java/lang/invoke/VarHandle" ∧ (parseMethodDescriptor yX2_countBreaches.desc).map (fun d => d.parameters.length) = some 1 := by decide +kernel
theorem hsX2_merge : yX2_merge.cls ≠ "java/lang/invoke/MethodHandle" ∧ yX2_merge.cls ≠ "java/lang/invoke/VarHandle" ∧ (parseMethodDescriptor yX2_merge.desc).map (fun d => d.parameters.length) = some 2 := by decide +kernel
theorem hvX2_valueAt : yX2_valueAt.cls = (cg_T 2).1 ∧ yX2_valueAt.cls ≠ "java/lang/invoke/MethodHandle" ∧ yX2_valueAt.cls ≠ "java/lang/invoke/VarHandle" ∧ (parseMethodDescriptor yX2_valueAt.desc).map (fun d => d.parameters.length) = some 2 := by decide +kernel
theorem inX2_writeKey_X2 : ∀ w ∈ u_ws (cg_T 2).1 (cg_T 2).2.1 (cg_T 2).2.2, w ∈ wsX2_writeKey := by decide +kernel
theorem flX2_writeKey_39 : Cond.fieldLink RX2 39 ((cg_T 2).2.1 8).1 ((cg_T 2).2.1 8).2.1 ((cg_T 2).2.1 8).2.2.1 ∈ wsX2_writeKey := by decide +kernel
theorem flX2_writeKey_9 : Cond.fieldLink RX2 9 ((cg_T 2).2.1 0).1 ((cg_T 2).2.1 0).2.1 ((cg_T 2).2.1 0).2.2.1 ∈ wsX2_writeKey := by decide +kernel
theorem flX2_writeKey_36 : Cond.fieldLink RX2 36 ((cg_T 2).2.1 7).1 ((cg_T 2).2.1 7).2.1 ((cg_T 2).2.1 7).2.2.1 ∈ wsX2_writeKey := by decide +kernel
theorem flX2_writeKey_33 : Cond.fieldLink RX2 33 ((cg_T 2).2.1 6).1 ((cg_T 2).2.1 6).2.1 ((cg_T 2).2.1 6).2.2.1 ∈ wsX2_writeKey := by decide +kernel
theorem flX2_writeKey_45 : Cond.fieldLink RX2 45 ((cg_T 2).2.1 10).1 ((cg_T 2).2.1 10).2.1 ((cg_T 2).2.1 10).2.2.1 ∈ wsX2_writeKey := by decide +kernel
theorem flX2_writeKey_15 : Cond.fieldLink RX2 15 ((cg_T 2).2.1 1).1 ((cg_T 2).2.1 1).2.1 ((cg_T 2).2.1 1).2.2.1 ∈ wsX2_writeKey := by decide +kernel
theorem flX2_writeKey_19 : Cond.fieldLink RX2 19 ((cg_T 2).2.1 2).1 ((cg_T 2).2.1 2).2.1 ((cg_T 2).2.1 2).2.2.1 ∈ wsX2_writeKey := by decide +kernel
theorem flX2_writeKey_22 : Cond.fieldLink RX2 22 ((cg_T 2).2.1 3).1 ((cg_T 2).2.1 3).2.1 ((cg_T 2).2.1 3).2.2.1 ∈ wsX2_writeKey := by decide +kernel
theorem flX2_writeKey_25 : Cond.fieldLink RX2 25 ((cg_T 2).2.1 4).1 ((cg_T 2).2.1 4).2.1 ((cg_T 2).2.1 4).2.2.1 ∈ wsX2_writeKey := by decide +kernel
theorem flX2_writeKey_28 : Cond.fieldLink RX2 28 ((cg_T 2).2.1 5).1 ((cg_T 2).2.1 5).2.1 ((cg_T 2).2.1 5).2.2.1 ∈ wsX2_writeKey := by decide +kernel
theorem isX2_writeKey_X3_isClient : Cond.initialized yX3_isClient.cls ∈ wsX2_writeKey ∧ Cond.static yX3_isClient ∈ wsX2_writeKey := by decide +kernel
theorem isX2_writeKey_X3_isReplica : Cond.initialized yX3_isReplica.cls ∈ wsX2_writeKey ∧ Cond.static yX3_isReplica ∈ wsX2_writeKey := by decide +kernel
theorem isX2_writeKey_X3_isKey : Cond.initialized yX3_isKey.cls ∈ wsX2_writeKey ∧ Cond.static yX3_isKey ∈ wsX2_writeKey := by decide +kernel
theorem isX2_writeKey_X3_isBelow : Cond.initialized yX3_isBelow.cls ∈ wsX2_writeKey ∧ Cond.static yX3_isBelow ∈ wsX2_writeKey := by decide +kernel
theorem hvX2_unmetByWrite : yX2_unmetByWrite.cls = (cg_T 2).1 ∧ yX2_unmetByWrite.cls ≠ "java/lang/invoke/MethodHandle" ∧ yX2_unmetByWrite.cls ≠ "java/lang/invoke/VarHandle" ∧ (parseMethodDescriptor yX2_unmetByWrite.desc).map (fun d => d.parameters.length) = some 2 := by decide +kernel
theorem inX2_synchronize_X2 : ∀ w ∈ u_ws (cg_T 2).1 (cg_T 2).2.1 (cg_T 2).2.2, w ∈ wsX2_synchronize := by decide +kernel
theorem flX2_synchronize_9 : Cond.fieldLink RX2 9 ((cg_T 2).2.1 0).1 ((cg_T 2).2.1 0).2.1 ((cg_T 2).2.1 0).2.2.1 ∈ wsX2_synchronize := by decide +kernel
theorem flX2_synchronize_36 : Cond.fieldLink RX2 36 ((cg_T 2).2.1 7).1 ((cg_T 2).2.1 7).2.1 ((cg_T 2).2.1 7).2.2.1 ∈ wsX2_synchronize := by decide +kernel
theorem flX2_synchronize_28 : Cond.fieldLink RX2 28 ((cg_T 2).2.1 5).1 ((cg_T 2).2.1 5).2.1 ((cg_T 2).2.1 5).2.2.1 ∈ wsX2_synchronize := by decide +kernel
theorem flX2_synchronize_33 : Cond.fieldLink RX2 33 ((cg_T 2).2.1 6).1 ((cg_T 2).2.1 6).2.1 ((cg_T 2).2.1 6).2.2.1 ∈ wsX2_synchronize := by decide +kernel
theorem isX2_synchronize_X3_isReplica : Cond.initialized yX3_isReplica.cls ∈ wsX2_synchronize ∧ Cond.static yX3_isReplica ∈ wsX2_synchronize := by decide +kernel
theorem hvX2_knows : yX2_knows.cls = (cg_T 2).1 ∧ yX2_knows.cls ≠ "java/lang/invoke/MethodHandle" ∧ yX2_knows.cls ≠ "java/lang/invoke/VarHandle" ∧ (parseMethodDescriptor yX2_knows.desc).map (fun d => d.parameters.length) = some 2 := by decide +kernel
theorem mmX2_synchronize_max : Cond.methodLink RX2 97 Lib.Math.max.name ∈ wsX2_synchronize ∧ Cond.static Lib.Math.max.name ∈ wsX2_synchronize ∧ Cond.initialized "java/lang/Math" ∈ wsX2_synchronize ∧ Cond.code Lib.Math.max.name Lib.Math.max.code 2 (some .int) ∈ wsX2_synchronize := by decide +kernel
theorem inX2_isReadAllowed_X2 : ∀ w ∈ u_ws (cg_T 2).1 (cg_T 2).2.1 (cg_T 2).2.2, w ∈ wsX2_isReadAllowed := by decide +kernel
theorem flX2_isReadAllowed_39 : Cond.fieldLink RX2 39 ((cg_T 2).2.1 8).1 ((cg_T 2).2.1 8).2.1 ((cg_T 2).2.1 8).2.2.1 ∈ wsX2_isReadAllowed := by decide +kernel
theorem inX2_isWriteAllowed_X2 : ∀ w ∈ u_ws (cg_T 2).1 (cg_T 2).2.1 (cg_T 2).2.2, w ∈ wsX2_isWriteAllowed := by decide +kernel
theorem flX2_isWriteAllowed_39 : Cond.fieldLink RX2 39 ((cg_T 2).2.1 8).1 ((cg_T 2).2.1 8).2.1 ((cg_T 2).2.1 8).2.2.1 ∈ wsX2_isWriteAllowed := by decide +kernel
theorem inX2_unmetByRead_X2 : ∀ w ∈ u_ws (cg_T 2).1 (cg_T 2).2.1 (cg_T 2).2.2, w ∈ wsX2_unmetByRead := by decide +kernel
theorem flX2_unmetByRead_45 : Cond.fieldLink RX2 45 ((cg_T 2).2.1 10).1 ((cg_T 2).2.1 10).2.1 ((cg_T 2).2.1 10).2.2.1 ∈ wsX2_unmetByRead := by decide +kernel
theorem flX2_unmetByRead_42 : Cond.fieldLink RX2 42 ((cg_T 2).2.1 9).1 ((cg_T 2).2.1 9).2.1 ((cg_T 2).2.1 9).2.2.1 ∈ wsX2_unmetByRead := by decide +kernel
theorem hvX2_covers : yX2_covers.cls = (cg_T 2).1 ∧ yX2_covers.cls ≠ "java/lang/invoke/MethodHandle" ∧ yX2_covers.cls ≠ "java/lang/invoke/VarHandle" ∧ (parseMethodDescriptor yX2_covers.desc).map (fun d => d.parameters.length) = some 2 := by decide +kernel
theorem inX2_unmetByWrite_X2 : ∀ w ∈ u_ws (cg_T 2).1 (cg_T 2).2.1 (cg_T 2).2.2, w ∈ wsX2_unmetByWrite := by decide +kernel
theorem flX2_unmetByWrite_42 : Cond.fieldLink RX2 42 ((cg_T 2).2.1 9).1 ((cg_T 2).2.1 9).2.1 ((cg_T 2).2.1 9).2.2.1 ∈ wsX2_unmetByWrite := by decide +kernel
theorem flX2_unmetByWrite_45 : Cond.fieldLink RX2 45 ((cg_T 2).2.1 10).1 ((cg_T 2).2.1 10).2.1 ((cg_T 2).2.1 10).2.2.1 ∈ wsX2_unmetByWrite := by decide +kernel
theorem isX2_unmetByWrite_X3_only : Cond.initialized yX3_only.cls ∈ wsX2_unmetByWrite ∧ Cond.static yX3_only ∈ wsX2_unmetByWrite := by decide +kernel
theorem hvX2_greatestCount : yX2_greatestCount.cls = (cg_T 2).1 ∧ yX2_greatestCount.cls ≠ "java/lang/invoke/MethodHandle" ∧ yX2_greatestCount.cls ≠ "java/lang/invoke/VarHandle" ∧ (parseMethodDescriptor yX2_greatestCount.desc).map (fun d => d.parameters.length) = some 2 := by decide +kernel
theorem inX2_greatestCount_X2 : ∀ w ∈ u_ws (cg_T 2).1 (cg_T 2).2.1 (cg_T 2).2.2, w ∈ wsX2_greatestCount := by decide +kernel
theorem flX2_greatestCount_33 : Cond.fieldLink RX2 33 ((cg_T 2).2.1 6).1 ((cg_T 2).2.1 6).2.1 ((cg_T 2).2.1 6).2.2.1 ∈ wsX2_greatestCount := by decide +kernel
theorem hsX3_contains : yX3_contains.cls ≠ "java/lang/invoke/MethodHandle" ∧ yX3_contains.cls ≠ "java/lang/invoke/VarHandle" ∧ (parseMethodDescriptor yX3_contains.desc).map (fun d => d.parameters.length) = some 2 := by decide +kernel
theorem neX3_contains : Cond.methodLinkNest RX2 109 yX3_contains RX3 ∈ cg_nests := by decide +kernel
theorem isX2_greatestCount_X3_contains : Cond.initialized yX3_contains.cls ∈ wsX2_greatestCount ∧ Cond.static yX3_contains ∈ wsX2_greatestCount := by decide +kernel
theorem mmX2_greatestCount_max : Cond.methodLink RX2 97 Lib.Math.max.name ∈ wsX2_greatestCount ∧ Cond.static Lib.Math.max.name ∈ wsX2_greatestCount ∧ Cond.initialized "java/lang/Math" ∈ wsX2_greatestCount ∧ Cond.code Lib.Math.max.name Lib.Math.max.code 2 (some .int) ∈ wsX2_greatestCount := by decide +kernel
theorem inX2_valueAt_X2 : ∀ w ∈ u_ws (cg_T 2).1 (cg_T 2).2.1 (cg_T 2).2.2, w ∈ wsX2_valueAt := by decide +kernel
theorem flX2_valueAt_9 : Cond.fieldLink RX2 9 ((cg_T 2).2.1 0).1 ((cg_T 2).2.1 0).2.1 ((cg_T 2).2.1 0).2.2.1 ∈ wsX2_valueAt := by decide +kernel
theorem flX2_valueAt_22 : Cond.fieldLink RX2 22 ((cg_T 2).2.1 3).1 ((cg_T 2).2.1 3).2.1 ((cg_T 2).2.1 3).2.2.1 ∈ wsX2_valueAt := by decide +kernel
theorem flX2_valueAt_25 : Cond.fieldLink RX2 25 ((cg_T 2).2.1 4).1 ((cg_T 2).2.1 4).2.1 ((cg_T 2).2.1 4).2.2.1 ∈ wsX2_valueAt := by decide +kernel
theorem hvX2_isLater : yX2_isLater.cls = (cg_T 2).1 ∧ yX2_isLater.cls ≠ "java/lang/invoke/MethodHandle" ∧ yX2_isLater.cls ≠ "java/lang/invoke/VarHandle" ∧ (parseMethodDescriptor yX2_isLater.desc).map (fun d => d.parameters.length) = some 2 := by decide +kernel
theorem inX2_knows_X2 : ∀ w ∈ u_ws (cg_T 2).1 (cg_T 2).2.1 (cg_T 2).2.2, w ∈ wsX2_knows := by decide +kernel
theorem flX2_knows_19 : Cond.fieldLink RX2 19 ((cg_T 2).2.1 2).1 ((cg_T 2).2.1 2).2.1 ((cg_T 2).2.1 2).2.2.1 ∈ wsX2_knows := by decide +kernel
theorem flX2_knows_33 : Cond.fieldLink RX2 33 ((cg_T 2).2.1 6).1 ((cg_T 2).2.1 6).2.1 ((cg_T 2).2.1 6).2.2.1 ∈ wsX2_knows := by decide +kernel
theorem flX2_knows_15 : Cond.fieldLink RX2 15 ((cg_T 2).2.1 1).1 ((cg_T 2).2.1 1).2.1 ((cg_T 2).2.1 1).2.2.1 ∈ wsX2_knows := by decide +kernel
theorem inX2_isLater_X2 : ∀ w ∈ u_ws (cg_T 2).1 (cg_T 2).2.1 (cg_T 2).2.2, w ∈ wsX2_isLater := by decide +kernel
theorem flX2_isLater_28 : Cond.fieldLink RX2 28 ((cg_T 2).2.1 5).1 ((cg_T 2).2.1 5).2.1 ((cg_T 2).2.1 5).2.2.1 ∈ wsX2_isLater := by decide +kernel
theorem flX2_isLater_15 : Cond.fieldLink RX2 15 ((cg_T 2).2.1 1).1 ((cg_T 2).2.1 1).2.1 ((cg_T 2).2.1 1).2.2.1 ∈ wsX2_isLater := by decide +kernel
theorem inX2_countBreaches_X2 : ∀ w ∈ u_ws (cg_T 2).1 (cg_T 2).2.1 (cg_T 2).2.2, w ∈ wsX2_countBreaches := by decide +kernel
theorem flX2_countBreaches_48 : Cond.fieldLink RX2 48 ((cg_T 2).2.1 11).1 ((cg_T 2).2.1 11).2.1 ((cg_T 2).2.1 11).2.2.1 ∈ wsX2_countBreaches := by decide +kernel
theorem isX2_countBreaches_X3_contains : Cond.initialized yX3_contains.cls ∈ wsX2_countBreaches ∧ Cond.static yX3_contains ∈ wsX2_countBreaches := by decide +kernel
theorem inX2_mixInto_X2 : ∀ w ∈ u_ws (cg_T 2).1 (cg_T 2).2.1 (cg_T 2).2.2, w ∈ wsX2_mixInto := by decide +kernel
theorem flX2_mixInto_9 : Cond.fieldLink RX2 9 ((cg_T 2).2.1 0).1 ((cg_T 2).2.1 0).2.1 ((cg_T 2).2.1 0).2.2.1 ∈ wsX2_mixInto := by decide +kernel
theorem flX2_mixInto_33 : Cond.fieldLink RX2 33 ((cg_T 2).2.1 6).1 ((cg_T 2).2.1 6).2.1 ((cg_T 2).2.1 6).2.2.1 ∈ wsX2_mixInto := by decide +kernel
theorem flX2_mixInto_36 : Cond.fieldLink RX2 36 ((cg_T 2).2.1 7).1 ((cg_T 2).2.1 7).2.1 ((cg_T 2).2.1 7).2.2.1 ∈ wsX2_mixInto := by decide +kernel
theorem flX2_mixInto_39 : Cond.fieldLink RX2 39 ((cg_T 2).2.1 8).1 ((cg_T 2).2.1 8).2.1 ((cg_T 2).2.1 8).2.2.1 ∈ wsX2_mixInto := by decide +kernel
theorem flX2_mixInto_42 : Cond.fieldLink RX2 42 ((cg_T 2).2.1 9).1 ((cg_T 2).2.1 9).2.1 ((cg_T 2).2.1 9).2.2.1 ∈ wsX2_mixInto := by decide +kernel
theorem flX2_mixInto_45 : Cond.fieldLink RX2 45 ((cg_T 2).2.1 10).1 ((cg_T 2).2.1 10).2.1 ((cg_T 2).2.1 10).2.2.1 ∈ wsX2_mixInto := by decide +kernel
theorem flX2_mixInto_48 : Cond.fieldLink RX2 48 ((cg_T 2).2.1 11).1 ((cg_T 2).2.1 11).2.1 ((cg_T 2).2.1 11).2.2.1 ∈ wsX2_mixInto := by decide +kernel
theorem hsX3_mix : yX3_mix.cls ≠ "java/lang/invoke/MethodHandle" ∧ yX3_mix.cls ≠ "java/lang/invoke/VarHandle" ∧ (parseMethodDescriptor yX3_mix.desc).map (fun d => d.parameters.length) = some 2 := by decide +kernel
theorem neX3_mix : Cond.methodLinkNest RX2 115 yX3_mix RX3 ∈ cg_nests := by decide +kernel
theorem isX2_mixInto_X3_mix : Cond.initialized yX3_mix.cls ∈ wsX2_mixInto ∧ Cond.static yX3_mix ∈ wsX2_mixInto := by decide +kernel
theorem hsX3_mixAll : yX3_mixAll.cls ≠ "java/lang/invoke/MethodHandle" ∧ yX3_mixAll.cls ≠ "java/lang/invoke/VarHandle" ∧ (parseMethodDescriptor yX3_mixAll.desc).map (fun d => d.parameters.length) = some 2 := by decide +kernel
theorem neX3_mixAll : Cond.methodLinkNest RX2 119 yX3_mixAll RX3 ∈ cg_nests := by decide +kernel
theorem isX2_mixInto_X3_mixAll : Cond.initialized yX3_mixAll.cls ∈ wsX2_mixInto ∧ Cond.static yX3_mixAll ∈ wsX2_mixInto := by decide +kernel
theorem mmX2_merge_max : Cond.methodLink RX2 97 Lib.Math.max.name ∈ wsX2_merge ∧ Cond.static Lib.Math.max.name ∈ wsX2_merge ∧ Cond.initialized "java/lang/Math" ∈ wsX2_merge ∧ Cond.code Lib.Math.max.name Lib.Math.max.code 2 (some .int) ∈ wsX2_merge := by decide +kernel
theorem mmX2_copyRow_min : Cond.methodLink RX2 123 Lib.Math.min.name ∈ wsX2_copyRow ∧ Cond.static Lib.Math.min.name ∈ wsX2_copyRow ∧ Cond.initialized "java/lang/Math" ∈ wsX2_copyRow ∧ Cond.code Lib.Math.min.name Lib.Math.min.code 2 (some .int) ∈ wsX2_copyRow := by decide +kernel
theorem acX2_copyRow : Cond.methodLink RX2 126 arraycopyName ∈ wsX2_copyRow ∧ Cond.native arraycopyName ∈ wsX2_copyRow ∧ Cond.static arraycopyName ∈ wsX2_copyRow ∧ Cond.initialized "java/lang/System" ∈ wsX2_copyRow := by decide +kernel
theorem inX3_setGuarantees_X3 : ∀ w ∈ u_ws (cg_T 3).1 (cg_T 3).2.1 (cg_T 3).2.2, w ∈ wsX3_setGuarantees := by decide +kernel
theorem flX3_setGuarantees_19 : Cond.fieldLink RX3 19 ((cg_T 3).2.1 1).1 ((cg_T 3).2.1 1).2.1 ((cg_T 3).2.1 1).2.2.1 ∈ wsX3_setGuarantees := by decide +kernel
theorem flX3_setGuarantees_12 : Cond.fieldLink RX3 12 ((cg_T 3).2.1 0).1 ((cg_T 3).2.1 0).2.1 ((cg_T 3).2.1 0).2.2.1 ∈ wsX3_setGuarantees := by decide +kernel
theorem hvX0_prepare : yX0_prepare.cls = (cg_T 0).1 ∧ yX0_prepare.cls ≠ "java/lang/invoke/MethodHandle" ∧ yX0_prepare.cls ≠ "java/lang/invoke/VarHandle" ∧ (parseMethodDescriptor yX0_prepare.desc).map (fun d => d.parameters.length) = some 1 := by decide +kernel
theorem hvX2_changeGuarantees : yX2_changeGuarantees.cls = (cg_T 2).1 ∧ yX2_changeGuarantees.cls ≠ "java/lang/invoke/MethodHandle" ∧ yX2_changeGuarantees.cls ≠ "java/lang/invoke/VarHandle" ∧ (parseMethodDescriptor yX2_changeGuarantees.desc).map (fun d => d.parameters.length) = some 2 := by decide +kernel
theorem hvX3_endUndoable : yX3_endUndoable.cls = (cg_T 3).1 ∧ yX3_endUndoable.cls ≠ "java/lang/invoke/MethodHandle" ∧ yX3_endUndoable.cls ≠ "java/lang/invoke/VarHandle" ∧ (parseMethodDescriptor yX3_endUndoable.desc).map (fun d => d.parameters.length) = some 1 := by decide +kernel
theorem inX3_forget_X3 : ∀ w ∈ u_ws (cg_T 3).1 (cg_T 3).2.1 (cg_T 3).2.2, w ∈ wsX3_forget := by decide +kernel
theorem flX3_forget_19 : Cond.fieldLink RX3 19 ((cg_T 3).2.1 1).1 ((cg_T 3).2.1 1).2.1 ((cg_T 3).2.1 1).2.2.1 ∈ wsX3_forget := by decide +kernel
theorem flX3_forget_12 : Cond.fieldLink RX3 12 ((cg_T 3).2.1 0).1 ((cg_T 3).2.1 0).2.1 ((cg_T 3).2.1 0).2.2.1 ∈ wsX3_forget := by decide +kernel
theorem hvX2_clearVectors : yX2_clearVectors.cls = (cg_T 2).1 ∧ yX2_clearVectors.cls ≠ "java/lang/invoke/MethodHandle" ∧ yX2_clearVectors.cls ≠ "java/lang/invoke/VarHandle" ∧ (parseMethodDescriptor yX2_clearVectors.desc).map (fun d => d.parameters.length) = some 1 := by decide +kernel
theorem inX3_readCount_X3 : ∀ w ∈ u_ws (cg_T 3).1 (cg_T 3).2.1 (cg_T 3).2.2, w ∈ wsX3_readCount := by decide +kernel
theorem flX3_readCount_12 : Cond.fieldLink RX3 12 ((cg_T 3).2.1 0).1 ((cg_T 3).2.1 0).2.1 ((cg_T 3).2.1 0).2.2.1 ∈ wsX3_readCount := by decide +kernel
theorem inX3_readCount_X2 : ∀ w ∈ u_ws (cg_T 2).1 (cg_T 2).2.1 (cg_T 2).2.2, w ∈ wsX3_readCount := by decide +kernel
theorem flX3_readCount_59 : Cond.fieldLink RX3 59 ((cg_T 2).2.1 9).1 ((cg_T 2).2.1 9).2.1 ((cg_T 2).2.1 9).2.2.1 ∈ wsX3_readCount := by decide +kernel
theorem hvX3_counted : yX3_counted.cls = (cg_T 3).1 ∧ yX3_counted.cls ≠ "java/lang/invoke/MethodHandle" ∧ yX3_counted.cls ≠ "java/lang/invoke/VarHandle" ∧ (parseMethodDescriptor yX3_counted.desc).map (fun d => d.parameters.length) = some 1 := by decide +kernel
theorem inX3_writeCount_X3 : ∀ w ∈ u_ws (cg_T 3).1 (cg_T 3).2.1 (cg_T 3).2.2, w ∈ wsX3_writeCount := by decide +kernel
theorem flX3_writeCount_12 : Cond.fieldLink RX3 12 ((cg_T 3).2.1 0).1 ((cg_T 3).2.1 0).2.1 ((cg_T 3).2.1 0).2.2.1 ∈ wsX3_writeCount := by decide +kernel
theorem inX3_writeCount_X2 : ∀ w ∈ u_ws (cg_T 2).1 (cg_T 2).2.1 (cg_T 2).2.2, w ∈ wsX3_writeCount := by decide +kernel
theorem flX3_writeCount_63 : Cond.fieldLink RX3 63 ((cg_T 2).2.1 10).1 ((cg_T 2).2.1 10).2.1 ((cg_T 2).2.1 10).2.2.1 ∈ wsX3_writeCount := by decide +kernel
theorem inX3_read_X3 : ∀ w ∈ u_ws (cg_T 3).1 (cg_T 3).2.1 (cg_T 3).2.2, w ∈ wsX3_read := by decide +kernel
theorem flX3_read_19 : Cond.fieldLink RX3 19 ((cg_T 3).2.1 1).1 ((cg_T 3).2.1 1).2.1 ((cg_T 3).2.1 1).2.2.1 ∈ wsX3_read := by decide +kernel
theorem flX3_read_12 : Cond.fieldLink RX3 12 ((cg_T 3).2.1 0).1 ((cg_T 3).2.1 0).2.1 ((cg_T 3).2.1 0).2.2.1 ∈ wsX3_read := by decide +kernel
theorem hvX2_readKey : yX2_readKey.cls = (cg_T 2).1 ∧ yX2_readKey.cls ≠ "java/lang/invoke/MethodHandle" ∧ yX2_readKey.cls ≠ "java/lang/invoke/VarHandle" ∧ (parseMethodDescriptor yX2_readKey.desc).map (fun d => d.parameters.length) = some 3 := by decide +kernel
theorem inX3_write_X3 : ∀ w ∈ u_ws (cg_T 3).1 (cg_T 3).2.1 (cg_T 3).2.2, w ∈ wsX3_write := by decide +kernel
theorem flX3_write_19 : Cond.fieldLink RX3 19 ((cg_T 3).2.1 1).1 ((cg_T 3).2.1 1).2.1 ((cg_T 3).2.1 1).2.2.1 ∈ wsX3_write := by decide +kernel
theorem flX3_write_12 : Cond.fieldLink RX3 12 ((cg_T 3).2.1 0).1 ((cg_T 3).2.1 0).2.1 ((cg_T 3).2.1 0).2.2.1 ∈ wsX3_write := by decide +kernel
theorem hvX2_writeKey : yX2_writeKey.cls = (cg_T 2).1 ∧ yX2_writeKey.cls ≠ "java/lang/invoke/MethodHandle" ∧ yX2_writeKey.cls ≠ "java/lang/invoke/VarHandle" ∧ (parseMethodDescriptor yX2_writeKey.desc).map (fun d => d.parameters.length) = some 4 := by decide +kernel
theorem inX3_sync_X3 : ∀ w ∈ u_ws (cg_T 3).1 (cg_T 3).2.1 (cg_T 3).2.2, w ∈ wsX3_sync := by decide +kernel
theorem flX3_sync_19 : Cond.fieldLink RX3 19 ((cg_T 3).2.1 1).1 ((cg_T 3).2.1 1).2.1 ((cg_T 3).2.1 1).2.2.1 ∈ wsX3_sync := by decide +kernel
theorem flX3_sync_12 : Cond.fieldLink RX3 12 ((cg_T 3).2.1 0).1 ((cg_T 3).2.1 0).2.1 ((cg_T 3).2.1 0).2.2.1 ∈ wsX3_sync := by decide +kernel
theorem hvX2_synchronize : yX2_synchronize.cls = (cg_T 2).1 ∧ yX2_synchronize.cls ≠ "java/lang/invoke/MethodHandle" ∧ yX2_synchronize.cls ≠ "java/lang/invoke/VarHandle" ∧ (parseMethodDescriptor yX2_synchronize.desc).map (fun d => d.parameters.length) = some 2 := by decide +kernel
theorem inX3_readBreaches_X3 : ∀ w ∈ u_ws (cg_T 3).1 (cg_T 3).2.1 (cg_T 3).2.2, w ∈ wsX3_readBreaches := by decide +kernel
theorem flX3_readBreaches_12 : Cond.fieldLink RX3 12 ((cg_T 3).2.1 0).1 ((cg_T 3).2.1 0).2.1 ((cg_T 3).2.1 0).2.2.1 ∈ wsX3_readBreaches := by decide +kernel
theorem inX3_writeBreaches_X3 : ∀ w ∈ u_ws (cg_T 3).1 (cg_T 3).2.1 (cg_T 3).2.2, w ∈ wsX3_writeBreaches := by decide +kernel
theorem flX3_writeBreaches_12 : Cond.fieldLink RX3 12 ((cg_T 3).2.1 0).1 ((cg_T 3).2.1 0).2.1 ((cg_T 3).2.1 0).2.2.1 ∈ wsX3_writeBreaches := by decide +kernel
theorem inX3_readableReplica_X3 : ∀ w ∈ u_ws (cg_T 3).1 (cg_T 3).2.1 (cg_T 3).2.2, w ∈ wsX3_readableReplica := by decide +kernel
theorem flX3_readableReplica_12 : Cond.fieldLink RX3 12 ((cg_T 3).2.1 0).1 ((cg_T 3).2.1 0).2.1 ((cg_T 3).2.1 0).2.2.1 ∈ wsX3_readableReplica := by decide +kernel
theorem hvX2_isReadAllowed : yX2_isReadAllowed.cls = (cg_T 2).1 ∧ yX2_isReadAllowed.cls ≠ "java/lang/invoke/MethodHandle" ∧ yX2_isReadAllowed.cls ≠ "java/lang/invoke/VarHandle" ∧ (parseMethodDescriptor yX2_isReadAllowed.desc).map (fun d => d.parameters.length) = some 2 := by decide +kernel
theorem inX3_writableReplica_X3 : ∀ w ∈ u_ws (cg_T 3).1 (cg_T 3).2.1 (cg_T 3).2.2, w ∈ wsX3_writableReplica := by decide +kernel
theorem flX3_writableReplica_12 : Cond.fieldLink RX3 12 ((cg_T 3).2.1 0).1 ((cg_T 3).2.1 0).2.1 ((cg_T 3).2.1 0).2.2.1 ∈ wsX3_writableReplica := by decide +kernel
theorem hvX2_isWriteAllowed : yX2_isWriteAllowed.cls = (cg_T 2).1 ∧ yX2_isWriteAllowed.cls ≠ "java/lang/invoke/MethodHandle" ∧ yX2_isWriteAllowed.cls ≠ "java/lang/invoke/VarHandle" ∧ (parseMethodDescriptor yX2_isWriteAllowed.desc).map (fun d => d.parameters.length) = some 2 := by decide +kernel
theorem inX3_syncsForRead_X3 : ∀ w ∈ u_ws (cg_T 3).1 (cg_T 3).2.1 (cg_T 3).2.2, w ∈ wsX3_syncsForRead := by decide +kernel
theorem flX3_syncsForRead_12 : Cond.fieldLink RX3 12 ((cg_T 3).2.1 0).1 ((cg_T 3).2.1 0).2.1 ((cg_T 3).2.1 0).2.2.1 ∈ wsX3_syncsForRead := by decide +kernel
theorem inX3_count_X3 : ∀ w ∈ u_ws (cg_T 3).1 (cg_T 3).2.1 (cg_T 3).2.2, w ∈ wsX3_count := by decide +kernel
theorem flX3_count_12 : Cond.fieldLink RX3 12 ((cg_T 3).2.1 0).1 ((cg_T 3).2.1 0).2.1 ((cg_T 3).2.1 0).2.2.1 ∈ wsX3_count := by decide +kernel
theorem inX3_count_X2 : ∀ w ∈ u_ws (cg_T 2).1 (cg_T 2).2.1 (cg_T 2).2.2, w ∈ wsX3_count := by decide +kernel
theorem flX3_count_96 : Cond.fieldLink RX3 96 ((cg_T 2).2.1 6).1 ((cg_T 2).2.1 6).2.1 ((cg_T 2).2.1 6).2.2.1 ∈ wsX3_count := by decide +kernel
theorem inX3_clock_X3 : ∀ w ∈ u_ws (cg_T 3).1 (cg_T 3).2.1 (cg_T 3).2.2, w ∈ wsX3_clock := by decide +kernel
theorem flX3_clock_12 : Cond.fieldLink RX3 12 ((cg_T 3).2.1 0).1 ((cg_T 3).2.1 0).2.1 ((cg_T 3).2.1 0).2.2.1 ∈ wsX3_clock := by decide +kernel
theorem inX3_clock_X2 : ∀ w ∈ u_ws (cg_T 2).1 (cg_T 2).2.1 (cg_T 2).2.2, w ∈ wsX3_clock := by decide +kernel
theorem flX3_clock_99 : Cond.fieldLink RX3 99 ((cg_T 2).2.1 7).1 ((cg_T 2).2.1 7).2.1 ((cg_T 2).2.1 7).2.2.1 ∈ wsX3_clock := by decide +kernel
theorem inX3_peek_X3 : ∀ w ∈ u_ws (cg_T 3).1 (cg_T 3).2.1 (cg_T 3).2.2, w ∈ wsX3_peek := by decide +kernel
theorem flX3_peek_12 : Cond.fieldLink RX3 12 ((cg_T 3).2.1 0).1 ((cg_T 3).2.1 0).2.1 ((cg_T 3).2.1 0).2.2.1 ∈ wsX3_peek := by decide +kernel
theorem inX3_compare_X3 : ∀ w ∈ u_ws (cg_T 3).1 (cg_T 3).2.1 (cg_T 3).2.2, w ∈ wsX3_compare := by decide +kernel
theorem flX3_compare_12 : Cond.fieldLink RX3 12 ((cg_T 3).2.1 0).1 ((cg_T 3).2.1 0).2.1 ((cg_T 3).2.1 0).2.2.1 ∈ wsX3_compare := by decide +kernel
theorem inX3_compare_X2 : ∀ w ∈ u_ws (cg_T 2).1 (cg_T 2).2.1 (cg_T 2).2.2, w ∈ wsX3_compare := by decide +kernel
theorem flX3_compare_96 : Cond.fieldLink RX3 96 ((cg_T 2).2.1 6).1 ((cg_T 2).2.1 6).2.1 ((cg_T 2).2.1 6).2.2.1 ∈ wsX3_compare := by decide +kernel
theorem inX3_breaches_X3 : ∀ w ∈ u_ws (cg_T 3).1 (cg_T 3).2.1 (cg_T 3).2.2, w ∈ wsX3_breaches := by decide +kernel
theorem flX3_breaches_12 : Cond.fieldLink RX3 12 ((cg_T 3).2.1 0).1 ((cg_T 3).2.1 0).2.1 ((cg_T 3).2.1 0).2.2.1 ∈ wsX3_breaches := by decide +kernel
theorem inX3_breaches_X2 : ∀ w ∈ u_ws (cg_T 2).1 (cg_T 2).2.1 (cg_T 2).2.2, w ∈ wsX3_breaches := by decide +kernel
theorem flX3_breaches_115 : Cond.fieldLink RX3 115 ((cg_T 2).2.1 11).1 ((cg_T 2).2.1 11).2.1 ((cg_T 2).2.1 11).2.2.1 ∈ wsX3_breaches := by decide +kernel
theorem inX3_append_X3 : ∀ w ∈ u_ws (cg_T 3).1 (cg_T 3).2.1 (cg_T 3).2.2, w ∈ wsX3_append := by decide +kernel
theorem flX3_append_26 : Cond.fieldLink RX3 26 ((cg_T 3).2.1 2).1 ((cg_T 3).2.1 2).2.1 ((cg_T 3).2.1 2).2.2.1 ∈ wsX3_append := by decide +kernel
theorem hvX1_add : yX1_add.cls = (cg_T 1).1 ∧ yX1_add.cls ≠ "java/lang/invoke/MethodHandle" ∧ yX1_add.cls ≠ "java/lang/invoke/VarHandle" ∧ (parseMethodDescriptor yX1_add.desc).map (fun d => d.parameters.length) = some 1 := by decide +kernel
theorem inX3_clearText_X3 : ∀ w ∈ u_ws (cg_T 3).1 (cg_T 3).2.1 (cg_T 3).2.2, w ∈ wsX3_clearText := by decide +kernel
theorem flX3_clearText_26 : Cond.fieldLink RX3 26 ((cg_T 3).2.1 2).1 ((cg_T 3).2.1 2).2.1 ((cg_T 3).2.1 2).2.2.1 ∈ wsX3_clearText := by decide +kernel
theorem inX3_clearText_X1 : ∀ w ∈ u_ws (cg_T 1).1 (cg_T 1).2.1 (cg_T 1).2.2, w ∈ wsX3_clearText := by decide +kernel
theorem flX3_clearText_121 : Cond.fieldLink RX3 121 ((cg_T 1).2.1 1).1 ((cg_T 1).2.1 1).2.1 ((cg_T 1).2.1 1).2.2.1 ∈ wsX3_clearText := by decide +kernel
theorem inX3_execute_X3 : ∀ w ∈ u_ws (cg_T 3).1 (cg_T 3).2.1 (cg_T 3).2.2, w ∈ wsX3_execute := by decide +kernel
theorem flX3_execute_26 : Cond.fieldLink RX3 26 ((cg_T 3).2.1 2).1 ((cg_T 3).2.1 2).2.1 ((cg_T 3).2.1 2).2.2.1 ∈ wsX3_execute := by decide +kernel
theorem flX3_execute_19 : Cond.fieldLink RX3 19 ((cg_T 3).2.1 1).1 ((cg_T 3).2.1 1).2.1 ((cg_T 3).2.1 1).2.2.1 ∈ wsX3_execute := by decide +kernel
theorem flX3_execute_12 : Cond.fieldLink RX3 12 ((cg_T 3).2.1 0).1 ((cg_T 3).2.1 0).2.1 ((cg_T 3).2.1 0).2.2.1 ∈ wsX3_execute := by decide +kernel
theorem inX3_execute_X1 : ∀ w ∈ u_ws (cg_T 1).1 (cg_T 1).2.1 (cg_T 1).2.2, w ∈ wsX3_execute := by decide +kernel
theorem flX3_execute_129 : Cond.fieldLink RX3 129 ((cg_T 1).2.1 4).1 ((cg_T 1).2.1 4).2.1 ((cg_T 1).2.1 4).2.2.1 ∈ wsX3_execute := by decide +kernel
theorem hvX1_parse : yX1_parse.cls = (cg_T 1).1 ∧ yX1_parse.cls ≠ "java/lang/invoke/MethodHandle" ∧ yX1_parse.cls ≠ "java/lang/invoke/VarHandle" ∧ (parseMethodDescriptor yX1_parse.desc).map (fun d => d.parameters.length) = some 0 := by decide +kernel
theorem hvX3_runCommand : yX3_runCommand.cls = (cg_T 3).1 ∧ yX3_runCommand.cls ≠ "java/lang/invoke/MethodHandle" ∧ yX3_runCommand.cls ≠ "java/lang/invoke/VarHandle" ∧ (parseMethodDescriptor yX3_runCommand.desc).map (fun d => d.parameters.length) = some 1 := by decide +kernel
theorem hvX0_restorePrepared : yX0_restorePrepared.cls = (cg_T 0).1 ∧ yX0_restorePrepared.cls ≠ "java/lang/invoke/MethodHandle" ∧ yX0_restorePrepared.cls ≠ "java/lang/invoke/VarHandle" ∧ (parseMethodDescriptor yX0_restorePrepared.desc).map (fun d => d.parameters.length) = some 1 := by decide +kernel
theorem hvX0_keepPrepared : yX0_keepPrepared.cls = (cg_T 0).1 ∧ yX0_keepPrepared.cls ≠ "java/lang/invoke/MethodHandle" ∧ yX0_keepPrepared.cls ≠ "java/lang/invoke/VarHandle" ∧ (parseMethodDescriptor yX0_keepPrepared.desc).map (fun d => d.parameters.length) = some 0 := by decide +kernel
theorem inX3_undo_X3 : ∀ w ∈ u_ws (cg_T 3).1 (cg_T 3).2.1 (cg_T 3).2.2, w ∈ wsX3_undo := by decide +kernel
theorem flX3_undo_19 : Cond.fieldLink RX3 19 ((cg_T 3).2.1 1).1 ((cg_T 3).2.1 1).2.1 ((cg_T 3).2.1 1).2.2.1 ∈ wsX3_undo := by decide +kernel
theorem flX3_undo_12 : Cond.fieldLink RX3 12 ((cg_T 3).2.1 0).1 ((cg_T 3).2.1 0).2.1 ((cg_T 3).2.1 0).2.2.1 ∈ wsX3_undo := by decide +kernel
theorem inX3_undo_X0 : ∀ w ∈ u_ws (cg_T 0).1 (cg_T 0).2.1 (cg_T 0).2.2, w ∈ wsX3_undo := by decide +kernel
theorem flX3_undo_145 : Cond.fieldLink RX3 145 ((cg_T 0).2.1 2).1 ((cg_T 0).2.1 2).2.1 ((cg_T 0).2.1 2).2.2.1 ∈ wsX3_undo := by decide +kernel
theorem hvX0_restoreNewest : yX0_restoreNewest.cls = (cg_T 0).1 ∧ yX0_restoreNewest.cls ≠ "java/lang/invoke/MethodHandle" ∧ yX0_restoreNewest.cls ≠ "java/lang/invoke/VarHandle" ∧ (parseMethodDescriptor yX0_restoreNewest.desc).map (fun d => d.parameters.length) = some 1 := by decide +kernel
theorem inX3_errorCount_X3 : ∀ w ∈ u_ws (cg_T 3).1 (cg_T 3).2.1 (cg_T 3).2.2, w ∈ wsX3_errorCount := by decide +kernel
theorem flX3_errorCount_30 : Cond.fieldLink RX3 30 ((cg_T 3).2.1 3).1 ((cg_T 3).2.1 3).2.1 ((cg_T 3).2.1 3).2.2.1 ∈ wsX3_errorCount := by decide +kernel
theorem hsX3_isErrorCode : yX3_isErrorCode.cls ≠ "java/lang/invoke/MethodHandle" ∧ yX3_isErrorCode.cls ≠ "java/lang/invoke/VarHandle" ∧ (parseMethodDescriptor yX3_isErrorCode.desc).map (fun d => d.parameters.length) = some 1 := by decide +kernel
theorem inX3_writes_X3 : ∀ w ∈ u_ws (cg_T 3).1 (cg_T 3).2.1 (cg_T 3).2.2, w ∈ wsX3_writes := by decide +kernel
theorem flX3_writes_12 : Cond.fieldLink RX3 12 ((cg_T 3).2.1 0).1 ((cg_T 3).2.1 0).2.1 ((cg_T 3).2.1 0).2.2.1 ∈ wsX3_writes := by decide +kernel
theorem inX3_writes_X2 : ∀ w ∈ u_ws (cg_T 2).1 (cg_T 2).2.1 (cg_T 2).2.2, w ∈ wsX3_writes := by decide +kernel
theorem flX3_writes_151 : Cond.fieldLink RX3 151 ((cg_T 2).2.1 0).1 ((cg_T 2).2.1 0).2.1 ((cg_T 2).2.1 0).2.2.1 ∈ wsX3_writes := by decide +kernel
theorem klX3_digest_154 : Jvm.Cond.constantLong RX3 154 (2647) ∈ wsX3_digest := by decide +kernel
theorem inX3_digest_X3 : ∀ w ∈ u_ws (cg_T 3).1 (cg_T 3).2.1 (cg_T 3).2.2, w ∈ wsX3_digest := by decide +kernel
theorem flX3_digest_30 : Cond.fieldLink RX3 30 ((cg_T 3).2.1 3).1 ((cg_T 3).2.1 3).2.1 ((cg_T 3).2.1 3).2.2.1 ∈ wsX3_digest := by decide +kernel
theorem flX3_digest_12 : Cond.fieldLink RX3 12 ((cg_T 3).2.1 0).1 ((cg_T 3).2.1 0).2.1 ((cg_T 3).2.1 0).2.2.1 ∈ wsX3_digest := by decide +kernel
theorem flX3_digest_26 : Cond.fieldLink RX3 26 ((cg_T 3).2.1 2).1 ((cg_T 3).2.1 2).2.1 ((cg_T 3).2.1 2).2.2.1 ∈ wsX3_digest := by decide +kernel
theorem inX3_digest_X1 : ∀ w ∈ u_ws (cg_T 1).1 (cg_T 1).2.1 (cg_T 1).2.2, w ∈ wsX3_digest := by decide +kernel
theorem flX3_digest_121 : Cond.fieldLink RX3 121 ((cg_T 1).2.1 1).1 ((cg_T 1).2.1 1).2.1 ((cg_T 1).2.1 1).2.2.1 ∈ wsX3_digest := by decide +kernel
theorem flX3_digest_19 : Cond.fieldLink RX3 19 ((cg_T 3).2.1 1).1 ((cg_T 3).2.1 1).2.1 ((cg_T 3).2.1 1).2.2.1 ∈ wsX3_digest := by decide +kernel
theorem inX3_digest_X0 : ∀ w ∈ u_ws (cg_T 0).1 (cg_T 0).2.1 (cg_T 0).2.2, w ∈ wsX3_digest := by decide +kernel
theorem flX3_digest_145 : Cond.fieldLink RX3 145 ((cg_T 0).2.1 2).1 ((cg_T 0).2.1 2).2.1 ((cg_T 0).2.1 2).2.2.1 ∈ wsX3_digest := by decide +kernel
theorem hvX2_mixInto : yX2_mixInto.cls = (cg_T 2).1 ∧ yX2_mixInto.cls ≠ "java/lang/invoke/MethodHandle" ∧ yX2_mixInto.cls ≠ "java/lang/invoke/VarHandle" ∧ (parseMethodDescriptor yX2_mixInto.desc).map (fun d => d.parameters.length) = some 1 := by decide +kernel
theorem inX3_runCommand_X3 : ∀ w ∈ u_ws (cg_T 3).1 (cg_T 3).2.1 (cg_T 3).2.2, w ∈ wsX3_runCommand := by decide +kernel
theorem flX3_runCommand_26 : Cond.fieldLink RX3 26 ((cg_T 3).2.1 2).1 ((cg_T 3).2.1 2).2.1 ((cg_T 3).2.1 2).2.2.1 ∈ wsX3_runCommand := by decide +kernel
theorem inX3_runCommand_X1 : ∀ w ∈ u_ws (cg_T 1).1 (cg_T 1).2.1 (cg_T 1).2.2, w ∈ wsX3_runCommand := by decide +kernel
theorem flX3_runCommand_168 : Cond.fieldLink RX3 168 ((cg_T 1).2.1 3).1 ((cg_T 1).2.1 3).2.1 ((cg_T 1).2.1 3).2.2.1 ∈ wsX3_runCommand := by decide +kernel
theorem flX3_runCommand_171 : Cond.fieldLink RX3 171 ((cg_T 1).2.1 2).1 ((cg_T 1).2.1 2).2.1 ((cg_T 1).2.1 2).2.2.1 ∈ wsX3_runCommand := by decide +kernel
theorem flX3_runCommand_12 : Cond.fieldLink RX3 12 ((cg_T 3).2.1 0).1 ((cg_T 3).2.1 0).2.1 ((cg_T 3).2.1 0).2.2.1 ∈ wsX3_runCommand := by decide +kernel
theorem inX3_endUndoable_X3 : ∀ w ∈ u_ws (cg_T 3).1 (cg_T 3).2.1 (cg_T 3).2.2, w ∈ wsX3_endUndoable := by decide +kernel
theorem flX3_endUndoable_19 : Cond.fieldLink RX3 19 ((cg_T 3).2.1 1).1 ((cg_T 3).2.1 1).2.1 ((cg_T 3).2.1 1).2.2.1 ∈ wsX3_endUndoable := by decide +kernel
theorem inX3_counted_X3 : ∀ w ∈ u_ws (cg_T 3).1 (cg_T 3).2.1 (cg_T 3).2.2, w ∈ wsX3_counted := by decide +kernel
theorem flX3_counted_30 : Cond.fieldLink RX3 30 ((cg_T 3).2.1 3).1 ((cg_T 3).2.1 3).2.1 ((cg_T 3).2.1 3).2.2.1 ∈ wsX3_counted := by decide +kernel
theorem klX3_mix_174 : Jvm.Cond.constantLong RX3 174 (31) ∈ wsX3_mix := by decide +kernel
theorem inX4_error_X4 : ∀ w ∈ u_ws (cg_T 4).1 (cg_T 4).2.1 (cg_T 4).2.2, w ∈ wsX4_error := by decide +kernel
theorem flX4_error_19 : Cond.fieldLink RX4 19 ((cg_T 4).2.1 4).1 ((cg_T 4).2.1 4).2.1 ((cg_T 4).2.1 4).2.2.1 ∈ wsX4_error := by decide +kernel
theorem hvX4_error : yX4_error.cls = (cg_T 4).1 ∧ yX4_error.cls ≠ "java/lang/invoke/MethodHandle" ∧ yX4_error.cls ≠ "java/lang/invoke/VarHandle" ∧ (parseMethodDescriptor yX4_error.desc).map (fun d => d.parameters.length) = some 1 := by decide +kernel
theorem hvX4_savesAside : yX4_savesAside.cls = (cg_T 4).1 ∧ yX4_savesAside.cls ≠ "java/lang/invoke/MethodHandle" ∧ yX4_savesAside.cls ≠ "java/lang/invoke/VarHandle" ∧ (parseMethodDescriptor yX4_savesAside.desc).map (fun d => d.parameters.length) = some 0 := by decide +kernel
theorem inX4_putsAside_X4 : ∀ w ∈ u_ws (cg_T 4).1 (cg_T 4).2.1 (cg_T 4).2.2, w ∈ wsX4_putsAside := by decide +kernel
theorem flX4_putsAside_16 : Cond.fieldLink RX4 16 ((cg_T 4).2.1 3).1 ((cg_T 4).2.1 3).2.1 ((cg_T 4).2.1 3).2.2.1 ∈ wsX4_putsAside := by decide +kernel
theorem flX4_putsAside_7 : Cond.fieldLink RX4 7 ((cg_T 4).2.1 0).1 ((cg_T 4).2.1 0).2.1 ((cg_T 4).2.1 0).2.2.1 ∈ wsX4_putsAside := by decide +kernel
theorem inX4_savesAside_X4 : ∀ w ∈ u_ws (cg_T 4).1 (cg_T 4).2.1 (cg_T 4).2.2, w ∈ wsX4_savesAside := by decide +kernel
theorem flX4_savesAside_35 : Cond.fieldLink RX4 35 ((cg_T 4).2.1 2).1 ((cg_T 4).2.1 2).2.1 ((cg_T 4).2.1 2).2.2.1 ∈ wsX4_savesAside := by decide +kernel
theorem flX4_savesAside_13 : Cond.fieldLink RX4 13 ((cg_T 4).2.1 1).1 ((cg_T 4).2.1 1).2.1 ((cg_T 4).2.1 1).2.2.1 ∈ wsX4_savesAside := by decide +kernel
theorem flX4_savesAside_16 : Cond.fieldLink RX4 16 ((cg_T 4).2.1 3).1 ((cg_T 4).2.1 3).2.1 ((cg_T 4).2.1 3).2.2.1 ∈ wsX4_savesAside := by decide +kernel
theorem klX4_isClient_39 : Jvm.Cond.constantLong RX4 39 (3) ∈ wsX4_isClient := by decide +kernel
theorem hsX4_in : yX4_in.cls ≠ "java/lang/invoke/MethodHandle" ∧ yX4_in.cls ≠ "java/lang/invoke/VarHandle" ∧ (parseMethodDescriptor yX4_in.desc).map (fun d => d.parameters.length) = some 3 := by decide +kernel
theorem klX4_isReplica_45 : Jvm.Cond.constantLong RX4 45 (2) ∈ wsX4_isReplica := by decide +kernel
theorem klX4_isKey_39 : Jvm.Cond.constantLong RX4 39 (3) ∈ wsX4_isKey := by decide +kernel
theorem inX4_guarantees_X4 : ∀ w ∈ u_ws (cg_T 4).1 (cg_T 4).2.1 (cg_T 4).2.2, w ∈ wsX4_guarantees := by decide +kernel
theorem flX4_guarantees_7 : Cond.fieldLink RX4 7 ((cg_T 4).2.1 0).1 ((cg_T 4).2.1 0).2.1 ((cg_T 4).2.1 0).2.2.1 ∈ wsX4_guarantees := by decide +kernel
theorem klX4_doesSet_51 : Jvm.Cond.constantLong RX4 51 (15) ∈ wsX4_doesSet := by decide +kernel
theorem inX4_doesSet_X4 : ∀ w ∈ u_ws (cg_T 4).1 (cg_T 4).2.1 (cg_T 4).2.2, w ∈ wsX4_doesSet := by decide +kernel
theorem flX4_doesSet_7 : Cond.fieldLink RX4 7 ((cg_T 4).2.1 0).1 ((cg_T 4).2.1 0).2.1 ((cg_T 4).2.1 0).2.2.1 ∈ wsX4_doesSet := by decide +kernel
theorem hsX4_isClient : yX4_isClient.cls ≠ "java/lang/invoke/MethodHandle" ∧ yX4_isClient.cls ≠ "java/lang/invoke/VarHandle" ∧ (parseMethodDescriptor yX4_isClient.desc).map (fun d => d.parameters.length) = some 1 := by decide +kernel
theorem hvX4_guarantees : yX4_guarantees.cls = (cg_T 4).1 ∧ yX4_guarantees.cls ≠ "java/lang/invoke/MethodHandle" ∧ yX4_guarantees.cls ≠ "java/lang/invoke/VarHandle" ∧ (parseMethodDescriptor yX4_guarantees.desc).map (fun d => d.parameters.length) = some 1 := by decide +kernel
theorem hvX4_putsAside : yX4_putsAside.cls = (cg_T 4).1 ∧ yX4_putsAside.cls ≠ "java/lang/invoke/MethodHandle" ∧ yX4_putsAside.cls ≠ "java/lang/invoke/VarHandle" ∧ (parseMethodDescriptor yX4_putsAside.desc).map (fun d => d.parameters.length) = some 0 := by decide +kernel
theorem hvX4_doesSet : yX4_doesSet.cls = (cg_T 4).1 ∧ yX4_doesSet.cls ≠ "java/lang/invoke/MethodHandle" ∧ yX4_doesSet.cls ≠ "java/lang/invoke/VarHandle" ∧ (parseMethodDescriptor yX4_doesSet.desc).map (fun d => d.parameters.length) = some 2 := by decide +kernel
theorem hvX4_answered : yX4_answered.cls = (cg_T 4).1 ∧ yX4_answered.cls ≠ "java/lang/invoke/MethodHandle" ∧ yX4_answered.cls ≠ "java/lang/invoke/VarHandle" ∧ (parseMethodDescriptor yX4_answered.desc).map (fun d => d.parameters.length) = some 1 := by decide +kernel
theorem inX4_doesForget_X4 : ∀ w ∈ u_ws (cg_T 4).1 (cg_T 4).2.1 (cg_T 4).2.2, w ∈ wsX4_doesForget := by decide +kernel
theorem flX4_doesForget_7 : Cond.fieldLink RX4 7 ((cg_T 4).2.1 0).1 ((cg_T 4).2.1 0).2.1 ((cg_T 4).2.1 0).2.2.1 ∈ wsX4_doesForget := by decide +kernel
theorem hvX4_doesForget : yX4_doesForget.cls = (cg_T 4).1 ∧ yX4_doesForget.cls ≠ "java/lang/invoke/MethodHandle" ∧ yX4_doesForget.cls ≠ "java/lang/invoke/VarHandle" ∧ (parseMethodDescriptor yX4_doesForget.desc).map (fun d => d.parameters.length) = some 1 := by decide +kernel
theorem inX4_readCount_X4 : ∀ w ∈ u_ws (cg_T 4).1 (cg_T 4).2.1 (cg_T 4).2.2, w ∈ wsX4_readCount := by decide +kernel
theorem flX4_readCount_7 : Cond.fieldLink RX4 7 ((cg_T 4).2.1 0).1 ((cg_T 4).2.1 0).2.1 ((cg_T 4).2.1 0).2.2.1 ∈ wsX4_readCount := by decide +kernel
theorem hsX4_isReplica : yX4_isReplica.cls ≠ "java/lang/invoke/MethodHandle" ∧ yX4_isReplica.cls ≠ "java/lang/invoke/VarHandle" ∧ (parseMethodDescriptor yX4_isReplica.desc).map (fun d => d.parameters.length) = some 1 := by decide +kernel
theorem inX4_writeCount_X4 : ∀ w ∈ u_ws (cg_T 4).1 (cg_T 4).2.1 (cg_T 4).2.2, w ∈ wsX4_writeCount := by decide +kernel
theorem flX4_writeCount_7 : Cond.fieldLink RX4 7 ((cg_T 4).2.1 0).1 ((cg_T 4).2.1 0).2.1 ((cg_T 4).2.1 0).2.2.1 ∈ wsX4_writeCount := by decide +kernel
theorem inX4_covers_X4 : ∀ w ∈ u_ws (cg_T 4).1 (cg_T 4).2.1 (cg_T 4).2.2, w ∈ wsX4_covers := by decide +kernel
theorem flX4_covers_7 : Cond.fieldLink RX4 7 ((cg_T 4).2.1 0).1 ((cg_T 4).2.1 0).2.1 ((cg_T 4).2.1 0).2.2.1 ∈ wsX4_covers := by decide +kernel
theorem hvX4_covers : yX4_covers.cls = (cg_T 4).1 ∧ yX4_covers.cls ≠ "java/lang/invoke/MethodHandle" ∧ yX4_covers.cls ≠ "java/lang/invoke/VarHandle" ∧ (parseMethodDescriptor yX4_covers.desc).map (fun d => d.parameters.length) = some 2 := by decide +kernel
theorem inX4_countsBreaches_X4 : ∀ w ∈ u_ws (cg_T 4).1 (cg_T 4).2.1 (cg_T 4).2.2, w ∈ wsX4_countsBreaches := by decide +kernel
theorem flX4_countsBreaches_7 : Cond.fieldLink RX4 7 ((cg_T 4).2.1 0).1 ((cg_T 4).2.1 0).2.1 ((cg_T 4).2.1 0).2.2.1 ∈ wsX4_countsBreaches := by decide +kernel
theorem inX4_isLater_X4 : ∀ w ∈ u_ws (cg_T 4).1 (cg_T 4).2.1 (cg_T 4).2.2, w ∈ wsX4_isLater := by decide +kernel
theorem flX4_isLater_7 : Cond.fieldLink RX4 7 ((cg_T 4).2.1 0).1 ((cg_T 4).2.1 0).2.1 ((cg_T 4).2.1 0).2.2.1 ∈ wsX4_isLater := by decide +kernel
theorem inX4_valueAt_X4 : ∀ w ∈ u_ws (cg_T 4).1 (cg_T 4).2.1 (cg_T 4).2.2, w ∈ wsX4_valueAt := by decide +kernel
theorem flX4_valueAt_7 : Cond.fieldLink RX4 7 ((cg_T 4).2.1 0).1 ((cg_T 4).2.1 0).2.1 ((cg_T 4).2.1 0).2.2.1 ∈ wsX4_valueAt := by decide +kernel
theorem hvX4_isLater : yX4_isLater.cls = (cg_T 4).1 ∧ yX4_isLater.cls ≠ "java/lang/invoke/MethodHandle" ∧ yX4_isLater.cls ≠ "java/lang/invoke/VarHandle" ∧ (parseMethodDescriptor yX4_isLater.desc).map (fun d => d.parameters.length) = some 2 := by decide +kernel
theorem inX4_doesRead_X4 : ∀ w ∈ u_ws (cg_T 4).1 (cg_T 4).2.1 (cg_T 4).2.2, w ∈ wsX4_doesRead := by decide +kernel
theorem flX4_doesRead_7 : Cond.fieldLink RX4 7 ((cg_T 4).2.1 0).1 ((cg_T 4).2.1 0).2.1 ((cg_T 4).2.1 0).2.2.1 ∈ wsX4_doesRead := by decide +kernel
theorem hsX4_isKey : yX4_isKey.cls ≠ "java/lang/invoke/MethodHandle" ∧ yX4_isKey.cls ≠ "java/lang/invoke/VarHandle" ∧ (parseMethodDescriptor yX4_isKey.desc).map (fun d => d.parameters.length) = some 1 := by decide +kernel
theorem hvX4_breachesOfRead : yX4_breachesOfRead.cls = (cg_T 4).1 ∧ yX4_breachesOfRead.cls ≠ "java/lang/invoke/MethodHandle" ∧ yX4_breachesOfRead.cls ≠ "java/lang/invoke/VarHandle" ∧ (parseMethodDescriptor yX4_breachesOfRead.desc).map (fun d => d.parameters.length) = some 2 := by decide +kernel
theorem hvX4_countsBreaches : yX4_countsBreaches.cls = (cg_T 4).1 ∧ yX4_countsBreaches.cls ≠ "java/lang/invoke/MethodHandle" ∧ yX4_countsBreaches.cls ≠ "java/lang/invoke/VarHandle" ∧ (parseMethodDescriptor yX4_countsBreaches.desc).map (fun d => d.parameters.length) = some 1 := by decide +kernel
theorem hvX4_valueAt : yX4_valueAt.cls = (cg_T 4).1 ∧ yX4_valueAt.cls ≠ "java/lang/invoke/MethodHandle" ∧ yX4_valueAt.cls ≠ "java/lang/invoke/VarHandle" ∧ (parseMethodDescriptor yX4_valueAt.desc).map (fun d => d.parameters.length) = some 2 := by decide +kernel
theorem hvX4_doesRead : yX4_doesRead.cls = (cg_T 4).1 ∧ yX4_doesRead.cls ≠ "java/lang/invoke/MethodHandle" ∧ yX4_doesRead.cls ≠ "java/lang/invoke/VarHandle" ∧ (parseMethodDescriptor yX4_doesRead.desc).map (fun d => d.parameters.length) = some 3 := by decide +kernel
theorem klX4_doesWrite_96 : Jvm.Cond.constantLong RX4 96 (99) ∈ wsX4_doesWrite := by decide +kernel
theorem inX4_doesWrite_X4 : ∀ w ∈ u_ws (cg_T 4).1 (cg_T 4).2.1 (cg_T 4).2.2, w ∈ wsX4_doesWrite := by decide +kernel
theorem flX4_doesWrite_7 : Cond.fieldLink RX4 7 ((cg_T 4).2.1 0).1 ((cg_T 4).2.1 0).2.1 ((cg_T 4).2.1 0).2.2.1 ∈ wsX4_doesWrite := by decide +kernel
theorem hvX4_breachesOfWrite : yX4_breachesOfWrite.cls = (cg_T 4).1 ∧ yX4_breachesOfWrite.cls ≠ "java/lang/invoke/MethodHandle" ∧ yX4_breachesOfWrite.cls ≠ "java/lang/invoke/VarHandle" ∧ (parseMethodDescriptor yX4_breachesOfWrite.desc).map (fun d => d.parameters.length) = some 2 := by decide +kernel
theorem hvX4_doesWrite : yX4_doesWrite.cls = (cg_T 4).1 ∧ yX4_doesWrite.cls ≠ "java/lang/invoke/MethodHandle" ∧ yX4_doesWrite.cls ≠ "java/lang/invoke/VarHandle" ∧ (parseMethodDescriptor yX4_doesWrite.desc).map (fun d => d.parameters.length) = some 4 := by decide +kernel
theorem inX4_doesSync_X4 : ∀ w ∈ u_ws (cg_T 4).1 (cg_T 4).2.1 (cg_T 4).2.2, w ∈ wsX4_doesSync := by decide +kernel
theorem flX4_doesSync_7 : Cond.fieldLink RX4 7 ((cg_T 4).2.1 0).1 ((cg_T 4).2.1 0).2.1 ((cg_T 4).2.1 0).2.2.1 ∈ wsX4_doesSync := by decide +kernel
theorem hvX4_doesSync : yX4_doesSync.cls = (cg_T 4).1 ∧ yX4_doesSync.cls ≠ "java/lang/invoke/MethodHandle" ∧ yX4_doesSync.cls ≠ "java/lang/invoke/VarHandle" ∧ (parseMethodDescriptor yX4_doesSync.desc).map (fun d => d.parameters.length) = some 2 := by decide +kernel
theorem inX4_isCoveredBy_X4 : ∀ w ∈ u_ws (cg_T 4).1 (cg_T 4).2.1 (cg_T 4).2.2, w ∈ wsX4_isCoveredBy := by decide +kernel
theorem flX4_isCoveredBy_7 : Cond.fieldLink RX4 7 ((cg_T 4).2.1 0).1 ((cg_T 4).2.1 0).2.1 ((cg_T 4).2.1 0).2.2.1 ∈ wsX4_isCoveredBy := by decide +kernel
theorem hvX4_isCoveredBy : yX4_isCoveredBy.cls = (cg_T 4).1 ∧ yX4_isCoveredBy.cls ≠ "java/lang/invoke/MethodHandle" ∧ yX4_isCoveredBy.cls ≠ "java/lang/invoke/VarHandle" ∧ (parseMethodDescriptor yX4_isCoveredBy.desc).map (fun d => d.parameters.length) = some 2 := by decide +kernel
theorem hsX4_bits : yX4_bits.cls ≠ "java/lang/invoke/MethodHandle" ∧ yX4_bits.cls ≠ "java/lang/invoke/VarHandle" ∧ (parseMethodDescriptor yX4_bits.desc).map (fun d => d.parameters.length) = some 1 := by decide +kernel
theorem hvX4_isReadBy : yX4_isReadBy.cls = (cg_T 4).1 ∧ yX4_isReadBy.cls ≠ "java/lang/invoke/MethodHandle" ∧ yX4_isReadBy.cls ≠ "java/lang/invoke/VarHandle" ∧ (parseMethodDescriptor yX4_isReadBy.desc).map (fun d => d.parameters.length) = some 2 := by decide +kernel
theorem inX4_count_X4 : ∀ w ∈ u_ws (cg_T 4).1 (cg_T 4).2.1 (cg_T 4).2.2, w ∈ wsX4_count := by decide +kernel
theorem flX4_count_7 : Cond.fieldLink RX4 7 ((cg_T 4).2.1 0).1 ((cg_T 4).2.1 0).2.1 ((cg_T 4).2.1 0).2.2.1 ∈ wsX4_count := by decide +kernel
theorem inX4_clock_X4 : ∀ w ∈ u_ws (cg_T 4).1 (cg_T 4).2.1 (cg_T 4).2.2, w ∈ wsX4_clock := by decide +kernel
theorem flX4_clock_7 : Cond.fieldLink RX4 7 ((cg_T 4).2.1 0).1 ((cg_T 4).2.1 0).2.1 ((cg_T 4).2.1 0).2.2.1 ∈ wsX4_clock := by decide +kernel
theorem klX4_breaches_39 : Jvm.Cond.constantLong RX4 39 (3) ∈ wsX4_breaches := by decide +kernel
theorem inX4_breaches_X4 : ∀ w ∈ u_ws (cg_T 4).1 (cg_T 4).2.1 (cg_T 4).2.2, w ∈ wsX4_breaches := by decide +kernel
theorem flX4_breaches_7 : Cond.fieldLink RX4 7 ((cg_T 4).2.1 0).1 ((cg_T 4).2.1 0).2.1 ((cg_T 4).2.1 0).2.2.1 ∈ wsX4_breaches := by decide +kernel
theorem klX4_append_117 : Jvm.Cond.constantLong RX4 117 (127) ∈ wsX4_append := by decide +kernel
theorem inX4_append_X4 : ∀ w ∈ u_ws (cg_T 4).1 (cg_T 4).2.1 (cg_T 4).2.2, w ∈ wsX4_append := by decide +kernel
theorem flX4_append_119 : Cond.fieldLink RX4 119 ((cg_T 4).2.1 6).1 ((cg_T 4).2.1 6).2.1 ((cg_T 4).2.1 6).2.2.1 ∈ wsX4_append := by decide +kernel
theorem flX4_append_22 : Cond.fieldLink RX4 22 ((cg_T 4).2.1 5).1 ((cg_T 4).2.1 5).2.1 ((cg_T 4).2.1 5).2.2.1 ∈ wsX4_append := by decide +kernel
theorem inX4_clearText_X4 : ∀ w ∈ u_ws (cg_T 4).1 (cg_T 4).2.1 (cg_T 4).2.2, w ∈ wsX4_clearText := by decide +kernel
theorem flX4_clearText_119 : Cond.fieldLink RX4 119 ((cg_T 4).2.1 6).1 ((cg_T 4).2.1 6).2.1 ((cg_T 4).2.1 6).2.2.1 ∈ wsX4_clearText := by decide +kernel
theorem inX4_here_X4 : ∀ w ∈ u_ws (cg_T 4).1 (cg_T 4).2.1 (cg_T 4).2.2, w ∈ wsX4_here := by decide +kernel
theorem flX4_here_122 : Cond.fieldLink RX4 122 ((cg_T 4).2.1 7).1 ((cg_T 4).2.1 7).2.1 ((cg_T 4).2.1 7).2.2.1 ∈ wsX4_here := by decide +kernel
theorem flX4_here_119 : Cond.fieldLink RX4 119 ((cg_T 4).2.1 6).1 ((cg_T 4).2.1 6).2.1 ((cg_T 4).2.1 6).2.2.1 ∈ wsX4_here := by decide +kernel
theorem flX4_here_22 : Cond.fieldLink RX4 22 ((cg_T 4).2.1 5).1 ((cg_T 4).2.1 5).2.1 ((cg_T 4).2.1 5).2.2.1 ∈ wsX4_here := by decide +kernel
theorem inX4_isDigit_X4 : ∀ w ∈ u_ws (cg_T 4).1 (cg_T 4).2.1 (cg_T 4).2.2, w ∈ wsX4_isDigit := by decide +kernel
theorem flX4_isDigit_122 : Cond.fieldLink RX4 122 ((cg_T 4).2.1 7).1 ((cg_T 4).2.1 7).2.1 ((cg_T 4).2.1 7).2.2.1 ∈ wsX4_isDigit := by decide +kernel
theorem flX4_isDigit_119 : Cond.fieldLink RX4 119 ((cg_T 4).2.1 6).1 ((cg_T 4).2.1 6).2.1 ((cg_T 4).2.1 6).2.2.1 ∈ wsX4_isDigit := by decide +kernel
theorem flX4_isDigit_22 : Cond.fieldLink RX4 22 ((cg_T 4).2.1 5).1 ((cg_T 4).2.1 5).2.1 ((cg_T 4).2.1 5).2.2.1 ∈ wsX4_isDigit := by decide +kernel
theorem klX4_isDigit_125 : Jvm.Cond.constantLong RX4 125 (48) ∈ wsX4_isDigit := by decide +kernel
theorem klX4_isDigit_127 : Jvm.Cond.constantLong RX4 127 (57) ∈ wsX4_isDigit := by decide +kernel
theorem klX4_takesNumber_125 : Jvm.Cond.constantLong RX4 125 (48) ∈ wsX4_takesNumber := by decide +kernel
theorem klX4_takesNumber_127 : Jvm.Cond.constantLong RX4 127 (57) ∈ wsX4_takesNumber := by decide +kernel
theorem inX4_takesNumber_X4 : ∀ w ∈ u_ws (cg_T 4).1 (cg_T 4).2.1 (cg_T 4).2.2, w ∈ wsX4_takesNumber := by decide +kernel
theorem flX4_takesNumber_25 : Cond.fieldLink RX4 25 ((cg_T 4).2.1 8).1 ((cg_T 4).2.1 8).2.1 ((cg_T 4).2.1 8).2.2.1 ∈ wsX4_takesNumber := by decide +kernel
theorem flX4_takesNumber_22 : Cond.fieldLink RX4 22 ((cg_T 4).2.1 5).1 ((cg_T 4).2.1 5).2.1 ((cg_T 4).2.1 5).2.2.1 ∈ wsX4_takesNumber := by decide +kernel
theorem flX4_takesNumber_122 : Cond.fieldLink RX4 122 ((cg_T 4).2.1 7).1 ((cg_T 4).2.1 7).2.1 ((cg_T 4).2.1 7).2.2.1 ∈ wsX4_takesNumber := by decide +kernel
theorem hvX4_here : yX4_here.cls = (cg_T 4).1 ∧ yX4_here.cls ≠ "java/lang/invoke/MethodHandle" ∧ yX4_here.cls ≠ "java/lang/invoke/VarHandle" ∧ (parseMethodDescriptor yX4_here.desc).map (fun d => d.parameters.length) = some 0 := by decide +kernel
theorem hvX4_isDigit : yX4_isDigit.cls = (cg_T 4).1 ∧ yX4_isDigit.cls ≠ "java/lang/invoke/MethodHandle" ∧ yX4_isDigit.cls ≠ "java/lang/invoke/VarHandle" ∧ (parseMethodDescriptor yX4_isDigit.desc).map (fun d => d.parameters.length) = some 0 := by decide +kernel
theorem inX4_takesCommand_X4 : ∀ w ∈ u_ws (cg_T 4).1 (cg_T 4).2.1 (cg_T 4).2.2, w ∈ wsX4_takesCommand := by decide +kernel
theorem flX4_takesCommand_137 : Cond.fieldLink RX4 137 ((cg_T 4).2.1 9).1 ((cg_T 4).2.1 9).2.1 ((cg_T 4).2.1 9).2.2.1 ∈ wsX4_takesCommand := by decide +kernel
theorem flX4_takesCommand_122 : Cond.fieldLink RX4 122 ((cg_T 4).2.1 7).1 ((cg_T 4).2.1 7).2.1 ((cg_T 4).2.1 7).2.2.1 ∈ wsX4_takesCommand := by decide +kernel
theorem hsX4_numbersOf : yX4_numbersOf.cls ≠ "java/lang/invoke/MethodHandle" ∧ yX4_numbersOf.cls ≠ "java/lang/invoke/VarHandle" ∧ (parseMethodDescriptor yX4_numbersOf.desc).map (fun d => d.parameters.length) = some 1 := by decide +kernel
theorem hvX4_takesNumber : yX4_takesNumber.cls = (cg_T 4).1 ∧ yX4_takesNumber.cls ≠ "java/lang/invoke/MethodHandle" ∧ yX4_takesNumber.cls ≠ "java/lang/invoke/VarHandle" ∧ (parseMethodDescriptor yX4_takesNumber.desc).map (fun d => d.parameters.length) = some 1 := by decide +kernel
theorem inX4_doesCommand_X4 : ∀ w ∈ u_ws (cg_T 4).1 (cg_T 4).2.1 (cg_T 4).2.2, w ∈ wsX4_doesCommand := by decide +kernel
theorem flX4_doesCommand_25 : Cond.fieldLink RX4 25 ((cg_T 4).2.1 8).1 ((cg_T 4).2.1 8).2.1 ((cg_T 4).2.1 8).2.2.1 ∈ wsX4_doesCommand := by decide +kernel
theorem flX4_doesCommand_137 : Cond.fieldLink RX4 137 ((cg_T 4).2.1 9).1 ((cg_T 4).2.1 9).2.1 ((cg_T 4).2.1 9).2.2.1 ∈ wsX4_doesCommand := by decide +kernel
theorem inX4_execute_X4 : ∀ w ∈ u_ws (cg_T 4).1 (cg_T 4).2.1 (cg_T 4).2.2, w ∈ wsX4_execute := by decide +kernel
theorem flX4_execute_122 : Cond.fieldLink RX4 122 ((cg_T 4).2.1 7).1 ((cg_T 4).2.1 7).2.1 ((cg_T 4).2.1 7).2.2.1 ∈ wsX4_execute := by decide +kernel
theorem flX4_execute_7 : Cond.fieldLink RX4 7 ((cg_T 4).2.1 0).1 ((cg_T 4).2.1 0).2.1 ((cg_T 4).2.1 0).2.2.1 ∈ wsX4_execute := by decide +kernel
theorem flX4_execute_16 : Cond.fieldLink RX4 16 ((cg_T 4).2.1 3).1 ((cg_T 4).2.1 3).2.1 ((cg_T 4).2.1 3).2.2.1 ∈ wsX4_execute := by decide +kernel
theorem hvX4_takesCommand : yX4_takesCommand.cls = (cg_T 4).1 ∧ yX4_takesCommand.cls ≠ "java/lang/invoke/MethodHandle" ∧ yX4_takesCommand.cls ≠ "java/lang/invoke/VarHandle" ∧ (parseMethodDescriptor yX4_takesCommand.desc).map (fun d => d.parameters.length) = some 0 := by decide +kernel
theorem hvX4_doesCommand : yX4_doesCommand.cls = (cg_T 4).1 ∧ yX4_doesCommand.cls ≠ "java/lang/invoke/MethodHandle" ∧ yX4_doesCommand.cls ≠ "java/lang/invoke/VarHandle" ∧ (parseMethodDescriptor yX4_doesCommand.desc).map (fun d => d.parameters.length) = some 0 := by decide +kernel
theorem inX4_undo_X4 : ∀ w ∈ u_ws (cg_T 4).1 (cg_T 4).2.1 (cg_T 4).2.2, w ∈ wsX4_undo := by decide +kernel
theorem flX4_undo_35 : Cond.fieldLink RX4 35 ((cg_T 4).2.1 2).1 ((cg_T 4).2.1 2).2.1 ((cg_T 4).2.1 2).2.2.1 ∈ wsX4_undo := by decide +kernel
theorem flX4_undo_7 : Cond.fieldLink RX4 7 ((cg_T 4).2.1 0).1 ((cg_T 4).2.1 0).2.1 ((cg_T 4).2.1 0).2.2.1 ∈ wsX4_undo := by decide +kernel
theorem flX4_undo_13 : Cond.fieldLink RX4 13 ((cg_T 4).2.1 1).1 ((cg_T 4).2.1 1).2.1 ((cg_T 4).2.1 1).2.2.1 ∈ wsX4_undo := by decide +kernel
theorem klX4_errorCount_152 : Jvm.Cond.constantLong RX4 152 (-6) ∈ wsX4_errorCount := by decide +kernel
theorem klX4_errorCount_154 : Jvm.Cond.constantLong RX4 154 (-2) ∈ wsX4_errorCount := by decide +kernel
theorem inX4_errorCount_X4 : ∀ w ∈ u_ws (cg_T 4).1 (cg_T 4).2.1 (cg_T 4).2.2, w ∈ wsX4_errorCount := by decide +kernel
theorem flX4_errorCount_19 : Cond.fieldLink RX4 19 ((cg_T 4).2.1 4).1 ((cg_T 4).2.1 4).2.1 ((cg_T 4).2.1 4).2.2.1 ∈ wsX4_errorCount := by decide +kernel
theorem inX4_writes_X4 : ∀ w ∈ u_ws (cg_T 4).1 (cg_T 4).2.1 (cg_T 4).2.2, w ∈ wsX4_writes := by decide +kernel
theorem flX4_writes_7 : Cond.fieldLink RX4 7 ((cg_T 4).2.1 0).1 ((cg_T 4).2.1 0).2.1 ((cg_T 4).2.1 0).2.2.1 ∈ wsX4_writes := by decide +kernel
theorem klX4_digest_156 : Jvm.Cond.constantLong RX4 156 (2647) ∈ wsX4_digest := by decide +kernel
theorem klX4_digest_158 : Jvm.Cond.constantLong RX4 158 (31) ∈ wsX4_digest := by decide +kernel
theorem inX4_digest_X4 : ∀ w ∈ u_ws (cg_T 4).1 (cg_T 4).2.1 (cg_T 4).2.2, w ∈ wsX4_digest := by decide +kernel
theorem flX4_digest_19 : Cond.fieldLink RX4 19 ((cg_T 4).2.1 4).1 ((cg_T 4).2.1 4).2.1 ((cg_T 4).2.1 4).2.2.1 ∈ wsX4_digest := by decide +kernel
theorem flX4_digest_7 : Cond.fieldLink RX4 7 ((cg_T 4).2.1 0).1 ((cg_T 4).2.1 0).2.1 ((cg_T 4).2.1 0).2.2.1 ∈ wsX4_digest := by decide +kernel
theorem flX4_digest_119 : Cond.fieldLink RX4 119 ((cg_T 4).2.1 6).1 ((cg_T 4).2.1 6).2.1 ((cg_T 4).2.1 6).2.2.1 ∈ wsX4_digest := by decide +kernel
theorem flX4_digest_35 : Cond.fieldLink RX4 35 ((cg_T 4).2.1 2).1 ((cg_T 4).2.1 2).2.1 ((cg_T 4).2.1 2).2.2.1 ∈ wsX4_digest := by decide +kernel
end
section
/-! ===== pure words ===== -/
def cg_b (b : Bool) : Int32 := if b then nI 1 else nI 0
def cg_in (x : Int32) (n : Nat) : Prop := ∃ k : Nat, k < n ∧ x = nI k
theorem cg_b01 (b : Bool) : cg_b b = 0 ∨ cg_b b = 1 := by cases b <;> first | exact Or.inl rfl | exact Or.inr rfl
theorem cg_nin {x : Int32} {n : Nat} (h : ¬ cg_in x n) (hn : n < 2147483648) (h0 : ¬ x < nI 0) : nI n ≤ x := by
  rcases pk_ix x (n := n) (by omega) with q | q | q
  · exact absurd q h0
  · exact q
  · exact absurd q h
theorem cg_bitc : ∀ s, s < 16 → ∀ m, m < 4 → ((nI s >>> (nI m &&& 31)) &&& nI 1) = cg_b (Nat.testBit s m) := by decide +kernel
theorem cg_only : ∀ r, r < 3 → nI 1 <<< (nI r &&& 31) = nI (2 ^ r) := by decide +kernel
/-- knows: the write w at replica r -/
def cg_kn (P : Nat → Int32) (r w : Nat) : Bool := decide (P (14 + 5 * w) ≤ P (3 * r + (P (13 + 5 * w)).toNatClampNeg))
def cg_la (P : Nat → Int32) (w o : Nat) : Bool := decide (P (17 + 5 * o) < P (17 + 5 * w)) || (decide (P (17 + 5 * w) = P (17 + 5 * o)) && decide (P (13 + 5 * o) < P (13 + 5 * w)))
def cg_mx (x y : Int32) : Int32 := if x < y then y else x
def cg_g1 (P : Nat → Int32) (s o r : Nat) (a : Int32) : Int32 := if Nat.testBit s r then cg_mx a (P (3 * r + o)) else a
def cg_gc (P : Nat → Int32) (s o : Nat) : Int32 := cg_g1 P s o 2 (cg_g1 P s o 1 (cg_g1 P s o 0 (nI 0)))
/-- the set s covers the vector from place p on -/
def cg_cs (P : Nat → Int32) (s p : Nat) : Bool := decide (P p ≤ cg_gc P s 0) && (decide (P (p + 1) ≤ cg_gc P s 1) && decide (P (p + 2) ≤ cg_gc P s 2))
def cg_mxh (h : Int64) (f : Nat → Int32) : Nat → Int64
  | 0 => h
  | n + 1 => 31 * cg_mxh h f n + (f n).toInt64
theorem cg_clamp {k : Nat} (h : k < 2147483648) : (nI k).toNatClampNeg = k := nI_clamp (by omega)
theorem cg_sb_sb (M : cg_M) (b : Nat) (P P' : Nat → Int32) : cg_sb (cg_sb M b P) b P' = cg_sb M b P' := by
  funext b'
  unfold cg_sb
  split <;> rfl
theorem cg_up_sb (M : cg_M) (b x : Nat) (v : Int32) (P : Nat → Int32) : cg_up (cg_sb M b P) b x v = cg_sb M b (upd P x v) := by
  unfold cg_up
  rw [cg_sb_sb, cg_sb_s]
theorem cg_up_sb0 (M : cg_M) (b x : Nat) (v : Int32) : cg_up M b x v = cg_sb M b (upd (M b) x v) := rfl
theorem cg_sb_id (M : cg_M) (b : Nat) : cg_sb M b (M b) = M := by
  funext b'
  unfold cg_sb
  split
  · rename_i h; rw [h]
  · rfl
theorem cg_us (f : Nat → Int32) (k : Nat) (x : Int32) : upd f k x k = x := by simp [upd]
theorem cg_un {f : Nat → Int32} {k j : Nat} {x : Int32} (h : j ≠ k) : upd f k x j = f j := by simp [upd, h]
end
section
/-! ===== leaves ===== -/
set_option maxRecDepth 100000 in
set_option maxHeartbeats 4000000 in
theorem sp_isBelow1 {M : cg_M} {k n : Nat} (h : k < n) (hn : n < 2147483648) : cg_D yX3_isBelow wsX3_isBelow rmX3_isBelow [.inl (nI k), .inl (nI n)] M (some (.inl (nI 1))) (M) := by
  refine cg_S_of (cc := cX3_isBelow) (maxL := 2) (ret := (some .boolean)) (ls0 := [some (.inl (nI k)), some (.inl (nI n))]) RX3 rfl (by decide) rfl rfl (Nat.le_of_ble_eq_true rfl) (fun E C X => ?_)
  refine cr_iload_n (pc := 0) C dX3_isBelow_0 rfl ?_
  refine cr_if_lt_f (pc := 1) (tgt := 13) C dX3_isBelow_1 (by decide) (nI_pos (by omega)) ?_
  refine cr_iload_n (pc := 4) C dX3_isBelow_4 rfl ?_
  refine cr_iload_n (pc := 5) C dX3_isBelow_5 rfl ?_
  refine cr_icmp_ge_f (pc := 6) (tgt := 13) C dX3_isBelow_6 (by decide) (nI_ge h (by omega)) ?_
  refine cr_iconst (pc := 9) (v := nI 1) C dX3_isBelow_9 (by decide) ?_
  refine cr_goto (pc := 10) (tgt := 14) C dX3_isBelow_10 (by decide) ?_
  refine cr_zreturn (pc := 14) C X dX3_isBelow_14 (by first | exact Or.inr rfl | exact Or.inl rfl | assumption) ?_
  exact ⟨rfl, rfl⟩
set_option maxRecDepth 100000 in
set_option maxHeartbeats 4000000 in
theorem sp_isBelow0 {M : cg_M} {x : Int32} {n : Nat} (h : ¬ cg_in x n) (hn : n < 2147483648) : cg_D yX3_isBelow wsX3_isBelow rmX3_isBelow [.inl (x), .inl (nI n)] M (some (.inl (nI 0))) (M) := by
  refine cg_S_of (cc := cX3_isBelow) (maxL := 2) (ret := (some .boolean)) (ls0 := [some (.inl (x)), some (.inl (nI n))]) RX3 rfl (by decide) rfl rfl (Nat.le_of_ble_eq_true rfl) (fun E C X => ?_)
  refine cr_iload_n (pc := 0) C dX3_isBelow_0 rfl ?_
  refine cr_if_lt (pc := 1) (tgt := 13) C dX3_isBelow_1 (by decide) (fun h1 => ?_) (fun h1 => ?_)
  · refine cr_iconst (pc := 13) (v := nI 0) C dX3_isBelow_13 (by decide) ?_
    refine cr_zreturn (pc := 14) C X dX3_isBelow_14 (by first | exact Or.inr rfl | exact Or.inl rfl | assumption) ?_
    exact ⟨rfl, rfl⟩
  · refine cr_iload_n (pc := 4) C dX3_isBelow_4 rfl ?_
    refine cr_iload_n (pc := 5) C dX3_isBelow_5 rfl ?_
    refine cr_icmp_ge_t (pc := 6) (tgt := 13) C dX3_isBelow_6 (by decide) (cg_nin h hn h1) ?_
    refine cr_iconst (pc := 13) (v := nI 0) C dX3_isBelow_13 (by decide) ?_
    refine cr_zreturn (pc := 14) C X dX3_isBelow_14 (by first | exact Or.inr rfl | exact Or.inl rfl | assumption) ?_
    exact ⟨rfl, rfl⟩
set_option maxRecDepth 100000 in
set_option maxHeartbeats 4000000 in
theorem sp_isClient1 {M : cg_M} {k : Nat} (h : k < 4) : cg_D yX3_isClient wsX3_isClient rmX3_isClient [.inl (nI k)] M (some (.inl (nI 1))) (M) := by
  refine cg_S_of (cc := cX3_isClient) (maxL := 1) (ret := (some .boolean)) (ls0 := [some (.inl (nI k))]) RX3 rfl (by decide) rfl rfl (Nat.le_of_ble_eq_true rfl) (fun E C X => ?_)
  refine cr_iload_n (pc := 0) C dX3_isClient_0 rfl ?_
  refine cr_iconst (pc := 1) (v := nI 4) C dX3_isClient_1 (by decide) ?_
  refine cr_dS (pc := 2) C (sp_isBelow1 h (by decide)) rfl gX3_isClient_X3_isBelow rfl dX3_isClient_2 hsX3_isBelow rfl ⟨rfl, rfl, Nat.le_of_ble_eq_true rfl, Nat.le_of_ble_eq_true rfl⟩ (Nat.le_of_ble_eq_true rfl) rfl ?_
  refine cr_zreturn (pc := 5) C X dX3_isClient_5 (by first | exact Or.inr rfl | exact Or.inl rfl | assumption) ?_
  exact ⟨rfl, rfl⟩
set_option maxRecDepth 100000 in
set_option maxHeartbeats 4000000 in
theorem sp_isClient0 {M : cg_M} {x : Int32} (h : ¬ cg_in x 4) : cg_D yX3_isClient wsX3_isClient rmX3_isClient [.inl (x)] M (some (.inl (nI 0))) (M) := by
  refine cg_S_of (cc := cX3_isClient) (maxL := 1) (ret := (some .boolean)) (ls0 := [some (.inl (x))]) RX3 rfl (by decide) rfl rfl (Nat.le_of_ble_eq_true rfl) (fun E C X => ?_)
  refine cr_iload_n (pc := 0) C dX3_isClient_0 rfl ?_
  refine cr_iconst (pc := 1) (v := nI 4) C dX3_isClient_1 (by decide) ?_
  refine cr_dS (pc := 2) C (sp_isBelow0 h (by decide)) rfl gX3_isClient_X3_isBelow rfl dX3_isClient_2 hsX3_isBelow rfl ⟨rfl, rfl, Nat.le_of_ble_eq_true rfl, Nat.le_of_ble_eq_true rfl⟩ (Nat.le_of_ble_eq_true rfl) rfl ?_
  refine cr_zreturn (pc := 5) C X dX3_isClient_5 (by first | exact Or.inr rfl | exact Or.inl rfl | assumption) ?_
  exact ⟨rfl, rfl⟩
set_option maxRecDepth 100000 in
set_option maxHeartbeats 4000000 in
theorem sp_isReplica1 {M : cg_M} {k : Nat} (h : k < 3) : cg_D yX3_isReplica wsX3_isReplica rmX3_isReplica [.inl (nI k)] M (some (.inl (nI 1))) (M) := by
  refine cg_S_of (cc := cX3_isReplica) (maxL := 1) (ret := (some .boolean)) (ls0 := [some (.inl (nI k))]) RX3 rfl (by decide) rfl rfl (Nat.le_of_ble_eq_true rfl) (fun E C X => ?_)
  refine cr_iload_n (pc := 0) C dX3_isReplica_0 rfl ?_
  refine cr_iconst (pc := 1) (v := nI 3) C dX3_isReplica_1 (by decide) ?_
  refine cr_dS (pc := 2) C (sp_isBelow1 h (by decide)) rfl gX3_isReplica_X3_isBelow rfl dX3_isReplica_2 hsX3_isBelow rfl ⟨rfl, rfl, Nat.le_of_ble_eq_true rfl, Nat.le_of_ble_eq_true rfl⟩ (Nat.le_of_ble_eq_true rfl) rfl ?_
  refine cr_zreturn (pc := 5) C X dX3_isReplica_5 (by first | exact Or.inr rfl | exact Or.inl rfl | assumption) ?_
  exact ⟨rfl, rfl⟩
set_option maxRecDepth 100000 in
set_option maxHeartbeats 4000000 in
theorem sp_isReplica0 {M : cg_M} {x : Int32} (h : ¬ cg_in x 3) : cg_D yX3_isReplica wsX3_isReplica rmX3_isReplica [.inl (x)] M (some (.inl (nI 0))) (M) := by
  refine cg_S_of (cc := cX3_isReplica) (maxL := 1) (ret := (some .boolean)) (ls0 := [some (.inl (x))]) RX3 rfl (by decide) rfl rfl (Nat.le_of_ble_eq_true rfl) (fun E C X => ?_)
  refine cr_iload_n (pc := 0) C dX3_isReplica_0 rfl ?_
  refine cr_iconst (pc := 1) (v := nI 3) C dX3_isReplica_1 (by decide) ?_
  refine cr_dS (pc := 2) C (sp_isBelow0 h (by decide)) rfl gX3_isReplica_X3_isBelow rfl dX3_isReplica_2 hsX3_isBelow rfl ⟨rfl, rfl, Nat.le_of_ble_eq_true rfl, Nat.le_of_ble_eq_true rfl⟩ (Nat.le_of_ble_eq_true rfl) rfl ?_
  refine cr_zreturn (pc := 5) C X dX3_isReplica_5 (by first | exact Or.inr rfl | exact Or.inl rfl | assumption) ?_
  exact ⟨rfl, rfl⟩
set_option maxRecDepth 100000 in
set_option maxHeartbeats 4000000 in
theorem sp_isKey1 {M : cg_M} {k : Nat} (h : k < 4) : cg_D yX3_isKey wsX3_isKey rmX3_isKey [.inl (nI k)] M (some (.inl (nI 1))) (M) := by
  refine cg_S_of (cc := cX3_isKey) (maxL := 1) (ret := (some .boolean)) (ls0 := [some (.inl (nI k))]) RX3 rfl (by decide) rfl rfl (Nat.le_of_ble_eq_true rfl) (fun E C X => ?_)
  refine cr_iload_n (pc := 0) C dX3_isKey_0 rfl ?_
  refine cr_iconst (pc := 1) (v := nI 4) C dX3_isKey_1 (by decide) ?_
  refine cr_dS (pc := 2) C (sp_isBelow1 h (by decide)) rfl gX3_isKey_X3_isBelow rfl dX3_isKey_2 hsX3_isBelow rfl ⟨rfl, rfl, Nat.le_of_ble_eq_true rfl, Nat.le_of_ble_eq_true rfl⟩ (Nat.le_of_ble_eq_true rfl) rfl ?_
  refine cr_zreturn (pc := 5) C X dX3_isKey_5 (by first | exact Or.inr rfl | exact Or.inl rfl | assumption) ?_
  exact ⟨rfl, rfl⟩
set_option maxRecDepth 100000 in
set_option maxHeartbeats 4000000 in
theorem sp_isKey0 {M : cg_M} {x : Int32} (h : ¬ cg_in x 4) : cg_D yX3_isKey wsX3_isKey rmX3_isKey [.inl (x)] M (some (.inl (nI 0))) (M) := by
  refine cg_S_of (cc := cX3_isKey) (maxL := 1) (ret := (some .boolean)) (ls0 := [some (.inl (x))]) RX3 rfl (by decide) rfl rfl (Nat.le_of_ble_eq_true rfl) (fun E C X => ?_)
  refine cr_iload_n (pc := 0) C dX3_isKey_0 rfl ?_
  refine cr_iconst (pc := 1) (v := nI 4) C dX3_isKey_1 (by decide) ?_
  refine cr_dS (pc := 2) C (sp_isBelow0 h (by decide)) rfl gX3_isKey_X3_isBelow rfl dX3_isKey_2 hsX3_isBelow rfl ⟨rfl, rfl, Nat.le_of_ble_eq_true rfl, Nat.le_of_ble_eq_true rfl⟩ (Nat.le_of_ble_eq_true rfl) rfl ?_
  refine cr_zreturn (pc := 5) C X dX3_isKey_5 (by first | exact Or.inr rfl | exact Or.inl rfl | assumption) ?_
  exact ⟨rfl, rfl⟩
set_option maxRecDepth 100000 in
set_option maxHeartbeats 4000000 in
theorem sp_only {M : cg_M} {r : Nat} (h : r < 3) : cg_D yX3_only wsX3_only rmX3_only [.inl (nI r)] M (some (.inl (nI (2 ^ r)))) (M) := by
  refine cg_S_of (cc := cX3_only) (maxL := 1) (ret := (some .int)) (ls0 := [some (.inl (nI r))]) RX3 rfl (by decide) rfl rfl (Nat.le_of_ble_eq_true rfl) (fun E C X => ?_)
  refine cr_iconst (pc := 0) (v := nI 1) C dX3_only_0 (by decide) ?_
  refine cr_iload_n (pc := 1) C dX3_only_1 rfl ?_
  refine cr_ishl (pc := 2) C dX3_only_2 ?_
  refine cr_ireturn (pc := 3) C X dX3_only_3 ?_
  exact ⟨by rw [cg_only r h], rfl⟩
set_option maxRecDepth 100000 in
set_option maxHeartbeats 4000000 in
theorem sp_contains {M : cg_M} {s m : Nat} (hs : s < 16) (hm : m < 4) : cg_D yX3_contains wsX3_contains rmX3_contains [.inl (nI s), .inl (nI m)] M (some (.inl (cg_b (Nat.testBit s m)))) M := by
  have hb := cg_bitc s hs m hm
  cases h : Nat.testBit s m
  · refine cg_S_of (cc := cX3_contains) (maxL := 2) (ret := (some .boolean)) (ls0 := [some (.inl (nI s)), some (.inl (nI m))]) RX3 rfl (by decide) rfl rfl (Nat.le_of_ble_eq_true rfl) (fun E C X => ?_)
    refine cr_iload_n (pc := 0) C dX3_contains_0 rfl ?_
    refine cr_iload_n (pc := 1) C dX3_contains_1 rfl ?_
    refine cr_ishr (pc := 2) C dX3_contains_2 ?_
    refine cr_iconst (pc := 3) (v := nI 1) C dX3_contains_3 (by decide) ?_
    refine cr_iand (pc := 4) C dX3_contains_4 ?_
    refine cr_if_eq_t (pc := 5) (tgt := 12) C dX3_contains_5 (by decide) (by rw [hb, h]; decide) ?_
    refine cr_iconst (pc := 12) (v := nI 0) C dX3_contains_12 (by decide) ?_
    refine cr_zreturn (pc := 13) C X dX3_contains_13 (by first | exact Or.inr rfl | exact Or.inl rfl | assumption) ?_
    exact ⟨rfl, rfl⟩
  · refine cg_S_of (cc := cX3_contains) (maxL := 2) (ret := (some .boolean)) (ls0 := [some (.inl (nI s)), some (.inl (nI m))]) RX3 rfl (by decide) rfl rfl (Nat.le_of_ble_eq_true rfl) (fun E C X => ?_)
    refine cr_iload_n (pc := 0) C dX3_contains_0 rfl ?_
    refine cr_iload_n (pc := 1) C dX3_contains_1 rfl ?_
    refine cr_ishr (pc := 2) C dX3_contains_2 ?_
    refine cr_iconst (pc := 3) (v := nI 1) C dX3_contains_3 (by decide) ?_
    refine cr_iand (pc := 4) C dX3_contains_4 ?_
    refine cr_if_eq_f (pc := 5) (tgt := 12) C dX3_contains_5 (by decide) (by rw [hb, h]; decide) ?_
    refine cr_iconst (pc := 8) (v := nI 1) C dX3_contains_8 (by decide) ?_
    refine cr_goto (pc := 9) (tgt := 13) C dX3_contains_9 (by decide) ?_
    refine cr_zreturn (pc := 13) C X dX3_contains_13 (by first | exact Or.inr rfl | exact Or.inl rfl | assumption) ?_
    exact ⟨rfl, rfl⟩
set_option maxRecDepth 100000 in
set_option maxHeartbeats 4000000 in
theorem sp_isErr1 {M : cg_M} {x : Int32} (h1 : (-6) ≤ x) (h2 : x ≤ (-2)) : cg_D yX3_isErrorCode wsX3_isErrorCode rmX3_isErrorCode [.inl (x)] M (some (.inl (nI 1))) (M) := by
  refine cg_S_of (cc := cX3_isErrorCode) (maxL := 1) (ret := (some .boolean)) (ls0 := [some (.inl (x))]) RX3 rfl (by decide) rfl rfl (Nat.le_of_ble_eq_true rfl) (fun E C X => ?_)
  refine cr_iload_n (pc := 0) C dX3_isErrorCode_0 rfl ?_
  refine cr_bipush (pc := 1) (v := (-6)) C dX3_isErrorCode_1 (by decide) ?_
  refine cr_icmp_lt_f (pc := 3) (tgt := 16) C dX3_isErrorCode_3 (by decide) (Int32.not_lt.mpr h1) ?_
  refine cr_iload_n (pc := 6) C dX3_isErrorCode_6 rfl ?_
  refine cr_bipush (pc := 7) (v := (-2)) C dX3_isErrorCode_7 (by decide) ?_
  refine cr_icmp_gt_f (pc := 9) (tgt := 16) C dX3_isErrorCode_9 (by decide) (Int32.not_lt.mpr h2) ?_
  refine cr_iconst (pc := 12) (v := nI 1) C dX3_isErrorCode_12 (by decide) ?_
  refine cr_goto (pc := 13) (tgt := 17) C dX3_isErrorCode_13 (by decide) ?_
  refine cr_zreturn (pc := 17) C X dX3_isErrorCode_17 (by first | exact Or.inr rfl | exact Or.inl rfl | assumption) ?_
  exact ⟨rfl, rfl⟩
set_option maxRecDepth 100000 in
set_option maxHeartbeats 4000000 in
theorem sp_isErr0 {M : cg_M} {x : Int32} (h : ¬ ((-6) ≤ x ∧ x ≤ (-2))) : cg_D yX3_isErrorCode wsX3_isErrorCode rmX3_isErrorCode [.inl (x)] M (some (.inl (nI 0))) (M) := by
  refine cg_S_of (cc := cX3_isErrorCode) (maxL := 1) (ret := (some .boolean)) (ls0 := [some (.inl (x))]) RX3 rfl (by decide) rfl rfl (Nat.le_of_ble_eq_true rfl) (fun E C X => ?_)
  refine cr_iload_n (pc := 0) C dX3_isErrorCode_0 rfl ?_
  refine cr_bipush (pc := 1) (v := (-6)) C dX3_isErrorCode_1 (by decide) ?_
  refine cr_icmp_lt (pc := 3) (tgt := 16) C dX3_isErrorCode_3 (by decide) (fun h3 => ?_) (fun h3 => ?_)
  · refine cr_iconst (pc := 16) (v := nI 0) C dX3_isErrorCode_16 (by decide) ?_
    refine cr_zreturn (pc := 17) C X dX3_isErrorCode_17 (by first | exact Or.inr rfl | exact Or.inl rfl | assumption) ?_
    exact ⟨rfl, rfl⟩
  · refine cr_iload_n (pc := 6) C dX3_isErrorCode_6 rfl ?_
    refine cr_bipush (pc := 7) (v := (-2)) C dX3_isErrorCode_7 (by decide) ?_
    refine cr_icmp_gt_t (pc := 9) (tgt := 16) C dX3_isErrorCode_9 (by decide) (Int32.not_le.mp (fun q => h ⟨Int32.not_lt.mp h3, q⟩)) ?_
    refine cr_iconst (pc := 16) (v := nI 0) C dX3_isErrorCode_16 (by decide) ?_
    refine cr_zreturn (pc := 17) C X dX3_isErrorCode_17 (by first | exact Or.inr rfl | exact Or.inl rfl | assumption) ?_
    exact ⟨rfl, rfl⟩
set_option maxRecDepth 100000 in
set_option maxHeartbeats 4000000 in
theorem sp_counted0 {M : cg_M} {x : Int32} (h : ¬ ((-6) ≤ x ∧ x ≤ (-2))) : cg_D yX3_counted wsX3_counted rmX3_counted [.inr (.inr (3, 0, 0, 0)), .inl (x)] M (some (.inl x)) (M) := by
  refine cg_S_of (cc := cX3_counted) (maxL := 2) (ret := (some .int)) (ls0 := [some (.inr (.inr (3, 0, 0, 0))), some (.inl (x))]) RX3 rfl (by decide) rfl rfl (Nat.le_of_ble_eq_true rfl) (fun E C X => ?_)
  refine cr_iload_n (pc := 0) C dX3_counted_0 rfl ?_
  refine cr_dS (pc := 1) C (sp_isErr0 h) rfl gX3_counted_X3_isErrorCode rfl dX3_counted_1 hsX3_isErrorCode rfl ⟨rfl, rfl, Nat.le_of_ble_eq_true rfl, Nat.le_of_ble_eq_true rfl⟩ (Nat.le_of_ble_eq_true rfl) rfl ?_
  refine cr_if_eq_t (pc := 4) (tgt := 20) C dX3_counted_4 (by decide) (by decide) ?_
  refine cr_iload_n (pc := 20) C dX3_counted_20 rfl ?_
  refine cr_ireturn (pc := 21) C X dX3_counted_21 ?_
  exact ⟨rfl, rfl⟩
set_option maxRecDepth 100000 in
set_option maxHeartbeats 4000000 in
theorem sp_counted1 {M : cg_M} {x : Int32} {e : Nat} (he : e < 5) (h1 : (-6) ≤ x) (h2 : x ≤ (-2)) (hx : (-2) - x = nI e) : cg_D yX3_counted wsX3_counted rmX3_counted [.inr (.inr (3, 0, 0, 0)), .inl (x)] M (some (.inl x)) (cg_up M 15 e (M 15 e + nI 1)) := by
  refine cg_S_of (cc := cX3_counted) (maxL := 2) (ret := (some .int)) (ls0 := [some (.inr (.inr (3, 0, 0, 0))), some (.inl (x))]) RX3 rfl (by decide) rfl rfl (Nat.le_of_ble_eq_true rfl) (fun E C X => ?_)
  refine cr_iload_n (pc := 0) C dX3_counted_0 rfl ?_
  refine cr_dS (pc := 1) C (sp_isErr1 h1 h2) rfl gX3_counted_X3_isErrorCode rfl dX3_counted_1 hsX3_isErrorCode rfl ⟨rfl, rfl, Nat.le_of_ble_eq_true rfl, Nat.le_of_ble_eq_true rfl⟩ (Nat.le_of_ble_eq_true rfl) rfl ?_
  refine cr_if_eq_f (pc := 4) (tgt := 20) C dX3_counted_4 (by decide) (by decide) ?_
  refine cr_aload_n (pc := 7) C dX3_counted_7 rfl ?_
  refine cr_getr (pc := 8) (c := 3) (k := 3) C (by first | rfl | assumption | (simp [cg_ok]; omega)) rfl (by decide) rfl inX3_counted_X3 flX3_counted_30 dX3_counted_8 ?_
  refine cr_bipush (pc := 11) (v := (-2)) C dX3_counted_11 (by decide) ?_
  refine cr_iload_n (pc := 13) C dX3_counted_13 rfl ?_
  refine cr_isub (pc := 14) C dX3_counted_14 ?_
  rw [hx]
  refine cr_dup2 (pc := 15) C dX3_counted_15 rfl rfl ?_
  refine cr_iaload (pc := 16) C rfl (by first | rfl | assumption | (simp [cg_ok]; omega)) (by omega) (by decide) dX3_counted_16 ?_
  refine cr_iconst (pc := 17) (v := nI 1) C dX3_counted_17 (by decide) ?_
  refine cr_iadd (pc := 18) C dX3_counted_18 ?_
  refine cr_iastore (pc := 19) C rfl (by first | rfl | assumption | (simp [cg_ok]; omega)) (by omega) (by decide) dX3_counted_19 ?_
  refine cr_iload_n (pc := 20) C dX3_counted_20 rfl ?_
  refine cr_ireturn (pc := 21) C X dX3_counted_21 ?_
  exact ⟨rfl, rfl⟩
set_option maxRecDepth 100000 in
set_option maxHeartbeats 4000000 in
theorem sp_mix {M : cg_M} {h : Int64} {x : Int32} : cg_D yX3_mix wsX3_mix rmX3_mix [.inr (.inl (h)), .inl (x)] M (some (.inr (.inl (31 * h + x.toInt64)))) (M) := by
  refine cg_S_of (cc := cX3_mix) (maxL := 3) (ret := (some .long)) (ls0 := [some (.inr (.inl (h))), none, some (.inl (x))]) RX3 rfl (by decide) rfl rfl (Nat.le_of_ble_eq_true rfl) (fun E C X => ?_)
  refine cr_ldc2 (pc := 0) C dX3_mix_0 klX3_mix_174 ?_
  refine cr_lload_n (pc := 3) C dX3_mix_3 rfl ?_
  refine cr_lmul (pc := 4) C dX3_mix_4 ?_
  refine cr_iload_n (pc := 5) C dX3_mix_5 rfl ?_
  refine cr_i2l (pc := 6) C dX3_mix_6 ?_
  refine cr_ladd (pc := 7) C dX3_mix_7 ?_
  refine cr_lreturn (pc := 8) C X dX3_mix_8 ?_
  exact ⟨rfl, rfl⟩
end
section
/-! ===== State: reads ===== -/
theorem cg_le_b {p : Prop} [Decidable p] (h : p) : cg_b (decide p) = nI 1 := by simp [cg_b, h]
theorem cg_nle_b {p : Prop} [Decidable p] (h : ¬ p) : cg_b (decide p) = nI 0 := by simp [cg_b, h]
set_option maxRecDepth 100000 in
set_option maxHeartbeats 4000000 in
theorem sp_knows {M : cg_M} {P : Nat → Int32} {r w o : Nat} (hr : r < 3) (hw : w < 60) (ho : o < 3) (ho2 : P (13 + 5 * w) = nI o) : cg_D yX2_knows wsX2_knows rmX2_knows [.inr (.inr (0, 0, 0, 0)), .inl (nI r), .inl (nI w)] (cg_sb M 0 P) (some (.inl (cg_b (cg_kn P r w)))) ((cg_sb M 0 P)) := by
  refine cg_S_of (cc := cX2_knows) (maxL := 3) (ret := (some .boolean)) (ls0 := [some (.inr (.inr (0, 0, 0, 0))), some (.inl (nI r)), some (.inl (nI w))]) RX2 rfl (by decide) rfl rfl (Nat.le_of_ble_eq_true rfl) (fun E C X => ?_)
  refine cr_aload_n (pc := 0) C dX2_knows_0 rfl ?_
  refine cr_getr (pc := 1) (c := 2) (k := 2) C (by first | rfl | assumption | (simp [cg_ok]; omega)) rfl (by decide) rfl inX2_knows_X2 flX2_knows_19 dX2_knows_1 ?_
  refine cr_iload_n (pc := 4) C dX2_knows_4 rfl ?_
  refine cr_iaload (pc := 5) C rfl (by first | rfl | assumption | (simp [cg_ok]; omega)) (by omega) (by decide) dX2_knows_5 ?_
  rw [cg_sb_s]
  refine cr_aload_n (pc := 6) C dX2_knows_6 rfl ?_
  refine cr_getr (pc := 7) (c := 2) (k := 6) C (by first | rfl | assumption | (simp [cg_ok]; omega)) rfl (by decide) rfl inX2_knows_X2 flX2_knows_33 dX2_knows_7 ?_
  refine cr_iload_n (pc := 10) C dX2_knows_10 rfl ?_
  refine cr_aaload (pc := 11) C rfl (by first | rfl | assumption | (simp [cg_ok]; omega)) (by omega) (by decide) dX2_knows_11 ?_
  refine cr_aload_n (pc := 12) C dX2_knows_12 rfl ?_
  refine cr_getr (pc := 13) (c := 2) (k := 1) C (by first | rfl | assumption | (simp [cg_ok]; omega)) rfl (by decide) rfl inX2_knows_X2 flX2_knows_15 dX2_knows_13 ?_
  refine cr_iload_n (pc := 16) C dX2_knows_16 rfl ?_
  refine cr_iaload (pc := 17) C rfl (by first | rfl | assumption | (simp [cg_ok]; omega)) (by omega) (by decide) dX2_knows_17 ?_
  rw [cg_sb_s]
  rw [ho2]
  refine cr_iaload (pc := 18) C rfl (by first | rfl | assumption | (simp [cg_ok]; omega)) (by omega) (by decide) dX2_knows_18 ?_
  rw [cg_sb_s]
  refine cr_icmp_gt (pc := 19) (tgt := 26) C dX2_knows_19 (by decide) (fun h19 => ?_) (fun h19 => ?_)
  · refine cr_iconst (pc := 26) (v := nI 0) C dX2_knows_26 (by decide) ?_
    refine cr_zreturn (pc := 27) C X dX2_knows_27 (by first | exact Or.inr rfl | exact Or.inl rfl | assumption) ?_
    refine ⟨?_, rfl⟩
    unfold cg_kn
    rw [ho2, cg_clamp (by omega)]
    first | rw [cg_le_b (Int32.not_lt.mp h19)] | rw [cg_nle_b (Int32.not_le.mpr h19)]
  · refine cr_iconst (pc := 22) (v := nI 1) C dX2_knows_22 (by decide) ?_
    refine cr_goto (pc := 23) (tgt := 27) C dX2_knows_23 (by decide) ?_
    refine cr_zreturn (pc := 27) C X dX2_knows_27 (by first | exact Or.inr rfl | exact Or.inl rfl | assumption) ?_
    refine ⟨?_, rfl⟩
    unfold cg_kn
    rw [ho2, cg_clamp (by omega)]
    first | rw [cg_le_b (Int32.not_lt.mp h19)] | rw [cg_nle_b (Int32.not_le.mpr h19)]
set_option maxRecDepth 100000 in
set_option maxHeartbeats 4000000 in
theorem sp_isLater {M : cg_M} {P : Nat → Int32} {w o : Nat} (hw : w < 60) (ho : o < 60) : cg_D yX2_isLater wsX2_isLater rmX2_isLater [.inr (.inr (0, 0, 0, 0)), .inl (nI w), .inl (nI o)] (cg_sb M 0 P) (some (.inl (cg_b (cg_la P w o)))) ((cg_sb M 0 P)) := by
  refine cg_S_of (cc := cX2_isLater) (maxL := 3) (ret := (some .boolean)) (ls0 := [some (.inr (.inr (0, 0, 0, 0))), some (.inl (nI w)), some (.inl (nI o))]) RX2 rfl (by decide) rfl rfl (Nat.le_of_ble_eq_true rfl) (fun E C X => ?_)
  refine cr_aload_n (pc := 0) C dX2_isLater_0 rfl ?_
  refine cr_getr (pc := 1) (c := 2) (k := 5) C (by first | rfl | assumption | (simp [cg_ok]; omega)) rfl (by decide) rfl inX2_isLater_X2 flX2_isLater_28 dX2_isLater_1 ?_
  refine cr_iload_n (pc := 4) C dX2_isLater_4 rfl ?_
  refine cr_iaload (pc := 5) C rfl (by first | rfl | assumption | (simp [cg_ok]; omega)) (by omega) (by decide) dX2_isLater_5 ?_
  rw [cg_sb_s]
  refine cr_aload_n (pc := 6) C dX2_isLater_6 rfl ?_
  refine cr_getr (pc := 7) (c := 2) (k := 5) C (by first | rfl | assumption | (simp [cg_ok]; omega)) rfl (by decide) rfl inX2_isLater_X2 flX2_isLater_28 dX2_isLater_7 ?_
  refine cr_iload_n (pc := 10) C dX2_isLater_10 rfl ?_
  refine cr_iaload (pc := 11) C rfl (by first | rfl | assumption | (simp [cg_ok]; omega)) (by omega) (by decide) dX2_isLater_11 ?_
  rw [cg_sb_s]
  refine cr_icmp_eq (pc := 12) (tgt := 36) C dX2_isLater_12 (by decide) (fun h12 => ?_) (fun h12 => ?_)
  · refine cr_aload_n (pc := 36) C dX2_isLater_36 rfl ?_
    refine cr_getr (pc := 37) (c := 2) (k := 1) C (by first | rfl | assumption | (simp [cg_ok]; omega)) rfl (by decide) rfl inX2_isLater_X2 flX2_isLater_15 dX2_isLater_37 ?_
    refine cr_iload_n (pc := 40) C dX2_isLater_40 rfl ?_
    refine cr_iaload (pc := 41) C rfl (by first | rfl | assumption | (simp [cg_ok]; omega)) (by omega) (by decide) dX2_isLater_41 ?_
    rw [cg_sb_s]
    refine cr_aload_n (pc := 42) C dX2_isLater_42 rfl ?_
    refine cr_getr (pc := 43) (c := 2) (k := 1) C (by first | rfl | assumption | (simp [cg_ok]; omega)) rfl (by decide) rfl inX2_isLater_X2 flX2_isLater_15 dX2_isLater_43 ?_
    refine cr_iload_n (pc := 46) C dX2_isLater_46 rfl ?_
    refine cr_iaload (pc := 47) C rfl (by first | rfl | assumption | (simp [cg_ok]; omega)) (by omega) (by decide) dX2_isLater_47 ?_
    rw [cg_sb_s]
    refine cr_icmp_le (pc := 48) (tgt := 55) C dX2_isLater_48 (by decide) (fun h48 => ?_) (fun h48 => ?_)
    · refine cr_iconst (pc := 55) (v := nI 0) C dX2_isLater_55 (by decide) ?_
      refine cr_zreturn (pc := 56) C X dX2_isLater_56 (by first | exact Or.inr rfl | exact Or.inl rfl | assumption) ?_
      have hz : cg_la P w o = false := by
        unfold cg_la
        simp_all [Int32.not_lt, Int32.not_le, Int32.lt_irrefl, Int32.le_refl]
      exact ⟨by rw [hz]; rfl, rfl⟩
    · refine cr_iconst (pc := 51) (v := nI 1) C dX2_isLater_51 (by decide) ?_
      refine cr_goto (pc := 52) (tgt := 56) C dX2_isLater_52 (by decide) ?_
      refine cr_zreturn (pc := 56) C X dX2_isLater_56 (by first | exact Or.inr rfl | exact Or.inl rfl | assumption) ?_
      have hz : cg_la P w o = true := by
        unfold cg_la
        simp_all [Int32.not_lt, Int32.not_le, Int32.lt_irrefl, Int32.le_refl]
      exact ⟨by rw [hz]; rfl, rfl⟩
  · refine cr_aload_n (pc := 15) C dX2_isLater_15 rfl ?_
    refine cr_getr (pc := 16) (c := 2) (k := 5) C (by first | rfl | assumption | (simp [cg_ok]; omega)) rfl (by decide) rfl inX2_isLater_X2 flX2_isLater_28 dX2_isLater_16 ?_
    refine cr_iload_n (pc := 19) C dX2_isLater_19 rfl ?_
    refine cr_iaload (pc := 20) C rfl (by first | rfl | assumption | (simp [cg_ok]; omega)) (by omega) (by decide) dX2_isLater_20 ?_
    rw [cg_sb_s]
    refine cr_aload_n (pc := 21) C dX2_isLater_21 rfl ?_
    refine cr_getr (pc := 22) (c := 2) (k := 5) C (by first | rfl | assumption | (simp [cg_ok]; omega)) rfl (by decide) rfl inX2_isLater_X2 flX2_isLater_28 dX2_isLater_22 ?_
    refine cr_iload_n (pc := 25) C dX2_isLater_25 rfl ?_
    refine cr_iaload (pc := 26) C rfl (by first | rfl | assumption | (simp [cg_ok]; omega)) (by omega) (by decide) dX2_isLater_26 ?_
    rw [cg_sb_s]
    refine cr_icmp_le (pc := 27) (tgt := 34) C dX2_isLater_27 (by decide) (fun h27 => ?_) (fun h27 => ?_)
    · refine cr_iconst (pc := 34) (v := nI 0) C dX2_isLater_34 (by decide) ?_
      refine cr_zreturn (pc := 35) C X dX2_isLater_35 (by first | exact Or.inr rfl | exact Or.inl rfl | assumption) ?_
      have hz : cg_la P w o = false := by
        unfold cg_la
        simp_all [Int32.not_lt, Int32.not_le, Int32.lt_irrefl, Int32.le_refl]
      exact ⟨by rw [hz]; rfl, rfl⟩
    · refine cr_iconst (pc := 30) (v := nI 1) C dX2_isLater_30 (by decide) ?_
      refine cr_goto (pc := 31) (tgt := 35) C dX2_isLater_31 (by decide) ?_
      refine cr_zreturn (pc := 35) C X dX2_isLater_35 (by first | exact Or.inr rfl | exact Or.inl rfl | assumption) ?_
      have hz : cg_la P w o = true := by
        unfold cg_la
        simp_all [Int32.not_lt, Int32.not_le, Int32.lt_irrefl, Int32.le_refl]
      exact ⟨by rw [hz]; rfl, rfl⟩
set_option maxRecDepth 100000 in
set_option maxHeartbeats 4000000 in
theorem sp_greatestCount {M : cg_M} {P : Nat → Int32} {s o : Nat} (hs : s < 16) (ho : o < 3) : cg_D yX2_greatestCount wsX2_greatestCount rmX2_greatestCount [.inr (.inr (0, 0, 0, 0)), .inl (nI s), .inl (nI o)] (cg_sb M 0 P) (some (.inl (cg_gc P s o))) (cg_sb M 0 P) := by
  refine cg_S_of (cc := cX2_greatestCount) (maxL := 5) (ret := (some .int)) (ls0 := [some (.inr (.inr (0, 0, 0, 0))), some (.inl (nI s)), some (.inl (nI o)), none, none]) RX2 rfl (by decide) rfl rfl (Nat.le_of_ble_eq_true rfl) (fun E C X => ?_)
  have hK3 : ∀ a : Int32, a = cg_gc P s o → cg_W E (cg_sb M 0 P) 5 [some (.inr (.inr (0, 0, 0, 0))), some (.inl (nI s)), some (.inl (nI o)), some (.inl a), some (.inl (nI 3))] [] := by
    intro a ha
    refine cr_iload (pc := 5) C dX2_greatestCount_5 rfl ?_
    refine cr_iconst (pc := 7) (v := nI 3) C dX2_greatestCount_7 (by decide) ?_
    refine cr_icmp_ge_t (pc := 8) (tgt := 40) C dX2_greatestCount_8 (by decide) (by decide) ?_
    refine cr_iload_n (pc := 40) C dX2_greatestCount_40 rfl ?_
    refine cr_ireturn (pc := 41) C X dX2_greatestCount_41 ?_
    exact ⟨by rw [ha], rfl⟩
  have hK2 : ∀ a : Int32, (cg_g1 P s o 2 a) = cg_gc P s o → cg_W E (cg_sb M 0 P) 5 [some (.inr (.inr (0, 0, 0, 0))), some (.inl (nI s)), some (.inl (nI o)), some (.inl a), some (.inl (nI 2))] [] := by
    intro a ha
    cases hb : Nat.testBit s 2
    · refine cr_iload (pc := 5) C dX2_greatestCount_5 rfl ?_
      refine cr_iconst (pc := 7) (v := nI 3) C dX2_greatestCount_7 (by decide) ?_
      refine cr_icmp_ge_f (pc := 8) (tgt := 40) C dX2_greatestCount_8 (by decide) (by decide) ?_
      refine cr_iload_n (pc := 11) C dX2_greatestCount_11 rfl ?_
      refine cr_iload (pc := 12) C dX2_greatestCount_12 rfl ?_
      refine cr_dN (pc := 14) C (sp_contains hs (by decide)) rfl gX2_greatestCount_X3_contains_n109 rfl dX2_greatestCount_14 neX3_contains isX2_greatestCount_X3_contains hsX3_contains rfl ⟨rfl, rfl, Nat.le_of_ble_eq_true rfl, Nat.le_of_ble_eq_true rfl⟩ (Nat.le_of_ble_eq_true rfl) rfl ?_
      rw [hb]
      refine cr_if_eq_t (pc := 17) (tgt := 34) C dX2_greatestCount_17 (by decide) (by decide) ?_
      refine cr_iinc (pc := 34) (v := nI 3) C dX2_greatestCount_34 rfl (by decide) (by decide) rfl ?_
      refine cr_goto (pc := 37) (tgt := 5) C dX2_greatestCount_37 (by decide) ?_
      exact hK3 _ (by rw [← ha]; simp [cg_g1, cg_mx, hb])
    · refine cr_iload (pc := 5) C dX2_greatestCount_5 rfl ?_
      refine cr_iconst (pc := 7) (v := nI 3) C dX2_greatestCount_7 (by decide) ?_
      refine cr_icmp_ge_f (pc := 8) (tgt := 40) C dX2_greatestCount_8 (by decide) (by decide) ?_
      refine cr_iload_n (pc := 11) C dX2_greatestCount_11 rfl ?_
      refine cr_iload (pc := 12) C dX2_greatestCount_12 rfl ?_
      refine cr_dN (pc := 14) C (sp_contains hs (by decide)) rfl gX2_greatestCount_X3_contains_n109 rfl dX2_greatestCount_14 neX3_contains isX2_greatestCount_X3_contains hsX3_contains rfl ⟨rfl, rfl, Nat.le_of_ble_eq_true rfl, Nat.le_of_ble_eq_true rfl⟩ (Nat.le_of_ble_eq_true rfl) rfl ?_
      rw [hb]
      refine cr_if_eq_f (pc := 17) (tgt := 34) C dX2_greatestCount_17 (by decide) (by decide) ?_
      refine cr_iload_n (pc := 20) C dX2_greatestCount_20 rfl ?_
      refine cr_aload_n (pc := 21) C dX2_greatestCount_21 rfl ?_
      refine cr_getr (pc := 22) (c := 2) (k := 6) C (by first | rfl | assumption | (simp [cg_ok]; omega)) rfl (by decide) rfl inX2_greatestCount_X2 flX2_greatestCount_33 dX2_greatestCount_22 ?_
      refine cr_iload (pc := 25) C dX2_greatestCount_25 rfl ?_
      refine cr_aaload (pc := 27) C rfl (by first | rfl | assumption | (simp [cg_ok]; omega)) (by decide) (by decide) dX2_greatestCount_27 ?_
      refine cr_iload_n (pc := 28) C dX2_greatestCount_28 rfl ?_
      refine cr_iaload (pc := 29) C rfl (by first | rfl | assumption | (simp [cg_ok]; omega)) (by omega) (by decide) dX2_greatestCount_29 ?_
      rw [cg_sb_s]
      refine cr_max (pc := 30) C dX2_greatestCount_30 mmX2_greatestCount_max ⟨Nat.le_of_ble_eq_true rfl, Nat.le_of_ble_eq_true rfl⟩ (Nat.le_of_ble_eq_true rfl) ?_
      refine cr_istore_n (pc := 33) C dX2_greatestCount_33 (by decide) rfl ?_
      refine cr_iinc (pc := 34) (v := nI 3) C dX2_greatestCount_34 rfl (by decide) (by decide) rfl ?_
      refine cr_goto (pc := 37) (tgt := 5) C dX2_greatestCount_37 (by decide) ?_
      exact hK3 _ (by rw [← ha]; simp [cg_g1, cg_mx, hb])
  have hK1 : ∀ a : Int32, (cg_g1 P s o 2 (cg_g1 P s o 1 a)) = cg_gc P s o → cg_W E (cg_sb M 0 P) 5 [some (.inr (.inr (0, 0, 0, 0))), some (.inl (nI s)), some (.inl (nI o)), some (.inl a), some (.inl (nI 1))] [] := by
    intro a ha
    cases hb : Nat.testBit s 1
    · refine cr_iload (pc := 5) C dX2_greatestCount_5 rfl ?_
      refine cr_iconst (pc := 7) (v := nI 3) C dX2_greatestCount_7 (by decide) ?_
      refine cr_icmp_ge_f (pc := 8) (tgt := 40) C dX2_greatestCount_8 (by decide) (by decide) ?_
      refine cr_iload_n (pc := 11) C dX2_greatestCount_11 rfl ?_
      refine cr_iload (pc := 12) C dX2_greatestCount_12 rfl ?_
      refine cr_dN (pc := 14) C (sp_contains hs (by decide)) rfl gX2_greatestCount_X3_contains_n109 rfl dX2_greatestCount_14 neX3_contains isX2_greatestCount_X3_contains hsX3_contains rfl ⟨rfl, rfl, Nat.le_of_ble_eq_true rfl, Nat.le_of_ble_eq_true rfl⟩ (Nat.le_of_ble_eq_true rfl) rfl ?_
      rw [hb]
      refine cr_if_eq_t (pc := 17) (tgt := 34) C dX2_greatestCount_17 (by decide) (by decide) ?_
      refine cr_iinc (pc := 34) (v := nI 2) C dX2_greatestCount_34 rfl (by decide) (by decide) rfl ?_
      refine cr_goto (pc := 37) (tgt := 5) C dX2_greatestCount_37 (by decide) ?_
      exact hK2 _ (by rw [← ha]; simp [cg_g1, cg_mx, hb])
    · refine cr_iload (pc := 5) C dX2_greatestCount_5 rfl ?_
      refine cr_iconst (pc := 7) (v := nI 3) C dX2_greatestCount_7 (by decide) ?_
      refine cr_icmp_ge_f (pc := 8) (tgt := 40) C dX2_greatestCount_8 (by decide) (by decide) ?_
      refine cr_iload_n (pc := 11) C dX2_greatestCount_11 rfl ?_
      refine cr_iload (pc := 12) C dX2_greatestCount_12 rfl ?_
      refine cr_dN (pc := 14) C (sp_contains hs (by decide)) rfl gX2_greatestCount_X3_contains_n109 rfl dX2_greatestCount_14 neX3_contains isX2_greatestCount_X3_contains hsX3_contains rfl ⟨rfl, rfl, Nat.le_of_ble_eq_true rfl, Nat.le_of_ble_eq_true rfl⟩ (Nat.le_of_ble_eq_true rfl) rfl ?_
      rw [hb]
      refine cr_if_eq_f (pc := 17) (tgt := 34) C dX2_greatestCount_17 (by decide) (by decide) ?_
      refine cr_iload_n (pc := 20) C dX2_greatestCount_20 rfl ?_
      refine cr_aload_n (pc := 21) C dX2_greatestCount_21 rfl ?_
      refine cr_getr (pc := 22) (c := 2) (k := 6) C (by first | rfl | assumption | (simp [cg_ok]; omega)) rfl (by decide) rfl inX2_greatestCount_X2 flX2_greatestCount_33 dX2_greatestCount_22 ?_
      refine cr_iload (pc := 25) C dX2_greatestCount_25 rfl ?_
      refine cr_aaload (pc := 27) C rfl (by first | rfl | assumption | (simp [cg_ok]; omega)) (by decide) (by decide) dX2_greatestCount_27 ?_
      refine cr_iload_n (pc := 28) C dX2_greatestCount_28 rfl ?_
      refine cr_iaload (pc := 29) C rfl (by first | rfl | assumption | (simp [cg_ok]; omega)) (by omega) (by decide) dX2_greatestCount_29 ?_
      rw [cg_sb_s]
      refine cr_max (pc := 30) C dX2_greatestCount_30 mmX2_greatestCount_max ⟨Nat.le_of_ble_eq_true rfl, Nat.le_of_ble_eq_true rfl⟩ (Nat.le_of_ble_eq_true rfl) ?_
      refine cr_istore_n (pc := 33) C dX2_greatestCount_33 (by decide) rfl ?_
      refine cr_iinc (pc := 34) (v := nI 2) C dX2_greatestCount_34 rfl (by decide) (by decide) rfl ?_
      refine cr_goto (pc := 37) (tgt := 5) C dX2_greatestCount_37 (by decide) ?_
      exact hK2 _ (by rw [← ha]; simp [cg_g1, cg_mx, hb])
  have hK0 : ∀ a : Int32, (cg_g1 P s o 2 (cg_g1 P s o 1 (cg_g1 P s o 0 a))) = cg_gc P s o → cg_W E (cg_sb M 0 P) 5 [some (.inr (.inr (0, 0, 0, 0))), some (.inl (nI s)), some (.inl (nI o)), some (.inl a), some (.inl (nI 0))] [] := by
    intro a ha
    cases hb : Nat.testBit s 0
    · refine cr_iload (pc := 5) C dX2_greatestCount_5 rfl ?_
      refine cr_iconst (pc := 7) (v := nI 3) C dX2_greatestCount_7 (by decide) ?_
      refine cr_icmp_ge_f (pc := 8) (tgt := 40) C dX2_greatestCount_8 (by decide) (by decide) ?_
      refine cr_iload_n (pc := 11) C dX2_greatestCount_11 rfl ?_
      refine cr_iload (pc := 12) C dX2_greatestCount_12 rfl ?_
      refine cr_dN (pc := 14) C (sp_contains hs (by decide)) rfl gX2_greatestCount_X3_contains_n109 rfl dX2_greatestCount_14 neX3_contains isX2_greatestCount_X3_contains hsX3_contains rfl ⟨rfl, rfl, Nat.le_of_ble_eq_true rfl, Nat.le_of_ble_eq_true rfl⟩ (Nat.le_of_ble_eq_true rfl) rfl ?_
      rw [hb]
      refine cr_if_eq_t (pc := 17) (tgt := 34) C dX2_greatestCount_17 (by decide) (by decide) ?_
      refine cr_iinc (pc := 34) (v := nI 1) C dX2_greatestCount_34 rfl (by decide) (by decide) rfl ?_
      refine cr_goto (pc := 37) (tgt := 5) C dX2_greatestCount_37 (by decide) ?_
      exact hK1 _ (by rw [← ha]; simp [cg_g1, cg_mx, hb])
    · refine cr_iload (pc := 5) C dX2_greatestCount_5 rfl ?_
      refine cr_iconst (pc := 7) (v := nI 3) C dX2_greatestCount_7 (by decide) ?_
      refine cr_icmp_ge_f (pc := 8) (tgt := 40) C dX2_greatestCount_8 (by decide) (by decide) ?_
      refine cr_iload_n (pc := 11) C dX2_greatestCount_11 rfl ?_
      refine cr_iload (pc := 12) C dX2_greatestCount_12 rfl ?_
      refine cr_dN (pc := 14) C (sp_contains hs (by decide)) rfl gX2_greatestCount_X3_contains_n109 rfl dX2_greatestCount_14 neX3_contains isX2_greatestCount_X3_contains hsX3_contains rfl ⟨rfl, rfl, Nat.le_of_ble_eq_true rfl, Nat.le_of_ble_eq_true rfl⟩ (Nat.le_of_ble_eq_true rfl) rfl ?_
      rw [hb]
      refine cr_if_eq_f (pc := 17) (tgt := 34) C dX2_greatestCount_17 (by decide) (by decide) ?_
      refine cr_iload_n (pc := 20) C dX2_greatestCount_20 rfl ?_
      refine cr_aload_n (pc := 21) C dX2_greatestCount_21 rfl ?_
      refine cr_getr (pc := 22) (c := 2) (k := 6) C (by first | rfl | assumption | (simp [cg_ok]; omega)) rfl (by decide) rfl inX2_greatestCount_X2 flX2_greatestCount_33 dX2_greatestCount_22 ?_
      refine cr_iload (pc := 25) C dX2_greatestCount_25 rfl ?_
      refine cr_aaload (pc := 27) C rfl (by first | rfl | assumption | (simp [cg_ok]; omega)) (by decide) (by decide) dX2_greatestCount_27 ?_
      refine cr_iload_n (pc := 28) C dX2_greatestCount_28 rfl ?_
      refine cr_iaload (pc := 29) C rfl (by first | rfl | assumption | (simp [cg_ok]; omega)) (by omega) (by decide) dX2_greatestCount_29 ?_
      rw [cg_sb_s]
      refine cr_max (pc := 30) C dX2_greatestCount_30 mmX2_greatestCount_max ⟨Nat.le_of_ble_eq_true rfl, Nat.le_of_ble_eq_true rfl⟩ (Nat.le_of_ble_eq_true rfl) ?_
      refine cr_istore_n (pc := 33) C dX2_greatestCount_33 (by decide) rfl ?_
      refine cr_iinc (pc := 34) (v := nI 1) C dX2_greatestCount_34 rfl (by decide) (by decide) rfl ?_
      refine cr_goto (pc := 37) (tgt := 5) C dX2_greatestCount_37 (by decide) ?_
      exact hK1 _ (by rw [← ha]; simp [cg_g1, cg_mx, hb])
  refine cr_iconst (pc := 0) (v := nI 0) C dX2_greatestCount_0 (by decide) ?_
  refine cr_istore_n (pc := 1) C dX2_greatestCount_1 (by decide) rfl ?_
  refine cr_iconst (pc := 2) (v := nI 0) C dX2_greatestCount_2 (by decide) ?_
  refine cr_istore (pc := 3) C dX2_greatestCount_3 (by decide) rfl ?_
  exact hK0 _ rfl
set_option maxRecDepth 100000 in
set_option maxHeartbeats 4000000 in
theorem sp_covers {M : cg_M} {P : Nat → Int32} {s p : Nat} {q : cg_L} (hs : s < 16) (hq : cg_ok q = true) (ha : cg_ai q = some (0, 3, fun j => p + j)) : cg_D yX2_covers wsX2_covers rmX2_covers [.inr (.inr (0, 0, 0, 0)), .inl (nI s), .inr (.inr (q))] (cg_sb M 0 P) (some (.inl (cg_b (cg_cs P s p)))) ((cg_sb M 0 P)) := by
  refine cg_S_of (cc := cX2_covers) (maxL := 4) (ret := (some .boolean)) (ls0 := [some (.inr (.inr (0, 0, 0, 0))), some (.inl (nI s)), some (.inr (.inr (q))), none]) RX2 rfl (by decide) rfl rfl (Nat.le_of_ble_eq_true rfl) (fun E C X => ?_)
  refine cr_iconst (pc := 0) (v := nI 0) C dX2_covers_0 (by decide) ?_
  refine cr_istore_n (pc := 1) C dX2_covers_1 (by decide) rfl ?_
  refine cr_iload_n (pc := 2) C dX2_covers_2 rfl ?_
  refine cr_iconst (pc := 3) (v := nI 3) C dX2_covers_3 (by decide) ?_
  refine cr_icmp_ge_f (pc := 4) (tgt := 27) C dX2_covers_4 (by decide) (by decide) ?_
  refine cr_aload_n (pc := 7) C dX2_covers_7 rfl ?_
  refine cr_iload_n (pc := 8) C dX2_covers_8 rfl ?_
  refine cr_iaload (pc := 9) C (by first | exact ha | rfl) (by first | rfl | assumption | (simp [cg_ok]; omega)) (by decide) (by decide) dX2_covers_9 ?_
  rw [cg_sb_s]
  refine cr_aload_n (pc := 10) C dX2_covers_10 rfl ?_
  refine cr_iload_n (pc := 11) C dX2_covers_11 rfl ?_
  refine cr_iload_n (pc := 12) C dX2_covers_12 rfl ?_
  refine cr_dV (pc := 13) C (sp_greatestCount hs (by decide)) rfl gX2_covers_X2_greatestCount rfl dX2_covers_13 (by first | rfl | assumption | (simp [cg_ok]; omega)) rfl hvX2_greatestCount rfl ⟨rfl, rfl, Nat.le_of_ble_eq_true rfl, Nat.le_of_ble_eq_true rfl⟩ (Nat.le_of_ble_eq_true rfl) rfl ?_
  refine cr_icmp_le (pc := 16) (tgt := 21) C dX2_covers_16 (by decide) (fun h16 => ?_) (fun h16 => ?_)
  · have g0 : decide (P p ≤ cg_gc P s 0) = true := decide_eq_true h16
    refine cr_iinc (pc := 21) (v := nI 1) C dX2_covers_21 rfl (by decide) (by decide) rfl ?_
    refine cr_goto (pc := 24) (tgt := 2) C dX2_covers_24 (by decide) ?_
    refine cr_iload_n (pc := 2) C dX2_covers_2 rfl ?_
    refine cr_iconst (pc := 3) (v := nI 3) C dX2_covers_3 (by decide) ?_
    refine cr_icmp_ge_f (pc := 4) (tgt := 27) C dX2_covers_4 (by decide) (by decide) ?_
    refine cr_aload_n (pc := 7) C dX2_covers_7 rfl ?_
    refine cr_iload_n (pc := 8) C dX2_covers_8 rfl ?_
    refine cr_iaload (pc := 9) C (by first | exact ha | rfl) (by first | rfl | assumption | (simp [cg_ok]; omega)) (by decide) (by decide) dX2_covers_9 ?_
    rw [cg_sb_s]
    refine cr_aload_n (pc := 10) C dX2_covers_10 rfl ?_
    refine cr_iload_n (pc := 11) C dX2_covers_11 rfl ?_
    refine cr_iload_n (pc := 12) C dX2_covers_12 rfl ?_
    refine cr_dV (pc := 13) C (sp_greatestCount hs (by decide)) rfl gX2_covers_X2_greatestCount rfl dX2_covers_13 (by first | rfl | assumption | (simp [cg_ok]; omega)) rfl hvX2_greatestCount rfl ⟨rfl, rfl, Nat.le_of_ble_eq_true rfl, Nat.le_of_ble_eq_true rfl⟩ (Nat.le_of_ble_eq_true rfl) rfl ?_
    refine cr_icmp_le (pc := 16) (tgt := 21) C dX2_covers_16 (by decide) (fun h16 => ?_) (fun h16 => ?_)
    · have g1 : decide (P (p + 1) ≤ cg_gc P s 1) = true := decide_eq_true h16
      refine cr_iinc (pc := 21) (v := nI 2) C dX2_covers_21 rfl (by decide) (by decide) rfl ?_
      refine cr_goto (pc := 24) (tgt := 2) C dX2_covers_24 (by decide) ?_
      refine cr_iload_n (pc := 2) C dX2_covers_2 rfl ?_
      refine cr_iconst (pc := 3) (v := nI 3) C dX2_covers_3 (by decide) ?_
      refine cr_icmp_ge_f (pc := 4) (tgt := 27) C dX2_covers_4 (by decide) (by decide) ?_
      refine cr_aload_n (pc := 7) C dX2_covers_7 rfl ?_
      refine cr_iload_n (pc := 8) C dX2_covers_8 rfl ?_
      refine cr_iaload (pc := 9) C (by first | exact ha | rfl) (by first | rfl | assumption | (simp [cg_ok]; omega)) (by decide) (by decide) dX2_covers_9 ?_
      rw [cg_sb_s]
      refine cr_aload_n (pc := 10) C dX2_covers_10 rfl ?_
      refine cr_iload_n (pc := 11) C dX2_covers_11 rfl ?_
      refine cr_iload_n (pc := 12) C dX2_covers_12 rfl ?_
      refine cr_dV (pc := 13) C (sp_greatestCount hs (by decide)) rfl gX2_covers_X2_greatestCount rfl dX2_covers_13 (by first | rfl | assumption | (simp [cg_ok]; omega)) rfl hvX2_greatestCount rfl ⟨rfl, rfl, Nat.le_of_ble_eq_true rfl, Nat.le_of_ble_eq_true rfl⟩ (Nat.le_of_ble_eq_true rfl) rfl ?_
      refine cr_icmp_le (pc := 16) (tgt := 21) C dX2_covers_16 (by decide) (fun h16 => ?_) (fun h16 => ?_)
      · have g2 : decide (P (p + 2) ≤ cg_gc P s 2) = true := decide_eq_true h16
        refine cr_iinc (pc := 21) (v := nI 3) C dX2_covers_21 rfl (by decide) (by decide) rfl ?_
        refine cr_goto (pc := 24) (tgt := 2) C dX2_covers_24 (by decide) ?_
        refine cr_iload_n (pc := 2) C dX2_covers_2 rfl ?_
        refine cr_iconst (pc := 3) (v := nI 3) C dX2_covers_3 (by decide) ?_
        refine cr_icmp_ge_t (pc := 4) (tgt := 27) C dX2_covers_4 (by decide) (by decide) ?_
        refine cr_iconst (pc := 27) (v := nI 1) C dX2_covers_27 (by decide) ?_
        refine cr_zreturn (pc := 28) C X dX2_covers_28 (by first | exact Or.inr rfl | exact Or.inl rfl | assumption) ?_
        have hz : cg_cs P s p = true := by unfold cg_cs; simp only [*, decide_true, decide_false, Bool.false_and, Bool.and_false, Bool.and_self, Bool.true_and, Bool.and_true]
        exact ⟨by rw [hz]; rfl, rfl⟩
      · have g2 : decide (P (p + 2) ≤ cg_gc P s 2) = false := decide_eq_false h16
        refine cr_iconst (pc := 19) (v := nI 0) C dX2_covers_19 (by decide) ?_
        refine cr_zreturn (pc := 20) C X dX2_covers_20 (by first | exact Or.inr rfl | exact Or.inl rfl | assumption) ?_
        have hz : cg_cs P s p = false := by unfold cg_cs; simp only [*, decide_true, decide_false, Bool.false_and, Bool.and_false, Bool.and_self, Bool.true_and, Bool.and_true]
        exact ⟨by rw [hz]; rfl, rfl⟩
    · have g1 : decide (P (p + 1) ≤ cg_gc P s 1) = false := decide_eq_false h16
      refine cr_iconst (pc := 19) (v := nI 0) C dX2_covers_19 (by decide) ?_
      refine cr_zreturn (pc := 20) C X dX2_covers_20 (by first | exact Or.inr rfl | exact Or.inl rfl | assumption) ?_
      have hz : cg_cs P s p = false := by unfold cg_cs; simp only [*, decide_true, decide_false, Bool.false_and, Bool.and_false, Bool.and_self, Bool.true_and, Bool.and_true]
      exact ⟨by rw [hz]; rfl, rfl⟩
  · have g0 : decide (P p ≤ cg_gc P s 0) = false := decide_eq_false h16
    refine cr_iconst (pc := 19) (v := nI 0) C dX2_covers_19 (by decide) ?_
    refine cr_zreturn (pc := 20) C X dX2_covers_20 (by first | exact Or.inr rfl | exact Or.inl rfl | assumption) ?_
    have hz : cg_cs P s p = false := by unfold cg_cs; simp only [*, decide_true, decide_false, Bool.false_and, Bool.and_false, Bool.and_self, Bool.true_and, Bool.and_true]
    exact ⟨by rw [hz]; rfl, rfl⟩
end
section
/-! ===== State: more ===== -/
def cg_uR (P : Nat → Int32) (c s : Nat) : Nat := (if cg_cs P s (317 + 7 * c) then 0 else 1) + (if cg_cs P s (314 + 7 * c) then 0 else 2)
def cg_uW (P : Nat → Int32) (c r : Nat) : Nat := (if cg_cs P (2 ^ r) (314 + 7 * c) then 0 else 4) + (if cg_cs P (2 ^ r) (317 + 7 * c) then 0 else 8)
theorem cg_uR_lt (P : Nat → Int32) (c s : Nat) : cg_uR P c s < 16 := by unfold cg_uR; split <;> split <;> decide
theorem cg_uW_lt (P : Nat → Int32) (c s : Nat) : cg_uW P c s < 16 := by unfold cg_uW; split <;> split <;> decide
def cg_rA (P : Nat → Int32) (c s : Nat) : Bool := decide ((nI (cg_uR P c s) &&& P (313 + 7 * c)) = 0)
def cg_wA (P : Nat → Int32) (c r : Nat) : Bool := decide ((nI (cg_uW P c r) &&& P (313 + 7 * c)) = 0)
def cg_b1 (u g : Nat) (P : Nat → Int32) : Nat → Int32 := if Nat.testBit u g then upd P (341 + g) (P (341 + g) + nI 1) else P
def cg_cb (P : Nat → Int32) (u : Nat) : Nat → Int32 := cg_b1 u 3 (cg_b1 u 2 (cg_b1 u 1 (cg_b1 u 0 P)))
def cg_m1 (a b o : Nat) (P : Nat → Int32) : Nat → Int32 := upd P (b + o) (cg_mx (P (b + o)) (P (a + o)))
def cg_mg (a b : Nat) (P : Nat → Int32) : Nat → Int32 := cg_m1 a b 2 (cg_m1 a b 1 (cg_m1 a b 0 P))
def cg_f1 (c o : Nat) (q : Int32 × (Nat → Int32)) : Int32 × (Nat → Int32) := (q.1 + (q.2 (314 + 7 * c + o) + q.2 (317 + 7 * c + o)), upd (upd q.2 (314 + 7 * c + o) (nI 0)) (317 + 7 * c + o) (nI 0))
def cg_fg (c : Nat) (P : Nat → Int32) : Int32 × (Nat → Int32) := cg_f1 c 2 (cg_f1 c 1 (cg_f1 c 0 (nI 0, P)))
theorem cg_two3 {r : Nat} (h : r < 3) : 2 ^ r < 16 := by
  match r, h with
  | 0, _ => decide
  | 1, _ => decide
  | 2, _ => decide
  | r + 3, h => exact absurd h (by omega)
set_option maxRecDepth 100000 in
set_option maxHeartbeats 4000000 in
theorem sp_uR {M : cg_M} {P : Nat → Int32} {c s : Nat} (hc : c < 4) (hs : s < 16) : cg_D yX2_unmetByRead wsX2_unmetByRead rmX2_unmetByRead [.inr (.inr (0, 0, 0, 0)), .inl (nI c), .inl (nI s)] (cg_sb M 0 P) (some (.inl (nI (cg_uR P c s)))) ((cg_sb M 0 P)) := by
  cases h1 : cg_cs P s (317 + 7 * c) <;> cases h2 : cg_cs P s (314 + 7 * c)
  · refine cg_S_of (cc := cX2_unmetByRead) (maxL := 4) (ret := (some .int)) (ls0 := [some (.inr (.inr (0, 0, 0, 0))), some (.inl (nI c)), some (.inl (nI s)), none]) RX2 rfl (by decide) rfl rfl (Nat.le_of_ble_eq_true rfl) (fun E C X => ?_)
    refine cr_iconst (pc := 0) (v := nI 0) C dX2_unmetByRead_0 (by decide) ?_
    refine cr_istore_n (pc := 1) C dX2_unmetByRead_1 (by decide) rfl ?_
    refine cr_aload_n (pc := 2) C dX2_unmetByRead_2 rfl ?_
    refine cr_iload_n (pc := 3) C dX2_unmetByRead_3 rfl ?_
    refine cr_aload_n (pc := 4) C dX2_unmetByRead_4 rfl ?_
    refine cr_getr (pc := 5) (c := 2) (k := 10) C (by first | rfl | assumption | (simp [cg_ok]; omega)) rfl (by decide) rfl inX2_unmetByRead_X2 flX2_unmetByRead_45 dX2_unmetByRead_5 ?_
    refine cr_iload_n (pc := 8) C dX2_unmetByRead_8 rfl ?_
    refine cr_aaload (pc := 9) C rfl (by first | rfl | assumption | (simp [cg_ok]; omega)) (by omega) (by decide) dX2_unmetByRead_9 ?_
    refine cr_dV (pc := 10) C (sp_covers hs (by simp [cg_ok]; omega) rfl) rfl gX2_unmetByRead_X2_covers rfl dX2_unmetByRead_10 (by first | rfl | assumption | (simp [cg_ok]; omega)) rfl hvX2_covers rfl ⟨rfl, rfl, Nat.le_of_ble_eq_true rfl, Nat.le_of_ble_eq_true rfl⟩ (Nat.le_of_ble_eq_true rfl) rfl ?_
    rw [h1]
    refine cr_if_ne_f (pc := 13) (tgt := 20) C dX2_unmetByRead_13 (by decide) (by decide) ?_
    refine cr_iload_n (pc := 16) C dX2_unmetByRead_16 rfl ?_
    refine cr_iconst (pc := 17) (v := nI 1) C dX2_unmetByRead_17 (by decide) ?_
    refine cr_ior (pc := 18) C dX2_unmetByRead_18 ?_
    refine cr_istore_n (pc := 19) C dX2_unmetByRead_19 (by decide) rfl ?_
    refine cr_aload_n (pc := 20) C dX2_unmetByRead_20 rfl ?_
    refine cr_iload_n (pc := 21) C dX2_unmetByRead_21 rfl ?_
    refine cr_aload_n (pc := 22) C dX2_unmetByRead_22 rfl ?_
    refine cr_getr (pc := 23) (c := 2) (k := 9) C (by first | rfl | assumption | (simp [cg_ok]; omega)) rfl (by decide) rfl inX2_unmetByRead_X2 flX2_unmetByRead_42 dX2_unmetByRead_23 ?_
    refine cr_iload_n (pc := 26) C dX2_unmetByRead_26 rfl ?_
    refine cr_aaload (pc := 27) C rfl (by first | rfl | assumption | (simp [cg_ok]; omega)) (by omega) (by decide) dX2_unmetByRead_27 ?_
    refine cr_dV (pc := 28) C (sp_covers hs (by simp [cg_ok]; omega) rfl) rfl gX2_unmetByRead_X2_covers rfl dX2_unmetByRead_28 (by first | rfl | assumption | (simp [cg_ok]; omega)) rfl hvX2_covers rfl ⟨rfl, rfl, Nat.le_of_ble_eq_true rfl, Nat.le_of_ble_eq_true rfl⟩ (Nat.le_of_ble_eq_true rfl) rfl ?_
    rw [h2]
    refine cr_if_ne_f (pc := 31) (tgt := 38) C dX2_unmetByRead_31 (by decide) (by decide) ?_
    refine cr_iload_n (pc := 34) C dX2_unmetByRead_34 rfl ?_
    refine cr_iconst (pc := 35) (v := nI 2) C dX2_unmetByRead_35 (by decide) ?_
    refine cr_ior (pc := 36) C dX2_unmetByRead_36 ?_
    refine cr_istore_n (pc := 37) C dX2_unmetByRead_37 (by decide) rfl ?_
    refine cr_iload_n (pc := 38) C dX2_unmetByRead_38 rfl ?_
    refine cr_ireturn (pc := 39) C X dX2_unmetByRead_39 ?_
    exact ⟨by unfold cg_uR; rw [h1, h2]; rfl, rfl⟩
  · refine cg_S_of (cc := cX2_unmetByRead) (maxL := 4) (ret := (some .int)) (ls0 := [some (.inr (.inr (0, 0, 0, 0))), some (.inl (nI c)), some (.inl (nI s)), none]) RX2 rfl (by decide) rfl rfl (Nat.le_of_ble_eq_true rfl) (fun E C X => ?_)
    refine cr_iconst (pc := 0) (v := nI 0) C dX2_unmetByRead_0 (by decide) ?_
    refine cr_istore_n (pc := 1) C dX2_unmetByRead_1 (by decide) rfl ?_
    refine cr_aload_n (pc := 2) C dX2_unmetByRead_2 rfl ?_
    refine cr_iload_n (pc := 3) C dX2_unmetByRead_3 rfl ?_
    refine cr_aload_n (pc := 4) C dX2_unmetByRead_4 rfl ?_
    refine cr_getr (pc := 5) (c := 2) (k := 10) C (by first | rfl | assumption | (simp [cg_ok]; omega)) rfl (by decide) rfl inX2_unmetByRead_X2 flX2_unmetByRead_45 dX2_unmetByRead_5 ?_
    refine cr_iload_n (pc := 8) C dX2_unmetByRead_8 rfl ?_
    refine cr_aaload (pc := 9) C rfl (by first | rfl | assumption | (simp [cg_ok]; omega)) (by omega) (by decide) dX2_unmetByRead_9 ?_
    refine cr_dV (pc := 10) C (sp_covers hs (by simp [cg_ok]; omega) rfl) rfl gX2_unmetByRead_X2_covers rfl dX2_unmetByRead_10 (by first | rfl | assumption | (simp [cg_ok]; omega)) rfl hvX2_covers rfl ⟨rfl, rfl, Nat.le_of_ble_eq_true rfl, Nat.le_of_ble_eq_true rfl⟩ (Nat.le_of_ble_eq_true rfl) rfl ?_
    rw [h1]
    refine cr_if_ne_f (pc := 13) (tgt := 20) C dX2_unmetByRead_13 (by decide) (by decide) ?_
    refine cr_iload_n (pc := 16) C dX2_unmetByRead_16 rfl ?_
    refine cr_iconst (pc := 17) (v := nI 1) C dX2_unmetByRead_17 (by decide) ?_
    refine cr_ior (pc := 18) C dX2_unmetByRead_18 ?_
    refine cr_istore_n (pc := 19) C dX2_unmetByRead_19 (by decide) rfl ?_
    refine cr_aload_n (pc := 20) C dX2_unmetByRead_20 rfl ?_
    refine cr_iload_n (pc := 21) C dX2_unmetByRead_21 rfl ?_
    refine cr_aload_n (pc := 22) C dX2_unmetByRead_22 rfl ?_
    refine cr_getr (pc := 23) (c := 2) (k := 9) C (by first | rfl | assumption | (simp [cg_ok]; omega)) rfl (by decide) rfl inX2_unmetByRead_X2 flX2_unmetByRead_42 dX2_unmetByRead_23 ?_
    refine cr_iload_n (pc := 26) C dX2_unmetByRead_26 rfl ?_
    refine cr_aaload (pc := 27) C rfl (by first | rfl | assumption | (simp [cg_ok]; omega)) (by omega) (by decide) dX2_unmetByRead_27 ?_
    refine cr_dV (pc := 28) C (sp_covers hs (by simp [cg_ok]; omega) rfl) rfl gX2_unmetByRead_X2_covers rfl dX2_unmetByRead_28 (by first | rfl | assumption | (simp [cg_ok]; omega)) rfl hvX2_covers rfl ⟨rfl, rfl, Nat.le_of_ble_eq_true rfl, Nat.le_of_ble_eq_true rfl⟩ (Nat.le_of_ble_eq_true rfl) rfl ?_
    rw [h2]
    refine cr_if_ne_t (pc := 31) (tgt := 38) C dX2_unmetByRead_31 (by decide) (by decide) ?_
    refine cr_iload_n (pc := 38) C dX2_unmetByRead_38 rfl ?_
    refine cr_ireturn (pc := 39) C X dX2_unmetByRead_39 ?_
    exact ⟨by unfold cg_uR; rw [h1, h2]; rfl, rfl⟩
  · refine cg_S_of (cc := cX2_unmetByRead) (maxL := 4) (ret := (some .int)) (ls0 := [some (.inr (.inr (0, 0, 0, 0))), some (.inl (nI c)), some (.inl (nI s)), none]) RX2 rfl (by decide) rfl rfl (Nat.le_of_ble_eq_true rfl) (fun E C X => ?_)
    refine cr_iconst (pc := 0) (v := nI 0) C dX2_unmetByRead_0 (by decide) ?_
    refine cr_istore_n (pc := 1) C dX2_unmetByRead_1 (by decide) rfl ?_
    refine cr_aload_n (pc := 2) C dX2_unmetByRead_2 rfl ?_
    refine cr_iload_n (pc := 3) C dX2_unmetByRead_3 rfl ?_
    refine cr_aload_n (pc := 4) C dX2_unmetByRead_4 rfl ?_
    refine cr_getr (pc := 5) (c := 2) (k := 10) C (by first | rfl | assumption | (simp [cg_ok]; omega)) rfl (by decide) rfl inX2_unmetByRead_X2 flX2_unmetByRead_45 dX2_unmetByRead_5 ?_
    refine cr_iload_n (pc := 8) C dX2_unmetByRead_8 rfl ?_
    refine cr_aaload (pc := 9) C rfl (by first | rfl | assumption | (simp [cg_ok]; omega)) (by omega) (by decide) dX2_unmetByRead_9 ?_
    refine cr_dV (pc := 10) C (sp_covers hs (by simp [cg_ok]; omega) rfl) rfl gX2_unmetByRead_X2_covers rfl dX2_unmetByRead_10 (by first | rfl | assumption | (simp [cg_ok]; omega)) rfl hvX2_covers rfl ⟨rfl, rfl, Nat.le_of_ble_eq_true rfl, Nat.le_of_ble_eq_true rfl⟩ (Nat.le_of_ble_eq_true rfl) rfl ?_
    rw [h1]
    refine cr_if_ne_t (pc := 13) (tgt := 20) C dX2_unmetByRead_13 (by decide) (by decide) ?_
    refine cr_aload_n (pc := 20) C dX2_unmetByRead_20 rfl ?_
    refine cr_iload_n (pc := 21) C dX2_unmetByRead_21 rfl ?_
    refine cr_aload_n (pc := 22) C dX2_unmetByRead_22 rfl ?_
    refine cr_getr (pc := 23) (c := 2) (k := 9) C (by first | rfl | assumption | (simp [cg_ok]; omega)) rfl (by decide) rfl inX2_unmetByRead_X2 flX2_unmetByRead_42 dX2_unmetByRead_23 ?_
    refine cr_iload_n (pc := 26) C dX2_unmetByRead_26 rfl ?_
    refine cr_aaload (pc := 27) C rfl (by first | rfl | assumption | (simp [cg_ok]; omega)) (by omega) (by decide) dX2_unmetByRead_27 ?_
    refine cr_dV (pc := 28) C (sp_covers hs (by simp [cg_ok]; omega) rfl) rfl gX2_unmetByRead_X2_covers rfl dX2_unmetByRead_28 (by first | rfl | assumption | (simp [cg_ok]; omega)) rfl hvX2_covers rfl ⟨rfl, rfl, Nat.le_of_ble_eq_true rfl, Nat.le_of_ble_eq_true rfl⟩ (Nat.le_of_ble_eq_true rfl) rfl ?_
    rw [h2]
    refine cr_if_ne_f (pc := 31) (tgt := 38) C dX2_unmetByRead_31 (by decide) (by decide) ?_
    refine cr_iload_n (pc := 34) C dX2_unmetByRead_34 rfl ?_
    refine cr_iconst (pc := 35) (v := nI 2) C dX2_unmetByRead_35 (by decide) ?_
    refine cr_ior (pc := 36) C dX2_unmetByRead_36 ?_
    refine cr_istore_n (pc := 37) C dX2_unmetByRead_37 (by decide) rfl ?_
    refine cr_iload_n (pc := 38) C dX2_unmetByRead_38 rfl ?_
    refine cr_ireturn (pc := 39) C X dX2_unmetByRead_39 ?_
    exact ⟨by unfold cg_uR; rw [h1, h2]; rfl, rfl⟩
  · refine cg_S_of (cc := cX2_unmetByRead) (maxL := 4) (ret := (some .int)) (ls0 := [some (.inr (.inr (0, 0, 0, 0))), some (.inl (nI c)), some (.inl (nI s)), none]) RX2 rfl (by decide) rfl rfl (Nat.le_of_ble_eq_true rfl) (fun E C X => ?_)
    refine cr_iconst (pc := 0) (v := nI 0) C dX2_unmetByRead_0 (by decide) ?_
    refine cr_istore_n (pc := 1) C dX2_unmetByRead_1 (by decide) rfl ?_
    refine cr_aload_n (pc := 2) C dX2_unmetByRead_2 rfl ?_
    refine cr_iload_n (pc := 3) C dX2_unmetByRead_3 rfl ?_
    refine cr_aload_n (pc := 4) C dX2_unmetByRead_4 rfl ?_
    refine cr_getr (pc := 5) (c := 2) (k := 10) C (by first | rfl | assumption | (simp [cg_ok]; omega)) rfl (by decide) rfl inX2_unmetByRead_X2 flX2_unmetByRead_45 dX2_unmetByRead_5 ?_
    refine cr_iload_n (pc := 8) C dX2_unmetByRead_8 rfl ?_
    refine cr_aaload (pc := 9) C rfl (by first | rfl | assumption | (simp [cg_ok]; omega)) (by omega) (by decide) dX2_unmetByRead_9 ?_
    refine cr_dV (pc := 10) C (sp_covers hs (by simp [cg_ok]; omega) rfl) rfl gX2_unmetByRead_X2_covers rfl dX2_unmetByRead_10 (by first | rfl | assumption | (simp [cg_ok]; omega)) rfl hvX2_covers rfl ⟨rfl, rfl, Nat.le_of_ble_eq_true rfl, Nat.le_of_ble_eq_true rfl⟩ (Nat.le_of_ble_eq_true rfl) rfl ?_
    rw [h1]
    refine cr_if_ne_t (pc := 13) (tgt := 20) C dX2_unmetByRead_13 (by decide) (by decide) ?_
    refine cr_aload_n (pc := 20) C dX2_unmetByRead_20 rfl ?_
    refine cr_iload_n (pc := 21) C dX2_unmetByRead_21 rfl ?_
    refine cr_aload_n (pc := 22) C dX2_unmetByRead_22 rfl ?_
    refine cr_getr (pc := 23) (c := 2) (k := 9) C (by first | rfl | assumption | (simp [cg_ok]; omega)) rfl (by decide) rfl inX2_unmetByRead_X2 flX2_unmetByRead_42 dX2_unmetByRead_23 ?_
    refine cr_iload_n (pc := 26) C dX2_unmetByRead_26 rfl ?_
    refine cr_aaload (pc := 27) C rfl (by first | rfl | assumption | (simp [cg_ok]; omega)) (by omega) (by decide) dX2_unmetByRead_27 ?_
    refine cr_dV (pc := 28) C (sp_covers hs (by simp [cg_ok]; omega) rfl) rfl gX2_unmetByRead_X2_covers rfl dX2_unmetByRead_28 (by first | rfl | assumption | (simp [cg_ok]; omega)) rfl hvX2_covers rfl ⟨rfl, rfl, Nat.le_of_ble_eq_true rfl, Nat.le_of_ble_eq_true rfl⟩ (Nat.le_of_ble_eq_true rfl) rfl ?_
    rw [h2]
    refine cr_if_ne_t (pc := 31) (tgt := 38) C dX2_unmetByRead_31 (by decide) (by decide) ?_
    refine cr_iload_n (pc := 38) C dX2_unmetByRead_38 rfl ?_
    refine cr_ireturn (pc := 39) C X dX2_unmetByRead_39 ?_
    exact ⟨by unfold cg_uR; rw [h1, h2]; rfl, rfl⟩
set_option maxRecDepth 100000 in
set_option maxHeartbeats 4000000 in
theorem sp_uW {M : cg_M} {P : Nat → Int32} {c r : Nat} (hc : c < 4) (hr : r < 3) : cg_D yX2_unmetByWrite wsX2_unmetByWrite rmX2_unmetByWrite [.inr (.inr (0, 0, 0, 0)), .inl (nI c), .inl (nI r)] (cg_sb M 0 P) (some (.inl (nI (cg_uW P c r)))) ((cg_sb M 0 P)) := by
  cases h1 : cg_cs P (2 ^ r) (314 + 7 * c) <;> cases h2 : cg_cs P (2 ^ r) (317 + 7 * c)
  · refine cg_S_of (cc := cX2_unmetByWrite) (maxL := 4) (ret := (some .int)) (ls0 := [some (.inr (.inr (0, 0, 0, 0))), some (.inl (nI c)), some (.inl (nI r)), none]) RX2 rfl (by decide) rfl rfl (Nat.le_of_ble_eq_true rfl) (fun E C X => ?_)
    refine cr_iconst (pc := 0) (v := nI 0) C dX2_unmetByWrite_0 (by decide) ?_
    refine cr_istore_n (pc := 1) C dX2_unmetByWrite_1 (by decide) rfl ?_
    refine cr_aload_n (pc := 2) C dX2_unmetByWrite_2 rfl ?_
    refine cr_iload_n (pc := 3) C dX2_unmetByWrite_3 rfl ?_
    refine cr_dN (pc := 4) C (sp_only hr) rfl gX2_unmetByWrite_X3_only_n73 rfl dX2_unmetByWrite_4 neX3_only isX2_unmetByWrite_X3_only hsX3_only rfl ⟨rfl, rfl, Nat.le_of_ble_eq_true rfl, Nat.le_of_ble_eq_true rfl⟩ (Nat.le_of_ble_eq_true rfl) rfl ?_
    refine cr_aload_n (pc := 7) C dX2_unmetByWrite_7 rfl ?_
    refine cr_getr (pc := 8) (c := 2) (k := 9) C (by first | rfl | assumption | (simp [cg_ok]; omega)) rfl (by decide) rfl inX2_unmetByWrite_X2 flX2_unmetByWrite_42 dX2_unmetByWrite_8 ?_
    refine cr_iload_n (pc := 11) C dX2_unmetByWrite_11 rfl ?_
    refine cr_aaload (pc := 12) C rfl (by first | rfl | assumption | (simp [cg_ok]; omega)) (by omega) (by decide) dX2_unmetByWrite_12 ?_
    refine cr_dV (pc := 13) C (sp_covers (cg_two3 hr) (by simp [cg_ok]; omega) rfl) rfl gX2_unmetByWrite_X2_covers rfl dX2_unmetByWrite_13 (by first | rfl | assumption | (simp [cg_ok]; omega)) rfl hvX2_covers rfl ⟨rfl, rfl, Nat.le_of_ble_eq_true rfl, Nat.le_of_ble_eq_true rfl⟩ (Nat.le_of_ble_eq_true rfl) rfl ?_
    rw [h1]
    refine cr_if_ne_f (pc := 16) (tgt := 23) C dX2_unmetByWrite_16 (by decide) (by decide) ?_
    refine cr_iload_n (pc := 19) C dX2_unmetByWrite_19 rfl ?_
    refine cr_iconst (pc := 20) (v := nI 4) C dX2_unmetByWrite_20 (by decide) ?_
    refine cr_ior (pc := 21) C dX2_unmetByWrite_21 ?_
    refine cr_istore_n (pc := 22) C dX2_unmetByWrite_22 (by decide) rfl ?_
    refine cr_aload_n (pc := 23) C dX2_unmetByWrite_23 rfl ?_
    refine cr_iload_n (pc := 24) C dX2_unmetByWrite_24 rfl ?_
    refine cr_dN (pc := 25) C (sp_only hr) rfl gX2_unmetByWrite_X3_only_n73 rfl dX2_unmetByWrite_25 neX3_only isX2_unmetByWrite_X3_only hsX3_only rfl ⟨rfl, rfl, Nat.le_of_ble_eq_true rfl, Nat.le_of_ble_eq_true rfl⟩ (Nat.le_of_ble_eq_true rfl) rfl ?_
    refine cr_aload_n (pc := 28) C dX2_unmetByWrite_28 rfl ?_
    refine cr_getr (pc := 29) (c := 2) (k := 10) C (by first | rfl | assumption | (simp [cg_ok]; omega)) rfl (by decide) rfl inX2_unmetByWrite_X2 flX2_unmetByWrite_45 dX2_unmetByWrite_29 ?_
    refine cr_iload_n (pc := 32) C dX2_unmetByWrite_32 rfl ?_
    refine cr_aaload (pc := 33) C rfl (by first | rfl | assumption | (simp [cg_ok]; omega)) (by omega) (by decide) dX2_unmetByWrite_33 ?_
    refine cr_dV (pc := 34) C (sp_covers (cg_two3 hr) (by simp [cg_ok]; omega) rfl) rfl gX2_unmetByWrite_X2_covers rfl dX2_unmetByWrite_34 (by first | rfl | assumption | (simp [cg_ok]; omega)) rfl hvX2_covers rfl ⟨rfl, rfl, Nat.le_of_ble_eq_true rfl, Nat.le_of_ble_eq_true rfl⟩ (Nat.le_of_ble_eq_true rfl) rfl ?_
    rw [h2]
    refine cr_if_ne_f (pc := 37) (tgt := 45) C dX2_unmetByWrite_37 (by decide) (by decide) ?_
    refine cr_iload_n (pc := 40) C dX2_unmetByWrite_40 rfl ?_
    refine cr_bipush (pc := 41) (v := nI 8) C dX2_unmetByWrite_41 (by decide) ?_
    refine cr_ior (pc := 43) C dX2_unmetByWrite_43 ?_
    refine cr_istore_n (pc := 44) C dX2_unmetByWrite_44 (by decide) rfl ?_
    refine cr_iload_n (pc := 45) C dX2_unmetByWrite_45 rfl ?_
    refine cr_ireturn (pc := 46) C X dX2_unmetByWrite_46 ?_
    exact ⟨by unfold cg_uW; rw [h1, h2]; rfl, rfl⟩
  · refine cg_S_of (cc := cX2_unmetByWrite) (maxL := 4) (ret := (some .int)) (ls0 := [some (.inr (.inr (0, 0, 0, 0))), some (.inl (nI c)), some (.inl (nI r)), none]) RX2 rfl (by decide) rfl rfl (Nat.le_of_ble_eq_true rfl) (fun E C X => ?_)
    refine cr_iconst (pc := 0) (v := nI 0) C dX2_unmetByWrite_0 (by decide) ?_
    refine cr_istore_n (pc := 1) C dX2_unmetByWrite_1 (by decide) rfl ?_
    refine cr_aload_n (pc := 2) C dX2_unmetByWrite_2 rfl ?_
    refine cr_iload_n (pc := 3) C dX2_unmetByWrite_3 rfl ?_
    refine cr_dN (pc := 4) C (sp_only hr) rfl gX2_unmetByWrite_X3_only_n73 rfl dX2_unmetByWrite_4 neX3_only isX2_unmetByWrite_X3_only hsX3_only rfl ⟨rfl, rfl, Nat.le_of_ble_eq_true rfl, Nat.le_of_ble_eq_true rfl⟩ (Nat.le_of_ble_eq_true rfl) rfl ?_
    refine cr_aload_n (pc := 7) C dX2_unmetByWrite_7 rfl ?_
    refine cr_getr (pc := 8) (c := 2) (k := 9) C (by first | rfl | assumption | (simp [cg_ok]; omega)) rfl (by decide) rfl inX2_unmetByWrite_X2 flX2_unmetByWrite_42 dX2_unmetByWrite_8 ?_
    refine cr_iload_n (pc := 11) C dX2_unmetByWrite_11 rfl ?_
    refine cr_aaload (pc := 12) C rfl (by first | rfl | assumption | (simp [cg_ok]; omega)) (by omega) (by decide) dX2_unmetByWrite_12 ?_
    refine cr_dV (pc := 13) C (sp_covers (cg_two3 hr) (by simp [cg_ok]; omega) rfl) rfl gX2_unmetByWrite_X2_covers rfl dX2_unmetByWrite_13 (by first | rfl | assumption | (simp [cg_ok]; omega)) rfl hvX2_covers rfl ⟨rfl, rfl, Nat.le_of_ble_eq_true rfl, Nat.le_of_ble_eq_true rfl⟩ (Nat.le_of_ble_eq_true rfl) rfl ?_
    rw [h1]
    refine cr_if_ne_f (pc := 16) (tgt := 23) C dX2_unmetByWrite_16 (by decide) (by decide) ?_
    refine cr_iload_n (pc := 19) C dX2_unmetByWrite_19 rfl ?_
    refine cr_iconst (pc := 20) (v := nI 4) C dX2_unmetByWrite_20 (by decide) ?_
    refine cr_ior (pc := 21) C dX2_unmetByWrite_21 ?_
    refine cr_istore_n (pc := 22) C dX2_unmetByWrite_22 (by decide) rfl ?_
    refine cr_aload_n (pc := 23) C dX2_unmetByWrite_23 rfl ?_
    refine cr_iload_n (pc := 24) C dX2_unmetByWrite_24 rfl ?_
    refine cr_dN (pc := 25) C (sp_only hr) rfl gX2_unmetByWrite_X3_only_n73 rfl dX2_unmetByWrite_25 neX3_only isX2_unmetByWrite_X3_only hsX3_only rfl ⟨rfl, rfl, Nat.le_of_ble_eq_true rfl, Nat.le_of_ble_eq_true rfl⟩ (Nat.le_of_ble_eq_true rfl) rfl ?_
    refine cr_aload_n (pc := 28) C dX2_unmetByWrite_28 rfl ?_
    refine cr_getr (pc := 29) (c := 2) (k := 10) C (by first | rfl | assumption | (simp [cg_ok]; omega)) rfl (by decide) rfl inX2_unmetByWrite_X2 flX2_unmetByWrite_45 dX2_unmetByWrite_29 ?_
    refine cr_iload_n (pc := 32) C dX2_unmetByWrite_32 rfl ?_
    refine cr_aaload (pc := 33) C rfl (by first | rfl | assumption | (simp [cg_ok]; omega)) (by omega) (by decide) dX2_unmetByWrite_33 ?_
    refine cr_dV (pc := 34) C (sp_covers (cg_two3 hr) (by simp [cg_ok]; omega) rfl) rfl gX2_unmetByWrite_X2_covers rfl dX2_unmetByWrite_34 (by first | rfl | assumption | (simp [cg_ok]; omega)) rfl hvX2_covers rfl ⟨rfl, rfl, Nat.le_of_ble_eq_true rfl, Nat.le_of_ble_eq_true rfl⟩ (Nat.le_of_ble_eq_true rfl) rfl ?_
    rw [h2]
    refine cr_if_ne_t (pc := 37) (tgt := 45) C dX2_unmetByWrite_37 (by decide) (by decide) ?_
    refine cr_iload_n (pc := 45) C dX2_unmetByWrite_45 rfl ?_
    refine cr_ireturn (pc := 46) C X dX2_unmetByWrite_46 ?_
    exact ⟨by unfold cg_uW; rw [h1, h2]; rfl, rfl⟩
  · refine cg_S_of (cc := cX2_unmetByWrite) (maxL := 4) (ret := (some .int)) (ls0 := [some (.inr (.inr (0, 0, 0, 0))), some (.inl (nI c)), some (.inl (nI r)), none]) RX2 rfl (by decide) rfl rfl (Nat.le_of_ble_eq_true rfl) (fun E C X => ?_)
    refine cr_iconst (pc := 0) (v := nI 0) C dX2_unmetByWrite_0 (by decide) ?_
    refine cr_istore_n (pc := 1) C dX2_unmetByWrite_1 (by decide) rfl ?_
    refine cr_aload_n (pc := 2) C dX2_unmetByWrite_2 rfl ?_
    refine cr_iload_n (pc := 3) C dX2_unmetByWrite_3 rfl ?_
    refine cr_dN (pc := 4) C (sp_only hr) rfl gX2_unmetByWrite_X3_only_n73 rfl dX2_unmetByWrite_4 neX3_only isX2_unmetByWrite_X3_only hsX3_only rfl ⟨rfl, rfl, Nat.le_of_ble_eq_true rfl, Nat.le_of_ble_eq_true rfl⟩ (Nat.le_of_ble_eq_true rfl) rfl ?_
    refine cr_aload_n (pc := 7) C dX2_unmetByWrite_7 rfl ?_
    refine cr_getr (pc := 8) (c := 2) (k := 9) C (by first | rfl | assumption | (simp [cg_ok]; omega)) rfl (by decide) rfl inX2_unmetByWrite_X2 flX2_unmetByWrite_42 dX2_unmetByWrite_8 ?_
    refine cr_iload_n (pc := 11) C dX2_unmetByWrite_11 rfl ?_
    refine cr_aaload (pc := 12) C rfl (by first | rfl | assumption | (simp [cg_ok]; omega)) (by omega) (by decide) dX2_unmetByWrite_12 ?_
    refine cr_dV (pc := 13) C (sp_covers (cg_two3 hr) (by simp [cg_ok]; omega) rfl) rfl gX2_unmetByWrite_X2_covers rfl dX2_unmetByWrite_13 (by first | rfl | assumption | (simp [cg_ok]; omega)) rfl hvX2_covers rfl ⟨rfl, rfl, Nat.le_of_ble_eq_true rfl, Nat.le_of_ble_eq_true rfl⟩ (Nat.le_of_ble_eq_true rfl) rfl ?_
    rw [h1]
    refine cr_if_ne_t (pc := 16) (tgt := 23) C dX2_unmetByWrite_16 (by decide) (by decide) ?_
    refine cr_aload_n (pc := 23) C dX2_unmetByWrite_23 rfl ?_
    refine cr_iload_n (pc := 24) C dX2_unmetByWrite_24 rfl ?_
    refine cr_dN (pc := 25) C (sp_only hr) rfl gX2_unmetByWrite_X3_only_n73 rfl dX2_unmetByWrite_25 neX3_only isX2_unmetByWrite_X3_only hsX3_only rfl ⟨rfl, rfl, Nat.le_of_ble_eq_true rfl, Nat.le_of_ble_eq_true rfl⟩ (Nat.le_of_ble_eq_true rfl) rfl ?_
    refine cr_aload_n (pc := 28) C dX2_unmetByWrite_28 rfl ?_
    refine cr_getr (pc := 29) (c := 2) (k := 10) C (by first | rfl | assumption | (simp [cg_ok]; omega)) rfl (by decide) rfl inX2_unmetByWrite_X2 flX2_unmetByWrite_45 dX2_unmetByWrite_29 ?_
    refine cr_iload_n (pc := 32) C dX2_unmetByWrite_32 rfl ?_
    refine cr_aaload (pc := 33) C rfl (by first | rfl | assumption | (simp [cg_ok]; omega)) (by omega) (by decide) dX2_unmetByWrite_33 ?_
    refine cr_dV (pc := 34) C (sp_covers (cg_two3 hr) (by simp [cg_ok]; omega) rfl) rfl gX2_unmetByWrite_X2_covers rfl dX2_unmetByWrite_34 (by first | rfl | assumption | (simp [cg_ok]; omega)) rfl hvX2_covers rfl ⟨rfl, rfl, Nat.le_of_ble_eq_true rfl, Nat.le_of_ble_eq_true rfl⟩ (Nat.le_of_ble_eq_true rfl) rfl ?_
    rw [h2]
    refine cr_if_ne_f (pc := 37) (tgt := 45) C dX2_unmetByWrite_37 (by decide) (by decide) ?_
    refine cr_iload_n (pc := 40) C dX2_unmetByWrite_40 rfl ?_
    refine cr_bipush (pc := 41) (v := nI 8) C dX2_unmetByWrite_41 (by decide) ?_
    refine cr_ior (pc := 43) C dX2_unmetByWrite_43 ?_
    refine cr_istore_n (pc := 44) C dX2_unmetByWrite_44 (by decide) rfl ?_
    refine cr_iload_n (pc := 45) C dX2_unmetByWrite_45 rfl ?_
    refine cr_ireturn (pc := 46) C X dX2_unmetByWrite_46 ?_
    exact ⟨by unfold cg_uW; rw [h1, h2]; rfl, rfl⟩
  · refine cg_S_of (cc := cX2_unmetByWrite) (maxL := 4) (ret := (some .int)) (ls0 := [some (.inr (.inr (0, 0, 0, 0))), some (.inl (nI c)), some (.inl (nI r)), none]) RX2 rfl (by decide) rfl rfl (Nat.le_of_ble_eq_true rfl) (fun E C X => ?_)
    refine cr_iconst (pc := 0) (v := nI 0) C dX2_unmetByWrite_0 (by decide) ?_
    refine cr_istore_n (pc := 1) C dX2_unmetByWrite_1 (by decide) rfl ?_
    refine cr_aload_n (pc := 2) C dX2_unmetByWrite_2 rfl ?_
    refine cr_iload_n (pc := 3) C dX2_unmetByWrite_3 rfl ?_
    refine cr_dN (pc := 4) C (sp_only hr) rfl gX2_unmetByWrite_X3_only_n73 rfl dX2_unmetByWrite_4 neX3_only isX2_unmetByWrite_X3_only hsX3_only rfl ⟨rfl, rfl, Nat.le_of_ble_eq_true rfl, Nat.le_of_ble_eq_true rfl⟩ (Nat.le_of_ble_eq_true rfl) rfl ?_
    refine cr_aload_n (pc := 7) C dX2_unmetByWrite_7 rfl ?_
    refine cr_getr (pc := 8) (c := 2) (k := 9) C (by first | rfl | assumption | (simp [cg_ok]; omega)) rfl (by decide) rfl inX2_unmetByWrite_X2 flX2_unmetByWrite_42 dX2_unmetByWrite_8 ?_
    refine cr_iload_n (pc := 11) C dX2_unmetByWrite_11 rfl ?_
    refine cr_aaload (pc := 12) C rfl (by first | rfl | assumption | (simp [cg_ok]; omega)) (by omega) (by decide) dX2_unmetByWrite_12 ?_
    refine cr_dV (pc := 13) C (sp_covers (cg_two3 hr) (by simp [cg_ok]; omega) rfl) rfl gX2_unmetByWrite_X2_covers rfl dX2_unmetByWrite_13 (by first | rfl | assumption | (simp [cg_ok]; omega)) rfl hvX2_covers rfl ⟨rfl, rfl, Nat.le_of_ble_eq_true rfl, Nat.le_of_ble_eq_true rfl⟩ (Nat.le_of_ble_eq_true rfl) rfl ?_
    rw [h1]
    refine cr_if_ne_t (pc := 16) (tgt := 23) C dX2_unmetByWrite_16 (by decide) (by decide) ?_
    refine cr_aload_n (pc := 23) C dX2_unmetByWrite_23 rfl ?_
    refine cr_iload_n (pc := 24) C dX2_unmetByWrite_24 rfl ?_
    refine cr_dN (pc := 25) C (sp_only hr) rfl gX2_unmetByWrite_X3_only_n73 rfl dX2_unmetByWrite_25 neX3_only isX2_unmetByWrite_X3_only hsX3_only rfl ⟨rfl, rfl, Nat.le_of_ble_eq_true rfl, Nat.le_of_ble_eq_true rfl⟩ (Nat.le_of_ble_eq_true rfl) rfl ?_
    refine cr_aload_n (pc := 28) C dX2_unmetByWrite_28 rfl ?_
    refine cr_getr (pc := 29) (c := 2) (k := 10) C (by first | rfl | assumption | (simp [cg_ok]; omega)) rfl (by decide) rfl inX2_unmetByWrite_X2 flX2_unmetByWrite_45 dX2_unmetByWrite_29 ?_
    refine cr_iload_n (pc := 32) C dX2_unmetByWrite_32 rfl ?_
    refine cr_aaload (pc := 33) C rfl (by first | rfl | assumption | (simp [cg_ok]; omega)) (by omega) (by decide) dX2_unmetByWrite_33 ?_
    refine cr_dV (pc := 34) C (sp_covers (cg_two3 hr) (by simp [cg_ok]; omega) rfl) rfl gX2_unmetByWrite_X2_covers rfl dX2_unmetByWrite_34 (by first | rfl | assumption | (simp [cg_ok]; omega)) rfl hvX2_covers rfl ⟨rfl, rfl, Nat.le_of_ble_eq_true rfl, Nat.le_of_ble_eq_true rfl⟩ (Nat.le_of_ble_eq_true rfl) rfl ?_
    rw [h2]
    refine cr_if_ne_t (pc := 37) (tgt := 45) C dX2_unmetByWrite_37 (by decide) (by decide) ?_
    refine cr_iload_n (pc := 45) C dX2_unmetByWrite_45 rfl ?_
    refine cr_ireturn (pc := 46) C X dX2_unmetByWrite_46 ?_
    exact ⟨by unfold cg_uW; rw [h1, h2]; rfl, rfl⟩
set_option maxRecDepth 100000 in
set_option maxHeartbeats 4000000 in
theorem sp_rA {M : cg_M} {P : Nat → Int32} {c s : Nat} (hc : c < 4) (hs : s < 16) : cg_D yX2_isReadAllowed wsX2_isReadAllowed rmX2_isReadAllowed [.inr (.inr (0, 0, 0, 0)), .inl (nI c), .inl (nI s)] (cg_sb M 0 P) (some (.inl (cg_b (cg_rA P c s)))) ((cg_sb M 0 P)) := by
  refine cg_S_of (cc := cX2_isReadAllowed) (maxL := 3) (ret := (some .boolean)) (ls0 := [some (.inr (.inr (0, 0, 0, 0))), some (.inl (nI c)), some (.inl (nI s))]) RX2 rfl (by decide) rfl rfl (Nat.le_of_ble_eq_true rfl) (fun E C X => ?_)
  refine cr_aload_n (pc := 0) C dX2_isReadAllowed_0 rfl ?_
  refine cr_iload_n (pc := 1) C dX2_isReadAllowed_1 rfl ?_
  refine cr_iload_n (pc := 2) C dX2_isReadAllowed_2 rfl ?_
  refine cr_dV (pc := 3) C (sp_uR hc hs) rfl gX2_isReadAllowed_X2_unmetByRead rfl dX2_isReadAllowed_3 (by first | rfl | assumption | (simp [cg_ok]; omega)) rfl hvX2_unmetByRead rfl ⟨rfl, rfl, Nat.le_of_ble_eq_true rfl, Nat.le_of_ble_eq_true rfl⟩ (Nat.le_of_ble_eq_true rfl) rfl ?_
  refine cr_aload_n (pc := 6) C dX2_isReadAllowed_6 rfl ?_
  refine cr_getr (pc := 7) (c := 2) (k := 8) C (by first | rfl | assumption | (simp [cg_ok]; omega)) rfl (by decide) rfl inX2_isReadAllowed_X2 flX2_isReadAllowed_39 dX2_isReadAllowed_7 ?_
  refine cr_iload_n (pc := 10) C dX2_isReadAllowed_10 rfl ?_
  refine cr_iaload (pc := 11) C rfl (by first | rfl | assumption | (simp [cg_ok]; omega)) (by omega) (by decide) dX2_isReadAllowed_11 ?_
  rw [cg_sb_s]
  refine cr_iand (pc := 12) C dX2_isReadAllowed_12 ?_
  refine cr_if_ne (pc := 13) (tgt := 20) C dX2_isReadAllowed_13 (by decide) (fun h13 => ?_) (fun h13 => ?_)
  · refine cr_iconst (pc := 20) (v := nI 0) C dX2_isReadAllowed_20 (by decide) ?_
    refine cr_zreturn (pc := 21) C X dX2_isReadAllowed_21 (by first | exact Or.inr rfl | exact Or.inl rfl | assumption) ?_
    exact ⟨by simp [cg_rA, cg_b, h13], rfl⟩
  · refine cr_iconst (pc := 16) (v := nI 1) C dX2_isReadAllowed_16 (by decide) ?_
    refine cr_goto (pc := 17) (tgt := 21) C dX2_isReadAllowed_17 (by decide) ?_
    refine cr_zreturn (pc := 21) C X dX2_isReadAllowed_21 (by first | exact Or.inr rfl | exact Or.inl rfl | assumption) ?_
    exact ⟨by simp [cg_rA, cg_b, h13], rfl⟩
set_option maxRecDepth 100000 in
set_option maxHeartbeats 4000000 in
theorem sp_wA {M : cg_M} {P : Nat → Int32} {c r : Nat} (hc : c < 4) (hr : r < 3) : cg_D yX2_isWriteAllowed wsX2_isWriteAllowed rmX2_isWriteAllowed [.inr (.inr (0, 0, 0, 0)), .inl (nI c), .inl (nI r)] (cg_sb M 0 P) (some (.inl (cg_b (cg_wA P c r)))) ((cg_sb M 0 P)) := by
  refine cg_S_of (cc := cX2_isWriteAllowed) (maxL := 3) (ret := (some .boolean)) (ls0 := [some (.inr (.inr (0, 0, 0, 0))), some (.inl (nI c)), some (.inl (nI r))]) RX2 rfl (by decide) rfl rfl (Nat.le_of_ble_eq_true rfl) (fun E C X => ?_)
  refine cr_aload_n (pc := 0) C dX2_isWriteAllowed_0 rfl ?_
  refine cr_iload_n (pc := 1) C dX2_isWriteAllowed_1 rfl ?_
  refine cr_iload_n (pc := 2) C dX2_isWriteAllowed_2 rfl ?_
  refine cr_dV (pc := 3) C (sp_uW hc hr) rfl gX2_isWriteAllowed_X2_unmetByWrite rfl dX2_isWriteAllowed_3 (by first | rfl | assumption | (simp [cg_ok]; omega)) rfl hvX2_unmetByWrite rfl ⟨rfl, rfl, Nat.le_of_ble_eq_true rfl, Nat.le_of_ble_eq_true rfl⟩ (Nat.le_of_ble_eq_true rfl) rfl ?_
  refine cr_aload_n (pc := 6) C dX2_isWriteAllowed_6 rfl ?_
  refine cr_getr (pc := 7) (c := 2) (k := 8) C (by first | rfl | assumption | (simp [cg_ok]; omega)) rfl (by decide) rfl inX2_isWriteAllowed_X2 flX2_isWriteAllowed_39 dX2_isWriteAllowed_7 ?_
  refine cr_iload_n (pc := 10) C dX2_isWriteAllowed_10 rfl ?_
  refine cr_iaload (pc := 11) C rfl (by first | rfl | assumption | (simp [cg_ok]; omega)) (by omega) (by decide) dX2_isWriteAllowed_11 ?_
  rw [cg_sb_s]
  refine cr_iand (pc := 12) C dX2_isWriteAllowed_12 ?_
  refine cr_if_ne (pc := 13) (tgt := 20) C dX2_isWriteAllowed_13 (by decide) (fun h13 => ?_) (fun h13 => ?_)
  · refine cr_iconst (pc := 20) (v := nI 0) C dX2_isWriteAllowed_20 (by decide) ?_
    refine cr_zreturn (pc := 21) C X dX2_isWriteAllowed_21 (by first | exact Or.inr rfl | exact Or.inl rfl | assumption) ?_
    exact ⟨by simp [cg_wA, cg_b, h13], rfl⟩
  · refine cr_iconst (pc := 16) (v := nI 1) C dX2_isWriteAllowed_16 (by decide) ?_
    refine cr_goto (pc := 17) (tgt := 21) C dX2_isWriteAllowed_17 (by decide) ?_
    refine cr_zreturn (pc := 21) C X dX2_isWriteAllowed_21 (by first | exact Or.inr rfl | exact Or.inl rfl | assumption) ?_
    exact ⟨by simp [cg_wA, cg_b, h13], rfl⟩
set_option maxRecDepth 100000 in
set_option maxHeartbeats 4000000 in
theorem sp_cb {M : cg_M} {P : Nat → Int32} {u : Nat} (hu : u < 16) : cg_D yX2_countBreaches wsX2_countBreaches rmX2_countBreaches [.inr (.inr (0, 0, 0, 0)), .inl (nI u)] (cg_sb M 0 P) none (cg_sb M 0 (cg_cb P u)) := by
  refine cg_S_of (cc := cX2_countBreaches) (maxL := 3) (ret := none) (ls0 := [some (.inr (.inr (0, 0, 0, 0))), some (.inl (nI u)), none]) RX2 rfl (by decide) rfl rfl (Nat.le_of_ble_eq_true rfl) (fun E C X => ?_)
  have hK4 : ∀ A : Nat → Int32, A = cg_cb P u → cg_W E (cg_sb M 0 A) 2 [some (.inr (.inr (0, 0, 0, 0))), some (.inl (nI u)), some (.inl (nI 4))] [] := by
    intro A ha
    refine cr_iload_n (pc := 2) C dX2_countBreaches_2 rfl ?_
    refine cr_iconst (pc := 3) (v := nI 4) C dX2_countBreaches_3 (by decide) ?_
    refine cr_icmp_ge_t (pc := 4) (tgt := 31) C dX2_countBreaches_4 (by decide) (by decide) ?_
    refine cr_return (pc := 31) C X dX2_countBreaches_31 ?_
    exact ⟨rfl, by rw [ha]⟩
  have hK3 : ∀ A : Nat → Int32, (cg_b1 u 3 A) = cg_cb P u → cg_W E (cg_sb M 0 A) 2 [some (.inr (.inr (0, 0, 0, 0))), some (.inl (nI u)), some (.inl (nI 3))] [] := by
    intro A ha
    cases hb : Nat.testBit u 3
    · refine cr_iload_n (pc := 2) C dX2_countBreaches_2 rfl ?_
      refine cr_iconst (pc := 3) (v := nI 4) C dX2_countBreaches_3 (by decide) ?_
      refine cr_icmp_ge_f (pc := 4) (tgt := 31) C dX2_countBreaches_4 (by decide) (by decide) ?_
      refine cr_iload_n (pc := 7) C dX2_countBreaches_7 rfl ?_
      refine cr_iload_n (pc := 8) C dX2_countBreaches_8 rfl ?_
      refine cr_dN (pc := 9) C (sp_contains hu (by decide)) rfl gX2_countBreaches_X3_contains_n109 rfl dX2_countBreaches_9 neX3_contains isX2_countBreaches_X3_contains hsX3_contains rfl ⟨rfl, rfl, Nat.le_of_ble_eq_true rfl, Nat.le_of_ble_eq_true rfl⟩ (Nat.le_of_ble_eq_true rfl) rfl ?_
      rw [hb]
      refine cr_if_eq_t (pc := 12) (tgt := 25) C dX2_countBreaches_12 (by decide) (by decide) ?_
      refine cr_iinc (pc := 25) (v := nI 4) C dX2_countBreaches_25 rfl (by decide) (by decide) rfl ?_
      refine cr_goto (pc := 28) (tgt := 2) C dX2_countBreaches_28 (by decide) ?_
      exact hK4 _ (by rw [← ha]; simp [cg_b1, hb])
    · refine cr_iload_n (pc := 2) C dX2_countBreaches_2 rfl ?_
      refine cr_iconst (pc := 3) (v := nI 4) C dX2_countBreaches_3 (by decide) ?_
      refine cr_icmp_ge_f (pc := 4) (tgt := 31) C dX2_countBreaches_4 (by decide) (by decide) ?_
      refine cr_iload_n (pc := 7) C dX2_countBreaches_7 rfl ?_
      refine cr_iload_n (pc := 8) C dX2_countBreaches_8 rfl ?_
      refine cr_dN (pc := 9) C (sp_contains hu (by decide)) rfl gX2_countBreaches_X3_contains_n109 rfl dX2_countBreaches_9 neX3_contains isX2_countBreaches_X3_contains hsX3_contains rfl ⟨rfl, rfl, Nat.le_of_ble_eq_true rfl, Nat.le_of_ble_eq_true rfl⟩ (Nat.le_of_ble_eq_true rfl) rfl ?_
      rw [hb]
      refine cr_if_eq_f (pc := 12) (tgt := 25) C dX2_countBreaches_12 (by decide) (by decide) ?_
      refine cr_aload_n (pc := 15) C dX2_countBreaches_15 rfl ?_
      refine cr_getr (pc := 16) (c := 2) (k := 11) C (by first | rfl | assumption | (simp [cg_ok]; omega)) rfl (by decide) rfl inX2_countBreaches_X2 flX2_countBreaches_48 dX2_countBreaches_16 ?_
      refine cr_iload_n (pc := 19) C dX2_countBreaches_19 rfl ?_
      refine cr_dup2 (pc := 20) C dX2_countBreaches_20 rfl rfl ?_
      refine cr_iaload (pc := 21) C rfl (by first | rfl | assumption | (simp [cg_ok]; omega)) (by decide) (by decide) dX2_countBreaches_21 ?_
      rw [cg_sb_s]
      refine cr_iconst (pc := 22) (v := nI 1) C dX2_countBreaches_22 (by decide) ?_
      refine cr_iadd (pc := 23) C dX2_countBreaches_23 ?_
      refine cr_iastore (pc := 24) C rfl (by first | rfl | assumption | (simp [cg_ok]; omega)) (by decide) (by decide) dX2_countBreaches_24 ?_
      rw [cg_up_sb]
      refine cr_iinc (pc := 25) (v := nI 4) C dX2_countBreaches_25 rfl (by decide) (by decide) rfl ?_
      refine cr_goto (pc := 28) (tgt := 2) C dX2_countBreaches_28 (by decide) ?_
      exact hK4 _ (by rw [← ha]; simp [cg_b1, hb])
  have hK2 : ∀ A : Nat → Int32, (cg_b1 u 3 (cg_b1 u 2 A)) = cg_cb P u → cg_W E (cg_sb M 0 A) 2 [some (.inr (.inr (0, 0, 0, 0))), some (.inl (nI u)), some (.inl (nI 2))] [] := by
    intro A ha
    cases hb : Nat.testBit u 2
    · refine cr_iload_n (pc := 2) C dX2_countBreaches_2 rfl ?_
      refine cr_iconst (pc := 3) (v := nI 4) C dX2_countBreaches_3 (by decide) ?_
      refine cr_icmp_ge_f (pc := 4) (tgt := 31) C dX2_countBreaches_4 (by decide) (by decide) ?_
      refine cr_iload_n (pc := 7) C dX2_countBreaches_7 rfl ?_
      refine cr_iload_n (pc := 8) C dX2_countBreaches_8 rfl ?_
      refine cr_dN (pc := 9) C (sp_contains hu (by decide)) rfl gX2_countBreaches_X3_contains_n109 rfl dX2_countBreaches_9 neX3_contains isX2_countBreaches_X3_contains hsX3_contains rfl ⟨rfl, rfl, Nat.le_of_ble_eq_true rfl, Nat.le_of_ble_eq_true rfl⟩ (Nat.le_of_ble_eq_true rfl) rfl ?_
      rw [hb]
      refine cr_if_eq_t (pc := 12) (tgt := 25) C dX2_countBreaches_12 (by decide) (by decide) ?_
      refine cr_iinc (pc := 25) (v := nI 3) C dX2_countBreaches_25 rfl (by decide) (by decide) rfl ?_
      refine cr_goto (pc := 28) (tgt := 2) C dX2_countBreaches_28 (by decide) ?_
      exact hK3 _ (by rw [← ha]; simp [cg_b1, hb])
    · refine cr_iload_n (pc := 2) C dX2_countBreaches_2 rfl ?_
      refine cr_iconst (pc := 3) (v := nI 4) C dX2_countBreaches_3 (by decide) ?_
      refine cr_icmp_ge_f (pc := 4) (tgt := 31) C dX2_countBreaches_4 (by decide) (by decide) ?_
      refine cr_iload_n (pc := 7) C dX2_countBreaches_7 rfl ?_
      refine cr_iload_n (pc := 8) C dX2_countBreaches_8 rfl ?_
      refine cr_dN (pc := 9) C (sp_contains hu (by decide)) rfl gX2_countBreaches_X3_contains_n109 rfl dX2_countBreaches_9 neX3_contains isX2_countBreaches_X3_contains hsX3_contains rfl ⟨rfl, rfl, Nat.le_of_ble_eq_true rfl, Nat.le_of_ble_eq_true rfl⟩ (Nat.le_of_ble_eq_true rfl) rfl ?_
      rw [hb]
      refine cr_if_eq_f (pc := 12) (tgt := 25) C dX2_countBreaches_12 (by decide) (by decide) ?_
      refine cr_aload_n (pc := 15) C dX2_countBreaches_15 rfl ?_
      refine cr_getr (pc := 16) (c := 2) (k := 11) C (by first | rfl | assumption | (simp [cg_ok]; omega)) rfl (by decide) rfl inX2_countBreaches_X2 flX2_countBreaches_48 dX2_countBreaches_16 ?_
      refine cr_iload_n (pc := 19) C dX2_countBreaches_19 rfl ?_
      refine cr_dup2 (pc := 20) C dX2_countBreaches_20 rfl rfl ?_
      refine cr_iaload (pc := 21) C rfl (by first | rfl | assumption | (simp [cg_ok]; omega)) (by decide) (by decide) dX2_countBreaches_21 ?_
      rw [cg_sb_s]
      refine cr_iconst (pc := 22) (v := nI 1) C dX2_countBreaches_22 (by decide) ?_
      refine cr_iadd (pc := 23) C dX2_countBreaches_23 ?_
      refine cr_iastore (pc := 24) C rfl (by first | rfl | assumption | (simp [cg_ok]; omega)) (by decide) (by decide) dX2_countBreaches_24 ?_
      rw [cg_up_sb]
      refine cr_iinc (pc := 25) (v := nI 3) C dX2_countBreaches_25 rfl (by decide) (by decide) rfl ?_
      refine cr_goto (pc := 28) (tgt := 2) C dX2_countBreaches_28 (by decide) ?_
      exact hK3 _ (by rw [← ha]; simp [cg_b1, hb])
  have hK1 : ∀ A : Nat → Int32, (cg_b1 u 3 (cg_b1 u 2 (cg_b1 u 1 A))) = cg_cb P u → cg_W E (cg_sb M 0 A) 2 [some (.inr (.inr (0, 0, 0, 0))), some (.inl (nI u)), some (.inl (nI 1))] [] := by
    intro A ha
    cases hb : Nat.testBit u 1
    · refine cr_iload_n (pc := 2) C dX2_countBreaches_2 rfl ?_
      refine cr_iconst (pc := 3) (v := nI 4) C dX2_countBreaches_3 (by decide) ?_
      refine cr_icmp_ge_f (pc := 4) (tgt := 31) C dX2_countBreaches_4 (by decide) (by decide) ?_
      refine cr_iload_n (pc := 7) C dX2_countBreaches_7 rfl ?_
      refine cr_iload_n (pc := 8) C dX2_countBreaches_8 rfl ?_
      refine cr_dN (pc := 9) C (sp_contains hu (by decide)) rfl gX2_countBreaches_X3_contains_n109 rfl dX2_countBreaches_9 neX3_contains isX2_countBreaches_X3_contains hsX3_contains rfl ⟨rfl, rfl, Nat.le_of_ble_eq_true rfl, Nat.le_of_ble_eq_true rfl⟩ (Nat.le_of_ble_eq_true rfl) rfl ?_
      rw [hb]
      refine cr_if_eq_t (pc := 12) (tgt := 25) C dX2_countBreaches_12 (by decide) (by decide) ?_
      refine cr_iinc (pc := 25) (v := nI 2) C dX2_countBreaches_25 rfl (by decide) (by decide) rfl ?_
      refine cr_goto (pc := 28) (tgt := 2) C dX2_countBreaches_28 (by decide) ?_
      exact hK2 _ (by rw [← ha]; simp [cg_b1, hb])
    · refine cr_iload_n (pc := 2) C dX2_countBreaches_2 rfl ?_
      refine cr_iconst (pc := 3) (v := nI 4) C dX2_countBreaches_3 (by decide) ?_
      refine cr_icmp_ge_f (pc := 4) (tgt := 31) C dX2_countBreaches_4 (by decide) (by decide) ?_
      refine cr_iload_n (pc := 7) C dX2_countBreaches_7 rfl ?_
      refine cr_iload_n (pc := 8) C dX2_countBreaches_8 rfl ?_
      refine cr_dN (pc := 9) C (sp_contains hu (by decide)) rfl gX2_countBreaches_X3_contains_n109 rfl dX2_countBreaches_9 neX3_contains isX2_countBreaches_X3_contains hsX3_contains rfl ⟨rfl, rfl, Nat.le_of_ble_eq_true rfl, Nat.le_of_ble_eq_true rfl⟩ (Nat.le_of_ble_eq_true rfl) rfl ?_
      rw [hb]
      refine cr_if_eq_f (pc := 12) (tgt := 25) C dX2_countBreaches_12 (by decide) (by decide) ?_
      refine cr_aload_n (pc := 15) C dX2_countBreaches_15 rfl ?_
      refine cr_getr (pc := 16) (c := 2) (k := 11) C (by first | rfl | assumption | (simp [cg_ok]; omega)) rfl (by decide) rfl inX2_countBreaches_X2 flX2_countBreaches_48 dX2_countBreaches_16 ?_
      refine cr_iload_n (pc := 19) C dX2_countBreaches_19 rfl ?_
      refine cr_dup2 (pc := 20) C dX2_countBreaches_20 rfl rfl ?_
      refine cr_iaload (pc := 21) C rfl (by first | rfl | assumption | (simp [cg_ok]; omega)) (by decide) (by decide) dX2_countBreaches_21 ?_
      rw [cg_sb_s]
      refine cr_iconst (pc := 22) (v := nI 1) C dX2_countBreaches_22 (by decide) ?_
      refine cr_iadd (pc := 23) C dX2_countBreaches_23 ?_
      refine cr_iastore (pc := 24) C rfl (by first | rfl | assumption | (simp [cg_ok]; omega)) (by decide) (by decide) dX2_countBreaches_24 ?_
      rw [cg_up_sb]
      refine cr_iinc (pc := 25) (v := nI 2) C dX2_countBreaches_25 rfl (by decide) (by decide) rfl ?_
      refine cr_goto (pc := 28) (tgt := 2) C dX2_countBreaches_28 (by decide) ?_
      exact hK2 _ (by rw [← ha]; simp [cg_b1, hb])
  have hK0 : ∀ A : Nat → Int32, (cg_b1 u 3 (cg_b1 u 2 (cg_b1 u 1 (cg_b1 u 0 A)))) = cg_cb P u → cg_W E (cg_sb M 0 A) 2 [some (.inr (.inr (0, 0, 0, 0))), some (.inl (nI u)), some (.inl (nI 0))] [] := by
    intro A ha
    cases hb : Nat.testBit u 0
    · refine cr_iload_n (pc := 2) C dX2_countBreaches_2 rfl ?_
      refine cr_iconst (pc := 3) (v := nI 4) C dX2_countBreaches_3 (by decide) ?_
      refine cr_icmp_ge_f (pc := 4) (tgt := 31) C dX2_countBreaches_4 (by decide) (by decide) ?_
      refine cr_iload_n (pc := 7) C dX2_countBreaches_7 rfl ?_
      refine cr_iload_n (pc := 8) C dX2_countBreaches_8 rfl ?_
      refine cr_dN (pc := 9) C (sp_contains hu (by decide)) rfl gX2_countBreaches_X3_contains_n109 rfl dX2_countBreaches_9 neX3_contains isX2_countBreaches_X3_contains hsX3_contains rfl ⟨rfl, rfl, Nat.le_of_ble_eq_true rfl, Nat.le_of_ble_eq_true rfl⟩ (Nat.le_of_ble_eq_true rfl) rfl ?_
      rw [hb]
      refine cr_if_eq_t (pc := 12) (tgt := 25) C dX2_countBreaches_12 (by decide) (by decide) ?_
      refine cr_iinc (pc := 25) (v := nI 1) C dX2_countBreaches_25 rfl (by decide) (by decide) rfl ?_
      refine cr_goto (pc := 28) (tgt := 2) C dX2_countBreaches_28 (by decide) ?_
      exact hK1 _ (by rw [← ha]; simp [cg_b1, hb])
    · refine cr_iload_n (pc := 2) C dX2_countBreaches_2 rfl ?_
      refine cr_iconst (pc := 3) (v := nI 4) C dX2_countBreaches_3 (by decide) ?_
      refine cr_icmp_ge_f (pc := 4) (tgt := 31) C dX2_countBreaches_4 (by decide) (by decide) ?_
      refine cr_iload_n (pc := 7) C dX2_countBreaches_7 rfl ?_
      refine cr_iload_n (pc := 8) C dX2_countBreaches_8 rfl ?_
      refine cr_dN (pc := 9) C (sp_contains hu (by decide)) rfl gX2_countBreaches_X3_contains_n109 rfl dX2_countBreaches_9 neX3_contains isX2_countBreaches_X3_contains hsX3_contains rfl ⟨rfl, rfl, Nat.le_of_ble_eq_true rfl, Nat.le_of_ble_eq_true rfl⟩ (Nat.le_of_ble_eq_true rfl) rfl ?_
      rw [hb]
      refine cr_if_eq_f (pc := 12) (tgt := 25) C dX2_countBreaches_12 (by decide) (by decide) ?_
      refine cr_aload_n (pc := 15) C dX2_countBreaches_15 rfl ?_
      refine cr_getr (pc := 16) (c := 2) (k := 11) C (by first | rfl | assumption | (simp [cg_ok]; omega)) rfl (by decide) rfl inX2_countBreaches_X2 flX2_countBreaches_48 dX2_countBreaches_16 ?_
      refine cr_iload_n (pc := 19) C dX2_countBreaches_19 rfl ?_
      refine cr_dup2 (pc := 20) C dX2_countBreaches_20 rfl rfl ?_
      refine cr_iaload (pc := 21) C rfl (by first | rfl | assumption | (simp [cg_ok]; omega)) (by decide) (by decide) dX2_countBreaches_21 ?_
      rw [cg_sb_s]
      refine cr_iconst (pc := 22) (v := nI 1) C dX2_countBreaches_22 (by decide) ?_
      refine cr_iadd (pc := 23) C dX2_countBreaches_23 ?_
      refine cr_iastore (pc := 24) C rfl (by first | rfl | assumption | (simp [cg_ok]; omega)) (by decide) (by decide) dX2_countBreaches_24 ?_
      rw [cg_up_sb]
      refine cr_iinc (pc := 25) (v := nI 1) C dX2_countBreaches_25 rfl (by decide) (by decide) rfl ?_
      refine cr_goto (pc := 28) (tgt := 2) C dX2_countBreaches_28 (by decide) ?_
      exact hK1 _ (by rw [← ha]; simp [cg_b1, hb])
  refine cr_iconst (pc := 0) (v := nI 0) C dX2_countBreaches_0 (by decide) ?_
  refine cr_istore_n (pc := 1) C dX2_countBreaches_1 (by decide) rfl ?_
  exact hK0 _ rfl
set_option maxRecDepth 100000 in
set_option maxHeartbeats 4000000 in
theorem sp_cG1 {M : cg_M} {P : Nat → Int32} {c g : Nat} (hc : c < 4) (hg : g < 16) : cg_D yX2_changeGuarantees wsX2_changeGuarantees rmX2_changeGuarantees [.inr (.inr (0, 0, 0, 0)), .inl (nI c), .inl (nI g)] (cg_sb M 0 P) (some (.inl (P (313 + 7 * c)))) (cg_sb M 0 (upd P (313 + 7 * c) (nI g))) := by
  refine cg_S_of (cc := cX2_changeGuarantees) (maxL := 4) (ret := (some .int)) (ls0 := [some (.inr (.inr (0, 0, 0, 0))), some (.inl (nI c)), some (.inl (nI g)), none]) RX2 rfl (by decide) rfl rfl (Nat.le_of_ble_eq_true rfl) (fun E C X => ?_)
  refine cr_iload_n (pc := 0) C dX2_changeGuarantees_0 rfl ?_
  refine cr_dN (pc := 1) C (sp_isClient1 hc) rfl gX2_changeGuarantees_X3_isClient_n59 rfl dX2_changeGuarantees_1 neX3_isClient isX2_changeGuarantees_X3_isClient hsX3_isClient rfl ⟨rfl, rfl, Nat.le_of_ble_eq_true rfl, Nat.le_of_ble_eq_true rfl⟩ (Nat.le_of_ble_eq_true rfl) rfl ?_
  refine cr_if_eq_f (pc := 4) (tgt := 16) C dX2_changeGuarantees_4 (by decide) (by decide) ?_
  refine cr_iload_n (pc := 7) C dX2_changeGuarantees_7 rfl ?_
  refine cr_bipush (pc := 8) (v := nI 16) C dX2_changeGuarantees_8 (by decide) ?_
  refine cr_dN (pc := 10) C (sp_isBelow1 hg (by decide)) rfl gX2_changeGuarantees_X3_isBelow_n63 rfl dX2_changeGuarantees_10 neX3_isBelow isX2_changeGuarantees_X3_isBelow hsX3_isBelow rfl ⟨rfl, rfl, Nat.le_of_ble_eq_true rfl, Nat.le_of_ble_eq_true rfl⟩ (Nat.le_of_ble_eq_true rfl) rfl ?_
  refine cr_if_ne_t (pc := 13) (tgt := 19) C dX2_changeGuarantees_13 (by decide) (by decide) ?_
  refine cr_aload_n (pc := 19) C dX2_changeGuarantees_19 rfl ?_
  refine cr_getr (pc := 20) (c := 2) (k := 8) C (by first | rfl | assumption | (simp [cg_ok]; omega)) rfl (by decide) rfl inX2_changeGuarantees_X2 flX2_changeGuarantees_39 dX2_changeGuarantees_20 ?_
  refine cr_iload_n (pc := 23) C dX2_changeGuarantees_23 rfl ?_
  refine cr_iaload (pc := 24) C rfl (by first | rfl | assumption | (simp [cg_ok]; omega)) (by omega) (by decide) dX2_changeGuarantees_24 ?_
  rw [cg_sb_s]
  refine cr_istore_n (pc := 25) C dX2_changeGuarantees_25 (by decide) rfl ?_
  refine cr_aload_n (pc := 26) C dX2_changeGuarantees_26 rfl ?_
  refine cr_getr (pc := 27) (c := 2) (k := 8) C (by first | rfl | assumption | (simp [cg_ok]; omega)) rfl (by decide) rfl inX2_changeGuarantees_X2 flX2_changeGuarantees_39 dX2_changeGuarantees_27 ?_
  refine cr_iload_n (pc := 30) C dX2_changeGuarantees_30 rfl ?_
  refine cr_iload_n (pc := 31) C dX2_changeGuarantees_31 rfl ?_
  refine cr_iastore (pc := 32) C rfl (by first | rfl | assumption | (simp [cg_ok]; omega)) (by omega) (by decide) dX2_changeGuarantees_32 ?_
  rw [cg_up_sb]
  refine cr_iload_n (pc := 33) C dX2_changeGuarantees_33 rfl ?_
  refine cr_ireturn (pc := 34) C X dX2_changeGuarantees_34 ?_
  exact ⟨rfl, rfl⟩
set_option maxRecDepth 100000 in
set_option maxHeartbeats 4000000 in
theorem sp_cG0 {M : cg_M} {P : Nat → Int32} {x y : Int32} (h : ¬ (cg_in x 4 ∧ cg_in y 16)) : cg_D yX2_changeGuarantees wsX2_changeGuarantees rmX2_changeGuarantees [.inr (.inr (0, 0, 0, 0)), .inl (x), .inl (y)] (cg_sb M 0 P) (some (.inl (-2))) ((cg_sb M 0 P)) := by
  rcases Classical.em (cg_in x 4) with ⟨c, hc, rfl⟩ | hx
  · refine cg_S_of (cc := cX2_changeGuarantees) (maxL := 4) (ret := (some .int)) (ls0 := [some (.inr (.inr (0, 0, 0, 0))), some (.inl (nI c)), some (.inl (y)), none]) RX2 rfl (by decide) rfl rfl (Nat.le_of_ble_eq_true rfl) (fun E C X => ?_)
    refine cr_iload_n (pc := 0) C dX2_changeGuarantees_0 rfl ?_
    refine cr_dN (pc := 1) C (sp_isClient1 hc) rfl gX2_changeGuarantees_X3_isClient_n59 rfl dX2_changeGuarantees_1 neX3_isClient isX2_changeGuarantees_X3_isClient hsX3_isClient rfl ⟨rfl, rfl, Nat.le_of_ble_eq_true rfl, Nat.le_of_ble_eq_true rfl⟩ (Nat.le_of_ble_eq_true rfl) rfl ?_
    refine cr_if_eq_f (pc := 4) (tgt := 16) C dX2_changeGuarantees_4 (by decide) (by decide) ?_
    refine cr_iload_n (pc := 7) C dX2_changeGuarantees_7 rfl ?_
    refine cr_bipush (pc := 8) (v := nI 16) C dX2_changeGuarantees_8 (by decide) ?_
    refine cr_dN (pc := 10) C (sp_isBelow0 (fun q => h ⟨⟨_, hc, rfl⟩, q⟩) (by decide)) rfl gX2_changeGuarantees_X3_isBelow_n63 rfl dX2_changeGuarantees_10 neX3_isBelow isX2_changeGuarantees_X3_isBelow hsX3_isBelow rfl ⟨rfl, rfl, Nat.le_of_ble_eq_true rfl, Nat.le_of_ble_eq_true rfl⟩ (Nat.le_of_ble_eq_true rfl) rfl ?_
    refine cr_if_ne_f (pc := 13) (tgt := 19) C dX2_changeGuarantees_13 (by decide) (by decide) ?_
    refine cr_bipush (pc := 16) (v := (-2)) C dX2_changeGuarantees_16 (by decide) ?_
    refine cr_ireturn (pc := 18) C X dX2_changeGuarantees_18 ?_
    exact ⟨rfl, rfl⟩
  · refine cg_S_of (cc := cX2_changeGuarantees) (maxL := 4) (ret := (some .int)) (ls0 := [some (.inr (.inr (0, 0, 0, 0))), some (.inl (x)), some (.inl (y)), none]) RX2 rfl (by decide) rfl rfl (Nat.le_of_ble_eq_true rfl) (fun E C X => ?_)
    refine cr_iload_n (pc := 0) C dX2_changeGuarantees_0 rfl ?_
    refine cr_dN (pc := 1) C (sp_isClient0 hx) rfl gX2_changeGuarantees_X3_isClient_n59 rfl dX2_changeGuarantees_1 neX3_isClient isX2_changeGuarantees_X3_isClient hsX3_isClient rfl ⟨rfl, rfl, Nat.le_of_ble_eq_true rfl, Nat.le_of_ble_eq_true rfl⟩ (Nat.le_of_ble_eq_true rfl) rfl ?_
    refine cr_if_eq_t (pc := 4) (tgt := 16) C dX2_changeGuarantees_4 (by decide) (by decide) ?_
    refine cr_bipush (pc := 16) (v := (-2)) C dX2_changeGuarantees_16 (by decide) ?_
    refine cr_ireturn (pc := 18) C X dX2_changeGuarantees_18 ?_
    exact ⟨rfl, rfl⟩
set_option maxRecDepth 100000 in
set_option maxHeartbeats 4000000 in
theorem sp_cV1 {M : cg_M} {P : Nat → Int32} {c : Nat} (hc : c < 4) : cg_D yX2_clearVectors wsX2_clearVectors rmX2_clearVectors [.inr (.inr (0, 0, 0, 0)), .inl (nI c)] (cg_sb M 0 P) (some (.inl ((cg_fg c P).1))) (cg_sb M 0 (cg_fg c P).2) := by
  refine cg_S_of (cc := cX2_clearVectors) (maxL := 4) (ret := (some .int)) (ls0 := [some (.inr (.inr (0, 0, 0, 0))), some (.inl (nI c)), none, none]) RX2 rfl (by decide) rfl rfl (Nat.le_of_ble_eq_true rfl) (fun E C X => ?_)
  refine cr_iload_n (pc := 0) C dX2_clearVectors_0 rfl ?_
  refine cr_dN (pc := 1) C (sp_isClient1 hc) rfl gX2_clearVectors_X3_isClient_n59 rfl dX2_clearVectors_1 neX3_isClient isX2_clearVectors_X3_isClient hsX3_isClient rfl ⟨rfl, rfl, Nat.le_of_ble_eq_true rfl, Nat.le_of_ble_eq_true rfl⟩ (Nat.le_of_ble_eq_true rfl) rfl ?_
  refine cr_if_ne_t (pc := 4) (tgt := 10) C dX2_clearVectors_4 (by decide) (by decide) ?_
  refine cr_iconst (pc := 10) (v := nI 0) C dX2_clearVectors_10 (by decide) ?_
  refine cr_istore_n (pc := 11) C dX2_clearVectors_11 (by decide) rfl ?_
  refine cr_iconst (pc := 12) (v := nI 0) C dX2_clearVectors_12 (by decide) ?_
  refine cr_istore_n (pc := 13) C dX2_clearVectors_13 (by decide) rfl ?_
  refine cr_iload_n (pc := 14) C dX2_clearVectors_14 rfl ?_
  refine cr_iconst (pc := 15) (v := nI 3) C dX2_clearVectors_15 (by decide) ?_
  refine cr_icmp_ge_f (pc := 16) (tgt := 63) C dX2_clearVectors_16 (by decide) (by decide) ?_
  refine cr_iload_n (pc := 19) C dX2_clearVectors_19 rfl ?_
  refine cr_aload_n (pc := 20) C dX2_clearVectors_20 rfl ?_
  refine cr_getr (pc := 21) (c := 2) (k := 9) C (by first | rfl | assumption | (simp [cg_ok]; omega)) rfl (by decide) rfl inX2_clearVectors_X2 flX2_clearVectors_42 dX2_clearVectors_21 ?_
  refine cr_iload_n (pc := 24) C dX2_clearVectors_24 rfl ?_
  refine cr_aaload (pc := 25) C rfl (by first | rfl | assumption | (simp [cg_ok]; omega)) (by omega) (by decide) dX2_clearVectors_25 ?_
  refine cr_iload_n (pc := 26) C dX2_clearVectors_26 rfl ?_
  refine cr_iaload (pc := 27) C rfl (by first | rfl | assumption | (simp [cg_ok]; omega)) (by decide) (by decide) dX2_clearVectors_27 ?_
  rw [cg_sb_s]
  refine cr_aload_n (pc := 28) C dX2_clearVectors_28 rfl ?_
  refine cr_getr (pc := 29) (c := 2) (k := 10) C (by first | rfl | assumption | (simp [cg_ok]; omega)) rfl (by decide) rfl inX2_clearVectors_X2 flX2_clearVectors_45 dX2_clearVectors_29 ?_
  refine cr_iload_n (pc := 32) C dX2_clearVectors_32 rfl ?_
  refine cr_aaload (pc := 33) C rfl (by first | rfl | assumption | (simp [cg_ok]; omega)) (by omega) (by decide) dX2_clearVectors_33 ?_
  refine cr_iload_n (pc := 34) C dX2_clearVectors_34 rfl ?_
  refine cr_iaload (pc := 35) C rfl (by first | rfl | assumption | (simp [cg_ok]; omega)) (by decide) (by decide) dX2_clearVectors_35 ?_
  rw [cg_sb_s]
  refine cr_iadd (pc := 36) C dX2_clearVectors_36 ?_
  refine cr_iadd (pc := 37) C dX2_clearVectors_37 ?_
  refine cr_istore_n (pc := 38) C dX2_clearVectors_38 (by decide) rfl ?_
  refine cr_aload_n (pc := 39) C dX2_clearVectors_39 rfl ?_
  refine cr_getr (pc := 40) (c := 2) (k := 9) C (by first | rfl | assumption | (simp [cg_ok]; omega)) rfl (by decide) rfl inX2_clearVectors_X2 flX2_clearVectors_42 dX2_clearVectors_40 ?_
  refine cr_iload_n (pc := 43) C dX2_clearVectors_43 rfl ?_
  refine cr_aaload (pc := 44) C rfl (by first | rfl | assumption | (simp [cg_ok]; omega)) (by omega) (by decide) dX2_clearVectors_44 ?_
  refine cr_iload_n (pc := 45) C dX2_clearVectors_45 rfl ?_
  refine cr_iconst (pc := 46) (v := nI 0) C dX2_clearVectors_46 (by decide) ?_
  refine cr_iastore (pc := 47) C rfl (by first | rfl | assumption | (simp [cg_ok]; omega)) (by decide) (by decide) dX2_clearVectors_47 ?_
  rw [cg_up_sb]
  refine cr_aload_n (pc := 48) C dX2_clearVectors_48 rfl ?_
  refine cr_getr (pc := 49) (c := 2) (k := 10) C (by first | rfl | assumption | (simp [cg_ok]; omega)) rfl (by decide) rfl inX2_clearVectors_X2 flX2_clearVectors_45 dX2_clearVectors_49 ?_
  refine cr_iload_n (pc := 52) C dX2_clearVectors_52 rfl ?_
  refine cr_aaload (pc := 53) C rfl (by first | rfl | assumption | (simp [cg_ok]; omega)) (by omega) (by decide) dX2_clearVectors_53 ?_
  refine cr_iload_n (pc := 54) C dX2_clearVectors_54 rfl ?_
  refine cr_iconst (pc := 55) (v := nI 0) C dX2_clearVectors_55 (by decide) ?_
  refine cr_iastore (pc := 56) C rfl (by first | rfl | assumption | (simp [cg_ok]; omega)) (by decide) (by decide) dX2_clearVectors_56 ?_
  rw [cg_up_sb]
  refine cr_iinc (pc := 57) (v := nI 1) C dX2_clearVectors_57 rfl (by decide) (by decide) rfl ?_
  refine cr_goto (pc := 60) (tgt := 14) C dX2_clearVectors_60 (by decide) ?_
  refine cr_iload_n (pc := 14) C dX2_clearVectors_14 rfl ?_
  refine cr_iconst (pc := 15) (v := nI 3) C dX2_clearVectors_15 (by decide) ?_
  refine cr_icmp_ge_f (pc := 16) (tgt := 63) C dX2_clearVectors_16 (by decide) (by decide) ?_
  refine cr_iload_n (pc := 19) C dX2_clearVectors_19 rfl ?_
  refine cr_aload_n (pc := 20) C dX2_clearVectors_20 rfl ?_
  refine cr_getr (pc := 21) (c := 2) (k := 9) C (by first | rfl | assumption | (simp [cg_ok]; omega)) rfl (by decide) rfl inX2_clearVectors_X2 flX2_clearVectors_42 dX2_clearVectors_21 ?_
  refine cr_iload_n (pc := 24) C dX2_clearVectors_24 rfl ?_
  refine cr_aaload (pc := 25) C rfl (by first | rfl | assumption | (simp [cg_ok]; omega)) (by omega) (by decide) dX2_clearVectors_25 ?_
  refine cr_iload_n (pc := 26) C dX2_clearVectors_26 rfl ?_
  refine cr_iaload (pc := 27) C rfl (by first | rfl | assumption | (simp [cg_ok]; omega)) (by decide) (by decide) dX2_clearVectors_27 ?_
  rw [cg_sb_s]
  refine cr_aload_n (pc := 28) C dX2_clearVectors_28 rfl ?_
  refine cr_getr (pc := 29) (c := 2) (k := 10) C (by first | rfl | assumption | (simp [cg_ok]; omega)) rfl (by decide) rfl inX2_clearVectors_X2 flX2_clearVectors_45 dX2_clearVectors_29 ?_
  refine cr_iload_n (pc := 32) C dX2_clearVectors_32 rfl ?_
  refine cr_aaload (pc := 33) C rfl (by first | rfl | assumption | (simp [cg_ok]; omega)) (by omega) (by decide) dX2_clearVectors_33 ?_
  refine cr_iload_n (pc := 34) C dX2_clearVectors_34 rfl ?_
  refine cr_iaload (pc := 35) C rfl (by first | rfl | assumption | (simp [cg_ok]; omega)) (by decide) (by decide) dX2_clearVectors_35 ?_
  rw [cg_sb_s]
  refine cr_iadd (pc := 36) C dX2_clearVectors_36 ?_
  refine cr_iadd (pc := 37) C dX2_clearVectors_37 ?_
  refine cr_istore_n (pc := 38) C dX2_clearVectors_38 (by decide) rfl ?_
  refine cr_aload_n (pc := 39) C dX2_clearVectors_39 rfl ?_
  refine cr_getr (pc := 40) (c := 2) (k := 9) C (by first | rfl | assumption | (simp [cg_ok]; omega)) rfl (by decide) rfl inX2_clearVectors_X2 flX2_clearVectors_42 dX2_clearVectors_40 ?_
  refine cr_iload_n (pc := 43) C dX2_clearVectors_43 rfl ?_
  refine cr_aaload (pc := 44) C rfl (by first | rfl | assumption | (simp [cg_ok]; omega)) (by omega) (by decide) dX2_clearVectors_44 ?_
  refine cr_iload_n (pc := 45) C dX2_clearVectors_45 rfl ?_
  refine cr_iconst (pc := 46) (v := nI 0) C dX2_clearVectors_46 (by decide) ?_
  refine cr_iastore (pc := 47) C rfl (by first | rfl | assumption | (simp [cg_ok]; omega)) (by decide) (by decide) dX2_clearVectors_47 ?_
  rw [cg_up_sb]
  refine cr_aload_n (pc := 48) C dX2_clearVectors_48 rfl ?_
  refine cr_getr (pc := 49) (c := 2) (k := 10) C (by first | rfl | assumption | (simp [cg_ok]; omega)) rfl (by decide) rfl inX2_clearVectors_X2 flX2_clearVectors_45 dX2_clearVectors_49 ?_
  refine cr_iload_n (pc := 52) C dX2_clearVectors_52 rfl ?_
  refine cr_aaload (pc := 53) C rfl (by first | rfl | assumption | (simp [cg_ok]; omega)) (by omega) (by decide) dX2_clearVectors_53 ?_
  refine cr_iload_n (pc := 54) C dX2_clearVectors_54 rfl ?_
  refine cr_iconst (pc := 55) (v := nI 0) C dX2_clearVectors_55 (by decide) ?_
  refine cr_iastore (pc := 56) C rfl (by first | rfl | assumption | (simp [cg_ok]; omega)) (by decide) (by decide) dX2_clearVectors_56 ?_
  rw [cg_up_sb]
  refine cr_iinc (pc := 57) (v := nI 2) C dX2_clearVectors_57 rfl (by decide) (by decide) rfl ?_
  refine cr_goto (pc := 60) (tgt := 14) C dX2_clearVectors_60 (by decide) ?_
  refine cr_iload_n (pc := 14) C dX2_clearVectors_14 rfl ?_
  refine cr_iconst (pc := 15) (v := nI 3) C dX2_clearVectors_15 (by decide) ?_
  refine cr_icmp_ge_f (pc := 16) (tgt := 63) C dX2_clearVectors_16 (by decide) (by decide) ?_
  refine cr_iload_n (pc := 19) C dX2_clearVectors_19 rfl ?_
  refine cr_aload_n (pc := 20) C dX2_clearVectors_20 rfl ?_
  refine cr_getr (pc := 21) (c := 2) (k := 9) C (by first | rfl | assumption | (simp [cg_ok]; omega)) rfl (by decide) rfl inX2_clearVectors_X2 flX2_clearVectors_42 dX2_clearVectors_21 ?_
  refine cr_iload_n (pc := 24) C dX2_clearVectors_24 rfl ?_
  refine cr_aaload (pc := 25) C rfl (by first | rfl | assumption | (simp [cg_ok]; omega)) (by omega) (by decide) dX2_clearVectors_25 ?_
  refine cr_iload_n (pc := 26) C dX2_clearVectors_26 rfl ?_
  refine cr_iaload (pc := 27) C rfl (by first | rfl | assumption | (simp [cg_ok]; omega)) (by decide) (by decide) dX2_clearVectors_27 ?_
  rw [cg_sb_s]
  refine cr_aload_n (pc := 28) C dX2_clearVectors_28 rfl ?_
  refine cr_getr (pc := 29) (c := 2) (k := 10) C (by first | rfl | assumption | (simp [cg_ok]; omega)) rfl (by decide) rfl inX2_clearVectors_X2 flX2_clearVectors_45 dX2_clearVectors_29 ?_
  refine cr_iload_n (pc := 32) C dX2_clearVectors_32 rfl ?_
  refine cr_aaload (pc := 33) C rfl (by first | rfl | assumption | (simp [cg_ok]; omega)) (by omega) (by decide) dX2_clearVectors_33 ?_
  refine cr_iload_n (pc := 34) C dX2_clearVectors_34 rfl ?_
  refine cr_iaload (pc := 35) C rfl (by first | rfl | assumption | (simp [cg_ok]; omega)) (by decide) (by decide) dX2_clearVectors_35 ?_
  rw [cg_sb_s]
  refine cr_iadd (pc := 36) C dX2_clearVectors_36 ?_
  refine cr_iadd (pc := 37) C dX2_clearVectors_37 ?_
  refine cr_istore_n (pc := 38) C dX2_clearVectors_38 (by decide) rfl ?_
  refine cr_aload_n (pc := 39) C dX2_clearVectors_39 rfl ?_
  refine cr_getr (pc := 40) (c := 2) (k := 9) C (by first | rfl | assumption | (simp [cg_ok]; omega)) rfl (by decide) rfl inX2_clearVectors_X2 flX2_clearVectors_42 dX2_clearVectors_40 ?_
  refine cr_iload_n (pc := 43) C dX2_clearVectors_43 rfl ?_
  refine cr_aaload (pc := 44) C rfl (by first | rfl | assumption | (simp [cg_ok]; omega)) (by omega) (by decide) dX2_clearVectors_44 ?_
  refine cr_iload_n (pc := 45) C dX2_clearVectors_45 rfl ?_
  refine cr_iconst (pc := 46) (v := nI 0) C dX2_clearVectors_46 (by decide) ?_
  refine cr_iastore (pc := 47) C rfl (by first | rfl | assumption | (simp [cg_ok]; omega)) (by decide) (by decide) dX2_clearVectors_47 ?_
  rw [cg_up_sb]
  refine cr_aload_n (pc := 48) C dX2_clearVectors_48 rfl ?_
  refine cr_getr (pc := 49) (c := 2) (k := 10) C (by first | rfl | assumption | (simp [cg_ok]; omega)) rfl (by decide) rfl inX2_clearVectors_X2 flX2_clearVectors_45 dX2_clearVectors_49 ?_
  refine cr_iload_n (pc := 52) C dX2_clearVectors_52 rfl ?_
  refine cr_aaload (pc := 53) C rfl (by first | rfl | assumption | (simp [cg_ok]; omega)) (by omega) (by decide) dX2_clearVectors_53 ?_
  refine cr_iload_n (pc := 54) C dX2_clearVectors_54 rfl ?_
  refine cr_iconst (pc := 55) (v := nI 0) C dX2_clearVectors_55 (by decide) ?_
  refine cr_iastore (pc := 56) C rfl (by first | rfl | assumption | (simp [cg_ok]; omega)) (by decide) (by decide) dX2_clearVectors_56 ?_
  rw [cg_up_sb]
  refine cr_iinc (pc := 57) (v := nI 3) C dX2_clearVectors_57 rfl (by decide) (by decide) rfl ?_
  refine cr_goto (pc := 60) (tgt := 14) C dX2_clearVectors_60 (by decide) ?_
  refine cr_iload_n (pc := 14) C dX2_clearVectors_14 rfl ?_
  refine cr_iconst (pc := 15) (v := nI 3) C dX2_clearVectors_15 (by decide) ?_
  refine cr_icmp_ge_t (pc := 16) (tgt := 63) C dX2_clearVectors_16 (by decide) (by decide) ?_
  refine cr_iload_n (pc := 63) C dX2_clearVectors_63 rfl ?_
  refine cr_ireturn (pc := 64) C X dX2_clearVectors_64 ?_
  exact ⟨rfl, rfl⟩
set_option maxRecDepth 100000 in
set_option maxHeartbeats 4000000 in
theorem sp_cV0 {M : cg_M} {P : Nat → Int32} {x : Int32} (h : ¬ cg_in x 4) : cg_D yX2_clearVectors wsX2_clearVectors rmX2_clearVectors [.inr (.inr (0, 0, 0, 0)), .inl (x)] (cg_sb M 0 P) (some (.inl (-2))) ((cg_sb M 0 P)) := by
  refine cg_S_of (cc := cX2_clearVectors) (maxL := 4) (ret := (some .int)) (ls0 := [some (.inr (.inr (0, 0, 0, 0))), some (.inl (x)), none, none]) RX2 rfl (by decide) rfl rfl (Nat.le_of_ble_eq_true rfl) (fun E C X => ?_)
  refine cr_iload_n (pc := 0) C dX2_clearVectors_0 rfl ?_
  refine cr_dN (pc := 1) C (sp_isClient0 h) rfl gX2_clearVectors_X3_isClient_n59 rfl dX2_clearVectors_1 neX3_isClient isX2_clearVectors_X3_isClient hsX3_isClient rfl ⟨rfl, rfl, Nat.le_of_ble_eq_true rfl, Nat.le_of_ble_eq_true rfl⟩ (Nat.le_of_ble_eq_true rfl) rfl ?_
  refine cr_if_ne_f (pc := 4) (tgt := 10) C dX2_clearVectors_4 (by decide) (by decide) ?_
  refine cr_bipush (pc := 7) (v := (-2)) C dX2_clearVectors_7 (by decide) ?_
  refine cr_ireturn (pc := 9) C X dX2_clearVectors_9 ?_
  exact ⟨rfl, rfl⟩
set_option maxRecDepth 100000 in
set_option maxHeartbeats 4000000 in
theorem sp_merge {M : cg_M} {P : Nat → Int32} {a b : Nat} {q r : cg_L} (hq : cg_ok q = true) (hr : cg_ok r = true) (h1 : cg_ai q = some (0, 3, fun j => a + j)) (h2 : cg_ai r = some (0, 3, fun j => b + j)) : cg_D yX2_merge wsX2_merge rmX2_merge [.inr (.inr (q)), .inr (.inr (r))] (cg_sb M 0 P) (none) (cg_sb M 0 (cg_mg a b P)) := by
  refine cg_S_of (cc := cX2_merge) (maxL := 3) (ret := none) (ls0 := [some (.inr (.inr (q))), some (.inr (.inr (r))), none]) RX2 rfl (by decide) rfl rfl (Nat.le_of_ble_eq_true rfl) (fun E C X => ?_)
  refine cr_iconst (pc := 0) (v := nI 0) C dX2_merge_0 (by decide) ?_
  refine cr_istore_n (pc := 1) C dX2_merge_1 (by decide) rfl ?_
  refine cr_iload_n (pc := 2) C dX2_merge_2 rfl ?_
  refine cr_iconst (pc := 3) (v := nI 3) C dX2_merge_3 (by decide) ?_
  refine cr_icmp_ge_f (pc := 4) (tgt := 25) C dX2_merge_4 (by decide) (by decide) ?_
  refine cr_aload_n (pc := 7) C dX2_merge_7 rfl ?_
  refine cr_iload_n (pc := 8) C dX2_merge_8 rfl ?_
  refine cr_aload_n (pc := 9) C dX2_merge_9 rfl ?_
  refine cr_iload_n (pc := 10) C dX2_merge_10 rfl ?_
  refine cr_iaload (pc := 11) C (by assumption) (by first | rfl | assumption | (simp [cg_ok]; omega)) (by decide) (by decide) dX2_merge_11 ?_
  rw [cg_sb_s]
  refine cr_aload_n (pc := 12) C dX2_merge_12 rfl ?_
  refine cr_iload_n (pc := 13) C dX2_merge_13 rfl ?_
  refine cr_iaload (pc := 14) C (by assumption) (by first | rfl | assumption | (simp [cg_ok]; omega)) (by decide) (by decide) dX2_merge_14 ?_
  rw [cg_sb_s]
  refine cr_max (pc := 15) C dX2_merge_15 mmX2_merge_max ⟨Nat.le_of_ble_eq_true rfl, Nat.le_of_ble_eq_true rfl⟩ (Nat.le_of_ble_eq_true rfl) ?_
  refine cr_iastore (pc := 18) C (by assumption) (by first | rfl | assumption | (simp [cg_ok]; omega)) (by decide) (by decide) dX2_merge_18 ?_
  rw [cg_up_sb]
  refine cr_iinc (pc := 19) (v := nI 1) C dX2_merge_19 rfl (by decide) (by decide) rfl ?_
  refine cr_goto (pc := 22) (tgt := 2) C dX2_merge_22 (by decide) ?_
  refine cr_iload_n (pc := 2) C dX2_merge_2 rfl ?_
  refine cr_iconst (pc := 3) (v := nI 3) C dX2_merge_3 (by decide) ?_
  refine cr_icmp_ge_f (pc := 4) (tgt := 25) C dX2_merge_4 (by decide) (by decide) ?_
  refine cr_aload_n (pc := 7) C dX2_merge_7 rfl ?_
  refine cr_iload_n (pc := 8) C dX2_merge_8 rfl ?_
  refine cr_aload_n (pc := 9) C dX2_merge_9 rfl ?_
  refine cr_iload_n (pc := 10) C dX2_merge_10 rfl ?_
  refine cr_iaload (pc := 11) C (by assumption) (by first | rfl | assumption | (simp [cg_ok]; omega)) (by decide) (by decide) dX2_merge_11 ?_
  rw [cg_sb_s]
  refine cr_aload_n (pc := 12) C dX2_merge_12 rfl ?_
  refine cr_iload_n (pc := 13) C dX2_merge_13 rfl ?_
  refine cr_iaload (pc := 14) C (by assumption) (by first | rfl | assumption | (simp [cg_ok]; omega)) (by decide) (by decide) dX2_merge_14 ?_
  rw [cg_sb_s]
  refine cr_max (pc := 15) C dX2_merge_15 mmX2_merge_max ⟨Nat.le_of_ble_eq_true rfl, Nat.le_of_ble_eq_true rfl⟩ (Nat.le_of_ble_eq_true rfl) ?_
  refine cr_iastore (pc := 18) C (by assumption) (by first | rfl | assumption | (simp [cg_ok]; omega)) (by decide) (by decide) dX2_merge_18 ?_
  rw [cg_up_sb]
  refine cr_iinc (pc := 19) (v := nI 2) C dX2_merge_19 rfl (by decide) (by decide) rfl ?_
  refine cr_goto (pc := 22) (tgt := 2) C dX2_merge_22 (by decide) ?_
  refine cr_iload_n (pc := 2) C dX2_merge_2 rfl ?_
  refine cr_iconst (pc := 3) (v := nI 3) C dX2_merge_3 (by decide) ?_
  refine cr_icmp_ge_f (pc := 4) (tgt := 25) C dX2_merge_4 (by decide) (by decide) ?_
  refine cr_aload_n (pc := 7) C dX2_merge_7 rfl ?_
  refine cr_iload_n (pc := 8) C dX2_merge_8 rfl ?_
  refine cr_aload_n (pc := 9) C dX2_merge_9 rfl ?_
  refine cr_iload_n (pc := 10) C dX2_merge_10 rfl ?_
  refine cr_iaload (pc := 11) C (by assumption) (by first | rfl | assumption | (simp [cg_ok]; omega)) (by decide) (by decide) dX2_merge_11 ?_
  rw [cg_sb_s]
  refine cr_aload_n (pc := 12) C dX2_merge_12 rfl ?_
  refine cr_iload_n (pc := 13) C dX2_merge_13 rfl ?_
  refine cr_iaload (pc := 14) C (by assumption) (by first | rfl | assumption | (simp [cg_ok]; omega)) (by decide) (by decide) dX2_merge_14 ?_
  rw [cg_sb_s]
  refine cr_max (pc := 15) C dX2_merge_15 mmX2_merge_max ⟨Nat.le_of_ble_eq_true rfl, Nat.le_of_ble_eq_true rfl⟩ (Nat.le_of_ble_eq_true rfl) ?_
  refine cr_iastore (pc := 18) C (by assumption) (by first | rfl | assumption | (simp [cg_ok]; omega)) (by decide) (by decide) dX2_merge_18 ?_
  rw [cg_up_sb]
  refine cr_iinc (pc := 19) (v := nI 3) C dX2_merge_19 rfl (by decide) (by decide) rfl ?_
  refine cr_goto (pc := 22) (tgt := 2) C dX2_merge_22 (by decide) ?_
  refine cr_iload_n (pc := 2) C dX2_merge_2 rfl ?_
  refine cr_iconst (pc := 3) (v := nI 3) C dX2_merge_3 (by decide) ?_
  refine cr_icmp_ge_t (pc := 4) (tgt := 25) C dX2_merge_4 (by decide) (by decide) ?_
  refine cr_return (pc := 25) C X dX2_merge_25 ?_
  exact ⟨rfl, rfl⟩
end
