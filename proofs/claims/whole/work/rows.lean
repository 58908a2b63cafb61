section
-- ===== PART A: goes FIRST, ahead of the names: the tables' words, and 'selects' of the private methods out of them =====
/-- a private method of a class that the tables say can be made, by its rows of tables_1 -/
def lw_okq (q : MethodName × Nat) : Prop := (q.1.cls ≠ "java/lang/invoke/MethodHandle" ∧ q.1.cls ≠ "java/lang/invoke/VarHandle") ∧ Cond.instantiable q.1.cls q.2 ∈ tables_1 ∧ Cond.privateMethod q.1 ∈ tables_1 ∧ Cond.instanceMethod q.1 ∈ tables_1
theorem lw_p0 : lw_okq (⟨"ClientGuarantees", "endUndoable", "(I)I"⟩, 4) := ⟨⟨by decide +kernel, by decide +kernel⟩, List.mem_of_getElem? (i := 9) (by decide +kernel), List.mem_of_getElem? (i := 173) (by decide +kernel), List.mem_of_getElem? (i := 174) (by decide +kernel)⟩
theorem lw_p1 : lw_okq (⟨"ClientGuarantees", "counted", "(I)I"⟩, 4) := ⟨⟨by decide +kernel, by decide +kernel⟩, List.mem_of_getElem? (i := 9) (by decide +kernel), List.mem_of_getElem? (i := 182) (by decide +kernel), List.mem_of_getElem? (i := 183) (by decide +kernel)⟩
theorem lw_p2 : lw_okq (⟨"ClientGuarantees$State", "greatestCount", "(II)I"⟩, 12) := ⟨⟨by decide +kernel, by decide +kernel⟩, List.mem_of_getElem? (i := 17) (by decide +kernel), List.mem_of_getElem? (i := 232) (by decide +kernel), List.mem_of_getElem? (i := 233) (by decide +kernel)⟩
theorem lw_p3 : lw_okq (⟨"ClientGuarantees$State", "countBreaches", "(I)V"⟩, 12) := ⟨⟨by decide +kernel, by decide +kernel⟩, List.mem_of_getElem? (i := 17) (by decide +kernel), List.mem_of_getElem? (i := 242) (by decide +kernel), List.mem_of_getElem? (i := 243) (by decide +kernel)⟩
theorem lw_p4 : lw_okq (⟨"ClientGuarantees$State", "knows", "(II)Z"⟩, 12) := ⟨⟨by decide +kernel, by decide +kernel⟩, List.mem_of_getElem? (i := 17) (by decide +kernel), List.mem_of_getElem? (i := 253) (by decide +kernel), List.mem_of_getElem? (i := 254) (by decide +kernel)⟩
theorem lw_p5 : lw_okq (⟨"ClientGuarantees$State", "isLater", "(II)Z"⟩, 12) := ⟨⟨by decide +kernel, by decide +kernel⟩, List.mem_of_getElem? (i := 17) (by decide +kernel), List.mem_of_getElem? (i := 257) (by decide +kernel), List.mem_of_getElem? (i := 258) (by decide +kernel)⟩
theorem lw_p6 : lw_okq (⟨"ClientGuarantees$Script", "accepts", "(I)Z"⟩, 8) := ⟨⟨by decide +kernel, by decide +kernel⟩, List.mem_of_getElem? (i := 89) (by decide +kernel), List.mem_of_getElem? (i := 356) (by decide +kernel), List.mem_of_getElem? (i := 357) (by decide +kernel)⟩
theorem lw_p7 : lw_okq (⟨"ClientGuarantees$Script", "beginsCommand", "(I)Z"⟩, 8) := ⟨⟨by decide +kernel, by decide +kernel⟩, List.mem_of_getElem? (i := 89) (by decide +kernel), List.mem_of_getElem? (i := 360) (by decide +kernel), List.mem_of_getElem? (i := 361) (by decide +kernel)⟩
theorem lw_p8 : lw_okq (⟨"ClientGuarantees$Script", "endsCommand", "()Z"⟩, 8) := ⟨⟨by decide +kernel, by decide +kernel⟩, List.mem_of_getElem? (i := 89) (by decide +kernel), List.mem_of_getElem? (i := 367) (by decide +kernel), List.mem_of_getElem? (i := 368) (by decide +kernel)⟩
theorem lw_p9 : lw_okq (⟨"ClientGuarantees$Script", "takesDigit", "(I)Z"⟩, 8) := ⟨⟨by decide +kernel, by decide +kernel⟩, List.mem_of_getElem? (i := 89) (by decide +kernel), List.mem_of_getElem? (i := 371) (by decide +kernel), List.mem_of_getElem? (i := 372) (by decide +kernel)⟩
theorem lw_p10 : lw_okq (⟨"ClientGuarantees", "runCommand", "(I)I"⟩, 4) := ⟨⟨by decide +kernel, by decide +kernel⟩, List.mem_of_getElem? (i := 9) (by decide +kernel), List.mem_of_getElem? (i := 375) (by decide +kernel), List.mem_of_getElem? (i := 376) (by decide +kernel)⟩
theorem lw_p11 : lw_okq (⟨"ClientGuaranteesModel", "putsAside", "()V"⟩, 10) := ⟨⟨by decide +kernel, by decide +kernel⟩, List.mem_of_getElem? (i := 417) (by decide +kernel), List.mem_of_getElem? (i := 458) (by decide +kernel), List.mem_of_getElem? (i := 459) (by decide +kernel)⟩
theorem lw_p12 : lw_okq (⟨"ClientGuaranteesModel", "doesSet", "(II)I"⟩, 10) := ⟨⟨by decide +kernel, by decide +kernel⟩, List.mem_of_getElem? (i := 417) (by decide +kernel), List.mem_of_getElem? (i := 462) (by decide +kernel), List.mem_of_getElem? (i := 463) (by decide +kernel)⟩
theorem lw_p13 : lw_okq (⟨"ClientGuaranteesModel", "guarantees", "(I)I"⟩, 10) := ⟨⟨by decide +kernel, by decide +kernel⟩, List.mem_of_getElem? (i := 417) (by decide +kernel), List.mem_of_getElem? (i := 474) (by decide +kernel), List.mem_of_getElem? (i := 475) (by decide +kernel)⟩
theorem lw_p14 : lw_okq (⟨"ClientGuaranteesModel", "answered", "(I)I"⟩, 10) := ⟨⟨by decide +kernel, by decide +kernel⟩, List.mem_of_getElem? (i := 417) (by decide +kernel), List.mem_of_getElem? (i := 478) (by decide +kernel), List.mem_of_getElem? (i := 479) (by decide +kernel)⟩
theorem lw_p15 : lw_okq (⟨"ClientGuaranteesModel", "error", "(I)I"⟩, 10) := ⟨⟨by decide +kernel, by decide +kernel⟩, List.mem_of_getElem? (i := 417) (by decide +kernel), List.mem_of_getElem? (i := 482) (by decide +kernel), List.mem_of_getElem? (i := 483) (by decide +kernel)⟩
def lw_privs_1 : List (MethodName × Nat) := [(⟨"ClientGuarantees", "endUndoable", "(I)I"⟩, 4), (⟨"ClientGuarantees", "counted", "(I)I"⟩, 4), (⟨"ClientGuarantees$State", "greatestCount", "(II)I"⟩, 12), (⟨"ClientGuarantees$State", "countBreaches", "(I)V"⟩, 12), (⟨"ClientGuarantees$State", "knows", "(II)Z"⟩, 12), (⟨"ClientGuarantees$State", "isLater", "(II)Z"⟩, 12), (⟨"ClientGuarantees$Script", "accepts", "(I)Z"⟩, 8), (⟨"ClientGuarantees$Script", "beginsCommand", "(I)Z"⟩, 8), (⟨"ClientGuarantees$Script", "endsCommand", "()Z"⟩, 8), (⟨"ClientGuarantees$Script", "takesDigit", "(I)Z"⟩, 8), (⟨"ClientGuarantees", "runCommand", "(I)I"⟩, 4), (⟨"ClientGuaranteesModel", "putsAside", "()V"⟩, 10), (⟨"ClientGuaranteesModel", "doesSet", "(II)I"⟩, 10), (⟨"ClientGuaranteesModel", "guarantees", "(I)I"⟩, 10), (⟨"ClientGuaranteesModel", "answered", "(I)I"⟩, 10), (⟨"ClientGuaranteesModel", "error", "(I)I"⟩, 10)]
theorem lw_r1 : ∀ q ∈ lw_privs_1, lw_okq q := List.forall_mem_cons.mpr ⟨lw_p0, List.forall_mem_cons.mpr ⟨lw_p1, List.forall_mem_cons.mpr ⟨lw_p2, List.forall_mem_cons.mpr ⟨lw_p3, List.forall_mem_cons.mpr ⟨lw_p4, List.forall_mem_cons.mpr ⟨lw_p5, List.forall_mem_cons.mpr ⟨lw_p6, List.forall_mem_cons.mpr ⟨lw_p7, List.forall_mem_cons.mpr ⟨lw_p8, List.forall_mem_cons.mpr ⟨lw_p9, List.forall_mem_cons.mpr ⟨lw_p10, List.forall_mem_cons.mpr ⟨lw_p11, List.forall_mem_cons.mpr ⟨lw_p12, List.forall_mem_cons.mpr ⟨lw_p13, List.forall_mem_cons.mpr ⟨lw_p14, List.forall_mem_cons.mpr ⟨lw_p15, fun _ h => absurd h List.not_mem_nil⟩⟩⟩⟩⟩⟩⟩⟩⟩⟩⟩⟩⟩⟩⟩⟩
theorem lw_p16 : lw_okq (⟨"ClientGuaranteesModel", "savesAside", "()V"⟩, 10) := ⟨⟨by decide +kernel, by decide +kernel⟩, List.mem_of_getElem? (i := 417) (by decide +kernel), List.mem_of_getElem? (i := 486) (by decide +kernel), List.mem_of_getElem? (i := 487) (by decide +kernel)⟩
theorem lw_p17 : lw_okq (⟨"ClientGuaranteesModel", "doesForget", "(I)I"⟩, 10) := ⟨⟨by decide +kernel, by decide +kernel⟩, List.mem_of_getElem? (i := 417) (by decide +kernel), List.mem_of_getElem? (i := 494) (by decide +kernel), List.mem_of_getElem? (i := 495) (by decide +kernel)⟩
theorem lw_p18 : lw_okq (⟨"ClientGuaranteesModel", "doesRead", "(III)I"⟩, 10) := ⟨⟨by decide +kernel, by decide +kernel⟩, List.mem_of_getElem? (i := 417) (by decide +kernel), List.mem_of_getElem? (i := 514) (by decide +kernel), List.mem_of_getElem? (i := 515) (by decide +kernel)⟩
theorem lw_p19 : lw_okq (⟨"ClientGuaranteesModel", "breachesOfRead", "(II)I"⟩, 10) := ⟨⟨by decide +kernel, by decide +kernel⟩, List.mem_of_getElem? (i := 417) (by decide +kernel), List.mem_of_getElem? (i := 521) (by decide +kernel), List.mem_of_getElem? (i := 522) (by decide +kernel)⟩
theorem lw_p20 : lw_okq (⟨"ClientGuaranteesModel", "covers", "(II)Z"⟩, 10) := ⟨⟨by decide +kernel, by decide +kernel⟩, List.mem_of_getElem? (i := 417) (by decide +kernel), List.mem_of_getElem? (i := 525) (by decide +kernel), List.mem_of_getElem? (i := 526) (by decide +kernel)⟩
theorem lw_p21 : lw_okq (⟨"ClientGuaranteesModel", "countsBreaches", "(I)V"⟩, 10) := ⟨⟨by decide +kernel, by decide +kernel⟩, List.mem_of_getElem? (i := 417) (by decide +kernel), List.mem_of_getElem? (i := 529) (by decide +kernel), List.mem_of_getElem? (i := 530) (by decide +kernel)⟩
theorem lw_p22 : lw_okq (⟨"ClientGuaranteesModel", "valueAt", "(II)I"⟩, 10) := ⟨⟨by decide +kernel, by decide +kernel⟩, List.mem_of_getElem? (i := 417) (by decide +kernel), List.mem_of_getElem? (i := 533) (by decide +kernel), List.mem_of_getElem? (i := 534) (by decide +kernel)⟩
theorem lw_p23 : lw_okq (⟨"ClientGuaranteesModel", "isLater", "(II)Z"⟩, 10) := ⟨⟨by decide +kernel, by decide +kernel⟩, List.mem_of_getElem? (i := 417) (by decide +kernel), List.mem_of_getElem? (i := 537) (by decide +kernel), List.mem_of_getElem? (i := 538) (by decide +kernel)⟩
theorem lw_p24 : lw_okq (⟨"ClientGuaranteesModel", "doesWrite", "(IIII)I"⟩, 10) := ⟨⟨by decide +kernel, by decide +kernel⟩, List.mem_of_getElem? (i := 417) (by decide +kernel), List.mem_of_getElem? (i := 545) (by decide +kernel), List.mem_of_getElem? (i := 546) (by decide +kernel)⟩
theorem lw_p25 : lw_okq (⟨"ClientGuaranteesModel", "breachesOfWrite", "(II)I"⟩, 10) := ⟨⟨by decide +kernel, by decide +kernel⟩, List.mem_of_getElem? (i := 417) (by decide +kernel), List.mem_of_getElem? (i := 550) (by decide +kernel), List.mem_of_getElem? (i := 551) (by decide +kernel)⟩
theorem lw_p26 : lw_okq (⟨"ClientGuaranteesModel", "doesSync", "(II)I"⟩, 10) := ⟨⟨by decide +kernel, by decide +kernel⟩, List.mem_of_getElem? (i := 417) (by decide +kernel), List.mem_of_getElem? (i := 558) (by decide +kernel), List.mem_of_getElem? (i := 559) (by decide +kernel)⟩
theorem lw_p27 : lw_okq (⟨"ClientGuaranteesModel", "isReadBy", "(II)Z"⟩, 10) := ⟨⟨by decide +kernel, by decide +kernel⟩, List.mem_of_getElem? (i := 417) (by decide +kernel), List.mem_of_getElem? (i := 585) (by decide +kernel), List.mem_of_getElem? (i := 586) (by decide +kernel)⟩
theorem lw_p28 : lw_okq (⟨"ClientGuaranteesModel", "isCoveredBy", "(II)Z"⟩, 10) := ⟨⟨by decide +kernel, by decide +kernel⟩, List.mem_of_getElem? (i := 417) (by decide +kernel), List.mem_of_getElem? (i := 589) (by decide +kernel), List.mem_of_getElem? (i := 590) (by decide +kernel)⟩
theorem lw_p29 : lw_okq (⟨"ClientGuaranteesModel", "takesCommand", "()Z"⟩, 10) := ⟨⟨by decide +kernel, by decide +kernel⟩, List.mem_of_getElem? (i := 417) (by decide +kernel), List.mem_of_getElem? (i := 626) (by decide +kernel), List.mem_of_getElem? (i := 627) (by decide +kernel)⟩
theorem lw_p30 : lw_okq (⟨"ClientGuaranteesModel", "here", "()I"⟩, 10) := ⟨⟨by decide +kernel, by decide +kernel⟩, List.mem_of_getElem? (i := 417) (by decide +kernel), List.mem_of_getElem? (i := 630) (by decide +kernel), List.mem_of_getElem? (i := 631) (by decide +kernel)⟩
theorem lw_p31 : lw_okq (⟨"ClientGuaranteesModel", "takesNumber", "(I)Z"⟩, 10) := ⟨⟨by decide +kernel, by decide +kernel⟩, List.mem_of_getElem? (i := 417) (by decide +kernel), List.mem_of_getElem? (i := 637) (by decide +kernel), List.mem_of_getElem? (i := 638) (by decide +kernel)⟩
def lw_privs_2 : List (MethodName × Nat) := [(⟨"ClientGuaranteesModel", "savesAside", "()V"⟩, 10), (⟨"ClientGuaranteesModel", "doesForget", "(I)I"⟩, 10), (⟨"ClientGuaranteesModel", "doesRead", "(III)I"⟩, 10), (⟨"ClientGuaranteesModel", "breachesOfRead", "(II)I"⟩, 10), (⟨"ClientGuaranteesModel", "covers", "(II)Z"⟩, 10), (⟨"ClientGuaranteesModel", "countsBreaches", "(I)V"⟩, 10), (⟨"ClientGuaranteesModel", "valueAt", "(II)I"⟩, 10), (⟨"ClientGuaranteesModel", "isLater", "(II)Z"⟩, 10), (⟨"ClientGuaranteesModel", "doesWrite", "(IIII)I"⟩, 10), (⟨"ClientGuaranteesModel", "breachesOfWrite", "(II)I"⟩, 10), (⟨"ClientGuaranteesModel", "doesSync", "(II)I"⟩, 10), (⟨"ClientGuaranteesModel", "isReadBy", "(II)Z"⟩, 10), (⟨"ClientGuaranteesModel", "isCoveredBy", "(II)Z"⟩, 10), (⟨"ClientGuaranteesModel", "takesCommand", "()Z"⟩, 10), (⟨"ClientGuaranteesModel", "here", "()I"⟩, 10), (⟨"ClientGuaranteesModel", "takesNumber", "(I)Z"⟩, 10)]
theorem lw_r2 : ∀ q ∈ lw_privs_2, lw_okq q := List.forall_mem_cons.mpr ⟨lw_p16, List.forall_mem_cons.mpr ⟨lw_p17, List.forall_mem_cons.mpr ⟨lw_p18, List.forall_mem_cons.mpr ⟨lw_p19, List.forall_mem_cons.mpr ⟨lw_p20, List.forall_mem_cons.mpr ⟨lw_p21, List.forall_mem_cons.mpr ⟨lw_p22, List.forall_mem_cons.mpr ⟨lw_p23, List.forall_mem_cons.mpr ⟨lw_p24, List.forall_mem_cons.mpr ⟨lw_p25, List.forall_mem_cons.mpr ⟨lw_p26, List.forall_mem_cons.mpr ⟨lw_p27, List.forall_mem_cons.mpr ⟨lw_p28, List.forall_mem_cons.mpr ⟨lw_p29, List.forall_mem_cons.mpr ⟨lw_p30, List.forall_mem_cons.mpr ⟨lw_p31, fun _ h => absurd h List.not_mem_nil⟩⟩⟩⟩⟩⟩⟩⟩⟩⟩⟩⟩⟩⟩⟩⟩
theorem lw_p32 : lw_okq (⟨"ClientGuaranteesModel", "isDigit", "()Z"⟩, 10) := ⟨⟨by decide +kernel, by decide +kernel⟩, List.mem_of_getElem? (i := 417) (by decide +kernel), List.mem_of_getElem? (i := 643) (by decide +kernel), List.mem_of_getElem? (i := 644) (by decide +kernel)⟩
theorem lw_p33 : lw_okq (⟨"ClientGuaranteesModel", "doesCommand", "()I"⟩, 10) := ⟨⟨by decide +kernel, by decide +kernel⟩, List.mem_of_getElem? (i := 417) (by decide +kernel), List.mem_of_getElem? (i := 647) (by decide +kernel), List.mem_of_getElem? (i := 648) (by decide +kernel)⟩
def lw_privs_3 : List (MethodName × Nat) := [(⟨"ClientGuaranteesModel", "isDigit", "()Z"⟩, 10), (⟨"ClientGuaranteesModel", "doesCommand", "()I"⟩, 10)]
theorem lw_r3 : ∀ q ∈ lw_privs_3, lw_okq q := List.forall_mem_cons.mpr ⟨lw_p32, List.forall_mem_cons.mpr ⟨lw_p33, fun _ h => absurd h List.not_mem_nil⟩⟩
def lw_privs : List (MethodName × Nat) := lw_privs_1 ++ (lw_privs_2 ++ (lw_privs_3))
def lw_tbl : List Cond := k2_sels lw_privs ++ tables_1
theorem lw_privs_ok : ∀ q ∈ lw_privs, lw_okq q := by
  show ∀ q ∈ lw_privs_1 ++ (lw_privs_2 ++ (lw_privs_3)), lw_okq q
  exact List.forall_mem_append.mpr ⟨lw_r1, List.forall_mem_append.mpr ⟨lw_r2, lw_r3⟩⟩
end
section
/-! ===== BEGIN words of one list among another's, by their places ===== -/
theorem goodIn_r {big : List Cond} (ws : List Cond) (ps : List Nat) (hp : ws = ps.filterMap (fun i => big[i]?)) (h : ws.all goodWord = true) : GoodIn big ws := by
  intro w hw
  have h1 := List.all_eq_true.mp h w hw
  rw [hp] at hw
  obtain ⟨i, -, hi⟩ := List.mem_filterMap.mp hw
  have hm : w ∈ big := by first | exact List.mem_of_getElem? hi | exact List.getElem?_mem hi
  exact ⟨hm, good_of_word h1⟩
theorem goodIn_app {big a b : List Cond} (ha : GoodIn big a) (hb : GoodIn big b) : GoodIn big (a ++ b) := fun w h => (List.mem_append.mp h).elim (ha w) (hb w)
theorem goodIn_ca {big a b : List Cond} {c : Cond} (ha : GoodIn big (c :: a)) (hb : GoodIn big b) : GoodIn big (c :: (a ++ b)) := fun w h => (List.mem_cons.mp h).elim (fun e => ha w (List.mem_cons.mpr (Or.inl e))) (fun h => (List.mem_append.mp h).elim (fun h => ha w (List.mem_cons.mpr (Or.inr h))) (hb w))
theorem goodIn_sub {big ws : List Cond} (hm : ∀ w ∈ ws, w ∈ big) (h : ws.all goodWord = true) : GoodIn big ws := fun w hw => ⟨hm w hw, good_of_word (List.all_eq_true.mp h w hw)⟩
/-! ===== END ===== -/

/-! ===== BEGIN printed: names, fields, word lists, decode rows ===== -/
def RX0 : String := "ClientGuarantees$History"
def TX0 : u_T := fun k => match k with
  | 0 => ("ClientGuarantees$History", "slots", "[LClientGuarantees$State;", true)
  | 1 => ("ClientGuarantees$History", "free", "I", false)
  | _ => ("ClientGuarantees$History", "size", "I", false)
def tyX0 : Nat → FieldType := fun k => match k with
  | 0 => .array (.object "ClientGuarantees$State")
  | 1 => .int
  | _ => .int
abbrev wsX00 : List Cond := u_ws RX0 TX0 3
theorem nmX0 : ∀ a, a < 3 → ∀ b, b < 3 → a ≠ b → (TX0 a).2.1 ≠ (TX0 b).2.1 := by decide +kernel
theorem tyX0_ok : ∀ k, k < 3 → parseFieldDescriptor (TX0 k).2.2.1 = some (tyX0 k) := by decide +kernel
abbrev cX0_init : ByteArray := prog_2_method_1_code
def yX0_init : MethodName := ⟨RX0, "<init>", "()V"⟩
abbrev cX0_prepare : ByteArray := prog_2_method_2_code
def yX0_prepare : MethodName := ⟨RX0, "prepare", "(LClientGuarantees$State;)V"⟩
abbrev cX0_restorePrepared : ByteArray := prog_2_method_3_code
def yX0_restorePrepared : MethodName := ⟨RX0, "restorePrepared", "(LClientGuarantees$State;)V"⟩
abbrev cX0_keepPrepared : ByteArray := prog_2_method_4_code
def yX0_keepPrepared : MethodName := ⟨RX0, "keepPrepared", "()V"⟩
abbrev cX0_restoreNewest : ByteArray := prog_2_method_5_code
def yX0_restoreNewest : MethodName := ⟨RX0, "restoreNewest", "(LClientGuarantees$State;)Z"⟩
def RX1 : String := "ClientGuarantees$Script"
def TX1 : u_T := fun k => match k with
  | 0 => ("ClientGuarantees$Script", "text", "[I", true)
  | 1 => ("ClientGuarantees$Script", "length", "I", false)
  | 2 => ("ClientGuarantees$Script", "letters", "[I", true)
  | 3 => ("ClientGuarantees$Script", "numbers", "[[I", true)
  | 4 => ("ClientGuarantees$Script", "commands", "I", false)
  | 5 => ("ClientGuarantees$Script", "inCommand", "Z", false)
  | 6 => ("ClientGuarantees$Script", "numbersBegun", "I", false)
  | _ => ("ClientGuarantees$Script", "digits", "I", false)
def tyX1 : Nat → FieldType := fun k => match k with
  | 0 => .array .int
  | 1 => .int
  | 2 => .array .int
  | 3 => .array (.array .int)
  | 4 => .int
  | 5 => .boolean
  | 6 => .int
  | _ => .int
abbrev wsX10 : List Cond := u_ws RX1 TX1 8
theorem nmX1 : ∀ a, a < 8 → ∀ b, b < 8 → a ≠ b → (TX1 a).2.1 ≠ (TX1 b).2.1 := by decide +kernel
theorem tyX1_ok : ∀ k, k < 8 → parseFieldDescriptor (TX1 k).2.2.1 = some (tyX1 k) := by decide +kernel
abbrev cX1_init : ByteArray := prog_3_method_1_code
def yX1_init : MethodName := ⟨RX1, "<init>", "()V"⟩
abbrev cX1_add : ByteArray := prog_3_method_2_code
def yX1_add : MethodName := ⟨RX1, "add", "(I)I"⟩
abbrev cX1_parse : ByteArray := prog_3_method_3_code
def yX1_parse : MethodName := ⟨RX1, "parse", "()I"⟩
abbrev cX1_accepts : ByteArray := prog_3_method_4_code
def yX1_accepts : MethodName := ⟨RX1, "accepts", "(I)Z"⟩
abbrev cX1_beginsCommand : ByteArray := prog_3_method_5_code
def yX1_beginsCommand : MethodName := ⟨RX1, "beginsCommand", "(I)Z"⟩
abbrev cX1_endsCommand : ByteArray := prog_3_method_6_code
def yX1_endsCommand : MethodName := ⟨RX1, "endsCommand", "()Z"⟩
abbrev cX1_takesDigit : ByteArray := prog_3_method_7_code
def yX1_takesDigit : MethodName := ⟨RX1, "takesDigit", "(I)Z"⟩
abbrev cX1_numbersAfter : ByteArray := prog_3_method_8_code
def yX1_numbersAfter : MethodName := ⟨RX1, "numbersAfter", "(I)I"⟩
def RX2 : String := "ClientGuarantees$State"
def TX2 : u_T := fun k => match k with
  | 0 => ("ClientGuarantees$State", "writeTotal", "I", false)
  | 1 => ("ClientGuarantees$State", "origins", "[I", true)
  | 2 => ("ClientGuarantees$State", "sequences", "[I", true)
  | 3 => ("ClientGuarantees$State", "keys", "[I", true)
  | 4 => ("ClientGuarantees$State", "values", "[I", true)
  | 5 => ("ClientGuarantees$State", "timestamps", "[I", true)
  | 6 => ("ClientGuarantees$State", "counts", "[[I", true)
  | 7 => ("ClientGuarantees$State", "clocks", "[I", true)
  | 8 => ("ClientGuarantees$State", "guaranteeSets", "[I", true)
  | 9 => ("ClientGuarantees$State", "readVectors", "[[I", true)
  | 10 => ("ClientGuarantees$State", "writeVectors", "[[I", true)
  | _ => ("ClientGuarantees$State", "breachCounts", "[I", true)
def tyX2 : Nat → FieldType := fun k => match k with
  | 0 => .int
  | 1 => .array .int
  | 2 => .array .int
  | 3 => .array .int
  | 4 => .array .int
  | 5 => .array .int
  | 6 => .array (.array .int)
  | 7 => .array .int
  | 8 => .array .int
  | 9 => .array (.array .int)
  | 10 => .array (.array .int)
  | _ => .array .int
abbrev wsX20 : List Cond := u_ws RX2 TX2 12
theorem nmX2 : ∀ a, a < 12 → ∀ b, b < 12 → a ≠ b → (TX2 a).2.1 ≠ (TX2 b).2.1 := by decide +kernel
theorem tyX2_ok : ∀ k, k < 12 → parseFieldDescriptor (TX2 k).2.2.1 = some (tyX2 k) := by decide +kernel
abbrev cX2_init : ByteArray := prog_4_method_1_code
def yX2_init : MethodName := ⟨RX2, "<init>", "()V"⟩
abbrev cX2_copyFrom : ByteArray := prog_4_method_2_code
def yX2_copyFrom : MethodName := ⟨RX2, "copyFrom", "(LClientGuarantees$State;)V"⟩
abbrev cX2_changeGuarantees : ByteArray := prog_4_method_3_code
def yX2_changeGuarantees : MethodName := ⟨RX2, "changeGuarantees", "(II)I"⟩
abbrev cX2_clearVectors : ByteArray := prog_4_method_4_code
def yX2_clearVectors : MethodName := ⟨RX2, "clearVectors", "(I)I"⟩
abbrev cX2_readKey : ByteArray := prog_4_method_5_code
def yX2_readKey : MethodName := ⟨RX2, "readKey", "(III)I"⟩
abbrev cX2_writeKey : ByteArray := prog_4_method_6_code
def yX2_writeKey : MethodName := ⟨RX2, "writeKey", "(IIII)I"⟩
abbrev cX2_synchronize : ByteArray := prog_4_method_7_code
def yX2_synchronize : MethodName := ⟨RX2, "synchronize", "(II)I"⟩
abbrev cX2_isReadAllowed : ByteArray := prog_4_method_8_code
def yX2_isReadAllowed : MethodName := ⟨RX2, "isReadAllowed", "(II)Z"⟩
abbrev cX2_isWriteAllowed : ByteArray := prog_4_method_9_code
def yX2_isWriteAllowed : MethodName := ⟨RX2, "isWriteAllowed", "(II)Z"⟩
abbrev cX2_unmetByRead : ByteArray := prog_4_method_10_code
def yX2_unmetByRead : MethodName := ⟨RX2, "unmetByRead", "(II)I"⟩
abbrev cX2_unmetByWrite : ByteArray := prog_4_method_11_code
def yX2_unmetByWrite : MethodName := ⟨RX2, "unmetByWrite", "(II)I"⟩
abbrev cX2_covers : ByteArray := prog_4_method_12_code
def yX2_covers : MethodName := ⟨RX2, "covers", "(I[I)Z"⟩
abbrev cX2_greatestCount : ByteArray := prog_4_method_13_code
def yX2_greatestCount : MethodName := ⟨RX2, "greatestCount", "(II)I"⟩
abbrev cX2_valueAt : ByteArray := prog_4_method_14_code
def yX2_valueAt : MethodName := ⟨RX2, "valueAt", "(II)I"⟩
abbrev cX2_knows : ByteArray := prog_4_method_15_code
def yX2_knows : MethodName := ⟨RX2, "knows", "(II)Z"⟩
abbrev cX2_isLater : ByteArray := prog_4_method_16_code
def yX2_isLater : MethodName := ⟨RX2, "isLater", "(II)Z"⟩
abbrev cX2_countBreaches : ByteArray := prog_4_method_17_code
def yX2_countBreaches : MethodName := ⟨RX2, "countBreaches", "(I)V"⟩
abbrev cX2_mixInto : ByteArray := prog_4_method_18_code
def yX2_mixInto : MethodName := ⟨RX2, "mixInto", "(J)J"⟩
abbrev cX2_merge : ByteArray := prog_4_method_19_code
def yX2_merge : MethodName := ⟨RX2, "merge", "([I[I)V"⟩
abbrev cX2_copyRow : ByteArray := prog_4_method_20_code
def yX2_copyRow : MethodName := ⟨RX2, "copyRow", "([I[I)V"⟩
abbrev cX2_copyRows : ByteArray := prog_4_method_21_code
def yX2_copyRows : MethodName := ⟨RX2, "copyRows", "([[I[[I)V"⟩
def RX3 : String := "ClientGuarantees"
def TX3 : u_T := fun k => match k with
  | 0 => ("ClientGuarantees", "state", "LClientGuarantees$State;", true)
  | 1 => ("ClientGuarantees", "history", "LClientGuarantees$History;", true)
  | 2 => ("ClientGuarantees", "script", "LClientGuarantees$Script;", true)
  | _ => ("ClientGuarantees", "errors", "[I", true)
def tyX3 : Nat → FieldType := fun k => match k with
  | 0 => .object "ClientGuarantees$State"
  | 1 => .object "ClientGuarantees$History"
  | 2 => .object "ClientGuarantees$Script"
  | _ => .array .int
abbrev wsX30 : List Cond := u_ws RX3 TX3 4
theorem nmX3 : ∀ a, a < 4 → ∀ b, b < 4 → a ≠ b → (TX3 a).2.1 ≠ (TX3 b).2.1 := by decide +kernel
theorem tyX3_ok : ∀ k, k < 4 → parseFieldDescriptor (TX3 k).2.2.1 = some (tyX3 k) := by decide +kernel
abbrev cX3_init : ByteArray := prog_1_method_1_code
def yX3_init : MethodName := ⟨RX3, "<init>", "()V"⟩
abbrev cX3_setGuarantees : ByteArray := prog_1_method_2_code
def yX3_setGuarantees : MethodName := ⟨RX3, "setGuarantees", "(II)I"⟩
abbrev cX3_forget : ByteArray := prog_1_method_3_code
def yX3_forget : MethodName := ⟨RX3, "forget", "(I)I"⟩
abbrev cX3_readCount : ByteArray := prog_1_method_4_code
def yX3_readCount : MethodName := ⟨RX3, "readCount", "(II)I"⟩
abbrev cX3_writeCount : ByteArray := prog_1_method_5_code
def yX3_writeCount : MethodName := ⟨RX3, "writeCount", "(II)I"⟩
abbrev cX3_read : ByteArray := prog_1_method_6_code
def yX3_read : MethodName := ⟨RX3, "read", "(III)I"⟩
abbrev cX3_write : ByteArray := prog_1_method_7_code
def yX3_write : MethodName := ⟨RX3, "write", "(IIII)I"⟩
abbrev cX3_sync : ByteArray := prog_1_method_8_code
def yX3_sync : MethodName := ⟨RX3, "sync", "(II)I"⟩
abbrev cX3_readBreaches : ByteArray := prog_1_method_9_code
def yX3_readBreaches : MethodName := ⟨RX3, "readBreaches", "(II)I"⟩
abbrev cX3_writeBreaches : ByteArray := prog_1_method_10_code
def yX3_writeBreaches : MethodName := ⟨RX3, "writeBreaches", "(II)I"⟩
abbrev cX3_readableReplica : ByteArray := prog_1_method_11_code
def yX3_readableReplica : MethodName := ⟨RX3, "readableReplica", "(I)I"⟩
abbrev cX3_writableReplica : ByteArray := prog_1_method_12_code
def yX3_writableReplica : MethodName := ⟨RX3, "writableReplica", "(I)I"⟩
abbrev cX3_syncsForRead : ByteArray := prog_1_method_13_code
def yX3_syncsForRead : MethodName := ⟨RX3, "syncsForRead", "(II)I"⟩
abbrev cX3_count : ByteArray := prog_1_method_14_code
def yX3_count : MethodName := ⟨RX3, "count", "(II)I"⟩
abbrev cX3_clock : ByteArray := prog_1_method_15_code
def yX3_clock : MethodName := ⟨RX3, "clock", "(I)I"⟩
abbrev cX3_peek : ByteArray := prog_1_method_16_code
def yX3_peek : MethodName := ⟨RX3, "peek", "(II)I"⟩
abbrev cX3_compare : ByteArray := prog_1_method_17_code
def yX3_compare : MethodName := ⟨RX3, "compare", "(II)I"⟩
abbrev cX3_breaches : ByteArray := prog_1_method_18_code
def yX3_breaches : MethodName := ⟨RX3, "breaches", "(I)I"⟩
abbrev cX3_append : ByteArray := prog_1_method_19_code
def yX3_append : MethodName := ⟨RX3, "append", "(I)I"⟩
abbrev cX3_clearText : ByteArray := prog_1_method_20_code
def yX3_clearText : MethodName := ⟨RX3, "clearText", "()I"⟩
abbrev cX3_execute : ByteArray := prog_1_method_21_code
def yX3_execute : MethodName := ⟨RX3, "execute", "()I"⟩
abbrev cX3_undo : ByteArray := prog_1_method_22_code
def yX3_undo : MethodName := ⟨RX3, "undo", "()I"⟩
abbrev cX3_errorCount : ByteArray := prog_1_method_23_code
def yX3_errorCount : MethodName := ⟨RX3, "errorCount", "(I)I"⟩
abbrev cX3_writes : ByteArray := prog_1_method_24_code
def yX3_writes : MethodName := ⟨RX3, "writes", "()I"⟩
abbrev cX3_digest : ByteArray := prog_1_method_25_code
def yX3_digest : MethodName := ⟨RX3, "digest", "()J"⟩
abbrev cX3_runCommand : ByteArray := prog_1_method_26_code
def yX3_runCommand : MethodName := ⟨RX3, "runCommand", "(I)I"⟩
abbrev cX3_endUndoable : ByteArray := prog_1_method_27_code
def yX3_endUndoable : MethodName := ⟨RX3, "endUndoable", "(I)I"⟩
abbrev cX3_counted : ByteArray := prog_1_method_28_code
def yX3_counted : MethodName := ⟨RX3, "counted", "(I)I"⟩
abbrev cX3_isErrorCode : ByteArray := prog_1_method_29_code
def yX3_isErrorCode : MethodName := ⟨RX3, "isErrorCode", "(I)Z"⟩
abbrev cX3_isBelow : ByteArray := prog_1_method_30_code
def yX3_isBelow : MethodName := ⟨RX3, "isBelow", "(II)Z"⟩
abbrev cX3_isClient : ByteArray := prog_1_method_31_code
def yX3_isClient : MethodName := ⟨RX3, "isClient", "(I)Z"⟩
abbrev cX3_isReplica : ByteArray := prog_1_method_32_code
def yX3_isReplica : MethodName := ⟨RX3, "isReplica", "(I)Z"⟩
abbrev cX3_isKey : ByteArray := prog_1_method_33_code
def yX3_isKey : MethodName := ⟨RX3, "isKey", "(I)Z"⟩
abbrev cX3_only : ByteArray := prog_1_method_34_code
def yX3_only : MethodName := ⟨RX3, "only", "(I)I"⟩
abbrev cX3_contains : ByteArray := prog_1_method_35_code
def yX3_contains : MethodName := ⟨RX3, "contains", "(II)Z"⟩
abbrev cX3_mix : ByteArray := prog_1_method_36_code
def yX3_mix : MethodName := ⟨RX3, "mix", "(JI)J"⟩
abbrev cX3_mixAll : ByteArray := prog_1_method_37_code
def yX3_mixAll : MethodName := ⟨RX3, "mixAll", "(J[I)J"⟩
def RX4 : String := "ClientGuaranteesModel"
def TX4 : u_T := fun k => match k with
  | 0 => ("ClientGuaranteesModel", "all", "[I", true)
  | 1 => ("ClientGuaranteesModel", "saved", "[I", true)
  | 2 => ("ClientGuaranteesModel", "savedMany", "I", false)
  | 3 => ("ClientGuaranteesModel", "aside", "[I", true)
  | 4 => ("ClientGuaranteesModel", "errors", "[I", true)
  | 5 => ("ClientGuaranteesModel", "text", "[I", true)
  | 6 => ("ClientGuaranteesModel", "textLong", "I", false)
  | 7 => ("ClientGuaranteesModel", "at", "I", false)
  | 8 => ("ClientGuaranteesModel", "numbers", "[I", true)
  | _ => ("ClientGuaranteesModel", "command", "I", false)
def tyX4 : Nat → FieldType := fun k => match k with
  | 0 => .array .int
  | 1 => .array .int
  | 2 => .int
  | 3 => .array .int
  | 4 => .array .int
  | 5 => .array .int
  | 6 => .int
  | 7 => .int
  | 8 => .array .int
  | _ => .int
abbrev wsX40 : List Cond := u_ws RX4 TX4 10
theorem nmX4 : ∀ a, a < 10 → ∀ b, b < 10 → a ≠ b → (TX4 a).2.1 ≠ (TX4 b).2.1 := by decide +kernel
theorem tyX4_ok : ∀ k, k < 10 → parseFieldDescriptor (TX4 k).2.2.1 = some (tyX4 k) := by decide +kernel
abbrev cX4_init : ByteArray := prog_6_method_1_code
def yX4_init : MethodName := ⟨RX4, "<init>", "()V"⟩
abbrev cX4_in : ByteArray := prog_6_method_3_code
def yX4_in : MethodName := ⟨RX4, "in", "(JJJ)Z"⟩
abbrev cX4_error : ByteArray := prog_6_method_4_code
def yX4_error : MethodName := ⟨RX4, "error", "(I)I"⟩
abbrev cX4_answered : ByteArray := prog_6_method_5_code
def yX4_answered : MethodName := ⟨RX4, "answered", "(I)I"⟩
abbrev cX4_putsAside : ByteArray := prog_6_method_6_code
def yX4_putsAside : MethodName := ⟨RX4, "putsAside", "()V"⟩
abbrev cX4_savesAside : ByteArray := prog_6_method_7_code
def yX4_savesAside : MethodName := ⟨RX4, "savesAside", "()V"⟩
abbrev cX4_isClient : ByteArray := prog_6_method_8_code
def yX4_isClient : MethodName := ⟨RX4, "isClient", "(I)Z"⟩
abbrev cX4_isReplica : ByteArray := prog_6_method_9_code
def yX4_isReplica : MethodName := ⟨RX4, "isReplica", "(I)Z"⟩
abbrev cX4_isKey : ByteArray := prog_6_method_10_code
def yX4_isKey : MethodName := ⟨RX4, "isKey", "(I)Z"⟩
abbrev cX4_guarantees : ByteArray := prog_6_method_11_code
def yX4_guarantees : MethodName := ⟨RX4, "guarantees", "(I)I"⟩
abbrev cX4_doesSet : ByteArray := prog_6_method_12_code
def yX4_doesSet : MethodName := ⟨RX4, "doesSet", "(II)I"⟩
abbrev cX4_setGuarantees : ByteArray := prog_6_method_13_code
def yX4_setGuarantees : MethodName := ⟨RX4, "setGuarantees", "(II)I"⟩
abbrev cX4_doesForget : ByteArray := prog_6_method_14_code
def yX4_doesForget : MethodName := ⟨RX4, "doesForget", "(I)I"⟩
abbrev cX4_forget : ByteArray := prog_6_method_15_code
def yX4_forget : MethodName := ⟨RX4, "forget", "(I)I"⟩
abbrev cX4_readCount : ByteArray := prog_6_method_16_code
def yX4_readCount : MethodName := ⟨RX4, "readCount", "(II)I"⟩
abbrev cX4_writeCount : ByteArray := prog_6_method_17_code
def yX4_writeCount : MethodName := ⟨RX4, "writeCount", "(II)I"⟩
abbrev cX4_covers : ByteArray := prog_6_method_18_code
def yX4_covers : MethodName := ⟨RX4, "covers", "(II)Z"⟩
abbrev cX4_breachesOfRead : ByteArray := prog_6_method_19_code
def yX4_breachesOfRead : MethodName := ⟨RX4, "breachesOfRead", "(II)I"⟩
abbrev cX4_breachesOfWrite : ByteArray := prog_6_method_20_code
def yX4_breachesOfWrite : MethodName := ⟨RX4, "breachesOfWrite", "(II)I"⟩
abbrev cX4_countsBreaches : ByteArray := prog_6_method_21_code
def yX4_countsBreaches : MethodName := ⟨RX4, "countsBreaches", "(I)V"⟩
abbrev cX4_isLater : ByteArray := prog_6_method_22_code
def yX4_isLater : MethodName := ⟨RX4, "isLater", "(II)Z"⟩
abbrev cX4_valueAt : ByteArray := prog_6_method_23_code
def yX4_valueAt : MethodName := ⟨RX4, "valueAt", "(II)I"⟩
abbrev cX4_doesRead : ByteArray := prog_6_method_24_code
def yX4_doesRead : MethodName := ⟨RX4, "doesRead", "(III)I"⟩
abbrev cX4_read : ByteArray := prog_6_method_25_code
def yX4_read : MethodName := ⟨RX4, "read", "(III)I"⟩
abbrev cX4_doesWrite : ByteArray := prog_6_method_26_code
def yX4_doesWrite : MethodName := ⟨RX4, "doesWrite", "(IIII)I"⟩
abbrev cX4_write : ByteArray := prog_6_method_27_code
def yX4_write : MethodName := ⟨RX4, "write", "(IIII)I"⟩
abbrev cX4_doesSync : ByteArray := prog_6_method_28_code
def yX4_doesSync : MethodName := ⟨RX4, "doesSync", "(II)I"⟩
abbrev cX4_sync : ByteArray := prog_6_method_29_code
def yX4_sync : MethodName := ⟨RX4, "sync", "(II)I"⟩
abbrev cX4_readBreaches : ByteArray := prog_6_method_30_code
def yX4_readBreaches : MethodName := ⟨RX4, "readBreaches", "(II)I"⟩
abbrev cX4_writeBreaches : ByteArray := prog_6_method_31_code
def yX4_writeBreaches : MethodName := ⟨RX4, "writeBreaches", "(II)I"⟩
abbrev cX4_readableReplica : ByteArray := prog_6_method_32_code
def yX4_readableReplica : MethodName := ⟨RX4, "readableReplica", "(I)I"⟩
abbrev cX4_writableReplica : ByteArray := prog_6_method_33_code
def yX4_writableReplica : MethodName := ⟨RX4, "writableReplica", "(I)I"⟩
abbrev cX4_isCoveredBy : ByteArray := prog_6_method_34_code
def yX4_isCoveredBy : MethodName := ⟨RX4, "isCoveredBy", "(II)Z"⟩
abbrev cX4_isReadBy : ByteArray := prog_6_method_35_code
def yX4_isReadBy : MethodName := ⟨RX4, "isReadBy", "(II)Z"⟩
abbrev cX4_bits : ByteArray := prog_6_method_36_code
def yX4_bits : MethodName := ⟨RX4, "bits", "(I)I"⟩
abbrev cX4_syncsForRead : ByteArray := prog_6_method_37_code
def yX4_syncsForRead : MethodName := ⟨RX4, "syncsForRead", "(II)I"⟩
abbrev cX4_count : ByteArray := prog_6_method_38_code
def yX4_count : MethodName := ⟨RX4, "count", "(II)I"⟩
abbrev cX4_clock : ByteArray := prog_6_method_39_code
def yX4_clock : MethodName := ⟨RX4, "clock", "(I)I"⟩
abbrev cX4_peek : ByteArray := prog_6_method_40_code
def yX4_peek : MethodName := ⟨RX4, "peek", "(II)I"⟩
abbrev cX4_compare : ByteArray := prog_6_method_41_code
def yX4_compare : MethodName := ⟨RX4, "compare", "(II)I"⟩
abbrev cX4_breaches : ByteArray := prog_6_method_42_code
def yX4_breaches : MethodName := ⟨RX4, "breaches", "(I)I"⟩
abbrev cX4_append : ByteArray := prog_6_method_43_code
def yX4_append : MethodName := ⟨RX4, "append", "(I)I"⟩
abbrev cX4_clearText : ByteArray := prog_6_method_44_code
def yX4_clearText : MethodName := ⟨RX4, "clearText", "()I"⟩
abbrev cX4_here : ByteArray := prog_6_method_45_code
def yX4_here : MethodName := ⟨RX4, "here", "()I"⟩
abbrev cX4_isDigit : ByteArray := prog_6_method_46_code
def yX4_isDigit : MethodName := ⟨RX4, "isDigit", "()Z"⟩
abbrev cX4_takesNumber : ByteArray := prog_6_method_47_code
def yX4_takesNumber : MethodName := ⟨RX4, "takesNumber", "(I)Z"⟩
abbrev cX4_numbersOf : ByteArray := prog_6_method_48_code
def yX4_numbersOf : MethodName := ⟨RX4, "numbersOf", "(I)I"⟩
abbrev cX4_takesCommand : ByteArray := prog_6_method_49_code
def yX4_takesCommand : MethodName := ⟨RX4, "takesCommand", "()Z"⟩
abbrev cX4_doesCommand : ByteArray := prog_6_method_50_code
def yX4_doesCommand : MethodName := ⟨RX4, "doesCommand", "()I"⟩
abbrev cX4_execute : ByteArray := prog_6_method_51_code
def yX4_execute : MethodName := ⟨RX4, "execute", "()I"⟩
abbrev cX4_undo : ByteArray := prog_6_method_52_code
def yX4_undo : MethodName := ⟨RX4, "undo", "()I"⟩
abbrev cX4_errorCount : ByteArray := prog_6_method_53_code
def yX4_errorCount : MethodName := ⟨RX4, "errorCount", "(I)I"⟩
abbrev cX4_writes : ByteArray := prog_6_method_54_code
def yX4_writes : MethodName := ⟨RX4, "writes", "()I"⟩
abbrev cX4_digest : ByteArray := prog_6_method_55_code
def yX4_digest : MethodName := ⟨RX4, "digest", "()J"⟩
def RJ9 : String := "java/lang/Math"
def TJ9 : u_T := fun k => match k with
  | _ => ("", "", "", false)
def tyJ9 : Nat → FieldType := fun k => match k with
  | _ => .int
abbrev wsJ90 : List Cond := u_ws RJ9 TJ9 0
theorem nmJ9 : ∀ a, a < 0 → ∀ b, b < 0 → a ≠ b → (TJ9 a).2.1 ≠ (TJ9 b).2.1 := by decide +kernel
theorem tyJ9_ok : ∀ k, k < 0 → parseFieldDescriptor (TJ9 k).2.2.1 = some (tyJ9 k) := by decide +kernel
abbrev cJ9_max_7cf53 : ByteArray := prog_7_method_65_code
def yJ9_max_7cf53 : MethodName := ⟨RJ9, "max", "(II)I"⟩
abbrev cJ9_min_7cf53 : ByteArray := prog_7_method_69_code
def yJ9_min_7cf53 : MethodName := ⟨RJ9, "min", "(II)I"⟩
def RJ10 : String := "java/lang/System"
def TJ10 : u_T := fun k => match k with
  | _ => ("", "", "", false)
def tyJ10 : Nat → FieldType := fun k => match k with
  | _ => .int
abbrev wsJ100 : List Cond := u_ws RJ10 TJ10 0
theorem nmJ10 : ∀ a, a < 0 → ∀ b, b < 0 → a ≠ b → (TJ10 a).2.1 ≠ (TJ10 b).2.1 := by decide +kernel
theorem tyJ10_ok : ∀ k, k < 0 → parseFieldDescriptor (TJ10 k).2.2.1 = some (tyJ10 k) := by decide +kernel
def RL : String := "ClientGuaranteesLaw"
abbrev cL_law : ByteArray := code
def yL_law : MethodName := ⟨RL, "law", "([I)Z"⟩
def wsX2_init : List Cond := .code yX2_init cX2_init 1 none :: ([.methodLink RX2 3 objectInit, .instanceMethod objectInit, .code objectInit ⟨#[0xb1]⟩ 1 none, .fieldLink RX2 9 "ClientGuarantees$State" "writeTotal" "I", .arrayClass .int, .fieldLink RX2 15 "ClientGuarantees$State" "origins" "[I", .fieldLink RX2 19 "ClientGuarantees$State" "sequences" "[I", .fieldLink RX2 22 "ClientGuarantees$State" "keys" "[I", .fieldLink RX2 25 "ClientGuarantees$State" "values" "[I", .fieldLink RX2 28 "ClientGuarantees$State" "timestamps" "[I", .classLink RX2 31 "[[I", .fieldLink RX2 33 "ClientGuarantees$State" "counts" "[[I", .fieldLink RX2 36 "ClientGuarantees$State" "clocks" "[I", .fieldLink RX2 39 "ClientGuarantees$State" "guaranteeSets" "[I", .fieldLink RX2 42 "ClientGuarantees$State" "readVectors" "[[I", .fieldLink RX2 45 "ClientGuarantees$State" "writeVectors" "[[I", .fieldLink RX2 48 "ClientGuarantees$State" "breachCounts" "[I"] ++ wsX20)
def wsX0_init_r1 : List Cond := [Cond.methodLink RX0 3 objectInit, Cond.instanceMethod objectInit, Cond.code objectInit ⟨#[0xb1]⟩ 1 none, Cond.classLink RX0 11 RX2, Cond.fieldLink RX0 13 "ClientGuarantees$History" "slots" "[LClientGuarantees$State;", Cond.fieldLink RX0 17 "ClientGuarantees$History" "free" "I", Cond.fieldLink RX0 21 "ClientGuarantees$History" "size" "I", Cond.instantiable RX2 12, Cond.initialized RX2, Cond.instanceMethod yX2_init, Cond.code yX2_init cX2_init 1 none, Cond.methodLink RX2 3 objectInit, Cond.fieldLink RX2 9 "ClientGuarantees$State" "writeTotal" "I", Cond.arrayClass .int, Cond.fieldLink RX2 15 "ClientGuarantees$State" "origins" "[I", Cond.fieldLink RX2 19 "ClientGuarantees$State" "sequences" "[I", Cond.fieldLink RX2 22 "ClientGuarantees$State" "keys" "[I", Cond.fieldLink RX2 25 "ClientGuarantees$State" "values" "[I", Cond.fieldLink RX2 28 "ClientGuarantees$State" "timestamps" "[I", Cond.classLink RX2 31 "[[I", Cond.fieldLink RX2 33 "ClientGuarantees$State" "counts" "[[I", Cond.fieldLink RX2 36 "ClientGuarantees$State" "clocks" "[I", Cond.fieldLink RX2 39 "ClientGuarantees$State" "guaranteeSets" "[I", Cond.fieldLink RX2 42 "ClientGuarantees$State" "readVectors" "[[I"]
def wsX0_init_r2 : List Cond := [Cond.fieldLink RX2 45 "ClientGuarantees$State" "writeVectors" "[[I", Cond.fieldLink RX2 48 "ClientGuarantees$State" "breachCounts" "[I"]
def wsX0_init : List Cond := .code yX0_init cX0_init 2 none :: ((wsX0_init_r1 ++ wsX0_init_r2) ++ wsX00 ++ wsX20)
def wsX2_copyRow : List Cond := .code yX2_copyRow cX2_copyRow 2 none :: ([.methodLink RX2 123 Lib.Math.min.name, .static Lib.Math.min.name, .initialized "java/lang/Math", .code Lib.Math.min.name Lib.Math.min.code 2 (some .int), .methodLink RX2 126 arraycopyName, .native arraycopyName, .static arraycopyName, .initialized "java/lang/System"])
def wsX2_copyRows : List Cond := .code yX2_copyRows cX2_copyRows 3 none :: ([.methodLink RX2 51 yX2_copyRow, .static yX2_copyRow, .initialized RX2, .code yX2_copyRow cX2_copyRow 2 none, .methodLink RX2 123 Lib.Math.min.name, .static Lib.Math.min.name, .initialized "java/lang/Math", .code Lib.Math.min.name Lib.Math.min.code 2 (some .int), .methodLink RX2 126 arraycopyName, .native arraycopyName, .static arraycopyName, .initialized "java/lang/System"])
def wsX2_copyFrom_r1 : List Cond := [Cond.fieldLink RX2 9 "ClientGuarantees$State" "writeTotal" "I", Cond.fieldLink RX2 15 "ClientGuarantees$State" "origins" "[I", Cond.fieldLink RX2 19 "ClientGuarantees$State" "sequences" "[I", Cond.fieldLink RX2 22 "ClientGuarantees$State" "keys" "[I", Cond.fieldLink RX2 25 "ClientGuarantees$State" "values" "[I", Cond.fieldLink RX2 28 "ClientGuarantees$State" "timestamps" "[I", Cond.fieldLink RX2 33 "ClientGuarantees$State" "counts" "[[I", Cond.fieldLink RX2 36 "ClientGuarantees$State" "clocks" "[I", Cond.fieldLink RX2 39 "ClientGuarantees$State" "guaranteeSets" "[I", Cond.fieldLink RX2 42 "ClientGuarantees$State" "readVectors" "[[I", Cond.fieldLink RX2 45 "ClientGuarantees$State" "writeVectors" "[[I", Cond.fieldLink RX2 48 "ClientGuarantees$State" "breachCounts" "[I", Cond.methodLink RX2 51 yX2_copyRow, Cond.static yX2_copyRow, Cond.initialized RX2, Cond.code yX2_copyRow cX2_copyRow 2 none, Cond.methodLink RX2 123 Lib.Math.min.name, Cond.static Lib.Math.min.name, Cond.initialized "java/lang/Math", Cond.code Lib.Math.min.name Lib.Math.min.code 2 (some .int), Cond.methodLink RX2 126 arraycopyName, Cond.native arraycopyName, Cond.static arraycopyName, Cond.initialized "java/lang/System"]
def wsX2_copyFrom_r2 : List Cond := [Cond.methodLink RX2 55 yX2_copyRows, Cond.static yX2_copyRows, Cond.code yX2_copyRows cX2_copyRows 3 none]
def wsX2_copyFrom : List Cond := .code yX2_copyFrom cX2_copyFrom 2 none :: ((wsX2_copyFrom_r1 ++ wsX2_copyFrom_r2) ++ wsX20)
def wsX0_prepare_r1 : List Cond := [Cond.fieldLink RX0 13 "ClientGuarantees$History" "slots" "[LClientGuarantees$State;", Cond.fieldLink RX0 17 "ClientGuarantees$History" "free" "I", Cond.methodLink RX0 25 yX2_copyFrom, Cond.instanceMethod yX2_copyFrom, Cond.selects RX2 yX2_copyFrom yX2_copyFrom, Cond.initialized RX2, Cond.code yX2_copyFrom cX2_copyFrom 2 none, Cond.fieldLink RX2 9 "ClientGuarantees$State" "writeTotal" "I", Cond.fieldLink RX2 15 "ClientGuarantees$State" "origins" "[I", Cond.fieldLink RX2 19 "ClientGuarantees$State" "sequences" "[I", Cond.fieldLink RX2 22 "ClientGuarantees$State" "keys" "[I", Cond.fieldLink RX2 25 "ClientGuarantees$State" "values" "[I", Cond.fieldLink RX2 28 "ClientGuarantees$State" "timestamps" "[I", Cond.fieldLink RX2 33 "ClientGuarantees$State" "counts" "[[I", Cond.fieldLink RX2 36 "ClientGuarantees$State" "clocks" "[I", Cond.fieldLink RX2 39 "ClientGuarantees$State" "guaranteeSets" "[I", Cond.fieldLink RX2 42 "ClientGuarantees$State" "readVectors" "[[I", Cond.fieldLink RX2 45 "ClientGuarantees$State" "writeVectors" "[[I", Cond.fieldLink RX2 48 "ClientGuarantees$State" "breachCounts" "[I", Cond.methodLink RX2 51 yX2_copyRow, Cond.static yX2_copyRow, Cond.code yX2_copyRow cX2_copyRow 2 none, Cond.methodLink RX2 123 Lib.Math.min.name, Cond.static Lib.Math.min.name]
def wsX0_prepare_r2 : List Cond := [Cond.initialized "java/lang/Math", Cond.code Lib.Math.min.name Lib.Math.min.code 2 (some .int), Cond.methodLink RX2 126 arraycopyName, Cond.native arraycopyName, Cond.static arraycopyName, Cond.initialized "java/lang/System", Cond.methodLink RX2 55 yX2_copyRows, Cond.static yX2_copyRows, Cond.code yX2_copyRows cX2_copyRows 3 none]
def wsX0_prepare : List Cond := .code yX0_prepare cX0_prepare 2 none :: ((wsX0_prepare_r1 ++ wsX0_prepare_r2) ++ wsX00 ++ wsX20)
def wsX0_restorePrepared_r1 : List Cond := [Cond.fieldLink RX0 13 "ClientGuarantees$History" "slots" "[LClientGuarantees$State;", Cond.fieldLink RX0 17 "ClientGuarantees$History" "free" "I", Cond.methodLink RX0 25 yX2_copyFrom, Cond.instanceMethod yX2_copyFrom, Cond.selects RX2 yX2_copyFrom yX2_copyFrom, Cond.initialized RX2, Cond.code yX2_copyFrom cX2_copyFrom 2 none, Cond.fieldLink RX2 9 "ClientGuarantees$State" "writeTotal" "I", Cond.fieldLink RX2 15 "ClientGuarantees$State" "origins" "[I", Cond.fieldLink RX2 19 "ClientGuarantees$State" "sequences" "[I", Cond.fieldLink RX2 22 "ClientGuarantees$State" "keys" "[I", Cond.fieldLink RX2 25 "ClientGuarantees$State" "values" "[I", Cond.fieldLink RX2 28 "ClientGuarantees$State" "timestamps" "[I", Cond.fieldLink RX2 33 "ClientGuarantees$State" "counts" "[[I", Cond.fieldLink RX2 36 "ClientGuarantees$State" "clocks" "[I", Cond.fieldLink RX2 39 "ClientGuarantees$State" "guaranteeSets" "[I", Cond.fieldLink RX2 42 "ClientGuarantees$State" "readVectors" "[[I", Cond.fieldLink RX2 45 "ClientGuarantees$State" "writeVectors" "[[I", Cond.fieldLink RX2 48 "ClientGuarantees$State" "breachCounts" "[I", Cond.methodLink RX2 51 yX2_copyRow, Cond.static yX2_copyRow, Cond.code yX2_copyRow cX2_copyRow 2 none, Cond.methodLink RX2 123 Lib.Math.min.name, Cond.static Lib.Math.min.name]
def wsX0_restorePrepared_r2 : List Cond := [Cond.initialized "java/lang/Math", Cond.code Lib.Math.min.name Lib.Math.min.code 2 (some .int), Cond.methodLink RX2 126 arraycopyName, Cond.native arraycopyName, Cond.static arraycopyName, Cond.initialized "java/lang/System", Cond.methodLink RX2 55 yX2_copyRows, Cond.static yX2_copyRows, Cond.code yX2_copyRows cX2_copyRows 3 none]
def wsX0_restorePrepared : List Cond := .code yX0_restorePrepared cX0_restorePrepared 2 none :: ((wsX0_restorePrepared_r1 ++ wsX0_restorePrepared_r2) ++ wsX00 ++ wsX20)
def wsX0_keepPrepared : List Cond := .code yX0_keepPrepared cX0_keepPrepared 1 none :: ([.fieldLink RX0 17 "ClientGuarantees$History" "free" "I", .fieldLink RX0 21 "ClientGuarantees$History" "size" "I", .methodLink RX0 29 Lib.Math.min.name, .static Lib.Math.min.name, .initialized "java/lang/Math", .code Lib.Math.min.name Lib.Math.min.code 2 (some .int)] ++ wsX00)
def wsX0_restoreNewest_r1 : List Cond := [Cond.fieldLink RX0 21 "ClientGuarantees$History" "size" "I", Cond.fieldLink RX0 17 "ClientGuarantees$History" "free" "I", Cond.fieldLink RX0 13 "ClientGuarantees$History" "slots" "[LClientGuarantees$State;", Cond.methodLink RX0 25 yX2_copyFrom, Cond.instanceMethod yX2_copyFrom, Cond.selects RX2 yX2_copyFrom yX2_copyFrom, Cond.initialized RX2, Cond.code yX2_copyFrom cX2_copyFrom 2 none, Cond.fieldLink RX2 9 "ClientGuarantees$State" "writeTotal" "I", Cond.fieldLink RX2 15 "ClientGuarantees$State" "origins" "[I", Cond.fieldLink RX2 19 "ClientGuarantees$State" "sequences" "[I", Cond.fieldLink RX2 22 "ClientGuarantees$State" "keys" "[I", Cond.fieldLink RX2 25 "ClientGuarantees$State" "values" "[I", Cond.fieldLink RX2 28 "ClientGuarantees$State" "timestamps" "[I", Cond.fieldLink RX2 33 "ClientGuarantees$State" "counts" "[[I", Cond.fieldLink RX2 36 "ClientGuarantees$State" "clocks" "[I", Cond.fieldLink RX2 39 "ClientGuarantees$State" "guaranteeSets" "[I", Cond.fieldLink RX2 42 "ClientGuarantees$State" "readVectors" "[[I", Cond.fieldLink RX2 45 "ClientGuarantees$State" "writeVectors" "[[I", Cond.fieldLink RX2 48 "ClientGuarantees$State" "breachCounts" "[I", Cond.methodLink RX2 51 yX2_copyRow, Cond.static yX2_copyRow, Cond.code yX2_copyRow cX2_copyRow 2 none, Cond.methodLink RX2 123 Lib.Math.min.name]
def wsX0_restoreNewest_r2 : List Cond := [Cond.static Lib.Math.min.name, Cond.initialized "java/lang/Math", Cond.code Lib.Math.min.name Lib.Math.min.code 2 (some .int), Cond.methodLink RX2 126 arraycopyName, Cond.native arraycopyName, Cond.static arraycopyName, Cond.initialized "java/lang/System", Cond.methodLink RX2 55 yX2_copyRows, Cond.static yX2_copyRows, Cond.code yX2_copyRows cX2_copyRows 3 none]
def wsX0_restoreNewest : List Cond := .code yX0_restoreNewest cX0_restoreNewest 2 (some .boolean) :: ((wsX0_restoreNewest_r1 ++ wsX0_restoreNewest_r2) ++ wsX00 ++ wsX20)
def wsX1_init : List Cond := .code yX1_init cX1_init 1 none :: ([.methodLink RX1 3 objectInit, .instanceMethod objectInit, .code objectInit ⟨#[0xb1]⟩ 1 none, .arrayClass .int, .fieldLink RX1 9 "ClientGuarantees$Script" "text" "[I", .fieldLink RX1 15 "ClientGuarantees$Script" "length" "I", .fieldLink RX1 19 "ClientGuarantees$Script" "letters" "[I", .classLink RX1 22 "[[I", .fieldLink RX1 24 "ClientGuarantees$Script" "numbers" "[[I", .fieldLink RX1 27 "ClientGuarantees$Script" "commands" "I", .fieldLink RX1 30 "ClientGuarantees$Script" "inCommand" "Z", .fieldLink RX1 34 "ClientGuarantees$Script" "numbersBegun" "I", .fieldLink RX1 37 "ClientGuarantees$Script" "digits" "I"] ++ wsX10)
def wsX1_add : List Cond := .code yX1_add cX1_add 2 (some .int) :: ([.fieldLink RX1 15 "ClientGuarantees$Script" "length" "I", .fieldLink RX1 9 "ClientGuarantees$Script" "text" "[I"] ++ wsX10)
def wsX1_numbersAfter : List Cond := .code yX1_numbersAfter cX1_numbersAfter 1 (some .int) :: ([])
def wsX1_beginsCommand : List Cond := .code yX1_beginsCommand cX1_beginsCommand 2 (some .boolean) :: ([.fieldLink RX1 27 "ClientGuarantees$Script" "commands" "I", .fieldLink RX1 19 "ClientGuarantees$Script" "letters" "[I", .fieldLink RX1 30 "ClientGuarantees$Script" "inCommand" "Z", .fieldLink RX1 34 "ClientGuarantees$Script" "numbersBegun" "I", .fieldLink RX1 37 "ClientGuarantees$Script" "digits" "I", .methodLink RX1 54 yX1_numbersAfter, .static yX1_numbersAfter, .initialized RX1, .code yX1_numbersAfter cX1_numbersAfter 1 (some .int)] ++ wsX10)
def wsX1_endsCommand : List Cond := .code yX1_endsCommand cX1_endsCommand 1 (some .boolean) :: ([.fieldLink RX1 34 "ClientGuarantees$Script" "numbersBegun" "I", .fieldLink RX1 19 "ClientGuarantees$Script" "letters" "[I", .fieldLink RX1 27 "ClientGuarantees$Script" "commands" "I", .fieldLink RX1 30 "ClientGuarantees$Script" "inCommand" "Z", .methodLink RX1 54 yX1_numbersAfter, .static yX1_numbersAfter, .initialized RX1, .code yX1_numbersAfter cX1_numbersAfter 1 (some .int)] ++ wsX10)
def wsX1_takesDigit : List Cond := .code yX1_takesDigit cX1_takesDigit 3 (some .boolean) :: ([.fieldLink RX1 37 "ClientGuarantees$Script" "digits" "I", .fieldLink RX1 24 "ClientGuarantees$Script" "numbers" "[[I", .fieldLink RX1 27 "ClientGuarantees$Script" "commands" "I", .fieldLink RX1 34 "ClientGuarantees$Script" "numbersBegun" "I", .fieldLink RX1 19 "ClientGuarantees$Script" "letters" "[I", .methodLink RX1 54 yX1_numbersAfter, .static yX1_numbersAfter, .initialized RX1, .code yX1_numbersAfter cX1_numbersAfter 1 (some .int)] ++ wsX10)
def wsX1_accepts : List Cond := .code yX1_accepts cX1_accepts 2 (some .boolean) :: ([.fieldLink RX1 37 "ClientGuarantees$Script" "digits" "I", .fieldLink RX1 30 "ClientGuarantees$Script" "inCommand" "Z", .methodLink RX1 44 yX1_beginsCommand, .instanceMethod yX1_beginsCommand, .selects RX1 yX1_beginsCommand yX1_beginsCommand, .initialized RX1, .code yX1_beginsCommand cX1_beginsCommand 2 (some .boolean), .fieldLink RX1 27 "ClientGuarantees$Script" "commands" "I", .fieldLink RX1 19 "ClientGuarantees$Script" "letters" "[I", .fieldLink RX1 34 "ClientGuarantees$Script" "numbersBegun" "I", .methodLink RX1 54 yX1_numbersAfter, .static yX1_numbersAfter, .code yX1_numbersAfter cX1_numbersAfter 1 (some .int), .methodLink RX1 47 yX1_endsCommand, .instanceMethod yX1_endsCommand, .selects RX1 yX1_endsCommand yX1_endsCommand, .code yX1_endsCommand cX1_endsCommand 1 (some .boolean), .methodLink RX1 51 yX1_takesDigit, .instanceMethod yX1_takesDigit, .selects RX1 yX1_takesDigit yX1_takesDigit, .code yX1_takesDigit cX1_takesDigit 3 (some .boolean), .fieldLink RX1 24 "ClientGuarantees$Script" "numbers" "[[I"] ++ wsX10)
def wsX1_parse_r1 : List Cond := [Cond.fieldLink RX1 27 "ClientGuarantees$Script" "commands" "I", Cond.fieldLink RX1 30 "ClientGuarantees$Script" "inCommand" "Z", Cond.fieldLink RX1 15 "ClientGuarantees$Script" "length" "I", Cond.fieldLink RX1 9 "ClientGuarantees$Script" "text" "[I", Cond.methodLink RX1 40 yX1_accepts, Cond.instanceMethod yX1_accepts, Cond.selects RX1 yX1_accepts yX1_accepts, Cond.initialized RX1, Cond.code yX1_accepts cX1_accepts 2 (some .boolean), Cond.fieldLink RX1 37 "ClientGuarantees$Script" "digits" "I", Cond.methodLink RX1 44 yX1_beginsCommand, Cond.instanceMethod yX1_beginsCommand, Cond.selects RX1 yX1_beginsCommand yX1_beginsCommand, Cond.code yX1_beginsCommand cX1_beginsCommand 2 (some .boolean), Cond.fieldLink RX1 19 "ClientGuarantees$Script" "letters" "[I", Cond.fieldLink RX1 34 "ClientGuarantees$Script" "numbersBegun" "I", Cond.methodLink RX1 54 yX1_numbersAfter, Cond.static yX1_numbersAfter, Cond.code yX1_numbersAfter cX1_numbersAfter 1 (some .int), Cond.methodLink RX1 47 yX1_endsCommand, Cond.instanceMethod yX1_endsCommand, Cond.selects RX1 yX1_endsCommand yX1_endsCommand, Cond.code yX1_endsCommand cX1_endsCommand 1 (some .boolean), Cond.methodLink RX1 51 yX1_takesDigit]
def wsX1_parse_r2 : List Cond := [Cond.instanceMethod yX1_takesDigit, Cond.selects RX1 yX1_takesDigit yX1_takesDigit, Cond.code yX1_takesDigit cX1_takesDigit 3 (some .boolean), Cond.fieldLink RX1 24 "ClientGuarantees$Script" "numbers" "[[I"]
def wsX1_parse : List Cond := .code yX1_parse cX1_parse 2 (some .int) :: ((wsX1_parse_r1 ++ wsX1_parse_r2) ++ wsX10)
def wsX3_isBelow : List Cond := .code yX3_isBelow cX3_isBelow 2 (some .boolean) :: ([])
def wsX3_isClient : List Cond := .code yX3_isClient cX3_isClient 1 (some .boolean) :: ([.methodLink RX3 112 yX3_isBelow, .static yX3_isBelow, .initialized RX3, .code yX3_isBelow cX3_isBelow 2 (some .boolean)])
def wsX2_changeGuarantees : List Cond := .code yX2_changeGuarantees cX2_changeGuarantees 4 (some .int) :: ([.fieldLink RX2 39 "ClientGuarantees$State" "guaranteeSets" "[I", .static yX3_isClient, .initialized RX3, .code yX3_isClient cX3_isClient 1 (some .boolean), .methodLink RX3 112 yX3_isBelow, .static yX3_isBelow, .code yX3_isBelow cX3_isBelow 2 (some .boolean)] ++ wsX20)
def wsX2_clearVectors : List Cond := .code yX2_clearVectors cX2_clearVectors 4 (some .int) :: ([.fieldLink RX2 42 "ClientGuarantees$State" "readVectors" "[[I", .fieldLink RX2 45 "ClientGuarantees$State" "writeVectors" "[[I", .static yX3_isClient, .initialized RX3, .code yX3_isClient cX3_isClient 1 (some .boolean), .methodLink RX3 112 yX3_isBelow, .static yX3_isBelow, .code yX3_isBelow cX3_isBelow 2 (some .boolean)] ++ wsX20)
def wsX3_isReplica : List Cond := .code yX3_isReplica cX3_isReplica 1 (some .boolean) :: ([.methodLink RX3 112 yX3_isBelow, .static yX3_isBelow, .initialized RX3, .code yX3_isBelow cX3_isBelow 2 (some .boolean)])
def wsX3_isKey : List Cond := .code yX3_isKey cX3_isKey 1 (some .boolean) :: ([.methodLink RX3 112 yX3_isBelow, .static yX3_isBelow, .initialized RX3, .code yX3_isBelow cX3_isBelow 2 (some .boolean)])
def wsX3_only : List Cond := .code yX3_only cX3_only 1 (some .int) :: ([])
def wsX3_contains : List Cond := .code yX3_contains cX3_contains 2 (some .boolean) :: ([])
def wsX2_greatestCount : List Cond := .code yX2_greatestCount cX2_greatestCount 5 (some .int) :: ([.fieldLink RX2 33 "ClientGuarantees$State" "counts" "[[I", .methodLink RX2 97 Lib.Math.max.name, .static Lib.Math.max.name, .initialized "java/lang/Math", .code Lib.Math.max.name Lib.Math.max.code 2 (some .int), .static yX3_contains, .initialized RX3, .code yX3_contains cX3_contains 2 (some .boolean)] ++ wsX20)
def wsX2_covers : List Cond := .code yX2_covers cX2_covers 4 (some .boolean) :: ([.methodLink RX2 106 yX2_greatestCount, .instanceMethod yX2_greatestCount, .selects RX2 yX2_greatestCount yX2_greatestCount, .initialized RX2, .code yX2_greatestCount cX2_greatestCount 5 (some .int), .fieldLink RX2 33 "ClientGuarantees$State" "counts" "[[I", .methodLink RX2 97 Lib.Math.max.name, .static Lib.Math.max.name, .initialized "java/lang/Math", .code Lib.Math.max.name Lib.Math.max.code 2 (some .int), .static yX3_contains, .initialized RX3, .code yX3_contains cX3_contains 2 (some .boolean)] ++ wsX20)
def wsX2_unmetByRead : List Cond := .code yX2_unmetByRead cX2_unmetByRead 4 (some .int) :: ([.fieldLink RX2 45 "ClientGuarantees$State" "writeVectors" "[[I", .fieldLink RX2 42 "ClientGuarantees$State" "readVectors" "[[I", .methodLink RX2 102 yX2_covers, .instanceMethod yX2_covers, .selects RX2 yX2_covers yX2_covers, .initialized RX2, .code yX2_covers cX2_covers 4 (some .boolean), .methodLink RX2 106 yX2_greatestCount, .instanceMethod yX2_greatestCount, .selects RX2 yX2_greatestCount yX2_greatestCount, .code yX2_greatestCount cX2_greatestCount 5 (some .int), .fieldLink RX2 33 "ClientGuarantees$State" "counts" "[[I", .methodLink RX2 97 Lib.Math.max.name, .static Lib.Math.max.name, .initialized "java/lang/Math", .code Lib.Math.max.name Lib.Math.max.code 2 (some .int), .static yX3_contains, .initialized RX3, .code yX3_contains cX3_contains 2 (some .boolean)] ++ wsX20)
def wsX2_countBreaches : List Cond := .code yX2_countBreaches cX2_countBreaches 3 none :: ([.fieldLink RX2 48 "ClientGuarantees$State" "breachCounts" "[I", .static yX3_contains, .initialized RX3, .code yX3_contains cX3_contains 2 (some .boolean)] ++ wsX20)
def wsX2_merge : List Cond := .code yX2_merge cX2_merge 3 none :: ([.methodLink RX2 97 Lib.Math.max.name, .static Lib.Math.max.name, .initialized "java/lang/Math", .code Lib.Math.max.name Lib.Math.max.code 2 (some .int)])
def wsX2_knows : List Cond := .code yX2_knows cX2_knows 3 (some .boolean) :: ([.fieldLink RX2 19 "ClientGuarantees$State" "sequences" "[I", .fieldLink RX2 33 "ClientGuarantees$State" "counts" "[[I", .fieldLink RX2 15 "ClientGuarantees$State" "origins" "[I"] ++ wsX20)
def wsX2_isLater : List Cond := .code yX2_isLater cX2_isLater 3 (some .boolean) :: ([.fieldLink RX2 28 "ClientGuarantees$State" "timestamps" "[I", .fieldLink RX2 15 "ClientGuarantees$State" "origins" "[I"] ++ wsX20)
def wsX2_valueAt : List Cond := .code yX2_valueAt cX2_valueAt 5 (some .int) :: ([.fieldLink RX2 9 "ClientGuarantees$State" "writeTotal" "I", .fieldLink RX2 22 "ClientGuarantees$State" "keys" "[I", .fieldLink RX2 25 "ClientGuarantees$State" "values" "[I", .methodLink RX2 94 yX2_knows, .instanceMethod yX2_knows, .selects RX2 yX2_knows yX2_knows, .initialized RX2, .code yX2_knows cX2_knows 3 (some .boolean), .fieldLink RX2 19 "ClientGuarantees$State" "sequences" "[I", .fieldLink RX2 33 "ClientGuarantees$State" "counts" "[[I", .fieldLink RX2 15 "ClientGuarantees$State" "origins" "[I", .methodLink RX2 112 yX2_isLater, .instanceMethod yX2_isLater, .selects RX2 yX2_isLater yX2_isLater, .code yX2_isLater cX2_isLater 3 (some .boolean), .fieldLink RX2 28 "ClientGuarantees$State" "timestamps" "[I"] ++ wsX20)
def wsX2_readKey_r1 : List Cond := [Cond.fieldLink RX2 39 "ClientGuarantees$State" "guaranteeSets" "[I", Cond.fieldLink RX2 33 "ClientGuarantees$State" "counts" "[[I", Cond.fieldLink RX2 42 "ClientGuarantees$State" "readVectors" "[[I", Cond.static yX3_isClient, Cond.initialized RX3, Cond.code yX3_isClient cX3_isClient 1 (some .boolean), Cond.methodLink RX3 112 yX3_isBelow, Cond.static yX3_isBelow, Cond.code yX3_isBelow cX3_isBelow 2 (some .boolean), Cond.static yX3_isReplica, Cond.code yX3_isReplica cX3_isReplica 1 (some .boolean), Cond.static yX3_isKey, Cond.code yX3_isKey cX3_isKey 1 (some .boolean), Cond.static yX3_only, Cond.code yX3_only cX3_only 1 (some .int), Cond.methodLink RX2 77 yX2_unmetByRead, Cond.instanceMethod yX2_unmetByRead, Cond.selects RX2 yX2_unmetByRead yX2_unmetByRead, Cond.initialized RX2, Cond.code yX2_unmetByRead cX2_unmetByRead 4 (some .int), Cond.fieldLink RX2 45 "ClientGuarantees$State" "writeVectors" "[[I", Cond.methodLink RX2 102 yX2_covers, Cond.instanceMethod yX2_covers, Cond.selects RX2 yX2_covers yX2_covers]
def wsX2_readKey_r2 : List Cond := [Cond.code yX2_covers cX2_covers 4 (some .boolean), Cond.methodLink RX2 106 yX2_greatestCount, Cond.instanceMethod yX2_greatestCount, Cond.selects RX2 yX2_greatestCount yX2_greatestCount, Cond.code yX2_greatestCount cX2_greatestCount 5 (some .int), Cond.methodLink RX2 97 Lib.Math.max.name, Cond.static Lib.Math.max.name, Cond.initialized "java/lang/Math", Cond.code Lib.Math.max.name Lib.Math.max.code 2 (some .int), Cond.static yX3_contains, Cond.code yX3_contains cX3_contains 2 (some .boolean), Cond.methodLink RX2 81 yX2_countBreaches, Cond.instanceMethod yX2_countBreaches, Cond.selects RX2 yX2_countBreaches yX2_countBreaches, Cond.code yX2_countBreaches cX2_countBreaches 3 none, Cond.fieldLink RX2 48 "ClientGuarantees$State" "breachCounts" "[I", Cond.methodLink RX2 85 yX2_merge, Cond.static yX2_merge, Cond.code yX2_merge cX2_merge 3 none, Cond.methodLink RX2 88 yX2_valueAt, Cond.instanceMethod yX2_valueAt, Cond.selects RX2 yX2_valueAt yX2_valueAt, Cond.code yX2_valueAt cX2_valueAt 5 (some .int), Cond.fieldLink RX2 9 "ClientGuarantees$State" "writeTotal" "I"]
def wsX2_readKey_r3 : List Cond := [Cond.fieldLink RX2 22 "ClientGuarantees$State" "keys" "[I", Cond.fieldLink RX2 25 "ClientGuarantees$State" "values" "[I", Cond.methodLink RX2 94 yX2_knows, Cond.instanceMethod yX2_knows, Cond.selects RX2 yX2_knows yX2_knows, Cond.code yX2_knows cX2_knows 3 (some .boolean), Cond.fieldLink RX2 19 "ClientGuarantees$State" "sequences" "[I", Cond.fieldLink RX2 15 "ClientGuarantees$State" "origins" "[I", Cond.methodLink RX2 112 yX2_isLater, Cond.instanceMethod yX2_isLater, Cond.selects RX2 yX2_isLater yX2_isLater, Cond.code yX2_isLater cX2_isLater 3 (some .boolean), Cond.fieldLink RX2 28 "ClientGuarantees$State" "timestamps" "[I"]
def wsX2_readKey : List Cond := .code yX2_readKey cX2_readKey 5 (some .int) :: ((wsX2_readKey_r1 ++ (wsX2_readKey_r2 ++ wsX2_readKey_r3)) ++ wsX20)
def wsX2_unmetByWrite : List Cond := .code yX2_unmetByWrite cX2_unmetByWrite 4 (some .int) :: ([.fieldLink RX2 42 "ClientGuarantees$State" "readVectors" "[[I", .fieldLink RX2 45 "ClientGuarantees$State" "writeVectors" "[[I", .static yX3_only, .initialized RX3, .code yX3_only cX3_only 1 (some .int), .methodLink RX2 102 yX2_covers, .instanceMethod yX2_covers, .selects RX2 yX2_covers yX2_covers, .initialized RX2, .code yX2_covers cX2_covers 4 (some .boolean), .methodLink RX2 106 yX2_greatestCount, .instanceMethod yX2_greatestCount, .selects RX2 yX2_greatestCount yX2_greatestCount, .code yX2_greatestCount cX2_greatestCount 5 (some .int), .fieldLink RX2 33 "ClientGuarantees$State" "counts" "[[I", .methodLink RX2 97 Lib.Math.max.name, .static Lib.Math.max.name, .initialized "java/lang/Math", .code Lib.Math.max.name Lib.Math.max.code 2 (some .int), .static yX3_contains, .code yX3_contains cX3_contains 2 (some .boolean)] ++ wsX20)
def wsX2_writeKey_r1 : List Cond := [Cond.fieldLink RX2 39 "ClientGuarantees$State" "guaranteeSets" "[I", Cond.fieldLink RX2 9 "ClientGuarantees$State" "writeTotal" "I", Cond.fieldLink RX2 36 "ClientGuarantees$State" "clocks" "[I", Cond.fieldLink RX2 33 "ClientGuarantees$State" "counts" "[[I", Cond.fieldLink RX2 45 "ClientGuarantees$State" "writeVectors" "[[I", Cond.fieldLink RX2 15 "ClientGuarantees$State" "origins" "[I", Cond.fieldLink RX2 19 "ClientGuarantees$State" "sequences" "[I", Cond.fieldLink RX2 22 "ClientGuarantees$State" "keys" "[I", Cond.fieldLink RX2 25 "ClientGuarantees$State" "values" "[I", Cond.fieldLink RX2 28 "ClientGuarantees$State" "timestamps" "[I", Cond.static yX3_isClient, Cond.initialized RX3, Cond.code yX3_isClient cX3_isClient 1 (some .boolean), Cond.methodLink RX3 112 yX3_isBelow, Cond.static yX3_isBelow, Cond.code yX3_isBelow cX3_isBelow 2 (some .boolean), Cond.static yX3_isReplica, Cond.code yX3_isReplica cX3_isReplica 1 (some .boolean), Cond.static yX3_isKey, Cond.code yX3_isKey cX3_isKey 1 (some .boolean), Cond.methodLink RX2 91 yX2_unmetByWrite, Cond.instanceMethod yX2_unmetByWrite, Cond.selects RX2 yX2_unmetByWrite yX2_unmetByWrite, Cond.initialized RX2]
def wsX2_writeKey_r2 : List Cond := [Cond.code yX2_unmetByWrite cX2_unmetByWrite 4 (some .int), Cond.fieldLink RX2 42 "ClientGuarantees$State" "readVectors" "[[I", Cond.static yX3_only, Cond.code yX3_only cX3_only 1 (some .int), Cond.methodLink RX2 102 yX2_covers, Cond.instanceMethod yX2_covers, Cond.selects RX2 yX2_covers yX2_covers, Cond.code yX2_covers cX2_covers 4 (some .boolean), Cond.methodLink RX2 106 yX2_greatestCount, Cond.instanceMethod yX2_greatestCount, Cond.selects RX2 yX2_greatestCount yX2_greatestCount, Cond.code yX2_greatestCount cX2_greatestCount 5 (some .int), Cond.methodLink RX2 97 Lib.Math.max.name, Cond.static Lib.Math.max.name, Cond.initialized "java/lang/Math", Cond.code Lib.Math.max.name Lib.Math.max.code 2 (some .int), Cond.static yX3_contains, Cond.code yX3_contains cX3_contains 2 (some .boolean), Cond.methodLink RX2 81 yX2_countBreaches, Cond.instanceMethod yX2_countBreaches, Cond.selects RX2 yX2_countBreaches yX2_countBreaches, Cond.code yX2_countBreaches cX2_countBreaches 3 none, Cond.fieldLink RX2 48 "ClientGuarantees$State" "breachCounts" "[I"]
def wsX2_writeKey : List Cond := .code yX2_writeKey cX2_writeKey 6 (some .int) :: ((wsX2_writeKey_r1 ++ wsX2_writeKey_r2) ++ wsX20)
def wsX2_synchronize : List Cond := .code yX2_synchronize cX2_synchronize 5 (some .int) :: ([.fieldLink RX2 9 "ClientGuarantees$State" "writeTotal" "I", .fieldLink RX2 36 "ClientGuarantees$State" "clocks" "[I", .fieldLink RX2 28 "ClientGuarantees$State" "timestamps" "[I", .methodLink RX2 97 Lib.Math.max.name, .static Lib.Math.max.name, .initialized "java/lang/Math", .code Lib.Math.max.name Lib.Math.max.code 2 (some .int), .fieldLink RX2 33 "ClientGuarantees$State" "counts" "[[I", .static yX3_isReplica, .initialized RX3, .code yX3_isReplica cX3_isReplica 1 (some .boolean), .methodLink RX3 112 yX3_isBelow, .static yX3_isBelow, .code yX3_isBelow cX3_isBelow 2 (some .boolean), .methodLink RX2 94 yX2_knows, .instanceMethod yX2_knows, .selects RX2 yX2_knows yX2_knows, .initialized RX2, .code yX2_knows cX2_knows 3 (some .boolean), .fieldLink RX2 19 "ClientGuarantees$State" "sequences" "[I", .fieldLink RX2 15 "ClientGuarantees$State" "origins" "[I", .methodLink RX2 85 yX2_merge, .static yX2_merge, .code yX2_merge cX2_merge 3 none] ++ wsX20)
def wsX2_isReadAllowed : List Cond := .code yX2_isReadAllowed cX2_isReadAllowed 3 (some .boolean) :: ([.fieldLink RX2 39 "ClientGuarantees$State" "guaranteeSets" "[I", .methodLink RX2 77 yX2_unmetByRead, .instanceMethod yX2_unmetByRead, .selects RX2 yX2_unmetByRead yX2_unmetByRead, .initialized RX2, .code yX2_unmetByRead cX2_unmetByRead 4 (some .int), .fieldLink RX2 45 "ClientGuarantees$State" "writeVectors" "[[I", .fieldLink RX2 42 "ClientGuarantees$State" "readVectors" "[[I", .methodLink RX2 102 yX2_covers, .instanceMethod yX2_covers, .selects RX2 yX2_covers yX2_covers, .code yX2_covers cX2_covers 4 (some .boolean), .methodLink RX2 106 yX2_greatestCount, .instanceMethod yX2_greatestCount, .selects RX2 yX2_greatestCount yX2_greatestCount, .code yX2_greatestCount cX2_greatestCount 5 (some .int), .fieldLink RX2 33 "ClientGuarantees$State" "counts" "[[I", .methodLink RX2 97 Lib.Math.max.name, .static Lib.Math.max.name, .initialized "java/lang/Math", .code Lib.Math.max.name Lib.Math.max.code 2 (some .int), .static yX3_contains, .initialized RX3, .code yX3_contains cX3_contains 2 (some .boolean)] ++ wsX20)
def wsX2_isWriteAllowed_r1 : List Cond := [Cond.fieldLink RX2 39 "ClientGuarantees$State" "guaranteeSets" "[I", Cond.methodLink RX2 91 yX2_unmetByWrite, Cond.instanceMethod yX2_unmetByWrite, Cond.selects RX2 yX2_unmetByWrite yX2_unmetByWrite, Cond.initialized RX2, Cond.code yX2_unmetByWrite cX2_unmetByWrite 4 (some .int), Cond.fieldLink RX2 42 "ClientGuarantees$State" "readVectors" "[[I", Cond.fieldLink RX2 45 "ClientGuarantees$State" "writeVectors" "[[I", Cond.static yX3_only, Cond.initialized RX3, Cond.code yX3_only cX3_only 1 (some .int), Cond.methodLink RX2 102 yX2_covers, Cond.instanceMethod yX2_covers, Cond.selects RX2 yX2_covers yX2_covers, Cond.code yX2_covers cX2_covers 4 (some .boolean), Cond.methodLink RX2 106 yX2_greatestCount, Cond.instanceMethod yX2_greatestCount, Cond.selects RX2 yX2_greatestCount yX2_greatestCount, Cond.code yX2_greatestCount cX2_greatestCount 5 (some .int), Cond.fieldLink RX2 33 "ClientGuarantees$State" "counts" "[[I", Cond.methodLink RX2 97 Lib.Math.max.name, Cond.static Lib.Math.max.name, Cond.initialized "java/lang/Math", Cond.code Lib.Math.max.name Lib.Math.max.code 2 (some .int)]
def wsX2_isWriteAllowed_r2 : List Cond := [Cond.static yX3_contains, Cond.code yX3_contains cX3_contains 2 (some .boolean)]
def wsX2_isWriteAllowed : List Cond := .code yX2_isWriteAllowed cX2_isWriteAllowed 3 (some .boolean) :: ((wsX2_isWriteAllowed_r1 ++ wsX2_isWriteAllowed_r2) ++ wsX20)
def wsX3_mix : List Cond := .code yX3_mix cX3_mix 3 (some .long) :: ([.constantLong RX3 174 (31)])
def wsX3_mixAll : List Cond := .code yX3_mixAll cX3_mixAll 7 (some .long) :: ([.methodLink RX3 164 yX3_mix, .static yX3_mix, .initialized RX3, .code yX3_mix cX3_mix 3 (some .long), .constantLong RX3 174 (31)])
def wsX2_mixInto_r1 : List Cond := [Cond.fieldLink RX2 9 "ClientGuarantees$State" "writeTotal" "I", Cond.fieldLink RX2 33 "ClientGuarantees$State" "counts" "[[I", Cond.fieldLink RX2 36 "ClientGuarantees$State" "clocks" "[I", Cond.fieldLink RX2 39 "ClientGuarantees$State" "guaranteeSets" "[I", Cond.fieldLink RX2 42 "ClientGuarantees$State" "readVectors" "[[I", Cond.fieldLink RX2 45 "ClientGuarantees$State" "writeVectors" "[[I", Cond.fieldLink RX2 48 "ClientGuarantees$State" "breachCounts" "[I", Cond.static yX3_mix, Cond.initialized RX3, Cond.code yX3_mix cX3_mix 3 (some .long), Cond.constantLong RX3 174 (31), Cond.static yX3_mixAll, Cond.code yX3_mixAll cX3_mixAll 7 (some .long), Cond.methodLink RX3 164 yX3_mix, Cond.methodLink RX2 88 yX2_valueAt, Cond.instanceMethod yX2_valueAt, Cond.selects RX2 yX2_valueAt yX2_valueAt, Cond.initialized RX2, Cond.code yX2_valueAt cX2_valueAt 5 (some .int), Cond.fieldLink RX2 22 "ClientGuarantees$State" "keys" "[I", Cond.fieldLink RX2 25 "ClientGuarantees$State" "values" "[I", Cond.methodLink RX2 94 yX2_knows, Cond.instanceMethod yX2_knows, Cond.selects RX2 yX2_knows yX2_knows]
def wsX2_mixInto_r2 : List Cond := [Cond.code yX2_knows cX2_knows 3 (some .boolean), Cond.fieldLink RX2 19 "ClientGuarantees$State" "sequences" "[I", Cond.fieldLink RX2 15 "ClientGuarantees$State" "origins" "[I", Cond.methodLink RX2 112 yX2_isLater, Cond.instanceMethod yX2_isLater, Cond.selects RX2 yX2_isLater yX2_isLater, Cond.code yX2_isLater cX2_isLater 3 (some .boolean), Cond.fieldLink RX2 28 "ClientGuarantees$State" "timestamps" "[I"]
def wsX2_mixInto : List Cond := .code yX2_mixInto cX2_mixInto 5 (some .long) :: ((wsX2_mixInto_r1 ++ wsX2_mixInto_r2) ++ wsX20)
def wsX3_init_r1 : List Cond := [Cond.methodLink RX3 3 objectInit, Cond.instanceMethod objectInit, Cond.code objectInit ⟨#[0xb1]⟩ 1 none, Cond.classLink RX3 9 RX2, Cond.instantiable RX2 12, Cond.initialized RX2, Cond.fieldLink RX3 12 "ClientGuarantees" "state" "LClientGuarantees$State;", Cond.classLink RX3 16 RX0, Cond.instantiable RX0 3, Cond.initialized RX0, Cond.fieldLink RX3 19 "ClientGuarantees" "history" "LClientGuarantees$History;", Cond.classLink RX3 23 RX1, Cond.instantiable RX1 8, Cond.initialized RX1, Cond.fieldLink RX3 26 "ClientGuarantees" "script" "LClientGuarantees$Script;", Cond.arrayClass .int, Cond.fieldLink RX3 30 "ClientGuarantees" "errors" "[I", Cond.instanceMethod yX2_init, Cond.code yX2_init cX2_init 1 none, Cond.methodLink RX2 3 objectInit, Cond.fieldLink RX2 9 "ClientGuarantees$State" "writeTotal" "I", Cond.fieldLink RX2 15 "ClientGuarantees$State" "origins" "[I", Cond.fieldLink RX2 19 "ClientGuarantees$State" "sequences" "[I", Cond.fieldLink RX2 22 "ClientGuarantees$State" "keys" "[I"]
def wsX3_init_r2 : List Cond := [Cond.fieldLink RX2 25 "ClientGuarantees$State" "values" "[I", Cond.fieldLink RX2 28 "ClientGuarantees$State" "timestamps" "[I", Cond.classLink RX2 31 "[[I", Cond.fieldLink RX2 33 "ClientGuarantees$State" "counts" "[[I", Cond.fieldLink RX2 36 "ClientGuarantees$State" "clocks" "[I", Cond.fieldLink RX2 39 "ClientGuarantees$State" "guaranteeSets" "[I", Cond.fieldLink RX2 42 "ClientGuarantees$State" "readVectors" "[[I", Cond.fieldLink RX2 45 "ClientGuarantees$State" "writeVectors" "[[I", Cond.fieldLink RX2 48 "ClientGuarantees$State" "breachCounts" "[I", Cond.methodLink RX3 18 yX0_init, Cond.instanceMethod yX0_init, Cond.code yX0_init cX0_init 2 none, Cond.methodLink RX0 3 objectInit, Cond.classLink RX0 11 RX2, Cond.fieldLink RX0 13 "ClientGuarantees$History" "slots" "[LClientGuarantees$State;", Cond.fieldLink RX0 17 "ClientGuarantees$History" "free" "I", Cond.fieldLink RX0 21 "ClientGuarantees$History" "size" "I", Cond.instanceMethod yX1_init, Cond.code yX1_init cX1_init 1 none, Cond.methodLink RX1 3 objectInit, Cond.fieldLink RX1 9 "ClientGuarantees$Script" "text" "[I", Cond.fieldLink RX1 15 "ClientGuarantees$Script" "length" "I", Cond.fieldLink RX1 19 "ClientGuarantees$Script" "letters" "[I", Cond.classLink RX1 22 "[[I"]
def wsX3_init_r3 : List Cond := [Cond.fieldLink RX1 24 "ClientGuarantees$Script" "numbers" "[[I", Cond.fieldLink RX1 27 "ClientGuarantees$Script" "commands" "I", Cond.fieldLink RX1 30 "ClientGuarantees$Script" "inCommand" "Z", Cond.fieldLink RX1 34 "ClientGuarantees$Script" "numbersBegun" "I", Cond.fieldLink RX1 37 "ClientGuarantees$Script" "digits" "I"]
def wsX3_init : List Cond := .code yX3_init cX3_init 1 none :: ((wsX3_init_r1 ++ (wsX3_init_r2 ++ wsX3_init_r3)) ++ wsX20 ++ wsX30 ++ wsX00 ++ wsX10)
def wsX3_isErrorCode : List Cond := .code yX3_isErrorCode cX3_isErrorCode 1 (some .boolean) :: ([])
def wsX3_counted : List Cond := .code yX3_counted cX3_counted 2 (some .int) :: ([.fieldLink RX3 30 "ClientGuarantees" "errors" "[I", .methodLink RX3 148 yX3_isErrorCode, .static yX3_isErrorCode, .initialized RX3, .code yX3_isErrorCode cX3_isErrorCode 1 (some .boolean)] ++ wsX30)
def wsX3_endUndoable : List Cond := .code yX3_endUndoable cX3_endUndoable 2 (some .int) :: ([.fieldLink RX3 19 "ClientGuarantees" "history" "LClientGuarantees$History;", .methodLink RX3 138 yX0_keepPrepared, .instanceMethod yX0_keepPrepared, .selects RX0 yX0_keepPrepared yX0_keepPrepared, .initialized RX0, .code yX0_keepPrepared cX0_keepPrepared 1 none, .fieldLink RX0 17 "ClientGuarantees$History" "free" "I", .fieldLink RX0 21 "ClientGuarantees$History" "size" "I", .methodLink RX0 29 Lib.Math.min.name, .static Lib.Math.min.name, .initialized "java/lang/Math", .code Lib.Math.min.name Lib.Math.min.code 2 (some .int), .methodLink RX3 56 yX3_counted, .instanceMethod yX3_counted, .selects RX3 yX3_counted yX3_counted, .initialized RX3, .code yX3_counted cX3_counted 2 (some .int), .fieldLink RX3 30 "ClientGuarantees" "errors" "[I", .methodLink RX3 148 yX3_isErrorCode, .static yX3_isErrorCode, .code yX3_isErrorCode cX3_isErrorCode 1 (some .boolean)] ++ wsX30 ++ wsX00)
def wsX3_setGuarantees_r1 : List Cond := [Cond.fieldLink RX3 19 "ClientGuarantees" "history" "LClientGuarantees$History;", Cond.fieldLink RX3 12 "ClientGuarantees" "state" "LClientGuarantees$State;", Cond.methodLink RX3 34 yX0_prepare, Cond.instanceMethod yX0_prepare, Cond.selects RX0 yX0_prepare yX0_prepare, Cond.initialized RX0, Cond.code yX0_prepare cX0_prepare 2 none, Cond.fieldLink RX0 13 "ClientGuarantees$History" "slots" "[LClientGuarantees$State;", Cond.fieldLink RX0 17 "ClientGuarantees$History" "free" "I", Cond.methodLink RX0 25 yX2_copyFrom, Cond.instanceMethod yX2_copyFrom, Cond.selects RX2 yX2_copyFrom yX2_copyFrom, Cond.initialized RX2, Cond.code yX2_copyFrom cX2_copyFrom 2 none, Cond.fieldLink RX2 9 "ClientGuarantees$State" "writeTotal" "I", Cond.fieldLink RX2 15 "ClientGuarantees$State" "origins" "[I", Cond.fieldLink RX2 19 "ClientGuarantees$State" "sequences" "[I", Cond.fieldLink RX2 22 "ClientGuarantees$State" "keys" "[I", Cond.fieldLink RX2 25 "ClientGuarantees$State" "values" "[I", Cond.fieldLink RX2 28 "ClientGuarantees$State" "timestamps" "[I", Cond.fieldLink RX2 33 "ClientGuarantees$State" "counts" "[[I", Cond.fieldLink RX2 36 "ClientGuarantees$State" "clocks" "[I", Cond.fieldLink RX2 39 "ClientGuarantees$State" "guaranteeSets" "[I", Cond.fieldLink RX2 42 "ClientGuarantees$State" "readVectors" "[[I"]
def wsX3_setGuarantees_r2 : List Cond := [Cond.fieldLink RX2 45 "ClientGuarantees$State" "writeVectors" "[[I", Cond.fieldLink RX2 48 "ClientGuarantees$State" "breachCounts" "[I", Cond.methodLink RX2 51 yX2_copyRow, Cond.static yX2_copyRow, Cond.code yX2_copyRow cX2_copyRow 2 none, Cond.methodLink RX2 123 Lib.Math.min.name, Cond.static Lib.Math.min.name, Cond.initialized "java/lang/Math", Cond.code Lib.Math.min.name Lib.Math.min.code 2 (some .int), Cond.methodLink RX2 126 arraycopyName, Cond.native arraycopyName, Cond.static arraycopyName, Cond.initialized "java/lang/System", Cond.methodLink RX2 55 yX2_copyRows, Cond.static yX2_copyRows, Cond.code yX2_copyRows cX2_copyRows 3 none, Cond.methodLink RX3 38 yX2_changeGuarantees, Cond.instanceMethod yX2_changeGuarantees, Cond.selects RX2 yX2_changeGuarantees yX2_changeGuarantees, Cond.code yX2_changeGuarantees cX2_changeGuarantees 4 (some .int), Cond.static yX3_isClient, Cond.initialized RX3, Cond.code yX3_isClient cX3_isClient 1 (some .boolean), Cond.methodLink RX3 112 yX3_isBelow]
def wsX3_setGuarantees_r3 : List Cond := [Cond.static yX3_isBelow, Cond.code yX3_isBelow cX3_isBelow 2 (some .boolean), Cond.methodLink RX3 42 yX3_endUndoable, Cond.instanceMethod yX3_endUndoable, Cond.selects RX3 yX3_endUndoable yX3_endUndoable, Cond.code yX3_endUndoable cX3_endUndoable 2 (some .int), Cond.methodLink RX3 138 yX0_keepPrepared, Cond.instanceMethod yX0_keepPrepared, Cond.selects RX0 yX0_keepPrepared yX0_keepPrepared, Cond.code yX0_keepPrepared cX0_keepPrepared 1 none, Cond.fieldLink RX0 21 "ClientGuarantees$History" "size" "I", Cond.methodLink RX0 29 Lib.Math.min.name, Cond.methodLink RX3 56 yX3_counted, Cond.instanceMethod yX3_counted, Cond.selects RX3 yX3_counted yX3_counted, Cond.code yX3_counted cX3_counted 2 (some .int), Cond.fieldLink RX3 30 "ClientGuarantees" "errors" "[I", Cond.methodLink RX3 148 yX3_isErrorCode, Cond.static yX3_isErrorCode, Cond.code yX3_isErrorCode cX3_isErrorCode 1 (some .boolean)]
def wsX3_setGuarantees : List Cond := .code yX3_setGuarantees cX3_setGuarantees 3 (some .int) :: ((wsX3_setGuarantees_r1 ++ (wsX3_setGuarantees_r2 ++ wsX3_setGuarantees_r3)) ++ wsX30 ++ wsX00 ++ wsX20)
def wsX3_forget_r1 : List Cond := [Cond.fieldLink RX3 19 "ClientGuarantees" "history" "LClientGuarantees$History;", Cond.fieldLink RX3 12 "ClientGuarantees" "state" "LClientGuarantees$State;", Cond.methodLink RX3 34 yX0_prepare, Cond.instanceMethod yX0_prepare, Cond.selects RX0 yX0_prepare yX0_prepare, Cond.initialized RX0, Cond.code yX0_prepare cX0_prepare 2 none, Cond.fieldLink RX0 13 "ClientGuarantees$History" "slots" "[LClientGuarantees$State;", Cond.fieldLink RX0 17 "ClientGuarantees$History" "free" "I", Cond.methodLink RX0 25 yX2_copyFrom, Cond.instanceMethod yX2_copyFrom, Cond.selects RX2 yX2_copyFrom yX2_copyFrom, Cond.initialized RX2, Cond.code yX2_copyFrom cX2_copyFrom 2 none, Cond.fieldLink RX2 9 "ClientGuarantees$State" "writeTotal" "I", Cond.fieldLink RX2 15 "ClientGuarantees$State" "origins" "[I", Cond.fieldLink RX2 19 "ClientGuarantees$State" "sequences" "[I", Cond.fieldLink RX2 22 "ClientGuarantees$State" "keys" "[I", Cond.fieldLink RX2 25 "ClientGuarantees$State" "values" "[I", Cond.fieldLink RX2 28 "ClientGuarantees$State" "timestamps" "[I", Cond.fieldLink RX2 33 "ClientGuarantees$State" "counts" "[[I", Cond.fieldLink RX2 36 "ClientGuarantees$State" "clocks" "[I", Cond.fieldLink RX2 39 "ClientGuarantees$State" "guaranteeSets" "[I", Cond.fieldLink RX2 42 "ClientGuarantees$State" "readVectors" "[[I"]
def wsX3_forget_r2 : List Cond := [Cond.fieldLink RX2 45 "ClientGuarantees$State" "writeVectors" "[[I", Cond.fieldLink RX2 48 "ClientGuarantees$State" "breachCounts" "[I", Cond.methodLink RX2 51 yX2_copyRow, Cond.static yX2_copyRow, Cond.code yX2_copyRow cX2_copyRow 2 none, Cond.methodLink RX2 123 Lib.Math.min.name, Cond.static Lib.Math.min.name, Cond.initialized "java/lang/Math", Cond.code Lib.Math.min.name Lib.Math.min.code 2 (some .int), Cond.methodLink RX2 126 arraycopyName, Cond.native arraycopyName, Cond.static arraycopyName, Cond.initialized "java/lang/System", Cond.methodLink RX2 55 yX2_copyRows, Cond.static yX2_copyRows, Cond.code yX2_copyRows cX2_copyRows 3 none, Cond.methodLink RX3 46 yX2_clearVectors, Cond.instanceMethod yX2_clearVectors, Cond.selects RX2 yX2_clearVectors yX2_clearVectors, Cond.code yX2_clearVectors cX2_clearVectors 4 (some .int), Cond.static yX3_isClient, Cond.initialized RX3, Cond.code yX3_isClient cX3_isClient 1 (some .boolean), Cond.methodLink RX3 112 yX3_isBelow]
def wsX3_forget_r3 : List Cond := [Cond.static yX3_isBelow, Cond.code yX3_isBelow cX3_isBelow 2 (some .boolean), Cond.methodLink RX3 42 yX3_endUndoable, Cond.instanceMethod yX3_endUndoable, Cond.selects RX3 yX3_endUndoable yX3_endUndoable, Cond.code yX3_endUndoable cX3_endUndoable 2 (some .int), Cond.methodLink RX3 138 yX0_keepPrepared, Cond.instanceMethod yX0_keepPrepared, Cond.selects RX0 yX0_keepPrepared yX0_keepPrepared, Cond.code yX0_keepPrepared cX0_keepPrepared 1 none, Cond.fieldLink RX0 21 "ClientGuarantees$History" "size" "I", Cond.methodLink RX0 29 Lib.Math.min.name, Cond.methodLink RX3 56 yX3_counted, Cond.instanceMethod yX3_counted, Cond.selects RX3 yX3_counted yX3_counted, Cond.code yX3_counted cX3_counted 2 (some .int), Cond.fieldLink RX3 30 "ClientGuarantees" "errors" "[I", Cond.methodLink RX3 148 yX3_isErrorCode, Cond.static yX3_isErrorCode, Cond.code yX3_isErrorCode cX3_isErrorCode 1 (some .boolean)]
def wsX3_forget : List Cond := .code yX3_forget cX3_forget 2 (some .int) :: ((wsX3_forget_r1 ++ (wsX3_forget_r2 ++ wsX3_forget_r3)) ++ wsX30 ++ wsX00 ++ wsX20)
def wsX3_readCount : List Cond := .code yX3_readCount cX3_readCount 3 (some .int) :: ([.fieldLink RX3 12 "ClientGuarantees" "state" "LClientGuarantees$State;", .fieldLink RX3 59 "ClientGuarantees$State" "readVectors" "[[I", .methodLink RX3 49 yX3_isClient, .static yX3_isClient, .initialized RX3, .code yX3_isClient cX3_isClient 1 (some .boolean), .methodLink RX3 112 yX3_isBelow, .static yX3_isBelow, .code yX3_isBelow cX3_isBelow 2 (some .boolean), .methodLink RX3 53 yX3_isReplica, .static yX3_isReplica, .code yX3_isReplica cX3_isReplica 1 (some .boolean), .methodLink RX3 56 yX3_counted, .instanceMethod yX3_counted, .selects RX3 yX3_counted yX3_counted, .code yX3_counted cX3_counted 2 (some .int), .fieldLink RX3 30 "ClientGuarantees" "errors" "[I", .methodLink RX3 148 yX3_isErrorCode, .static yX3_isErrorCode, .code yX3_isErrorCode cX3_isErrorCode 1 (some .boolean)] ++ wsX30 ++ wsX20)
def wsX3_writeCount : List Cond := .code yX3_writeCount cX3_writeCount 3 (some .int) :: ([.fieldLink RX3 12 "ClientGuarantees" "state" "LClientGuarantees$State;", .fieldLink RX3 63 "ClientGuarantees$State" "writeVectors" "[[I", .methodLink RX3 49 yX3_isClient, .static yX3_isClient, .initialized RX3, .code yX3_isClient cX3_isClient 1 (some .boolean), .methodLink RX3 112 yX3_isBelow, .static yX3_isBelow, .code yX3_isBelow cX3_isBelow 2 (some .boolean), .methodLink RX3 53 yX3_isReplica, .static yX3_isReplica, .code yX3_isReplica cX3_isReplica 1 (some .boolean), .methodLink RX3 56 yX3_counted, .instanceMethod yX3_counted, .selects RX3 yX3_counted yX3_counted, .code yX3_counted cX3_counted 2 (some .int), .fieldLink RX3 30 "ClientGuarantees" "errors" "[I", .methodLink RX3 148 yX3_isErrorCode, .static yX3_isErrorCode, .code yX3_isErrorCode cX3_isErrorCode 1 (some .boolean)] ++ wsX30 ++ wsX20)
def wsX3_read_r1 : List Cond := [Cond.fieldLink RX3 19 "ClientGuarantees" "history" "LClientGuarantees$History;", Cond.fieldLink RX3 12 "ClientGuarantees" "state" "LClientGuarantees$State;", Cond.methodLink RX3 34 yX0_prepare, Cond.instanceMethod yX0_prepare, Cond.selects RX0 yX0_prepare yX0_prepare, Cond.initialized RX0, Cond.code yX0_prepare cX0_prepare 2 none, Cond.fieldLink RX0 13 "ClientGuarantees$History" "slots" "[LClientGuarantees$State;", Cond.fieldLink RX0 17 "ClientGuarantees$History" "free" "I", Cond.methodLink RX0 25 yX2_copyFrom, Cond.instanceMethod yX2_copyFrom, Cond.selects RX2 yX2_copyFrom yX2_copyFrom, Cond.initialized RX2, Cond.code yX2_copyFrom cX2_copyFrom 2 none, Cond.fieldLink RX2 9 "ClientGuarantees$State" "writeTotal" "I", Cond.fieldLink RX2 15 "ClientGuarantees$State" "origins" "[I", Cond.fieldLink RX2 19 "ClientGuarantees$State" "sequences" "[I", Cond.fieldLink RX2 22 "ClientGuarantees$State" "keys" "[I", Cond.fieldLink RX2 25 "ClientGuarantees$State" "values" "[I", Cond.fieldLink RX2 28 "ClientGuarantees$State" "timestamps" "[I", Cond.fieldLink RX2 33 "ClientGuarantees$State" "counts" "[[I", Cond.fieldLink RX2 36 "ClientGuarantees$State" "clocks" "[I", Cond.fieldLink RX2 39 "ClientGuarantees$State" "guaranteeSets" "[I", Cond.fieldLink RX2 42 "ClientGuarantees$State" "readVectors" "[[I"]
def wsX3_read_r2 : List Cond := [Cond.fieldLink RX2 45 "ClientGuarantees$State" "writeVectors" "[[I", Cond.fieldLink RX2 48 "ClientGuarantees$State" "breachCounts" "[I", Cond.methodLink RX2 51 yX2_copyRow, Cond.static yX2_copyRow, Cond.code yX2_copyRow cX2_copyRow 2 none, Cond.methodLink RX2 123 Lib.Math.min.name, Cond.static Lib.Math.min.name, Cond.initialized "java/lang/Math", Cond.code Lib.Math.min.name Lib.Math.min.code 2 (some .int), Cond.methodLink RX2 126 arraycopyName, Cond.native arraycopyName, Cond.static arraycopyName, Cond.initialized "java/lang/System", Cond.methodLink RX2 55 yX2_copyRows, Cond.static yX2_copyRows, Cond.code yX2_copyRows cX2_copyRows 3 none, Cond.methodLink RX3 66 yX2_readKey, Cond.instanceMethod yX2_readKey, Cond.selects RX2 yX2_readKey yX2_readKey, Cond.code yX2_readKey cX2_readKey 5 (some .int), Cond.static yX3_isClient, Cond.initialized RX3, Cond.code yX3_isClient cX3_isClient 1 (some .boolean), Cond.methodLink RX3 112 yX3_isBelow]
def wsX3_read_r3 : List Cond := [Cond.static yX3_isBelow, Cond.code yX3_isBelow cX3_isBelow 2 (some .boolean), Cond.static yX3_isReplica, Cond.code yX3_isReplica cX3_isReplica 1 (some .boolean), Cond.static yX3_isKey, Cond.code yX3_isKey cX3_isKey 1 (some .boolean), Cond.static yX3_only, Cond.code yX3_only cX3_only 1 (some .int), Cond.methodLink RX2 77 yX2_unmetByRead, Cond.instanceMethod yX2_unmetByRead, Cond.selects RX2 yX2_unmetByRead yX2_unmetByRead, Cond.code yX2_unmetByRead cX2_unmetByRead 4 (some .int), Cond.methodLink RX2 102 yX2_covers, Cond.instanceMethod yX2_covers, Cond.selects RX2 yX2_covers yX2_covers, Cond.code yX2_covers cX2_covers 4 (some .boolean), Cond.methodLink RX2 106 yX2_greatestCount, Cond.instanceMethod yX2_greatestCount, Cond.selects RX2 yX2_greatestCount yX2_greatestCount, Cond.code yX2_greatestCount cX2_greatestCount 5 (some .int), Cond.methodLink RX2 97 Lib.Math.max.name, Cond.static Lib.Math.max.name, Cond.code Lib.Math.max.name Lib.Math.max.code 2 (some .int), Cond.static yX3_contains]
def wsX3_read_r4 : List Cond := [Cond.code yX3_contains cX3_contains 2 (some .boolean), Cond.methodLink RX2 81 yX2_countBreaches, Cond.instanceMethod yX2_countBreaches, Cond.selects RX2 yX2_countBreaches yX2_countBreaches, Cond.code yX2_countBreaches cX2_countBreaches 3 none, Cond.methodLink RX2 85 yX2_merge, Cond.static yX2_merge, Cond.code yX2_merge cX2_merge 3 none, Cond.methodLink RX2 88 yX2_valueAt, Cond.instanceMethod yX2_valueAt, Cond.selects RX2 yX2_valueAt yX2_valueAt, Cond.code yX2_valueAt cX2_valueAt 5 (some .int), Cond.methodLink RX2 94 yX2_knows, Cond.instanceMethod yX2_knows, Cond.selects RX2 yX2_knows yX2_knows, Cond.code yX2_knows cX2_knows 3 (some .boolean), Cond.methodLink RX2 112 yX2_isLater, Cond.instanceMethod yX2_isLater, Cond.selects RX2 yX2_isLater yX2_isLater, Cond.code yX2_isLater cX2_isLater 3 (some .boolean), Cond.methodLink RX3 42 yX3_endUndoable, Cond.instanceMethod yX3_endUndoable, Cond.selects RX3 yX3_endUndoable yX3_endUndoable, Cond.code yX3_endUndoable cX3_endUndoable 2 (some .int)]
def wsX3_read_r5 : List Cond := [Cond.methodLink RX3 138 yX0_keepPrepared, Cond.instanceMethod yX0_keepPrepared, Cond.selects RX0 yX0_keepPrepared yX0_keepPrepared, Cond.code yX0_keepPrepared cX0_keepPrepared 1 none, Cond.fieldLink RX0 21 "ClientGuarantees$History" "size" "I", Cond.methodLink RX0 29 Lib.Math.min.name, Cond.methodLink RX3 56 yX3_counted, Cond.instanceMethod yX3_counted, Cond.selects RX3 yX3_counted yX3_counted, Cond.code yX3_counted cX3_counted 2 (some .int), Cond.fieldLink RX3 30 "ClientGuarantees" "errors" "[I", Cond.methodLink RX3 148 yX3_isErrorCode, Cond.static yX3_isErrorCode, Cond.code yX3_isErrorCode cX3_isErrorCode 1 (some .boolean)]
def wsX3_read : List Cond := .code yX3_read cX3_read 4 (some .int) :: ((wsX3_read_r1 ++ (wsX3_read_r2 ++ (wsX3_read_r3 ++ (wsX3_read_r4 ++ wsX3_read_r5)))) ++ wsX30 ++ wsX00 ++ wsX20)
def wsX3_write_r1 : List Cond := [Cond.fieldLink RX3 19 "ClientGuarantees" "history" "LClientGuarantees$History;", Cond.fieldLink RX3 12 "ClientGuarantees" "state" "LClientGuarantees$State;", Cond.methodLink RX3 34 yX0_prepare, Cond.instanceMethod yX0_prepare, Cond.selects RX0 yX0_prepare yX0_prepare, Cond.initialized RX0, Cond.code yX0_prepare cX0_prepare 2 none, Cond.fieldLink RX0 13 "ClientGuarantees$History" "slots" "[LClientGuarantees$State;", Cond.fieldLink RX0 17 "ClientGuarantees$History" "free" "I", Cond.methodLink RX0 25 yX2_copyFrom, Cond.instanceMethod yX2_copyFrom, Cond.selects RX2 yX2_copyFrom yX2_copyFrom, Cond.initialized RX2, Cond.code yX2_copyFrom cX2_copyFrom 2 none, Cond.fieldLink RX2 9 "ClientGuarantees$State" "writeTotal" "I", Cond.fieldLink RX2 15 "ClientGuarantees$State" "origins" "[I", Cond.fieldLink RX2 19 "ClientGuarantees$State" "sequences" "[I", Cond.fieldLink RX2 22 "ClientGuarantees$State" "keys" "[I", Cond.fieldLink RX2 25 "ClientGuarantees$State" "values" "[I", Cond.fieldLink RX2 28 "ClientGuarantees$State" "timestamps" "[I", Cond.fieldLink RX2 33 "ClientGuarantees$State" "counts" "[[I", Cond.fieldLink RX2 36 "ClientGuarantees$State" "clocks" "[I", Cond.fieldLink RX2 39 "ClientGuarantees$State" "guaranteeSets" "[I", Cond.fieldLink RX2 42 "ClientGuarantees$State" "readVectors" "[[I"]
def wsX3_write_r2 : List Cond := [Cond.fieldLink RX2 45 "ClientGuarantees$State" "writeVectors" "[[I", Cond.fieldLink RX2 48 "ClientGuarantees$State" "breachCounts" "[I", Cond.methodLink RX2 51 yX2_copyRow, Cond.static yX2_copyRow, Cond.code yX2_copyRow cX2_copyRow 2 none, Cond.methodLink RX2 123 Lib.Math.min.name, Cond.static Lib.Math.min.name, Cond.initialized "java/lang/Math", Cond.code Lib.Math.min.name Lib.Math.min.code 2 (some .int), Cond.methodLink RX2 126 arraycopyName, Cond.native arraycopyName, Cond.static arraycopyName, Cond.initialized "java/lang/System", Cond.methodLink RX2 55 yX2_copyRows, Cond.static yX2_copyRows, Cond.code yX2_copyRows cX2_copyRows 3 none, Cond.methodLink RX3 70 yX2_writeKey, Cond.instanceMethod yX2_writeKey, Cond.selects RX2 yX2_writeKey yX2_writeKey, Cond.code yX2_writeKey cX2_writeKey 6 (some .int), Cond.static yX3_isClient, Cond.initialized RX3, Cond.code yX3_isClient cX3_isClient 1 (some .boolean), Cond.methodLink RX3 112 yX3_isBelow]
def wsX3_write_r3 : List Cond := [Cond.static yX3_isBelow, Cond.code yX3_isBelow cX3_isBelow 2 (some .boolean), Cond.static yX3_isReplica, Cond.code yX3_isReplica cX3_isReplica 1 (some .boolean), Cond.static yX3_isKey, Cond.code yX3_isKey cX3_isKey 1 (some .boolean), Cond.methodLink RX2 91 yX2_unmetByWrite, Cond.instanceMethod yX2_unmetByWrite, Cond.selects RX2 yX2_unmetByWrite yX2_unmetByWrite, Cond.code yX2_unmetByWrite cX2_unmetByWrite 4 (some .int), Cond.static yX3_only, Cond.code yX3_only cX3_only 1 (some .int), Cond.methodLink RX2 102 yX2_covers, Cond.instanceMethod yX2_covers, Cond.selects RX2 yX2_covers yX2_covers, Cond.code yX2_covers cX2_covers 4 (some .boolean), Cond.methodLink RX2 106 yX2_greatestCount, Cond.instanceMethod yX2_greatestCount, Cond.selects RX2 yX2_greatestCount yX2_greatestCount, Cond.code yX2_greatestCount cX2_greatestCount 5 (some .int), Cond.methodLink RX2 97 Lib.Math.max.name, Cond.static Lib.Math.max.name, Cond.code Lib.Math.max.name Lib.Math.max.code 2 (some .int), Cond.static yX3_contains]
def wsX3_write_r4 : List Cond := [Cond.code yX3_contains cX3_contains 2 (some .boolean), Cond.methodLink RX2 81 yX2_countBreaches, Cond.instanceMethod yX2_countBreaches, Cond.selects RX2 yX2_countBreaches yX2_countBreaches, Cond.code yX2_countBreaches cX2_countBreaches 3 none, Cond.methodLink RX3 42 yX3_endUndoable, Cond.instanceMethod yX3_endUndoable, Cond.selects RX3 yX3_endUndoable yX3_endUndoable, Cond.code yX3_endUndoable cX3_endUndoable 2 (some .int), Cond.methodLink RX3 138 yX0_keepPrepared, Cond.instanceMethod yX0_keepPrepared, Cond.selects RX0 yX0_keepPrepared yX0_keepPrepared, Cond.code yX0_keepPrepared cX0_keepPrepared 1 none, Cond.fieldLink RX0 21 "ClientGuarantees$History" "size" "I", Cond.methodLink RX0 29 Lib.Math.min.name, Cond.methodLink RX3 56 yX3_counted, Cond.instanceMethod yX3_counted, Cond.selects RX3 yX3_counted yX3_counted, Cond.code yX3_counted cX3_counted 2 (some .int), Cond.fieldLink RX3 30 "ClientGuarantees" "errors" "[I", Cond.methodLink RX3 148 yX3_isErrorCode, Cond.static yX3_isErrorCode, Cond.code yX3_isErrorCode cX3_isErrorCode 1 (some .boolean)]
def wsX3_write : List Cond := .code yX3_write cX3_write 5 (some .int) :: ((wsX3_write_r1 ++ (wsX3_write_r2 ++ (wsX3_write_r3 ++ wsX3_write_r4))) ++ wsX30 ++ wsX00 ++ wsX20)
def wsX3_sync_r1 : List Cond := [Cond.fieldLink RX3 19 "ClientGuarantees" "history" "LClientGuarantees$History;", Cond.fieldLink RX3 12 "ClientGuarantees" "state" "LClientGuarantees$State;", Cond.methodLink RX3 34 yX0_prepare, Cond.instanceMethod yX0_prepare, Cond.selects RX0 yX0_prepare yX0_prepare, Cond.initialized RX0, Cond.code yX0_prepare cX0_prepare 2 none, Cond.fieldLink RX0 13 "ClientGuarantees$History" "slots" "[LClientGuarantees$State;", Cond.fieldLink RX0 17 "ClientGuarantees$History" "free" "I", Cond.methodLink RX0 25 yX2_copyFrom, Cond.instanceMethod yX2_copyFrom, Cond.selects RX2 yX2_copyFrom yX2_copyFrom, Cond.initialized RX2, Cond.code yX2_copyFrom cX2_copyFrom 2 none, Cond.fieldLink RX2 9 "ClientGuarantees$State" "writeTotal" "I", Cond.fieldLink RX2 15 "ClientGuarantees$State" "origins" "[I", Cond.fieldLink RX2 19 "ClientGuarantees$State" "sequences" "[I", Cond.fieldLink RX2 22 "ClientGuarantees$State" "keys" "[I", Cond.fieldLink RX2 25 "ClientGuarantees$State" "values" "[I", Cond.fieldLink RX2 28 "ClientGuarantees$State" "timestamps" "[I", Cond.fieldLink RX2 33 "ClientGuarantees$State" "counts" "[[I", Cond.fieldLink RX2 36 "ClientGuarantees$State" "clocks" "[I", Cond.fieldLink RX2 39 "ClientGuarantees$State" "guaranteeSets" "[I", Cond.fieldLink RX2 42 "ClientGuarantees$State" "readVectors" "[[I"]
def wsX3_sync_r2 : List Cond := [Cond.fieldLink RX2 45 "ClientGuarantees$State" "writeVectors" "[[I", Cond.fieldLink RX2 48 "ClientGuarantees$State" "breachCounts" "[I", Cond.methodLink RX2 51 yX2_copyRow, Cond.static yX2_copyRow, Cond.code yX2_copyRow cX2_copyRow 2 none, Cond.methodLink RX2 123 Lib.Math.min.name, Cond.static Lib.Math.min.name, Cond.initialized "java/lang/Math", Cond.code Lib.Math.min.name Lib.Math.min.code 2 (some .int), Cond.methodLink RX2 126 arraycopyName, Cond.native arraycopyName, Cond.static arraycopyName, Cond.initialized "java/lang/System", Cond.methodLink RX2 55 yX2_copyRows, Cond.static yX2_copyRows, Cond.code yX2_copyRows cX2_copyRows 3 none, Cond.methodLink RX3 74 yX2_synchronize, Cond.instanceMethod yX2_synchronize, Cond.selects RX2 yX2_synchronize yX2_synchronize, Cond.code yX2_synchronize cX2_synchronize 5 (some .int), Cond.methodLink RX2 97 Lib.Math.max.name, Cond.static Lib.Math.max.name, Cond.code Lib.Math.max.name Lib.Math.max.code 2 (some .int), Cond.static yX3_isReplica]
def wsX3_sync_r3 : List Cond := [Cond.initialized RX3, Cond.code yX3_isReplica cX3_isReplica 1 (some .boolean), Cond.methodLink RX3 112 yX3_isBelow, Cond.static yX3_isBelow, Cond.code yX3_isBelow cX3_isBelow 2 (some .boolean), Cond.methodLink RX2 94 yX2_knows, Cond.instanceMethod yX2_knows, Cond.selects RX2 yX2_knows yX2_knows, Cond.code yX2_knows cX2_knows 3 (some .boolean), Cond.methodLink RX2 85 yX2_merge, Cond.static yX2_merge, Cond.code yX2_merge cX2_merge 3 none, Cond.methodLink RX3 42 yX3_endUndoable, Cond.instanceMethod yX3_endUndoable, Cond.selects RX3 yX3_endUndoable yX3_endUndoable, Cond.code yX3_endUndoable cX3_endUndoable 2 (some .int), Cond.methodLink RX3 138 yX0_keepPrepared, Cond.instanceMethod yX0_keepPrepared, Cond.selects RX0 yX0_keepPrepared yX0_keepPrepared, Cond.code yX0_keepPrepared cX0_keepPrepared 1 none, Cond.fieldLink RX0 21 "ClientGuarantees$History" "size" "I", Cond.methodLink RX0 29 Lib.Math.min.name, Cond.methodLink RX3 56 yX3_counted, Cond.instanceMethod yX3_counted]
def wsX3_sync_r4 : List Cond := [Cond.selects RX3 yX3_counted yX3_counted, Cond.code yX3_counted cX3_counted 2 (some .int), Cond.fieldLink RX3 30 "ClientGuarantees" "errors" "[I", Cond.methodLink RX3 148 yX3_isErrorCode, Cond.static yX3_isErrorCode, Cond.code yX3_isErrorCode cX3_isErrorCode 1 (some .boolean)]
def wsX3_sync : List Cond := .code yX3_sync cX3_sync 3 (some .int) :: ((wsX3_sync_r1 ++ (wsX3_sync_r2 ++ (wsX3_sync_r3 ++ wsX3_sync_r4))) ++ wsX30 ++ wsX00 ++ wsX20)
def wsX3_readBreaches_r1 : List Cond := [Cond.fieldLink RX3 12 "ClientGuarantees" "state" "LClientGuarantees$State;", Cond.methodLink RX3 49 yX3_isClient, Cond.static yX3_isClient, Cond.initialized RX3, Cond.code yX3_isClient cX3_isClient 1 (some .boolean), Cond.methodLink RX3 112 yX3_isBelow, Cond.static yX3_isBelow, Cond.code yX3_isBelow cX3_isBelow 2 (some .boolean), Cond.methodLink RX3 53 yX3_isReplica, Cond.static yX3_isReplica, Cond.code yX3_isReplica cX3_isReplica 1 (some .boolean), Cond.methodLink RX3 56 yX3_counted, Cond.instanceMethod yX3_counted, Cond.selects RX3 yX3_counted yX3_counted, Cond.code yX3_counted cX3_counted 2 (some .int), Cond.fieldLink RX3 30 "ClientGuarantees" "errors" "[I", Cond.methodLink RX3 148 yX3_isErrorCode, Cond.static yX3_isErrorCode, Cond.code yX3_isErrorCode cX3_isErrorCode 1 (some .boolean), Cond.methodLink RX3 77 yX3_only, Cond.static yX3_only, Cond.code yX3_only cX3_only 1 (some .int), Cond.methodLink RX3 80 yX2_unmetByRead, Cond.instanceMethod yX2_unmetByRead]
def wsX3_readBreaches_r2 : List Cond := [Cond.selects RX2 yX2_unmetByRead yX2_unmetByRead, Cond.initialized RX2, Cond.code yX2_unmetByRead cX2_unmetByRead 4 (some .int), Cond.fieldLink RX2 45 "ClientGuarantees$State" "writeVectors" "[[I", Cond.fieldLink RX2 42 "ClientGuarantees$State" "readVectors" "[[I", Cond.methodLink RX2 102 yX2_covers, Cond.instanceMethod yX2_covers, Cond.selects RX2 yX2_covers yX2_covers, Cond.code yX2_covers cX2_covers 4 (some .boolean), Cond.methodLink RX2 106 yX2_greatestCount, Cond.instanceMethod yX2_greatestCount, Cond.selects RX2 yX2_greatestCount yX2_greatestCount, Cond.code yX2_greatestCount cX2_greatestCount 5 (some .int), Cond.fieldLink RX2 33 "ClientGuarantees$State" "counts" "[[I", Cond.methodLink RX2 97 Lib.Math.max.name, Cond.static Lib.Math.max.name, Cond.initialized "java/lang/Math", Cond.code Lib.Math.max.name Lib.Math.max.code 2 (some .int), Cond.static yX3_contains, Cond.code yX3_contains cX3_contains 2 (some .boolean)]
def wsX3_readBreaches : List Cond := .code yX3_readBreaches cX3_readBreaches 3 (some .int) :: ((wsX3_readBreaches_r1 ++ wsX3_readBreaches_r2) ++ wsX30 ++ wsX20)
def wsX3_writeBreaches_r1 : List Cond := [Cond.fieldLink RX3 12 "ClientGuarantees" "state" "LClientGuarantees$State;", Cond.methodLink RX3 49 yX3_isClient, Cond.static yX3_isClient, Cond.initialized RX3, Cond.code yX3_isClient cX3_isClient 1 (some .boolean), Cond.methodLink RX3 112 yX3_isBelow, Cond.static yX3_isBelow, Cond.code yX3_isBelow cX3_isBelow 2 (some .boolean), Cond.methodLink RX3 53 yX3_isReplica, Cond.static yX3_isReplica, Cond.code yX3_isReplica cX3_isReplica 1 (some .boolean), Cond.methodLink RX3 56 yX3_counted, Cond.instanceMethod yX3_counted, Cond.selects RX3 yX3_counted yX3_counted, Cond.code yX3_counted cX3_counted 2 (some .int), Cond.fieldLink RX3 30 "ClientGuarantees" "errors" "[I", Cond.methodLink RX3 148 yX3_isErrorCode, Cond.static yX3_isErrorCode, Cond.code yX3_isErrorCode cX3_isErrorCode 1 (some .boolean), Cond.methodLink RX3 83 yX2_unmetByWrite, Cond.instanceMethod yX2_unmetByWrite, Cond.selects RX2 yX2_unmetByWrite yX2_unmetByWrite, Cond.initialized RX2, Cond.code yX2_unmetByWrite cX2_unmetByWrite 4 (some .int)]
def wsX3_writeBreaches_r2 : List Cond := [Cond.fieldLink RX2 42 "ClientGuarantees$State" "readVectors" "[[I", Cond.fieldLink RX2 45 "ClientGuarantees$State" "writeVectors" "[[I", Cond.static yX3_only, Cond.code yX3_only cX3_only 1 (some .int), Cond.methodLink RX2 102 yX2_covers, Cond.instanceMethod yX2_covers, Cond.selects RX2 yX2_covers yX2_covers, Cond.code yX2_covers cX2_covers 4 (some .boolean), Cond.methodLink RX2 106 yX2_greatestCount, Cond.instanceMethod yX2_greatestCount, Cond.selects RX2 yX2_greatestCount yX2_greatestCount, Cond.code yX2_greatestCount cX2_greatestCount 5 (some .int), Cond.fieldLink RX2 33 "ClientGuarantees$State" "counts" "[[I", Cond.methodLink RX2 97 Lib.Math.max.name, Cond.static Lib.Math.max.name, Cond.initialized "java/lang/Math", Cond.code Lib.Math.max.name Lib.Math.max.code 2 (some .int), Cond.static yX3_contains, Cond.code yX3_contains cX3_contains 2 (some .boolean)]
def wsX3_writeBreaches : List Cond := .code yX3_writeBreaches cX3_writeBreaches 3 (some .int) :: ((wsX3_writeBreaches_r1 ++ wsX3_writeBreaches_r2) ++ wsX30 ++ wsX20)
def wsX3_readableReplica_r1 : List Cond := [Cond.fieldLink RX3 12 "ClientGuarantees" "state" "LClientGuarantees$State;", Cond.methodLink RX3 49 yX3_isClient, Cond.static yX3_isClient, Cond.initialized RX3, Cond.code yX3_isClient cX3_isClient 1 (some .boolean), Cond.methodLink RX3 112 yX3_isBelow, Cond.static yX3_isBelow, Cond.code yX3_isBelow cX3_isBelow 2 (some .boolean), Cond.methodLink RX3 56 yX3_counted, Cond.instanceMethod yX3_counted, Cond.selects RX3 yX3_counted yX3_counted, Cond.code yX3_counted cX3_counted 2 (some .int), Cond.fieldLink RX3 30 "ClientGuarantees" "errors" "[I", Cond.methodLink RX3 148 yX3_isErrorCode, Cond.static yX3_isErrorCode, Cond.code yX3_isErrorCode cX3_isErrorCode 1 (some .boolean), Cond.methodLink RX3 77 yX3_only, Cond.static yX3_only, Cond.code yX3_only cX3_only 1 (some .int), Cond.methodLink RX3 86 yX2_isReadAllowed, Cond.instanceMethod yX2_isReadAllowed, Cond.selects RX2 yX2_isReadAllowed yX2_isReadAllowed, Cond.initialized RX2, Cond.code yX2_isReadAllowed cX2_isReadAllowed 3 (some .boolean)]
def wsX3_readableReplica_r2 : List Cond := [Cond.fieldLink RX2 39 "ClientGuarantees$State" "guaranteeSets" "[I", Cond.methodLink RX2 77 yX2_unmetByRead, Cond.instanceMethod yX2_unmetByRead, Cond.selects RX2 yX2_unmetByRead yX2_unmetByRead, Cond.code yX2_unmetByRead cX2_unmetByRead 4 (some .int), Cond.fieldLink RX2 45 "ClientGuarantees$State" "writeVectors" "[[I", Cond.fieldLink RX2 42 "ClientGuarantees$State" "readVectors" "[[I", Cond.methodLink RX2 102 yX2_covers, Cond.instanceMethod yX2_covers, Cond.selects RX2 yX2_covers yX2_covers, Cond.code yX2_covers cX2_covers 4 (some .boolean), Cond.methodLink RX2 106 yX2_greatestCount, Cond.instanceMethod yX2_greatestCount, Cond.selects RX2 yX2_greatestCount yX2_greatestCount, Cond.code yX2_greatestCount cX2_greatestCount 5 (some .int), Cond.fieldLink RX2 33 "ClientGuarantees$State" "counts" "[[I", Cond.methodLink RX2 97 Lib.Math.max.name, Cond.static Lib.Math.max.name, Cond.initialized "java/lang/Math", Cond.code Lib.Math.max.name Lib.Math.max.code 2 (some .int), Cond.static yX3_contains, Cond.code yX3_contains cX3_contains 2 (some .boolean)]
def wsX3_readableReplica : List Cond := .code yX3_readableReplica cX3_readableReplica 3 (some .int) :: ((wsX3_readableReplica_r1 ++ wsX3_readableReplica_r2) ++ wsX30 ++ wsX20)
def wsX3_writableReplica_r1 : List Cond := [Cond.fieldLink RX3 12 "ClientGuarantees" "state" "LClientGuarantees$State;", Cond.methodLink RX3 49 yX3_isClient, Cond.static yX3_isClient, Cond.initialized RX3, Cond.code yX3_isClient cX3_isClient 1 (some .boolean), Cond.methodLink RX3 112 yX3_isBelow, Cond.static yX3_isBelow, Cond.code yX3_isBelow cX3_isBelow 2 (some .boolean), Cond.methodLink RX3 56 yX3_counted, Cond.instanceMethod yX3_counted, Cond.selects RX3 yX3_counted yX3_counted, Cond.code yX3_counted cX3_counted 2 (some .int), Cond.fieldLink RX3 30 "ClientGuarantees" "errors" "[I", Cond.methodLink RX3 148 yX3_isErrorCode, Cond.static yX3_isErrorCode, Cond.code yX3_isErrorCode cX3_isErrorCode 1 (some .boolean), Cond.methodLink RX3 90 yX2_isWriteAllowed, Cond.instanceMethod yX2_isWriteAllowed, Cond.selects RX2 yX2_isWriteAllowed yX2_isWriteAllowed, Cond.initialized RX2, Cond.code yX2_isWriteAllowed cX2_isWriteAllowed 3 (some .boolean), Cond.fieldLink RX2 39 "ClientGuarantees$State" "guaranteeSets" "[I", Cond.methodLink RX2 91 yX2_unmetByWrite, Cond.instanceMethod yX2_unmetByWrite]
def wsX3_writableReplica_r2 : List Cond := [Cond.selects RX2 yX2_unmetByWrite yX2_unmetByWrite, Cond.code yX2_unmetByWrite cX2_unmetByWrite 4 (some .int), Cond.fieldLink RX2 42 "ClientGuarantees$State" "readVectors" "[[I", Cond.fieldLink RX2 45 "ClientGuarantees$State" "writeVectors" "[[I", Cond.static yX3_only, Cond.code yX3_only cX3_only 1 (some .int), Cond.methodLink RX2 102 yX2_covers, Cond.instanceMethod yX2_covers, Cond.selects RX2 yX2_covers yX2_covers, Cond.code yX2_covers cX2_covers 4 (some .boolean), Cond.methodLink RX2 106 yX2_greatestCount, Cond.instanceMethod yX2_greatestCount, Cond.selects RX2 yX2_greatestCount yX2_greatestCount, Cond.code yX2_greatestCount cX2_greatestCount 5 (some .int), Cond.fieldLink RX2 33 "ClientGuarantees$State" "counts" "[[I", Cond.methodLink RX2 97 Lib.Math.max.name, Cond.static Lib.Math.max.name, Cond.initialized "java/lang/Math", Cond.code Lib.Math.max.name Lib.Math.max.code 2 (some .int), Cond.static yX3_contains, Cond.code yX3_contains cX3_contains 2 (some .boolean)]
def wsX3_writableReplica : List Cond := .code yX3_writableReplica cX3_writableReplica 3 (some .int) :: ((wsX3_writableReplica_r1 ++ wsX3_writableReplica_r2) ++ wsX30 ++ wsX20)
def wsX3_syncsForRead_r1 : List Cond := [Cond.fieldLink RX3 12 "ClientGuarantees" "state" "LClientGuarantees$State;", Cond.methodLink RX3 49 yX3_isClient, Cond.static yX3_isClient, Cond.initialized RX3, Cond.code yX3_isClient cX3_isClient 1 (some .boolean), Cond.methodLink RX3 112 yX3_isBelow, Cond.static yX3_isBelow, Cond.code yX3_isBelow cX3_isBelow 2 (some .boolean), Cond.methodLink RX3 53 yX3_isReplica, Cond.static yX3_isReplica, Cond.code yX3_isReplica cX3_isReplica 1 (some .boolean), Cond.methodLink RX3 56 yX3_counted, Cond.instanceMethod yX3_counted, Cond.selects RX3 yX3_counted yX3_counted, Cond.code yX3_counted cX3_counted 2 (some .int), Cond.fieldLink RX3 30 "ClientGuarantees" "errors" "[I", Cond.methodLink RX3 148 yX3_isErrorCode, Cond.static yX3_isErrorCode, Cond.code yX3_isErrorCode cX3_isErrorCode 1 (some .boolean), Cond.methodLink RX3 93 yX3_contains, Cond.static yX3_contains, Cond.code yX3_contains cX3_contains 2 (some .boolean), Cond.methodLink RX3 77 yX3_only, Cond.static yX3_only]
def wsX3_syncsForRead_r2 : List Cond := [Cond.code yX3_only cX3_only 1 (some .int), Cond.methodLink RX3 86 yX2_isReadAllowed, Cond.instanceMethod yX2_isReadAllowed, Cond.selects RX2 yX2_isReadAllowed yX2_isReadAllowed, Cond.initialized RX2, Cond.code yX2_isReadAllowed cX2_isReadAllowed 3 (some .boolean), Cond.fieldLink RX2 39 "ClientGuarantees$State" "guaranteeSets" "[I", Cond.methodLink RX2 77 yX2_unmetByRead, Cond.instanceMethod yX2_unmetByRead, Cond.selects RX2 yX2_unmetByRead yX2_unmetByRead, Cond.code yX2_unmetByRead cX2_unmetByRead 4 (some .int), Cond.fieldLink RX2 45 "ClientGuarantees$State" "writeVectors" "[[I", Cond.fieldLink RX2 42 "ClientGuarantees$State" "readVectors" "[[I", Cond.methodLink RX2 102 yX2_covers, Cond.instanceMethod yX2_covers, Cond.selects RX2 yX2_covers yX2_covers, Cond.code yX2_covers cX2_covers 4 (some .boolean), Cond.methodLink RX2 106 yX2_greatestCount, Cond.instanceMethod yX2_greatestCount, Cond.selects RX2 yX2_greatestCount yX2_greatestCount, Cond.code yX2_greatestCount cX2_greatestCount 5 (some .int), Cond.fieldLink RX2 33 "ClientGuarantees$State" "counts" "[[I", Cond.methodLink RX2 97 Lib.Math.max.name, Cond.static Lib.Math.max.name]
def wsX3_syncsForRead_r3 : List Cond := [Cond.initialized "java/lang/Math", Cond.code Lib.Math.max.name Lib.Math.max.code 2 (some .int)]
def wsX3_syncsForRead : List Cond := .code yX3_syncsForRead cX3_syncsForRead 4 (some .int) :: ((wsX3_syncsForRead_r1 ++ (wsX3_syncsForRead_r2 ++ wsX3_syncsForRead_r3)) ++ wsX30 ++ wsX20)
def wsX3_count : List Cond := .code yX3_count cX3_count 3 (some .int) :: ([.fieldLink RX3 12 "ClientGuarantees" "state" "LClientGuarantees$State;", .fieldLink RX3 96 "ClientGuarantees$State" "counts" "[[I", .methodLink RX3 53 yX3_isReplica, .static yX3_isReplica, .initialized RX3, .code yX3_isReplica cX3_isReplica 1 (some .boolean), .methodLink RX3 112 yX3_isBelow, .static yX3_isBelow, .code yX3_isBelow cX3_isBelow 2 (some .boolean), .methodLink RX3 56 yX3_counted, .instanceMethod yX3_counted, .selects RX3 yX3_counted yX3_counted, .code yX3_counted cX3_counted 2 (some .int), .fieldLink RX3 30 "ClientGuarantees" "errors" "[I", .methodLink RX3 148 yX3_isErrorCode, .static yX3_isErrorCode, .code yX3_isErrorCode cX3_isErrorCode 1 (some .boolean)] ++ wsX30 ++ wsX20)
def wsX3_clock : List Cond := .code yX3_clock cX3_clock 2 (some .int) :: ([.fieldLink RX3 12 "ClientGuarantees" "state" "LClientGuarantees$State;", .fieldLink RX3 99 "ClientGuarantees$State" "clocks" "[I", .methodLink RX3 53 yX3_isReplica, .static yX3_isReplica, .initialized RX3, .code yX3_isReplica cX3_isReplica 1 (some .boolean), .methodLink RX3 112 yX3_isBelow, .static yX3_isBelow, .code yX3_isBelow cX3_isBelow 2 (some .boolean), .methodLink RX3 56 yX3_counted, .instanceMethod yX3_counted, .selects RX3 yX3_counted yX3_counted, .code yX3_counted cX3_counted 2 (some .int), .fieldLink RX3 30 "ClientGuarantees" "errors" "[I", .methodLink RX3 148 yX3_isErrorCode, .static yX3_isErrorCode, .code yX3_isErrorCode cX3_isErrorCode 1 (some .boolean)] ++ wsX30 ++ wsX20)
def wsX3_peek_r1 : List Cond := [Cond.fieldLink RX3 12 "ClientGuarantees" "state" "LClientGuarantees$State;", Cond.methodLink RX3 53 yX3_isReplica, Cond.static yX3_isReplica, Cond.initialized RX3, Cond.code yX3_isReplica cX3_isReplica 1 (some .boolean), Cond.methodLink RX3 112 yX3_isBelow, Cond.static yX3_isBelow, Cond.code yX3_isBelow cX3_isBelow 2 (some .boolean), Cond.methodLink RX3 102 yX3_isKey, Cond.static yX3_isKey, Cond.code yX3_isKey cX3_isKey 1 (some .boolean), Cond.methodLink RX3 56 yX3_counted, Cond.instanceMethod yX3_counted, Cond.selects RX3 yX3_counted yX3_counted, Cond.code yX3_counted cX3_counted 2 (some .int), Cond.fieldLink RX3 30 "ClientGuarantees" "errors" "[I", Cond.methodLink RX3 148 yX3_isErrorCode, Cond.static yX3_isErrorCode, Cond.code yX3_isErrorCode cX3_isErrorCode 1 (some .boolean), Cond.methodLink RX3 105 yX2_valueAt, Cond.instanceMethod yX2_valueAt, Cond.selects RX2 yX2_valueAt yX2_valueAt, Cond.initialized RX2, Cond.code yX2_valueAt cX2_valueAt 5 (some .int)]
def wsX3_peek_r2 : List Cond := [Cond.fieldLink RX2 9 "ClientGuarantees$State" "writeTotal" "I", Cond.fieldLink RX2 22 "ClientGuarantees$State" "keys" "[I", Cond.fieldLink RX2 25 "ClientGuarantees$State" "values" "[I", Cond.methodLink RX2 94 yX2_knows, Cond.instanceMethod yX2_knows, Cond.selects RX2 yX2_knows yX2_knows, Cond.code yX2_knows cX2_knows 3 (some .boolean), Cond.fieldLink RX2 19 "ClientGuarantees$State" "sequences" "[I", Cond.fieldLink RX2 33 "ClientGuarantees$State" "counts" "[[I", Cond.fieldLink RX2 15 "ClientGuarantees$State" "origins" "[I", Cond.methodLink RX2 112 yX2_isLater, Cond.instanceMethod yX2_isLater, Cond.selects RX2 yX2_isLater yX2_isLater, Cond.code yX2_isLater cX2_isLater 3 (some .boolean), Cond.fieldLink RX2 28 "ClientGuarantees$State" "timestamps" "[I"]
def wsX3_peek : List Cond := .code yX3_peek cX3_peek 4 (some .int) :: ((wsX3_peek_r1 ++ wsX3_peek_r2) ++ wsX30 ++ wsX20)
def wsX3_compare_r1 : List Cond := [Cond.fieldLink RX3 12 "ClientGuarantees" "state" "LClientGuarantees$State;", Cond.fieldLink RX3 96 "ClientGuarantees$State" "counts" "[[I", Cond.methodLink RX3 53 yX3_isReplica, Cond.static yX3_isReplica, Cond.initialized RX3, Cond.code yX3_isReplica cX3_isReplica 1 (some .boolean), Cond.methodLink RX3 112 yX3_isBelow, Cond.static yX3_isBelow, Cond.code yX3_isBelow cX3_isBelow 2 (some .boolean), Cond.methodLink RX3 56 yX3_counted, Cond.instanceMethod yX3_counted, Cond.selects RX3 yX3_counted yX3_counted, Cond.code yX3_counted cX3_counted 2 (some .int), Cond.fieldLink RX3 30 "ClientGuarantees" "errors" "[I", Cond.methodLink RX3 148 yX3_isErrorCode, Cond.static yX3_isErrorCode, Cond.code yX3_isErrorCode cX3_isErrorCode 1 (some .boolean), Cond.methodLink RX3 77 yX3_only, Cond.static yX3_only, Cond.code yX3_only cX3_only 1 (some .int), Cond.methodLink RX3 108 yX2_covers, Cond.instanceMethod yX2_covers, Cond.selects RX2 yX2_covers yX2_covers, Cond.initialized RX2]
def wsX3_compare_r2 : List Cond := [Cond.code yX2_covers cX2_covers 4 (some .boolean), Cond.methodLink RX2 106 yX2_greatestCount, Cond.instanceMethod yX2_greatestCount, Cond.selects RX2 yX2_greatestCount yX2_greatestCount, Cond.code yX2_greatestCount cX2_greatestCount 5 (some .int), Cond.fieldLink RX2 33 "ClientGuarantees$State" "counts" "[[I", Cond.methodLink RX2 97 Lib.Math.max.name, Cond.static Lib.Math.max.name, Cond.initialized "java/lang/Math", Cond.code Lib.Math.max.name Lib.Math.max.code 2 (some .int), Cond.static yX3_contains, Cond.code yX3_contains cX3_contains 2 (some .boolean)]
def wsX3_compare : List Cond := .code yX3_compare cX3_compare 5 (some .int) :: ((wsX3_compare_r1 ++ wsX3_compare_r2) ++ wsX30 ++ wsX20)
def wsX3_breaches : List Cond := .code yX3_breaches cX3_breaches 2 (some .int) :: ([.fieldLink RX3 12 "ClientGuarantees" "state" "LClientGuarantees$State;", .fieldLink RX3 115 "ClientGuarantees$State" "breachCounts" "[I", .methodLink RX3 112 yX3_isBelow, .static yX3_isBelow, .initialized RX3, .code yX3_isBelow cX3_isBelow 2 (some .boolean), .methodLink RX3 56 yX3_counted, .instanceMethod yX3_counted, .selects RX3 yX3_counted yX3_counted, .code yX3_counted cX3_counted 2 (some .int), .fieldLink RX3 30 "ClientGuarantees" "errors" "[I", .methodLink RX3 148 yX3_isErrorCode, .static yX3_isErrorCode, .code yX3_isErrorCode cX3_isErrorCode 1 (some .boolean)] ++ wsX30 ++ wsX20)
def wsX3_append : List Cond := .code yX3_append cX3_append 2 (some .int) :: ([.fieldLink RX3 26 "ClientGuarantees" "script" "LClientGuarantees$Script;", .methodLink RX3 112 yX3_isBelow, .static yX3_isBelow, .initialized RX3, .code yX3_isBelow cX3_isBelow 2 (some .boolean), .methodLink RX3 56 yX3_counted, .instanceMethod yX3_counted, .selects RX3 yX3_counted yX3_counted, .code yX3_counted cX3_counted 2 (some .int), .fieldLink RX3 30 "ClientGuarantees" "errors" "[I", .methodLink RX3 148 yX3_isErrorCode, .static yX3_isErrorCode, .code yX3_isErrorCode cX3_isErrorCode 1 (some .boolean), .methodLink RX3 118 yX1_add, .instanceMethod yX1_add, .selects RX1 yX1_add yX1_add, .initialized RX1, .code yX1_add cX1_add 2 (some .int), .fieldLink RX1 15 "ClientGuarantees$Script" "length" "I", .fieldLink RX1 9 "ClientGuarantees$Script" "text" "[I"] ++ wsX30 ++ wsX10)
def wsX3_clearText : List Cond := .code yX3_clearText cX3_clearText 2 (some .int) :: ([.fieldLink RX3 26 "ClientGuarantees" "script" "LClientGuarantees$Script;", .fieldLink RX3 121 "ClientGuarantees$Script" "length" "I"] ++ wsX30 ++ wsX10)
def wsX3_runCommand_r1 : List Cond := [Cond.fieldLink RX3 26 "ClientGuarantees" "script" "LClientGuarantees$Script;", Cond.fieldLink RX3 168 "ClientGuarantees$Script" "numbers" "[[I", Cond.fieldLink RX3 171 "ClientGuarantees$Script" "letters" "[I", Cond.fieldLink RX3 12 "ClientGuarantees" "state" "LClientGuarantees$State;", Cond.methodLink RX3 38 yX2_changeGuarantees, Cond.instanceMethod yX2_changeGuarantees, Cond.selects RX2 yX2_changeGuarantees yX2_changeGuarantees, Cond.initialized RX2, Cond.code yX2_changeGuarantees cX2_changeGuarantees 4 (some .int), Cond.fieldLink RX2 39 "ClientGuarantees$State" "guaranteeSets" "[I", Cond.static yX3_isClient, Cond.initialized RX3, Cond.code yX3_isClient cX3_isClient 1 (some .boolean), Cond.methodLink RX3 112 yX3_isBelow, Cond.static yX3_isBelow, Cond.code yX3_isBelow cX3_isBelow 2 (some .boolean), Cond.methodLink RX3 66 yX2_readKey, Cond.instanceMethod yX2_readKey, Cond.selects RX2 yX2_readKey yX2_readKey, Cond.code yX2_readKey cX2_readKey 5 (some .int), Cond.fieldLink RX2 33 "ClientGuarantees$State" "counts" "[[I", Cond.fieldLink RX2 42 "ClientGuarantees$State" "readVectors" "[[I", Cond.static yX3_isReplica, Cond.code yX3_isReplica cX3_isReplica 1 (some .boolean)]
def wsX3_runCommand_r2 : List Cond := [Cond.static yX3_isKey, Cond.code yX3_isKey cX3_isKey 1 (some .boolean), Cond.static yX3_only, Cond.code yX3_only cX3_only 1 (some .int), Cond.methodLink RX2 77 yX2_unmetByRead, Cond.instanceMethod yX2_unmetByRead, Cond.selects RX2 yX2_unmetByRead yX2_unmetByRead, Cond.code yX2_unmetByRead cX2_unmetByRead 4 (some .int), Cond.fieldLink RX2 45 "ClientGuarantees$State" "writeVectors" "[[I", Cond.methodLink RX2 102 yX2_covers, Cond.instanceMethod yX2_covers, Cond.selects RX2 yX2_covers yX2_covers, Cond.code yX2_covers cX2_covers 4 (some .boolean), Cond.methodLink RX2 106 yX2_greatestCount, Cond.instanceMethod yX2_greatestCount, Cond.selects RX2 yX2_greatestCount yX2_greatestCount, Cond.code yX2_greatestCount cX2_greatestCount 5 (some .int), Cond.methodLink RX2 97 Lib.Math.max.name, Cond.static Lib.Math.max.name, Cond.initialized "java/lang/Math", Cond.code Lib.Math.max.name Lib.Math.max.code 2 (some .int), Cond.static yX3_contains, Cond.code yX3_contains cX3_contains 2 (some .boolean), Cond.methodLink RX2 81 yX2_countBreaches]
def wsX3_runCommand_r3 : List Cond := [Cond.instanceMethod yX2_countBreaches, Cond.selects RX2 yX2_countBreaches yX2_countBreaches, Cond.code yX2_countBreaches cX2_countBreaches 3 none, Cond.fieldLink RX2 48 "ClientGuarantees$State" "breachCounts" "[I", Cond.methodLink RX2 85 yX2_merge, Cond.static yX2_merge, Cond.code yX2_merge cX2_merge 3 none, Cond.methodLink RX2 88 yX2_valueAt, Cond.instanceMethod yX2_valueAt, Cond.selects RX2 yX2_valueAt yX2_valueAt, Cond.code yX2_valueAt cX2_valueAt 5 (some .int), Cond.fieldLink RX2 9 "ClientGuarantees$State" "writeTotal" "I", Cond.fieldLink RX2 22 "ClientGuarantees$State" "keys" "[I", Cond.fieldLink RX2 25 "ClientGuarantees$State" "values" "[I", Cond.methodLink RX2 94 yX2_knows, Cond.instanceMethod yX2_knows, Cond.selects RX2 yX2_knows yX2_knows, Cond.code yX2_knows cX2_knows 3 (some .boolean), Cond.fieldLink RX2 19 "ClientGuarantees$State" "sequences" "[I", Cond.fieldLink RX2 15 "ClientGuarantees$State" "origins" "[I", Cond.methodLink RX2 112 yX2_isLater, Cond.instanceMethod yX2_isLater, Cond.selects RX2 yX2_isLater yX2_isLater, Cond.code yX2_isLater cX2_isLater 3 (some .boolean)]
def wsX3_runCommand_r4 : List Cond := [Cond.fieldLink RX2 28 "ClientGuarantees$State" "timestamps" "[I", Cond.methodLink RX3 70 yX2_writeKey, Cond.instanceMethod yX2_writeKey, Cond.selects RX2 yX2_writeKey yX2_writeKey, Cond.code yX2_writeKey cX2_writeKey 6 (some .int), Cond.fieldLink RX2 36 "ClientGuarantees$State" "clocks" "[I", Cond.methodLink RX2 91 yX2_unmetByWrite, Cond.instanceMethod yX2_unmetByWrite, Cond.selects RX2 yX2_unmetByWrite yX2_unmetByWrite, Cond.code yX2_unmetByWrite cX2_unmetByWrite 4 (some .int), Cond.methodLink RX3 74 yX2_synchronize, Cond.instanceMethod yX2_synchronize, Cond.selects RX2 yX2_synchronize yX2_synchronize, Cond.code yX2_synchronize cX2_synchronize 5 (some .int), Cond.methodLink RX3 46 yX2_clearVectors, Cond.instanceMethod yX2_clearVectors, Cond.selects RX2 yX2_clearVectors yX2_clearVectors, Cond.code yX2_clearVectors cX2_clearVectors 4 (some .int)]
def wsX3_runCommand : List Cond := .code yX3_runCommand cX3_runCommand 3 (some .int) :: ((wsX3_runCommand_r1 ++ (wsX3_runCommand_r2 ++ (wsX3_runCommand_r3 ++ wsX3_runCommand_r4))) ++ wsX30 ++ wsX10 ++ wsX20)
def wsX3_execute_r1 : List Cond := [Cond.fieldLink RX3 26 "ClientGuarantees" "script" "LClientGuarantees$Script;", Cond.fieldLink RX3 19 "ClientGuarantees" "history" "LClientGuarantees$History;", Cond.fieldLink RX3 12 "ClientGuarantees" "state" "LClientGuarantees$State;", Cond.fieldLink RX3 129 "ClientGuarantees$Script" "commands" "I", Cond.methodLink RX3 125 yX1_parse, Cond.instanceMethod yX1_parse, Cond.selects RX1 yX1_parse yX1_parse, Cond.initialized RX1, Cond.code yX1_parse cX1_parse 2 (some .int), Cond.fieldLink RX1 27 "ClientGuarantees$Script" "commands" "I", Cond.fieldLink RX1 30 "ClientGuarantees$Script" "inCommand" "Z", Cond.fieldLink RX1 15 "ClientGuarantees$Script" "length" "I", Cond.fieldLink RX1 9 "ClientGuarantees$Script" "text" "[I", Cond.methodLink RX1 40 yX1_accepts, Cond.instanceMethod yX1_accepts, Cond.selects RX1 yX1_accepts yX1_accepts, Cond.code yX1_accepts cX1_accepts 2 (some .boolean), Cond.fieldLink RX1 37 "ClientGuarantees$Script" "digits" "I", Cond.methodLink RX1 44 yX1_beginsCommand, Cond.instanceMethod yX1_beginsCommand, Cond.selects RX1 yX1_beginsCommand yX1_beginsCommand, Cond.code yX1_beginsCommand cX1_beginsCommand 2 (some .boolean), Cond.fieldLink RX1 19 "ClientGuarantees$Script" "letters" "[I", Cond.fieldLink RX1 34 "ClientGuarantees$Script" "numbersBegun" "I"]
def wsX3_execute_r2 : List Cond := [Cond.methodLink RX1 54 yX1_numbersAfter, Cond.static yX1_numbersAfter, Cond.code yX1_numbersAfter cX1_numbersAfter 1 (some .int), Cond.methodLink RX1 47 yX1_endsCommand, Cond.instanceMethod yX1_endsCommand, Cond.selects RX1 yX1_endsCommand yX1_endsCommand, Cond.code yX1_endsCommand cX1_endsCommand 1 (some .boolean), Cond.methodLink RX1 51 yX1_takesDigit, Cond.instanceMethod yX1_takesDigit, Cond.selects RX1 yX1_takesDigit yX1_takesDigit, Cond.code yX1_takesDigit cX1_takesDigit 3 (some .boolean), Cond.fieldLink RX1 24 "ClientGuarantees$Script" "numbers" "[[I", Cond.methodLink RX3 34 yX0_prepare, Cond.instanceMethod yX0_prepare, Cond.selects RX0 yX0_prepare yX0_prepare, Cond.initialized RX0, Cond.code yX0_prepare cX0_prepare 2 none, Cond.fieldLink RX0 13 "ClientGuarantees$History" "slots" "[LClientGuarantees$State;", Cond.fieldLink RX0 17 "ClientGuarantees$History" "free" "I", Cond.methodLink RX0 25 yX2_copyFrom, Cond.instanceMethod yX2_copyFrom, Cond.selects RX2 yX2_copyFrom yX2_copyFrom, Cond.initialized RX2, Cond.code yX2_copyFrom cX2_copyFrom 2 none]
def wsX3_execute_r3 : List Cond := [Cond.fieldLink RX2 9 "ClientGuarantees$State" "writeTotal" "I", Cond.fieldLink RX2 15 "ClientGuarantees$State" "origins" "[I", Cond.fieldLink RX2 19 "ClientGuarantees$State" "sequences" "[I", Cond.fieldLink RX2 22 "ClientGuarantees$State" "keys" "[I", Cond.fieldLink RX2 25 "ClientGuarantees$State" "values" "[I", Cond.fieldLink RX2 28 "ClientGuarantees$State" "timestamps" "[I", Cond.fieldLink RX2 33 "ClientGuarantees$State" "counts" "[[I", Cond.fieldLink RX2 36 "ClientGuarantees$State" "clocks" "[I", Cond.fieldLink RX2 39 "ClientGuarantees$State" "guaranteeSets" "[I", Cond.fieldLink RX2 42 "ClientGuarantees$State" "readVectors" "[[I", Cond.fieldLink RX2 45 "ClientGuarantees$State" "writeVectors" "[[I", Cond.fieldLink RX2 48 "ClientGuarantees$State" "breachCounts" "[I", Cond.methodLink RX2 51 yX2_copyRow, Cond.static yX2_copyRow, Cond.code yX2_copyRow cX2_copyRow 2 none, Cond.methodLink RX2 123 Lib.Math.min.name, Cond.static Lib.Math.min.name, Cond.initialized "java/lang/Math", Cond.code Lib.Math.min.name Lib.Math.min.code 2 (some .int), Cond.methodLink RX2 126 arraycopyName, Cond.native arraycopyName, Cond.static arraycopyName, Cond.initialized "java/lang/System", Cond.methodLink RX2 55 yX2_copyRows]
def wsX3_execute_r4 : List Cond := [Cond.static yX2_copyRows, Cond.code yX2_copyRows cX2_copyRows 3 none, Cond.methodLink RX3 132 yX3_runCommand, Cond.instanceMethod yX3_runCommand, Cond.selects RX3 yX3_runCommand yX3_runCommand, Cond.initialized RX3, Cond.code yX3_runCommand cX3_runCommand 3 (some .int), Cond.fieldLink RX3 168 "ClientGuarantees$Script" "numbers" "[[I", Cond.fieldLink RX3 171 "ClientGuarantees$Script" "letters" "[I", Cond.methodLink RX3 38 yX2_changeGuarantees, Cond.instanceMethod yX2_changeGuarantees, Cond.selects RX2 yX2_changeGuarantees yX2_changeGuarantees, Cond.code yX2_changeGuarantees cX2_changeGuarantees 4 (some .int), Cond.static yX3_isClient, Cond.code yX3_isClient cX3_isClient 1 (some .boolean), Cond.methodLink RX3 112 yX3_isBelow, Cond.static yX3_isBelow, Cond.code yX3_isBelow cX3_isBelow 2 (some .boolean), Cond.methodLink RX3 66 yX2_readKey, Cond.instanceMethod yX2_readKey, Cond.selects RX2 yX2_readKey yX2_readKey, Cond.code yX2_readKey cX2_readKey 5 (some .int), Cond.static yX3_isReplica, Cond.code yX3_isReplica cX3_isReplica 1 (some .boolean)]
def wsX3_execute_r5 : List Cond := [Cond.static yX3_isKey, Cond.code yX3_isKey cX3_isKey 1 (some .boolean), Cond.static yX3_only, Cond.code yX3_only cX3_only 1 (some .int), Cond.methodLink RX2 77 yX2_unmetByRead, Cond.instanceMethod yX2_unmetByRead, Cond.selects RX2 yX2_unmetByRead yX2_unmetByRead, Cond.code yX2_unmetByRead cX2_unmetByRead 4 (some .int), Cond.methodLink RX2 102 yX2_covers, Cond.instanceMethod yX2_covers, Cond.selects RX2 yX2_covers yX2_covers, Cond.code yX2_covers cX2_covers 4 (some .boolean), Cond.methodLink RX2 106 yX2_greatestCount, Cond.instanceMethod yX2_greatestCount, Cond.selects RX2 yX2_greatestCount yX2_greatestCount, Cond.code yX2_greatestCount cX2_greatestCount 5 (some .int), Cond.methodLink RX2 97 Lib.Math.max.name, Cond.static Lib.Math.max.name, Cond.code Lib.Math.max.name Lib.Math.max.code 2 (some .int), Cond.static yX3_contains, Cond.code yX3_contains cX3_contains 2 (some .boolean), Cond.methodLink RX2 81 yX2_countBreaches, Cond.instanceMethod yX2_countBreaches, Cond.selects RX2 yX2_countBreaches yX2_countBreaches]
def wsX3_execute_r6 : List Cond := [Cond.code yX2_countBreaches cX2_countBreaches 3 none, Cond.methodLink RX2 85 yX2_merge, Cond.static yX2_merge, Cond.code yX2_merge cX2_merge 3 none, Cond.methodLink RX2 88 yX2_valueAt, Cond.instanceMethod yX2_valueAt, Cond.selects RX2 yX2_valueAt yX2_valueAt, Cond.code yX2_valueAt cX2_valueAt 5 (some .int), Cond.methodLink RX2 94 yX2_knows, Cond.instanceMethod yX2_knows, Cond.selects RX2 yX2_knows yX2_knows, Cond.code yX2_knows cX2_knows 3 (some .boolean), Cond.methodLink RX2 112 yX2_isLater, Cond.instanceMethod yX2_isLater, Cond.selects RX2 yX2_isLater yX2_isLater, Cond.code yX2_isLater cX2_isLater 3 (some .boolean), Cond.methodLink RX3 70 yX2_writeKey, Cond.instanceMethod yX2_writeKey, Cond.selects RX2 yX2_writeKey yX2_writeKey, Cond.code yX2_writeKey cX2_writeKey 6 (some .int), Cond.methodLink RX2 91 yX2_unmetByWrite, Cond.instanceMethod yX2_unmetByWrite, Cond.selects RX2 yX2_unmetByWrite yX2_unmetByWrite, Cond.code yX2_unmetByWrite cX2_unmetByWrite 4 (some .int)]
def wsX3_execute_r7 : List Cond := [Cond.methodLink RX3 74 yX2_synchronize, Cond.instanceMethod yX2_synchronize, Cond.selects RX2 yX2_synchronize yX2_synchronize, Cond.code yX2_synchronize cX2_synchronize 5 (some .int), Cond.methodLink RX3 46 yX2_clearVectors, Cond.instanceMethod yX2_clearVectors, Cond.selects RX2 yX2_clearVectors yX2_clearVectors, Cond.code yX2_clearVectors cX2_clearVectors 4 (some .int), Cond.methodLink RX3 135 yX0_restorePrepared, Cond.instanceMethod yX0_restorePrepared, Cond.selects RX0 yX0_restorePrepared yX0_restorePrepared, Cond.code yX0_restorePrepared cX0_restorePrepared 2 none, Cond.methodLink RX3 138 yX0_keepPrepared, Cond.instanceMethod yX0_keepPrepared, Cond.selects RX0 yX0_keepPrepared yX0_keepPrepared, Cond.code yX0_keepPrepared cX0_keepPrepared 1 none, Cond.fieldLink RX0 21 "ClientGuarantees$History" "size" "I", Cond.methodLink RX0 29 Lib.Math.min.name]
def wsX3_execute : List Cond := .code yX3_execute cX3_execute 5 (some .int) :: ((wsX3_execute_r1 ++ (wsX3_execute_r2 ++ (wsX3_execute_r3 ++ (wsX3_execute_r4 ++ (wsX3_execute_r5 ++ (wsX3_execute_r6 ++ wsX3_execute_r7)))))) ++ wsX30 ++ wsX10 ++ wsX00 ++ wsX20)
def wsX3_undo_r1 : List Cond := [Cond.fieldLink RX3 19 "ClientGuarantees" "history" "LClientGuarantees$History;", Cond.fieldLink RX3 12 "ClientGuarantees" "state" "LClientGuarantees$State;", Cond.fieldLink RX3 145 "ClientGuarantees$History" "size" "I", Cond.methodLink RX3 141 yX0_restoreNewest, Cond.instanceMethod yX0_restoreNewest, Cond.selects RX0 yX0_restoreNewest yX0_restoreNewest, Cond.initialized RX0, Cond.code yX0_restoreNewest cX0_restoreNewest 2 (some .boolean), Cond.fieldLink RX0 21 "ClientGuarantees$History" "size" "I", Cond.fieldLink RX0 17 "ClientGuarantees$History" "free" "I", Cond.fieldLink RX0 13 "ClientGuarantees$History" "slots" "[LClientGuarantees$State;", Cond.methodLink RX0 25 yX2_copyFrom, Cond.instanceMethod yX2_copyFrom, Cond.selects RX2 yX2_copyFrom yX2_copyFrom, Cond.initialized RX2, Cond.code yX2_copyFrom cX2_copyFrom 2 none, Cond.fieldLink RX2 9 "ClientGuarantees$State" "writeTotal" "I", Cond.fieldLink RX2 15 "ClientGuarantees$State" "origins" "[I", Cond.fieldLink RX2 19 "ClientGuarantees$State" "sequences" "[I", Cond.fieldLink RX2 22 "ClientGuarantees$State" "keys" "[I", Cond.fieldLink RX2 25 "ClientGuarantees$State" "values" "[I", Cond.fieldLink RX2 28 "ClientGuarantees$State" "timestamps" "[I", Cond.fieldLink RX2 33 "ClientGuarantees$State" "counts" "[[I", Cond.fieldLink RX2 36 "ClientGuarantees$State" "clocks" "[I"]
def wsX3_undo_r2 : List Cond := [Cond.fieldLink RX2 39 "ClientGuarantees$State" "guaranteeSets" "[I", Cond.fieldLink RX2 42 "ClientGuarantees$State" "readVectors" "[[I", Cond.fieldLink RX2 45 "ClientGuarantees$State" "writeVectors" "[[I", Cond.fieldLink RX2 48 "ClientGuarantees$State" "breachCounts" "[I", Cond.methodLink RX2 51 yX2_copyRow, Cond.static yX2_copyRow, Cond.code yX2_copyRow cX2_copyRow 2 none, Cond.methodLink RX2 123 Lib.Math.min.name, Cond.static Lib.Math.min.name, Cond.initialized "java/lang/Math", Cond.code Lib.Math.min.name Lib.Math.min.code 2 (some .int), Cond.methodLink RX2 126 arraycopyName, Cond.native arraycopyName, Cond.static arraycopyName, Cond.initialized "java/lang/System", Cond.methodLink RX2 55 yX2_copyRows, Cond.static yX2_copyRows, Cond.code yX2_copyRows cX2_copyRows 3 none, Cond.methodLink RX3 56 yX3_counted, Cond.instanceMethod yX3_counted, Cond.selects RX3 yX3_counted yX3_counted, Cond.initialized RX3, Cond.code yX3_counted cX3_counted 2 (some .int), Cond.fieldLink RX3 30 "ClientGuarantees" "errors" "[I"]
def wsX3_undo_r3 : List Cond := [Cond.methodLink RX3 148 yX3_isErrorCode, Cond.static yX3_isErrorCode, Cond.code yX3_isErrorCode cX3_isErrorCode 1 (some .boolean)]
def wsX3_undo : List Cond := .code yX3_undo cX3_undo 1 (some .int) :: ((wsX3_undo_r1 ++ (wsX3_undo_r2 ++ wsX3_undo_r3)) ++ wsX30 ++ wsX00 ++ wsX20)
def wsX3_errorCount : List Cond := .code yX3_errorCount cX3_errorCount 2 (some .int) :: ([.fieldLink RX3 30 "ClientGuarantees" "errors" "[I", .methodLink RX3 148 yX3_isErrorCode, .static yX3_isErrorCode, .initialized RX3, .code yX3_isErrorCode cX3_isErrorCode 1 (some .boolean), .methodLink RX3 56 yX3_counted, .instanceMethod yX3_counted, .selects RX3 yX3_counted yX3_counted, .code yX3_counted cX3_counted 2 (some .int)] ++ wsX30)
def wsX3_writes : List Cond := .code yX3_writes cX3_writes 1 (some .int) :: ([.fieldLink RX3 12 "ClientGuarantees" "state" "LClientGuarantees$State;", .fieldLink RX3 151 "ClientGuarantees$State" "writeTotal" "I"] ++ wsX30 ++ wsX20)
def wsX3_digest_r1 : List Cond := [Cond.constantLong RX3 154 (2647), Cond.fieldLink RX3 30 "ClientGuarantees" "errors" "[I", Cond.fieldLink RX3 12 "ClientGuarantees" "state" "LClientGuarantees$State;", Cond.fieldLink RX3 26 "ClientGuarantees" "script" "LClientGuarantees$Script;", Cond.fieldLink RX3 121 "ClientGuarantees$Script" "length" "I", Cond.fieldLink RX3 19 "ClientGuarantees" "history" "LClientGuarantees$History;", Cond.fieldLink RX3 145 "ClientGuarantees$History" "size" "I", Cond.methodLink RX3 156 yX3_mixAll, Cond.static yX3_mixAll, Cond.initialized RX3, Cond.code yX3_mixAll cX3_mixAll 7 (some .long), Cond.methodLink RX3 164 yX3_mix, Cond.static yX3_mix, Cond.code yX3_mix cX3_mix 3 (some .long), Cond.constantLong RX3 174 (31), Cond.methodLink RX3 160 yX2_mixInto, Cond.instanceMethod yX2_mixInto, Cond.selects RX2 yX2_mixInto yX2_mixInto, Cond.initialized RX2, Cond.code yX2_mixInto cX2_mixInto 5 (some .long), Cond.fieldLink RX2 9 "ClientGuarantees$State" "writeTotal" "I", Cond.fieldLink RX2 33 "ClientGuarantees$State" "counts" "[[I", Cond.fieldLink RX2 36 "ClientGuarantees$State" "clocks" "[I", Cond.fieldLink RX2 39 "ClientGuarantees$State" "guaranteeSets" "[I"]
def wsX3_digest_r2 : List Cond := [Cond.fieldLink RX2 42 "ClientGuarantees$State" "readVectors" "[[I", Cond.fieldLink RX2 45 "ClientGuarantees$State" "writeVectors" "[[I", Cond.fieldLink RX2 48 "ClientGuarantees$State" "breachCounts" "[I", Cond.methodLink RX2 88 yX2_valueAt, Cond.instanceMethod yX2_valueAt, Cond.selects RX2 yX2_valueAt yX2_valueAt, Cond.code yX2_valueAt cX2_valueAt 5 (some .int), Cond.fieldLink RX2 22 "ClientGuarantees$State" "keys" "[I", Cond.fieldLink RX2 25 "ClientGuarantees$State" "values" "[I", Cond.methodLink RX2 94 yX2_knows, Cond.instanceMethod yX2_knows, Cond.selects RX2 yX2_knows yX2_knows, Cond.code yX2_knows cX2_knows 3 (some .boolean), Cond.fieldLink RX2 19 "ClientGuarantees$State" "sequences" "[I", Cond.fieldLink RX2 15 "ClientGuarantees$State" "origins" "[I", Cond.methodLink RX2 112 yX2_isLater, Cond.instanceMethod yX2_isLater, Cond.selects RX2 yX2_isLater yX2_isLater, Cond.code yX2_isLater cX2_isLater 3 (some .boolean), Cond.fieldLink RX2 28 "ClientGuarantees$State" "timestamps" "[I"]
def wsX3_digest : List Cond := .code yX3_digest cX3_digest 3 (some .long) :: ((wsX3_digest_r1 ++ wsX3_digest_r2) ++ wsX30 ++ wsX10 ++ wsX00 ++ wsX20)
def wsX4_init : List Cond := .code yX4_init cX4_init 1 none :: ([.methodLink RX4 1 objectInit, .instanceMethod objectInit, .code objectInit ⟨#[0xb1]⟩ 1 none, .arrayClass .int, .fieldLink RX4 7 "ClientGuaranteesModel" "all" "[I", .fieldLink RX4 13 "ClientGuaranteesModel" "saved" "[I", .fieldLink RX4 16 "ClientGuaranteesModel" "aside" "[I", .fieldLink RX4 19 "ClientGuaranteesModel" "errors" "[I", .fieldLink RX4 22 "ClientGuaranteesModel" "text" "[I", .fieldLink RX4 25 "ClientGuaranteesModel" "numbers" "[I"] ++ wsX40)
def wsX4_in : List Cond := .code yX4_in cX4_in 6 (some .boolean) :: ([])
def wsX4_error : List Cond := .code yX4_error cX4_error 2 (some .int) :: ([.fieldLink RX4 19 "ClientGuaranteesModel" "errors" "[I"] ++ wsX40)
def wsX4_savesAside : List Cond := .code yX4_savesAside cX4_savesAside 2 none :: ([.fieldLink RX4 35 "ClientGuaranteesModel" "savedMany" "I", .fieldLink RX4 13 "ClientGuaranteesModel" "saved" "[I", .fieldLink RX4 16 "ClientGuaranteesModel" "aside" "[I"] ++ wsX40)
def wsX4_answered : List Cond := .code yX4_answered cX4_answered 2 (some .int) :: ([.methodLink RX4 28 yX4_error, .instanceMethod yX4_error, .selects RX4 yX4_error yX4_error, .initialized RX4, .code yX4_error cX4_error 2 (some .int), .fieldLink RX4 19 "ClientGuaranteesModel" "errors" "[I", .methodLink RX4 32 yX4_savesAside, .instanceMethod yX4_savesAside, .selects RX4 yX4_savesAside yX4_savesAside, .code yX4_savesAside cX4_savesAside 2 none, .fieldLink RX4 35 "ClientGuaranteesModel" "savedMany" "I", .fieldLink RX4 13 "ClientGuaranteesModel" "saved" "[I", .fieldLink RX4 16 "ClientGuaranteesModel" "aside" "[I"] ++ wsX40)
def wsX4_putsAside : List Cond := .code yX4_putsAside cX4_putsAside 2 none :: ([.fieldLink RX4 16 "ClientGuaranteesModel" "aside" "[I", .fieldLink RX4 7 "ClientGuaranteesModel" "all" "[I"] ++ wsX40)
def wsX4_isClient : List Cond := .code yX4_isClient cX4_isClient 1 (some .boolean) :: ([.constantLong RX4 39 (3), .methodLink RX4 41 yX4_in, .static yX4_in, .initialized RX4, .code yX4_in cX4_in 6 (some .boolean)])
def wsX4_isReplica : List Cond := .code yX4_isReplica cX4_isReplica 1 (some .boolean) :: ([.constantLong RX4 45 (2), .methodLink RX4 41 yX4_in, .static yX4_in, .initialized RX4, .code yX4_in cX4_in 6 (some .boolean)])
def wsX4_isKey : List Cond := .code yX4_isKey cX4_isKey 1 (some .boolean) :: ([.constantLong RX4 39 (3), .methodLink RX4 41 yX4_in, .static yX4_in, .initialized RX4, .code yX4_in cX4_in 6 (some .boolean)])
def wsX4_guarantees : List Cond := .code yX4_guarantees cX4_guarantees 2 (some .int) :: ([.fieldLink RX4 7 "ClientGuaranteesModel" "all" "[I"] ++ wsX40)
def wsX4_doesSet : List Cond := .code yX4_doesSet cX4_doesSet 4 (some .int) :: ([.constantLong RX4 51 (15), .fieldLink RX4 7 "ClientGuaranteesModel" "all" "[I", .methodLink RX4 47 yX4_isClient, .static yX4_isClient, .initialized RX4, .code yX4_isClient cX4_isClient 1 (some .boolean), .constantLong RX4 39 (3), .methodLink RX4 41 yX4_in, .static yX4_in, .code yX4_in cX4_in 6 (some .boolean), .methodLink RX4 53 yX4_guarantees, .instanceMethod yX4_guarantees, .selects RX4 yX4_guarantees yX4_guarantees, .code yX4_guarantees cX4_guarantees 2 (some .int)] ++ wsX40)
def wsX4_setGuarantees_r1 : List Cond := [Cond.methodLink RX4 56 yX4_putsAside, Cond.instanceMethod yX4_putsAside, Cond.selects RX4 yX4_putsAside yX4_putsAside, Cond.initialized RX4, Cond.code yX4_putsAside cX4_putsAside 2 none, Cond.fieldLink RX4 16 "ClientGuaranteesModel" "aside" "[I", Cond.fieldLink RX4 7 "ClientGuaranteesModel" "all" "[I", Cond.methodLink RX4 59 yX4_doesSet, Cond.instanceMethod yX4_doesSet, Cond.selects RX4 yX4_doesSet yX4_doesSet, Cond.code yX4_doesSet cX4_doesSet 4 (some .int), Cond.constantLong RX4 51 (15), Cond.methodLink RX4 47 yX4_isClient, Cond.static yX4_isClient, Cond.code yX4_isClient cX4_isClient 1 (some .boolean), Cond.constantLong RX4 39 (3), Cond.methodLink RX4 41 yX4_in, Cond.static yX4_in, Cond.code yX4_in cX4_in 6 (some .boolean), Cond.methodLink RX4 53 yX4_guarantees, Cond.instanceMethod yX4_guarantees, Cond.selects RX4 yX4_guarantees yX4_guarantees, Cond.code yX4_guarantees cX4_guarantees 2 (some .int), Cond.methodLink RX4 63 yX4_answered]
def wsX4_setGuarantees_r2 : List Cond := [Cond.instanceMethod yX4_answered, Cond.selects RX4 yX4_answered yX4_answered, Cond.code yX4_answered cX4_answered 2 (some .int), Cond.methodLink RX4 28 yX4_error, Cond.instanceMethod yX4_error, Cond.selects RX4 yX4_error yX4_error, Cond.code yX4_error cX4_error 2 (some .int), Cond.fieldLink RX4 19 "ClientGuaranteesModel" "errors" "[I", Cond.methodLink RX4 32 yX4_savesAside, Cond.instanceMethod yX4_savesAside, Cond.selects RX4 yX4_savesAside yX4_savesAside, Cond.code yX4_savesAside cX4_savesAside 2 none, Cond.fieldLink RX4 35 "ClientGuaranteesModel" "savedMany" "I", Cond.fieldLink RX4 13 "ClientGuaranteesModel" "saved" "[I"]
def wsX4_setGuarantees : List Cond := .code yX4_setGuarantees cX4_setGuarantees 3 (some .int) :: ((wsX4_setGuarantees_r1 ++ wsX4_setGuarantees_r2) ++ wsX40)
def wsX4_doesForget : List Cond := .code yX4_doesForget cX4_doesForget 4 (some .int) :: ([.fieldLink RX4 7 "ClientGuaranteesModel" "all" "[I", .methodLink RX4 47 yX4_isClient, .static yX4_isClient, .initialized RX4, .code yX4_isClient cX4_isClient 1 (some .boolean), .constantLong RX4 39 (3), .methodLink RX4 41 yX4_in, .static yX4_in, .code yX4_in cX4_in 6 (some .boolean)] ++ wsX40)
def wsX4_forget_r1 : List Cond := [Cond.methodLink RX4 56 yX4_putsAside, Cond.instanceMethod yX4_putsAside, Cond.selects RX4 yX4_putsAside yX4_putsAside, Cond.initialized RX4, Cond.code yX4_putsAside cX4_putsAside 2 none, Cond.fieldLink RX4 16 "ClientGuaranteesModel" "aside" "[I", Cond.fieldLink RX4 7 "ClientGuaranteesModel" "all" "[I", Cond.methodLink RX4 66 yX4_doesForget, Cond.instanceMethod yX4_doesForget, Cond.selects RX4 yX4_doesForget yX4_doesForget, Cond.code yX4_doesForget cX4_doesForget 4 (some .int), Cond.methodLink RX4 47 yX4_isClient, Cond.static yX4_isClient, Cond.code yX4_isClient cX4_isClient 1 (some .boolean), Cond.constantLong RX4 39 (3), Cond.methodLink RX4 41 yX4_in, Cond.static yX4_in, Cond.code yX4_in cX4_in 6 (some .boolean), Cond.methodLink RX4 63 yX4_answered, Cond.instanceMethod yX4_answered, Cond.selects RX4 yX4_answered yX4_answered, Cond.code yX4_answered cX4_answered 2 (some .int), Cond.methodLink RX4 28 yX4_error, Cond.instanceMethod yX4_error]
def wsX4_forget_r2 : List Cond := [Cond.selects RX4 yX4_error yX4_error, Cond.code yX4_error cX4_error 2 (some .int), Cond.fieldLink RX4 19 "ClientGuaranteesModel" "errors" "[I", Cond.methodLink RX4 32 yX4_savesAside, Cond.instanceMethod yX4_savesAside, Cond.selects RX4 yX4_savesAside yX4_savesAside, Cond.code yX4_savesAside cX4_savesAside 2 none, Cond.fieldLink RX4 35 "ClientGuaranteesModel" "savedMany" "I", Cond.fieldLink RX4 13 "ClientGuaranteesModel" "saved" "[I"]
def wsX4_forget : List Cond := .code yX4_forget cX4_forget 2 (some .int) :: ((wsX4_forget_r1 ++ wsX4_forget_r2) ++ wsX40)
def wsX4_readCount : List Cond := .code yX4_readCount cX4_readCount 3 (some .int) :: ([.fieldLink RX4 7 "ClientGuaranteesModel" "all" "[I", .methodLink RX4 47 yX4_isClient, .static yX4_isClient, .initialized RX4, .code yX4_isClient cX4_isClient 1 (some .boolean), .constantLong RX4 39 (3), .methodLink RX4 41 yX4_in, .static yX4_in, .code yX4_in cX4_in 6 (some .boolean), .methodLink RX4 69 yX4_isReplica, .static yX4_isReplica, .code yX4_isReplica cX4_isReplica 1 (some .boolean), .constantLong RX4 45 (2), .methodLink RX4 28 yX4_error, .instanceMethod yX4_error, .selects RX4 yX4_error yX4_error, .code yX4_error cX4_error 2 (some .int), .fieldLink RX4 19 "ClientGuaranteesModel" "errors" "[I"] ++ wsX40)
def wsX4_writeCount : List Cond := .code yX4_writeCount cX4_writeCount 3 (some .int) :: ([.fieldLink RX4 7 "ClientGuaranteesModel" "all" "[I", .methodLink RX4 47 yX4_isClient, .static yX4_isClient, .initialized RX4, .code yX4_isClient cX4_isClient 1 (some .boolean), .constantLong RX4 39 (3), .methodLink RX4 41 yX4_in, .static yX4_in, .code yX4_in cX4_in 6 (some .boolean), .methodLink RX4 69 yX4_isReplica, .static yX4_isReplica, .code yX4_isReplica cX4_isReplica 1 (some .boolean), .constantLong RX4 45 (2), .methodLink RX4 28 yX4_error, .instanceMethod yX4_error, .selects RX4 yX4_error yX4_error, .code yX4_error cX4_error 2 (some .int), .fieldLink RX4 19 "ClientGuaranteesModel" "errors" "[I"] ++ wsX40)
def wsX4_covers : List Cond := .code yX4_covers cX4_covers 5 (some .boolean) :: ([.fieldLink RX4 7 "ClientGuaranteesModel" "all" "[I"] ++ wsX40)
def wsX4_breachesOfRead : List Cond := .code yX4_breachesOfRead cX4_breachesOfRead 4 (some .int) :: ([.methodLink RX4 72 yX4_covers, .instanceMethod yX4_covers, .selects RX4 yX4_covers yX4_covers, .initialized RX4, .code yX4_covers cX4_covers 5 (some .boolean), .fieldLink RX4 7 "ClientGuaranteesModel" "all" "[I"] ++ wsX40)
def wsX4_breachesOfWrite : List Cond := .code yX4_breachesOfWrite cX4_breachesOfWrite 4 (some .int) :: ([.methodLink RX4 72 yX4_covers, .instanceMethod yX4_covers, .selects RX4 yX4_covers yX4_covers, .initialized RX4, .code yX4_covers cX4_covers 5 (some .boolean), .fieldLink RX4 7 "ClientGuaranteesModel" "all" "[I"] ++ wsX40)
def wsX4_countsBreaches : List Cond := .code yX4_countsBreaches cX4_countsBreaches 3 none :: ([.fieldLink RX4 7 "ClientGuaranteesModel" "all" "[I"] ++ wsX40)
def wsX4_isLater : List Cond := .code yX4_isLater cX4_isLater 5 (some .boolean) :: ([.fieldLink RX4 7 "ClientGuaranteesModel" "all" "[I"] ++ wsX40)
def wsX4_valueAt : List Cond := .code yX4_valueAt cX4_valueAt 7 (some .int) :: ([.fieldLink RX4 7 "ClientGuaranteesModel" "all" "[I", .methodLink RX4 76 yX4_isLater, .instanceMethod yX4_isLater, .selects RX4 yX4_isLater yX4_isLater, .initialized RX4, .code yX4_isLater cX4_isLater 5 (some .boolean)] ++ wsX40)
def wsX4_doesRead_r1 : List Cond := [Cond.fieldLink RX4 7 "ClientGuaranteesModel" "all" "[I", Cond.methodLink RX4 47 yX4_isClient, Cond.static yX4_isClient, Cond.initialized RX4, Cond.code yX4_isClient cX4_isClient 1 (some .boolean), Cond.constantLong RX4 39 (3), Cond.methodLink RX4 41 yX4_in, Cond.static yX4_in, Cond.code yX4_in cX4_in 6 (some .boolean), Cond.methodLink RX4 69 yX4_isReplica, Cond.static yX4_isReplica, Cond.code yX4_isReplica cX4_isReplica 1 (some .boolean), Cond.constantLong RX4 45 (2), Cond.methodLink RX4 79 yX4_isKey, Cond.static yX4_isKey, Cond.code yX4_isKey cX4_isKey 1 (some .boolean), Cond.methodLink RX4 82 yX4_breachesOfRead, Cond.instanceMethod yX4_breachesOfRead, Cond.selects RX4 yX4_breachesOfRead yX4_breachesOfRead, Cond.code yX4_breachesOfRead cX4_breachesOfRead 4 (some .int), Cond.methodLink RX4 72 yX4_covers, Cond.instanceMethod yX4_covers, Cond.selects RX4 yX4_covers yX4_covers, Cond.code yX4_covers cX4_covers 5 (some .boolean)]
def wsX4_doesRead_r2 : List Cond := [Cond.methodLink RX4 53 yX4_guarantees, Cond.instanceMethod yX4_guarantees, Cond.selects RX4 yX4_guarantees yX4_guarantees, Cond.code yX4_guarantees cX4_guarantees 2 (some .int), Cond.methodLink RX4 85 yX4_countsBreaches, Cond.instanceMethod yX4_countsBreaches, Cond.selects RX4 yX4_countsBreaches yX4_countsBreaches, Cond.code yX4_countsBreaches cX4_countsBreaches 3 none, Cond.methodLink RX4 89 yX4_valueAt, Cond.instanceMethod yX4_valueAt, Cond.selects RX4 yX4_valueAt yX4_valueAt, Cond.code yX4_valueAt cX4_valueAt 7 (some .int), Cond.methodLink RX4 76 yX4_isLater, Cond.instanceMethod yX4_isLater, Cond.selects RX4 yX4_isLater yX4_isLater, Cond.code yX4_isLater cX4_isLater 5 (some .boolean)]
def wsX4_doesRead : List Cond := .code yX4_doesRead cX4_doesRead 8 (some .int) :: ((wsX4_doesRead_r1 ++ wsX4_doesRead_r2) ++ wsX40)
def wsX4_read_r1 : List Cond := [Cond.methodLink RX4 56 yX4_putsAside, Cond.instanceMethod yX4_putsAside, Cond.selects RX4 yX4_putsAside yX4_putsAside, Cond.initialized RX4, Cond.code yX4_putsAside cX4_putsAside 2 none, Cond.fieldLink RX4 16 "ClientGuaranteesModel" "aside" "[I", Cond.fieldLink RX4 7 "ClientGuaranteesModel" "all" "[I", Cond.methodLink RX4 92 yX4_doesRead, Cond.instanceMethod yX4_doesRead, Cond.selects RX4 yX4_doesRead yX4_doesRead, Cond.code yX4_doesRead cX4_doesRead 8 (some .int), Cond.methodLink RX4 47 yX4_isClient, Cond.static yX4_isClient, Cond.code yX4_isClient cX4_isClient 1 (some .boolean), Cond.constantLong RX4 39 (3), Cond.methodLink RX4 41 yX4_in, Cond.static yX4_in, Cond.code yX4_in cX4_in 6 (some .boolean), Cond.methodLink RX4 69 yX4_isReplica, Cond.static yX4_isReplica, Cond.code yX4_isReplica cX4_isReplica 1 (some .boolean), Cond.constantLong RX4 45 (2), Cond.methodLink RX4 79 yX4_isKey, Cond.static yX4_isKey]
def wsX4_read_r2 : List Cond := [Cond.code yX4_isKey cX4_isKey 1 (some .boolean), Cond.methodLink RX4 82 yX4_breachesOfRead, Cond.instanceMethod yX4_breachesOfRead, Cond.selects RX4 yX4_breachesOfRead yX4_breachesOfRead, Cond.code yX4_breachesOfRead cX4_breachesOfRead 4 (some .int), Cond.methodLink RX4 72 yX4_covers, Cond.instanceMethod yX4_covers, Cond.selects RX4 yX4_covers yX4_covers, Cond.code yX4_covers cX4_covers 5 (some .boolean), Cond.methodLink RX4 53 yX4_guarantees, Cond.instanceMethod yX4_guarantees, Cond.selects RX4 yX4_guarantees yX4_guarantees, Cond.code yX4_guarantees cX4_guarantees 2 (some .int), Cond.methodLink RX4 85 yX4_countsBreaches, Cond.instanceMethod yX4_countsBreaches, Cond.selects RX4 yX4_countsBreaches yX4_countsBreaches, Cond.code yX4_countsBreaches cX4_countsBreaches 3 none, Cond.methodLink RX4 89 yX4_valueAt, Cond.instanceMethod yX4_valueAt, Cond.selects RX4 yX4_valueAt yX4_valueAt, Cond.code yX4_valueAt cX4_valueAt 7 (some .int), Cond.methodLink RX4 76 yX4_isLater, Cond.instanceMethod yX4_isLater, Cond.selects RX4 yX4_isLater yX4_isLater]
def wsX4_read_r3 : List Cond := [Cond.code yX4_isLater cX4_isLater 5 (some .boolean), Cond.methodLink RX4 63 yX4_answered, Cond.instanceMethod yX4_answered, Cond.selects RX4 yX4_answered yX4_answered, Cond.code yX4_answered cX4_answered 2 (some .int), Cond.methodLink RX4 28 yX4_error, Cond.instanceMethod yX4_error, Cond.selects RX4 yX4_error yX4_error, Cond.code yX4_error cX4_error 2 (some .int), Cond.fieldLink RX4 19 "ClientGuaranteesModel" "errors" "[I", Cond.methodLink RX4 32 yX4_savesAside, Cond.instanceMethod yX4_savesAside, Cond.selects RX4 yX4_savesAside yX4_savesAside, Cond.code yX4_savesAside cX4_savesAside 2 none, Cond.fieldLink RX4 35 "ClientGuaranteesModel" "savedMany" "I", Cond.fieldLink RX4 13 "ClientGuaranteesModel" "saved" "[I"]
def wsX4_read : List Cond := .code yX4_read cX4_read 4 (some .int) :: ((wsX4_read_r1 ++ (wsX4_read_r2 ++ wsX4_read_r3)) ++ wsX40)
def wsX4_doesWrite_r1 : List Cond := [Cond.constantLong RX4 96 (99), Cond.fieldLink RX4 7 "ClientGuaranteesModel" "all" "[I", Cond.methodLink RX4 47 yX4_isClient, Cond.static yX4_isClient, Cond.initialized RX4, Cond.code yX4_isClient cX4_isClient 1 (some .boolean), Cond.constantLong RX4 39 (3), Cond.methodLink RX4 41 yX4_in, Cond.static yX4_in, Cond.code yX4_in cX4_in 6 (some .boolean), Cond.methodLink RX4 69 yX4_isReplica, Cond.static yX4_isReplica, Cond.code yX4_isReplica cX4_isReplica 1 (some .boolean), Cond.constantLong RX4 45 (2), Cond.methodLink RX4 79 yX4_isKey, Cond.static yX4_isKey, Cond.code yX4_isKey cX4_isKey 1 (some .boolean), Cond.methodLink RX4 98 yX4_breachesOfWrite, Cond.instanceMethod yX4_breachesOfWrite, Cond.selects RX4 yX4_breachesOfWrite yX4_breachesOfWrite, Cond.code yX4_breachesOfWrite cX4_breachesOfWrite 4 (some .int), Cond.methodLink RX4 72 yX4_covers, Cond.instanceMethod yX4_covers, Cond.selects RX4 yX4_covers yX4_covers]
def wsX4_doesWrite_r2 : List Cond := [Cond.code yX4_covers cX4_covers 5 (some .boolean), Cond.methodLink RX4 53 yX4_guarantees, Cond.instanceMethod yX4_guarantees, Cond.selects RX4 yX4_guarantees yX4_guarantees, Cond.code yX4_guarantees cX4_guarantees 2 (some .int), Cond.methodLink RX4 85 yX4_countsBreaches, Cond.instanceMethod yX4_countsBreaches, Cond.selects RX4 yX4_countsBreaches yX4_countsBreaches, Cond.code yX4_countsBreaches cX4_countsBreaches 3 none]
def wsX4_doesWrite : List Cond := .code yX4_doesWrite cX4_doesWrite 8 (some .int) :: ((wsX4_doesWrite_r1 ++ wsX4_doesWrite_r2) ++ wsX40)
def wsX4_write_r1 : List Cond := [Cond.methodLink RX4 56 yX4_putsAside, Cond.instanceMethod yX4_putsAside, Cond.selects RX4 yX4_putsAside yX4_putsAside, Cond.initialized RX4, Cond.code yX4_putsAside cX4_putsAside 2 none, Cond.fieldLink RX4 16 "ClientGuaranteesModel" "aside" "[I", Cond.fieldLink RX4 7 "ClientGuaranteesModel" "all" "[I", Cond.methodLink RX4 101 yX4_doesWrite, Cond.instanceMethod yX4_doesWrite, Cond.selects RX4 yX4_doesWrite yX4_doesWrite, Cond.code yX4_doesWrite cX4_doesWrite 8 (some .int), Cond.constantLong RX4 96 (99), Cond.methodLink RX4 47 yX4_isClient, Cond.static yX4_isClient, Cond.code yX4_isClient cX4_isClient 1 (some .boolean), Cond.constantLong RX4 39 (3), Cond.methodLink RX4 41 yX4_in, Cond.static yX4_in, Cond.code yX4_in cX4_in 6 (some .boolean), Cond.methodLink RX4 69 yX4_isReplica, Cond.static yX4_isReplica, Cond.code yX4_isReplica cX4_isReplica 1 (some .boolean), Cond.constantLong RX4 45 (2), Cond.methodLink RX4 79 yX4_isKey]
def wsX4_write_r2 : List Cond := [Cond.static yX4_isKey, Cond.code yX4_isKey cX4_isKey 1 (some .boolean), Cond.methodLink RX4 98 yX4_breachesOfWrite, Cond.instanceMethod yX4_breachesOfWrite, Cond.selects RX4 yX4_breachesOfWrite yX4_breachesOfWrite, Cond.code yX4_breachesOfWrite cX4_breachesOfWrite 4 (some .int), Cond.methodLink RX4 72 yX4_covers, Cond.instanceMethod yX4_covers, Cond.selects RX4 yX4_covers yX4_covers, Cond.code yX4_covers cX4_covers 5 (some .boolean), Cond.methodLink RX4 53 yX4_guarantees, Cond.instanceMethod yX4_guarantees, Cond.selects RX4 yX4_guarantees yX4_guarantees, Cond.code yX4_guarantees cX4_guarantees 2 (some .int), Cond.methodLink RX4 85 yX4_countsBreaches, Cond.instanceMethod yX4_countsBreaches, Cond.selects RX4 yX4_countsBreaches yX4_countsBreaches, Cond.code yX4_countsBreaches cX4_countsBreaches 3 none, Cond.methodLink RX4 63 yX4_answered, Cond.instanceMethod yX4_answered, Cond.selects RX4 yX4_answered yX4_answered, Cond.code yX4_answered cX4_answered 2 (some .int), Cond.methodLink RX4 28 yX4_error, Cond.instanceMethod yX4_error]
def wsX4_write_r3 : List Cond := [Cond.selects RX4 yX4_error yX4_error, Cond.code yX4_error cX4_error 2 (some .int), Cond.fieldLink RX4 19 "ClientGuaranteesModel" "errors" "[I", Cond.methodLink RX4 32 yX4_savesAside, Cond.instanceMethod yX4_savesAside, Cond.selects RX4 yX4_savesAside yX4_savesAside, Cond.code yX4_savesAside cX4_savesAside 2 none, Cond.fieldLink RX4 35 "ClientGuaranteesModel" "savedMany" "I", Cond.fieldLink RX4 13 "ClientGuaranteesModel" "saved" "[I"]
def wsX4_write : List Cond := .code yX4_write cX4_write 5 (some .int) :: ((wsX4_write_r1 ++ (wsX4_write_r2 ++ wsX4_write_r3)) ++ wsX40)
def wsX4_doesSync : List Cond := .code yX4_doesSync cX4_doesSync 7 (some .int) :: ([.fieldLink RX4 7 "ClientGuaranteesModel" "all" "[I", .methodLink RX4 69 yX4_isReplica, .static yX4_isReplica, .initialized RX4, .code yX4_isReplica cX4_isReplica 1 (some .boolean), .constantLong RX4 45 (2), .methodLink RX4 41 yX4_in, .static yX4_in, .code yX4_in cX4_in 6 (some .boolean)] ++ wsX40)
def wsX4_sync_r1 : List Cond := [Cond.methodLink RX4 56 yX4_putsAside, Cond.instanceMethod yX4_putsAside, Cond.selects RX4 yX4_putsAside yX4_putsAside, Cond.initialized RX4, Cond.code yX4_putsAside cX4_putsAside 2 none, Cond.fieldLink RX4 16 "ClientGuaranteesModel" "aside" "[I", Cond.fieldLink RX4 7 "ClientGuaranteesModel" "all" "[I", Cond.methodLink RX4 105 yX4_doesSync, Cond.instanceMethod yX4_doesSync, Cond.selects RX4 yX4_doesSync yX4_doesSync, Cond.code yX4_doesSync cX4_doesSync 7 (some .int), Cond.methodLink RX4 69 yX4_isReplica, Cond.static yX4_isReplica, Cond.code yX4_isReplica cX4_isReplica 1 (some .boolean), Cond.constantLong RX4 45 (2), Cond.methodLink RX4 41 yX4_in, Cond.static yX4_in, Cond.code yX4_in cX4_in 6 (some .boolean), Cond.methodLink RX4 63 yX4_answered, Cond.instanceMethod yX4_answered, Cond.selects RX4 yX4_answered yX4_answered, Cond.code yX4_answered cX4_answered 2 (some .int), Cond.methodLink RX4 28 yX4_error, Cond.instanceMethod yX4_error]
def wsX4_sync_r2 : List Cond := [Cond.selects RX4 yX4_error yX4_error, Cond.code yX4_error cX4_error 2 (some .int), Cond.fieldLink RX4 19 "ClientGuaranteesModel" "errors" "[I", Cond.methodLink RX4 32 yX4_savesAside, Cond.instanceMethod yX4_savesAside, Cond.selects RX4 yX4_savesAside yX4_savesAside, Cond.code yX4_savesAside cX4_savesAside 2 none, Cond.fieldLink RX4 35 "ClientGuaranteesModel" "savedMany" "I", Cond.fieldLink RX4 13 "ClientGuaranteesModel" "saved" "[I"]
def wsX4_sync : List Cond := .code yX4_sync cX4_sync 3 (some .int) :: ((wsX4_sync_r1 ++ wsX4_sync_r2) ++ wsX40)
def wsX4_readBreaches_r1 : List Cond := [Cond.methodLink RX4 47 yX4_isClient, Cond.static yX4_isClient, Cond.initialized RX4, Cond.code yX4_isClient cX4_isClient 1 (some .boolean), Cond.constantLong RX4 39 (3), Cond.methodLink RX4 41 yX4_in, Cond.static yX4_in, Cond.code yX4_in cX4_in 6 (some .boolean), Cond.methodLink RX4 69 yX4_isReplica, Cond.static yX4_isReplica, Cond.code yX4_isReplica cX4_isReplica 1 (some .boolean), Cond.constantLong RX4 45 (2), Cond.methodLink RX4 82 yX4_breachesOfRead, Cond.instanceMethod yX4_breachesOfRead, Cond.selects RX4 yX4_breachesOfRead yX4_breachesOfRead, Cond.code yX4_breachesOfRead cX4_breachesOfRead 4 (some .int), Cond.methodLink RX4 72 yX4_covers, Cond.instanceMethod yX4_covers, Cond.selects RX4 yX4_covers yX4_covers, Cond.code yX4_covers cX4_covers 5 (some .boolean), Cond.fieldLink RX4 7 "ClientGuaranteesModel" "all" "[I", Cond.methodLink RX4 28 yX4_error, Cond.instanceMethod yX4_error, Cond.selects RX4 yX4_error yX4_error]
def wsX4_readBreaches_r2 : List Cond := [Cond.code yX4_error cX4_error 2 (some .int), Cond.fieldLink RX4 19 "ClientGuaranteesModel" "errors" "[I"]
def wsX4_readBreaches : List Cond := .code yX4_readBreaches cX4_readBreaches 3 (some .int) :: ((wsX4_readBreaches_r1 ++ wsX4_readBreaches_r2) ++ wsX40)
def wsX4_writeBreaches_r1 : List Cond := [Cond.methodLink RX4 47 yX4_isClient, Cond.static yX4_isClient, Cond.initialized RX4, Cond.code yX4_isClient cX4_isClient 1 (some .boolean), Cond.constantLong RX4 39 (3), Cond.methodLink RX4 41 yX4_in, Cond.static yX4_in, Cond.code yX4_in cX4_in 6 (some .boolean), Cond.methodLink RX4 69 yX4_isReplica, Cond.static yX4_isReplica, Cond.code yX4_isReplica cX4_isReplica 1 (some .boolean), Cond.constantLong RX4 45 (2), Cond.methodLink RX4 98 yX4_breachesOfWrite, Cond.instanceMethod yX4_breachesOfWrite, Cond.selects RX4 yX4_breachesOfWrite yX4_breachesOfWrite, Cond.code yX4_breachesOfWrite cX4_breachesOfWrite 4 (some .int), Cond.methodLink RX4 72 yX4_covers, Cond.instanceMethod yX4_covers, Cond.selects RX4 yX4_covers yX4_covers, Cond.code yX4_covers cX4_covers 5 (some .boolean), Cond.fieldLink RX4 7 "ClientGuaranteesModel" "all" "[I", Cond.methodLink RX4 28 yX4_error, Cond.instanceMethod yX4_error, Cond.selects RX4 yX4_error yX4_error]
def wsX4_writeBreaches_r2 : List Cond := [Cond.code yX4_error cX4_error 2 (some .int), Cond.fieldLink RX4 19 "ClientGuaranteesModel" "errors" "[I"]
def wsX4_writeBreaches : List Cond := .code yX4_writeBreaches cX4_writeBreaches 3 (some .int) :: ((wsX4_writeBreaches_r1 ++ wsX4_writeBreaches_r2) ++ wsX40)
def wsX4_readableReplica_r1 : List Cond := [Cond.methodLink RX4 47 yX4_isClient, Cond.static yX4_isClient, Cond.initialized RX4, Cond.code yX4_isClient cX4_isClient 1 (some .boolean), Cond.constantLong RX4 39 (3), Cond.methodLink RX4 41 yX4_in, Cond.static yX4_in, Cond.code yX4_in cX4_in 6 (some .boolean), Cond.methodLink RX4 28 yX4_error, Cond.instanceMethod yX4_error, Cond.selects RX4 yX4_error yX4_error, Cond.code yX4_error cX4_error 2 (some .int), Cond.fieldLink RX4 19 "ClientGuaranteesModel" "errors" "[I", Cond.methodLink RX4 82 yX4_breachesOfRead, Cond.instanceMethod yX4_breachesOfRead, Cond.selects RX4 yX4_breachesOfRead yX4_breachesOfRead, Cond.code yX4_breachesOfRead cX4_breachesOfRead 4 (some .int), Cond.methodLink RX4 72 yX4_covers, Cond.instanceMethod yX4_covers, Cond.selects RX4 yX4_covers yX4_covers, Cond.code yX4_covers cX4_covers 5 (some .boolean), Cond.fieldLink RX4 7 "ClientGuaranteesModel" "all" "[I", Cond.methodLink RX4 53 yX4_guarantees, Cond.instanceMethod yX4_guarantees]
def wsX4_readableReplica_r2 : List Cond := [Cond.selects RX4 yX4_guarantees yX4_guarantees, Cond.code yX4_guarantees cX4_guarantees 2 (some .int)]
def wsX4_readableReplica : List Cond := .code yX4_readableReplica cX4_readableReplica 3 (some .int) :: ((wsX4_readableReplica_r1 ++ wsX4_readableReplica_r2) ++ wsX40)
def wsX4_writableReplica_r1 : List Cond := [Cond.methodLink RX4 47 yX4_isClient, Cond.static yX4_isClient, Cond.initialized RX4, Cond.code yX4_isClient cX4_isClient 1 (some .boolean), Cond.constantLong RX4 39 (3), Cond.methodLink RX4 41 yX4_in, Cond.static yX4_in, Cond.code yX4_in cX4_in 6 (some .boolean), Cond.methodLink RX4 28 yX4_error, Cond.instanceMethod yX4_error, Cond.selects RX4 yX4_error yX4_error, Cond.code yX4_error cX4_error 2 (some .int), Cond.fieldLink RX4 19 "ClientGuaranteesModel" "errors" "[I", Cond.methodLink RX4 98 yX4_breachesOfWrite, Cond.instanceMethod yX4_breachesOfWrite, Cond.selects RX4 yX4_breachesOfWrite yX4_breachesOfWrite, Cond.code yX4_breachesOfWrite cX4_breachesOfWrite 4 (some .int), Cond.methodLink RX4 72 yX4_covers, Cond.instanceMethod yX4_covers, Cond.selects RX4 yX4_covers yX4_covers, Cond.code yX4_covers cX4_covers 5 (some .boolean), Cond.fieldLink RX4 7 "ClientGuaranteesModel" "all" "[I", Cond.methodLink RX4 53 yX4_guarantees, Cond.instanceMethod yX4_guarantees]
def wsX4_writableReplica_r2 : List Cond := [Cond.selects RX4 yX4_guarantees yX4_guarantees, Cond.code yX4_guarantees cX4_guarantees 2 (some .int)]
def wsX4_writableReplica : List Cond := .code yX4_writableReplica cX4_writableReplica 3 (some .int) :: ((wsX4_writableReplica_r1 ++ wsX4_writableReplica_r2) ++ wsX40)
def wsX4_isCoveredBy : List Cond := .code yX4_isCoveredBy cX4_isCoveredBy 8 (some .boolean) :: ([.fieldLink RX4 7 "ClientGuaranteesModel" "all" "[I"] ++ wsX40)
def wsX4_isReadBy : List Cond := .code yX4_isReadBy cX4_isReadBy 5 (some .boolean) :: ([.methodLink RX4 53 yX4_guarantees, .instanceMethod yX4_guarantees, .selects RX4 yX4_guarantees yX4_guarantees, .initialized RX4, .code yX4_guarantees cX4_guarantees 2 (some .int), .fieldLink RX4 7 "ClientGuaranteesModel" "all" "[I", .methodLink RX4 108 yX4_isCoveredBy, .instanceMethod yX4_isCoveredBy, .selects RX4 yX4_isCoveredBy yX4_isCoveredBy, .code yX4_isCoveredBy cX4_isCoveredBy 8 (some .boolean)] ++ wsX40)
def wsX4_bits : List Cond := .code yX4_bits cX4_bits 1 (some .int) :: ([])
def wsX4_syncsForRead_r1 : List Cond := [Cond.methodLink RX4 47 yX4_isClient, Cond.static yX4_isClient, Cond.initialized RX4, Cond.code yX4_isClient cX4_isClient 1 (some .boolean), Cond.constantLong RX4 39 (3), Cond.methodLink RX4 41 yX4_in, Cond.static yX4_in, Cond.code yX4_in cX4_in 6 (some .boolean), Cond.methodLink RX4 69 yX4_isReplica, Cond.static yX4_isReplica, Cond.code yX4_isReplica cX4_isReplica 1 (some .boolean), Cond.constantLong RX4 45 (2), Cond.methodLink RX4 28 yX4_error, Cond.instanceMethod yX4_error, Cond.selects RX4 yX4_error yX4_error, Cond.code yX4_error cX4_error 2 (some .int), Cond.fieldLink RX4 19 "ClientGuaranteesModel" "errors" "[I", Cond.methodLink RX4 111 yX4_bits, Cond.static yX4_bits, Cond.code yX4_bits cX4_bits 1 (some .int), Cond.methodLink RX4 114 yX4_isReadBy, Cond.instanceMethod yX4_isReadBy, Cond.selects RX4 yX4_isReadBy yX4_isReadBy, Cond.code yX4_isReadBy cX4_isReadBy 5 (some .boolean)]
def wsX4_syncsForRead_r2 : List Cond := [Cond.methodLink RX4 53 yX4_guarantees, Cond.instanceMethod yX4_guarantees, Cond.selects RX4 yX4_guarantees yX4_guarantees, Cond.code yX4_guarantees cX4_guarantees 2 (some .int), Cond.fieldLink RX4 7 "ClientGuaranteesModel" "all" "[I", Cond.methodLink RX4 108 yX4_isCoveredBy, Cond.instanceMethod yX4_isCoveredBy, Cond.selects RX4 yX4_isCoveredBy yX4_isCoveredBy, Cond.code yX4_isCoveredBy cX4_isCoveredBy 8 (some .boolean)]
def wsX4_syncsForRead : List Cond := .code yX4_syncsForRead cX4_syncsForRead 7 (some .int) :: ((wsX4_syncsForRead_r1 ++ wsX4_syncsForRead_r2) ++ wsX40)
def wsX4_count : List Cond := .code yX4_count cX4_count 3 (some .int) :: ([.fieldLink RX4 7 "ClientGuaranteesModel" "all" "[I", .methodLink RX4 69 yX4_isReplica, .static yX4_isReplica, .initialized RX4, .code yX4_isReplica cX4_isReplica 1 (some .boolean), .constantLong RX4 45 (2), .methodLink RX4 41 yX4_in, .static yX4_in, .code yX4_in cX4_in 6 (some .boolean), .methodLink RX4 28 yX4_error, .instanceMethod yX4_error, .selects RX4 yX4_error yX4_error, .code yX4_error cX4_error 2 (some .int), .fieldLink RX4 19 "ClientGuaranteesModel" "errors" "[I"] ++ wsX40)
def wsX4_clock : List Cond := .code yX4_clock cX4_clock 2 (some .int) :: ([.fieldLink RX4 7 "ClientGuaranteesModel" "all" "[I", .methodLink RX4 69 yX4_isReplica, .static yX4_isReplica, .initialized RX4, .code yX4_isReplica cX4_isReplica 1 (some .boolean), .constantLong RX4 45 (2), .methodLink RX4 41 yX4_in, .static yX4_in, .code yX4_in cX4_in 6 (some .boolean), .methodLink RX4 28 yX4_error, .instanceMethod yX4_error, .selects RX4 yX4_error yX4_error, .code yX4_error cX4_error 2 (some .int), .fieldLink RX4 19 "ClientGuaranteesModel" "errors" "[I"] ++ wsX40)
def wsX4_peek_r1 : List Cond := [Cond.methodLink RX4 69 yX4_isReplica, Cond.static yX4_isReplica, Cond.initialized RX4, Cond.code yX4_isReplica cX4_isReplica 1 (some .boolean), Cond.constantLong RX4 45 (2), Cond.methodLink RX4 41 yX4_in, Cond.static yX4_in, Cond.code yX4_in cX4_in 6 (some .boolean), Cond.methodLink RX4 79 yX4_isKey, Cond.static yX4_isKey, Cond.code yX4_isKey cX4_isKey 1 (some .boolean), Cond.constantLong RX4 39 (3), Cond.methodLink RX4 28 yX4_error, Cond.instanceMethod yX4_error, Cond.selects RX4 yX4_error yX4_error, Cond.code yX4_error cX4_error 2 (some .int), Cond.fieldLink RX4 19 "ClientGuaranteesModel" "errors" "[I", Cond.methodLink RX4 89 yX4_valueAt, Cond.instanceMethod yX4_valueAt, Cond.selects RX4 yX4_valueAt yX4_valueAt, Cond.code yX4_valueAt cX4_valueAt 7 (some .int), Cond.fieldLink RX4 7 "ClientGuaranteesModel" "all" "[I", Cond.methodLink RX4 76 yX4_isLater, Cond.instanceMethod yX4_isLater]
def wsX4_peek_r2 : List Cond := [Cond.selects RX4 yX4_isLater yX4_isLater, Cond.code yX4_isLater cX4_isLater 5 (some .boolean)]
def wsX4_peek : List Cond := .code yX4_peek cX4_peek 4 (some .int) :: ((wsX4_peek_r1 ++ wsX4_peek_r2) ++ wsX40)
def wsX4_compare : List Cond := .code yX4_compare cX4_compare 5 (some .int) :: ([.methodLink RX4 69 yX4_isReplica, .static yX4_isReplica, .initialized RX4, .code yX4_isReplica cX4_isReplica 1 (some .boolean), .constantLong RX4 45 (2), .methodLink RX4 41 yX4_in, .static yX4_in, .code yX4_in cX4_in 6 (some .boolean), .methodLink RX4 28 yX4_error, .instanceMethod yX4_error, .selects RX4 yX4_error yX4_error, .code yX4_error cX4_error 2 (some .int), .fieldLink RX4 19 "ClientGuaranteesModel" "errors" "[I", .methodLink RX4 72 yX4_covers, .instanceMethod yX4_covers, .selects RX4 yX4_covers yX4_covers, .code yX4_covers cX4_covers 5 (some .boolean), .fieldLink RX4 7 "ClientGuaranteesModel" "all" "[I"] ++ wsX40)
def wsX4_breaches : List Cond := .code yX4_breaches cX4_breaches 2 (some .int) :: ([.constantLong RX4 39 (3), .fieldLink RX4 7 "ClientGuaranteesModel" "all" "[I", .methodLink RX4 41 yX4_in, .static yX4_in, .initialized RX4, .code yX4_in cX4_in 6 (some .boolean), .methodLink RX4 28 yX4_error, .instanceMethod yX4_error, .selects RX4 yX4_error yX4_error, .code yX4_error cX4_error 2 (some .int), .fieldLink RX4 19 "ClientGuaranteesModel" "errors" "[I"] ++ wsX40)
def wsX4_append : List Cond := .code yX4_append cX4_append 2 (some .int) :: ([.constantLong RX4 117 (127), .fieldLink RX4 119 "ClientGuaranteesModel" "textLong" "I", .fieldLink RX4 22 "ClientGuaranteesModel" "text" "[I", .methodLink RX4 41 yX4_in, .static yX4_in, .initialized RX4, .code yX4_in cX4_in 6 (some .boolean), .methodLink RX4 28 yX4_error, .instanceMethod yX4_error, .selects RX4 yX4_error yX4_error, .code yX4_error cX4_error 2 (some .int), .fieldLink RX4 19 "ClientGuaranteesModel" "errors" "[I"] ++ wsX40)
def wsX4_clearText : List Cond := .code yX4_clearText cX4_clearText 2 (some .int) :: ([.fieldLink RX4 119 "ClientGuaranteesModel" "textLong" "I"] ++ wsX40)
def wsX4_here : List Cond := .code yX4_here cX4_here 1 (some .int) :: ([.fieldLink RX4 122 "ClientGuaranteesModel" "at" "I", .fieldLink RX4 119 "ClientGuaranteesModel" "textLong" "I", .fieldLink RX4 22 "ClientGuaranteesModel" "text" "[I"] ++ wsX40)
def wsX4_isDigit : List Cond := .code yX4_isDigit cX4_isDigit 1 (some .boolean) :: ([.fieldLink RX4 122 "ClientGuaranteesModel" "at" "I", .fieldLink RX4 119 "ClientGuaranteesModel" "textLong" "I", .fieldLink RX4 22 "ClientGuaranteesModel" "text" "[I", .constantLong RX4 125 (48), .constantLong RX4 127 (57), .methodLink RX4 41 yX4_in, .static yX4_in, .initialized RX4, .code yX4_in cX4_in 6 (some .boolean)] ++ wsX40)
def wsX4_takesNumber : List Cond := .code yX4_takesNumber cX4_takesNumber 4 (some .boolean) :: ([.constantLong RX4 125 (48), .constantLong RX4 127 (57), .fieldLink RX4 25 "ClientGuaranteesModel" "numbers" "[I", .fieldLink RX4 22 "ClientGuaranteesModel" "text" "[I", .fieldLink RX4 122 "ClientGuaranteesModel" "at" "I", .methodLink RX4 129 yX4_here, .instanceMethod yX4_here, .selects RX4 yX4_here yX4_here, .initialized RX4, .code yX4_here cX4_here 1 (some .int), .fieldLink RX4 119 "ClientGuaranteesModel" "textLong" "I", .methodLink RX4 41 yX4_in, .static yX4_in, .code yX4_in cX4_in 6 (some .boolean), .methodLink RX4 133 yX4_isDigit, .instanceMethod yX4_isDigit, .selects RX4 yX4_isDigit yX4_isDigit, .code yX4_isDigit cX4_isDigit 1 (some .boolean)] ++ wsX40)
def wsX4_numbersOf : List Cond := .code yX4_numbersOf cX4_numbersOf 1 (some .int) :: ([])
def wsX4_takesCommand_r1 : List Cond := [Cond.fieldLink RX4 137 "ClientGuaranteesModel" "command" "I", Cond.fieldLink RX4 122 "ClientGuaranteesModel" "at" "I", Cond.methodLink RX4 129 yX4_here, Cond.instanceMethod yX4_here, Cond.selects RX4 yX4_here yX4_here, Cond.initialized RX4, Cond.code yX4_here cX4_here 1 (some .int), Cond.fieldLink RX4 119 "ClientGuaranteesModel" "textLong" "I", Cond.fieldLink RX4 22 "ClientGuaranteesModel" "text" "[I", Cond.methodLink RX4 140 yX4_numbersOf, Cond.static yX4_numbersOf, Cond.code yX4_numbersOf cX4_numbersOf 1 (some .int), Cond.methodLink RX4 143 yX4_takesNumber, Cond.instanceMethod yX4_takesNumber, Cond.selects RX4 yX4_takesNumber yX4_takesNumber, Cond.code yX4_takesNumber cX4_takesNumber 4 (some .boolean), Cond.constantLong RX4 125 (48), Cond.constantLong RX4 127 (57), Cond.fieldLink RX4 25 "ClientGuaranteesModel" "numbers" "[I", Cond.methodLink RX4 41 yX4_in, Cond.static yX4_in, Cond.code yX4_in cX4_in 6 (some .boolean), Cond.methodLink RX4 133 yX4_isDigit, Cond.instanceMethod yX4_isDigit]
def wsX4_takesCommand_r2 : List Cond := [Cond.selects RX4 yX4_isDigit yX4_isDigit, Cond.code yX4_isDigit cX4_isDigit 1 (some .boolean)]
def wsX4_takesCommand : List Cond := .code yX4_takesCommand cX4_takesCommand 3 (some .boolean) :: ((wsX4_takesCommand_r1 ++ wsX4_takesCommand_r2) ++ wsX40)
def wsX4_doesCommand_r1 : List Cond := [Cond.fieldLink RX4 25 "ClientGuaranteesModel" "numbers" "[I", Cond.fieldLink RX4 137 "ClientGuaranteesModel" "command" "I", Cond.methodLink RX4 66 yX4_doesForget, Cond.instanceMethod yX4_doesForget, Cond.selects RX4 yX4_doesForget yX4_doesForget, Cond.initialized RX4, Cond.code yX4_doesForget cX4_doesForget 4 (some .int), Cond.fieldLink RX4 7 "ClientGuaranteesModel" "all" "[I", Cond.methodLink RX4 47 yX4_isClient, Cond.static yX4_isClient, Cond.code yX4_isClient cX4_isClient 1 (some .boolean), Cond.constantLong RX4 39 (3), Cond.methodLink RX4 41 yX4_in, Cond.static yX4_in, Cond.code yX4_in cX4_in 6 (some .boolean), Cond.methodLink RX4 59 yX4_doesSet, Cond.instanceMethod yX4_doesSet, Cond.selects RX4 yX4_doesSet yX4_doesSet, Cond.code yX4_doesSet cX4_doesSet 4 (some .int), Cond.constantLong RX4 51 (15), Cond.methodLink RX4 53 yX4_guarantees, Cond.instanceMethod yX4_guarantees, Cond.selects RX4 yX4_guarantees yX4_guarantees, Cond.code yX4_guarantees cX4_guarantees 2 (some .int)]
def wsX4_doesCommand_r2 : List Cond := [Cond.methodLink RX4 105 yX4_doesSync, Cond.instanceMethod yX4_doesSync, Cond.selects RX4 yX4_doesSync yX4_doesSync, Cond.code yX4_doesSync cX4_doesSync 7 (some .int), Cond.methodLink RX4 69 yX4_isReplica, Cond.static yX4_isReplica, Cond.code yX4_isReplica cX4_isReplica 1 (some .boolean), Cond.constantLong RX4 45 (2), Cond.methodLink RX4 92 yX4_doesRead, Cond.instanceMethod yX4_doesRead, Cond.selects RX4 yX4_doesRead yX4_doesRead, Cond.code yX4_doesRead cX4_doesRead 8 (some .int), Cond.methodLink RX4 79 yX4_isKey, Cond.static yX4_isKey, Cond.code yX4_isKey cX4_isKey 1 (some .boolean), Cond.methodLink RX4 82 yX4_breachesOfRead, Cond.instanceMethod yX4_breachesOfRead, Cond.selects RX4 yX4_breachesOfRead yX4_breachesOfRead, Cond.code yX4_breachesOfRead cX4_breachesOfRead 4 (some .int), Cond.methodLink RX4 72 yX4_covers, Cond.instanceMethod yX4_covers, Cond.selects RX4 yX4_covers yX4_covers, Cond.code yX4_covers cX4_covers 5 (some .boolean), Cond.methodLink RX4 85 yX4_countsBreaches]
def wsX4_doesCommand_r3 : List Cond := [Cond.instanceMethod yX4_countsBreaches, Cond.selects RX4 yX4_countsBreaches yX4_countsBreaches, Cond.code yX4_countsBreaches cX4_countsBreaches 3 none, Cond.methodLink RX4 89 yX4_valueAt, Cond.instanceMethod yX4_valueAt, Cond.selects RX4 yX4_valueAt yX4_valueAt, Cond.code yX4_valueAt cX4_valueAt 7 (some .int), Cond.methodLink RX4 76 yX4_isLater, Cond.instanceMethod yX4_isLater, Cond.selects RX4 yX4_isLater yX4_isLater, Cond.code yX4_isLater cX4_isLater 5 (some .boolean), Cond.methodLink RX4 101 yX4_doesWrite, Cond.instanceMethod yX4_doesWrite, Cond.selects RX4 yX4_doesWrite yX4_doesWrite, Cond.code yX4_doesWrite cX4_doesWrite 8 (some .int), Cond.constantLong RX4 96 (99), Cond.methodLink RX4 98 yX4_breachesOfWrite, Cond.instanceMethod yX4_breachesOfWrite, Cond.selects RX4 yX4_breachesOfWrite yX4_breachesOfWrite, Cond.code yX4_breachesOfWrite cX4_breachesOfWrite 4 (some .int)]
def wsX4_doesCommand : List Cond := .code yX4_doesCommand cX4_doesCommand 3 (some .int) :: ((wsX4_doesCommand_r1 ++ (wsX4_doesCommand_r2 ++ wsX4_doesCommand_r3)) ++ wsX40)
def wsX4_execute_r1 : List Cond := [Cond.fieldLink RX4 122 "ClientGuaranteesModel" "at" "I", Cond.fieldLink RX4 7 "ClientGuaranteesModel" "all" "[I", Cond.fieldLink RX4 16 "ClientGuaranteesModel" "aside" "[I", Cond.methodLink RX4 146 yX4_takesCommand, Cond.instanceMethod yX4_takesCommand, Cond.selects RX4 yX4_takesCommand yX4_takesCommand, Cond.initialized RX4, Cond.code yX4_takesCommand cX4_takesCommand 3 (some .boolean), Cond.fieldLink RX4 137 "ClientGuaranteesModel" "command" "I", Cond.methodLink RX4 129 yX4_here, Cond.instanceMethod yX4_here, Cond.selects RX4 yX4_here yX4_here, Cond.code yX4_here cX4_here 1 (some .int), Cond.fieldLink RX4 119 "ClientGuaranteesModel" "textLong" "I", Cond.fieldLink RX4 22 "ClientGuaranteesModel" "text" "[I", Cond.methodLink RX4 140 yX4_numbersOf, Cond.static yX4_numbersOf, Cond.code yX4_numbersOf cX4_numbersOf 1 (some .int), Cond.methodLink RX4 143 yX4_takesNumber, Cond.instanceMethod yX4_takesNumber, Cond.selects RX4 yX4_takesNumber yX4_takesNumber, Cond.code yX4_takesNumber cX4_takesNumber 4 (some .boolean), Cond.constantLong RX4 125 (48), Cond.constantLong RX4 127 (57)]
def wsX4_execute_r2 : List Cond := [Cond.fieldLink RX4 25 "ClientGuaranteesModel" "numbers" "[I", Cond.methodLink RX4 41 yX4_in, Cond.static yX4_in, Cond.code yX4_in cX4_in 6 (some .boolean), Cond.methodLink RX4 133 yX4_isDigit, Cond.instanceMethod yX4_isDigit, Cond.selects RX4 yX4_isDigit yX4_isDigit, Cond.code yX4_isDigit cX4_isDigit 1 (some .boolean), Cond.methodLink RX4 56 yX4_putsAside, Cond.instanceMethod yX4_putsAside, Cond.selects RX4 yX4_putsAside yX4_putsAside, Cond.code yX4_putsAside cX4_putsAside 2 none, Cond.methodLink RX4 149 yX4_doesCommand, Cond.instanceMethod yX4_doesCommand, Cond.selects RX4 yX4_doesCommand yX4_doesCommand, Cond.code yX4_doesCommand cX4_doesCommand 3 (some .int), Cond.methodLink RX4 66 yX4_doesForget, Cond.instanceMethod yX4_doesForget, Cond.selects RX4 yX4_doesForget yX4_doesForget, Cond.code yX4_doesForget cX4_doesForget 4 (some .int), Cond.methodLink RX4 47 yX4_isClient, Cond.static yX4_isClient, Cond.code yX4_isClient cX4_isClient 1 (some .boolean), Cond.constantLong RX4 39 (3)]
def wsX4_execute_r3 : List Cond := [Cond.methodLink RX4 59 yX4_doesSet, Cond.instanceMethod yX4_doesSet, Cond.selects RX4 yX4_doesSet yX4_doesSet, Cond.code yX4_doesSet cX4_doesSet 4 (some .int), Cond.constantLong RX4 51 (15), Cond.methodLink RX4 53 yX4_guarantees, Cond.instanceMethod yX4_guarantees, Cond.selects RX4 yX4_guarantees yX4_guarantees, Cond.code yX4_guarantees cX4_guarantees 2 (some .int), Cond.methodLink RX4 105 yX4_doesSync, Cond.instanceMethod yX4_doesSync, Cond.selects RX4 yX4_doesSync yX4_doesSync, Cond.code yX4_doesSync cX4_doesSync 7 (some .int), Cond.methodLink RX4 69 yX4_isReplica, Cond.static yX4_isReplica, Cond.code yX4_isReplica cX4_isReplica 1 (some .boolean), Cond.constantLong RX4 45 (2), Cond.methodLink RX4 92 yX4_doesRead, Cond.instanceMethod yX4_doesRead, Cond.selects RX4 yX4_doesRead yX4_doesRead, Cond.code yX4_doesRead cX4_doesRead 8 (some .int), Cond.methodLink RX4 79 yX4_isKey, Cond.static yX4_isKey, Cond.code yX4_isKey cX4_isKey 1 (some .boolean)]
def wsX4_execute_r4 : List Cond := [Cond.methodLink RX4 82 yX4_breachesOfRead, Cond.instanceMethod yX4_breachesOfRead, Cond.selects RX4 yX4_breachesOfRead yX4_breachesOfRead, Cond.code yX4_breachesOfRead cX4_breachesOfRead 4 (some .int), Cond.methodLink RX4 72 yX4_covers, Cond.instanceMethod yX4_covers, Cond.selects RX4 yX4_covers yX4_covers, Cond.code yX4_covers cX4_covers 5 (some .boolean), Cond.methodLink RX4 85 yX4_countsBreaches, Cond.instanceMethod yX4_countsBreaches, Cond.selects RX4 yX4_countsBreaches yX4_countsBreaches, Cond.code yX4_countsBreaches cX4_countsBreaches 3 none, Cond.methodLink RX4 89 yX4_valueAt, Cond.instanceMethod yX4_valueAt, Cond.selects RX4 yX4_valueAt yX4_valueAt, Cond.code yX4_valueAt cX4_valueAt 7 (some .int), Cond.methodLink RX4 76 yX4_isLater, Cond.instanceMethod yX4_isLater, Cond.selects RX4 yX4_isLater yX4_isLater, Cond.code yX4_isLater cX4_isLater 5 (some .boolean), Cond.methodLink RX4 101 yX4_doesWrite, Cond.instanceMethod yX4_doesWrite, Cond.selects RX4 yX4_doesWrite yX4_doesWrite, Cond.code yX4_doesWrite cX4_doesWrite 8 (some .int)]
def wsX4_execute_r5 : List Cond := [Cond.constantLong RX4 96 (99), Cond.methodLink RX4 98 yX4_breachesOfWrite, Cond.instanceMethod yX4_breachesOfWrite, Cond.selects RX4 yX4_breachesOfWrite yX4_breachesOfWrite, Cond.code yX4_breachesOfWrite cX4_breachesOfWrite 4 (some .int), Cond.methodLink RX4 32 yX4_savesAside, Cond.instanceMethod yX4_savesAside, Cond.selects RX4 yX4_savesAside yX4_savesAside, Cond.code yX4_savesAside cX4_savesAside 2 none, Cond.fieldLink RX4 35 "ClientGuaranteesModel" "savedMany" "I", Cond.fieldLink RX4 13 "ClientGuaranteesModel" "saved" "[I"]
def wsX4_execute : List Cond := .code yX4_execute cX4_execute 7 (some .int) :: ((wsX4_execute_r1 ++ (wsX4_execute_r2 ++ (wsX4_execute_r3 ++ (wsX4_execute_r4 ++ wsX4_execute_r5)))) ++ wsX40)
def wsX4_undo : List Cond := .code yX4_undo cX4_undo 2 (some .int) :: ([.fieldLink RX4 35 "ClientGuaranteesModel" "savedMany" "I", .fieldLink RX4 7 "ClientGuaranteesModel" "all" "[I", .fieldLink RX4 13 "ClientGuaranteesModel" "saved" "[I", .methodLink RX4 28 yX4_error, .instanceMethod yX4_error, .selects RX4 yX4_error yX4_error, .initialized RX4, .code yX4_error cX4_error 2 (some .int), .fieldLink RX4 19 "ClientGuaranteesModel" "errors" "[I"] ++ wsX40)
def wsX4_errorCount : List Cond := .code yX4_errorCount cX4_errorCount 2 (some .int) :: ([.constantLong RX4 152 (-6), .constantLong RX4 154 (-2), .fieldLink RX4 19 "ClientGuaranteesModel" "errors" "[I", .methodLink RX4 41 yX4_in, .static yX4_in, .initialized RX4, .code yX4_in cX4_in 6 (some .boolean), .methodLink RX4 28 yX4_error, .instanceMethod yX4_error, .selects RX4 yX4_error yX4_error, .code yX4_error cX4_error 2 (some .int)] ++ wsX40)
def wsX4_writes : List Cond := .code yX4_writes cX4_writes 1 (some .int) :: ([.fieldLink RX4 7 "ClientGuaranteesModel" "all" "[I"] ++ wsX40)
def wsX4_digest : List Cond := .code yX4_digest cX4_digest 5 (some .long) :: ([.constantLong RX4 156 (2647), .constantLong RX4 158 (31), .fieldLink RX4 19 "ClientGuaranteesModel" "errors" "[I", .fieldLink RX4 7 "ClientGuaranteesModel" "all" "[I", .fieldLink RX4 119 "ClientGuaranteesModel" "textLong" "I", .fieldLink RX4 35 "ClientGuaranteesModel" "savedMany" "I", .methodLink RX4 89 yX4_valueAt, .instanceMethod yX4_valueAt, .selects RX4 yX4_valueAt yX4_valueAt, .initialized RX4, .code yX4_valueAt cX4_valueAt 7 (some .int), .methodLink RX4 76 yX4_isLater, .instanceMethod yX4_isLater, .selects RX4 yX4_isLater yX4_isLater, .code yX4_isLater cX4_isLater 5 (some .boolean)] ++ wsX40)
def wsJ9_max_7cf53 : List Cond := .code yJ9_max_7cf53 cJ9_max_7cf53 2 (some .int) :: ([])
def wsJ9_min_7cf53 : List Cond := .code yJ9_min_7cf53 cJ9_min_7cf53 2 (some .int) :: ([])
def wsL_law_r1 : List Cond := [Cond.classLink RL 7 RX3, Cond.instantiable RX3 4, Cond.initialized RX3, Cond.classLink RL 10 RX4, Cond.instantiable RX4 10, Cond.initialized RX4, Cond.methodLink RL 9 yX3_init, Cond.instanceMethod yX3_init, Cond.code yX3_init cX3_init 1 none, Cond.methodLink RX3 3 objectInit, Cond.instanceMethod objectInit, Cond.code objectInit ⟨#[0xb1]⟩ 1 none, Cond.classLink RX3 9 RX2, Cond.instantiable RX2 12, Cond.initialized RX2, Cond.fieldLink RX3 12 "ClientGuarantees" "state" "LClientGuarantees$State;", Cond.classLink RX3 16 RX0, Cond.instantiable RX0 3, Cond.initialized RX0, Cond.fieldLink RX3 19 "ClientGuarantees" "history" "LClientGuarantees$History;", Cond.classLink RX3 23 RX1, Cond.instantiable RX1 8, Cond.initialized RX1, Cond.fieldLink RX3 26 "ClientGuarantees" "script" "LClientGuarantees$Script;"]
def wsL_law_r2 : List Cond := [Cond.arrayClass .int, Cond.fieldLink RX3 30 "ClientGuarantees" "errors" "[I", Cond.instanceMethod yX2_init, Cond.code yX2_init cX2_init 1 none, Cond.methodLink RX2 3 objectInit, Cond.fieldLink RX2 9 "ClientGuarantees$State" "writeTotal" "I", Cond.fieldLink RX2 15 "ClientGuarantees$State" "origins" "[I", Cond.fieldLink RX2 19 "ClientGuarantees$State" "sequences" "[I", Cond.fieldLink RX2 22 "ClientGuarantees$State" "keys" "[I", Cond.fieldLink RX2 25 "ClientGuarantees$State" "values" "[I", Cond.fieldLink RX2 28 "ClientGuarantees$State" "timestamps" "[I", Cond.classLink RX2 31 "[[I", Cond.fieldLink RX2 33 "ClientGuarantees$State" "counts" "[[I", Cond.fieldLink RX2 36 "ClientGuarantees$State" "clocks" "[I", Cond.fieldLink RX2 39 "ClientGuarantees$State" "guaranteeSets" "[I", Cond.fieldLink RX2 42 "ClientGuarantees$State" "readVectors" "[[I", Cond.fieldLink RX2 45 "ClientGuarantees$State" "writeVectors" "[[I", Cond.fieldLink RX2 48 "ClientGuarantees$State" "breachCounts" "[I", Cond.methodLink RX3 18 yX0_init, Cond.instanceMethod yX0_init, Cond.code yX0_init cX0_init 2 none, Cond.methodLink RX0 3 objectInit, Cond.classLink RX0 11 RX2, Cond.fieldLink RX0 13 "ClientGuarantees$History" "slots" "[LClientGuarantees$State;"]
def wsL_law_r3 : List Cond := [Cond.fieldLink RX0 17 "ClientGuarantees$History" "free" "I", Cond.fieldLink RX0 21 "ClientGuarantees$History" "size" "I", Cond.instanceMethod yX1_init, Cond.code yX1_init cX1_init 1 none, Cond.methodLink RX1 3 objectInit, Cond.fieldLink RX1 9 "ClientGuarantees$Script" "text" "[I", Cond.fieldLink RX1 15 "ClientGuarantees$Script" "length" "I", Cond.fieldLink RX1 19 "ClientGuarantees$Script" "letters" "[I", Cond.classLink RX1 22 "[[I", Cond.fieldLink RX1 24 "ClientGuarantees$Script" "numbers" "[[I", Cond.fieldLink RX1 27 "ClientGuarantees$Script" "commands" "I", Cond.fieldLink RX1 30 "ClientGuarantees$Script" "inCommand" "Z", Cond.fieldLink RX1 34 "ClientGuarantees$Script" "numbersBegun" "I", Cond.fieldLink RX1 37 "ClientGuarantees$Script" "digits" "I", Cond.methodLink RL 12 yX4_init, Cond.instanceMethod yX4_init, Cond.code yX4_init cX4_init 1 none, Cond.methodLink RX4 1 objectInit, Cond.fieldLink RX4 7 "ClientGuaranteesModel" "all" "[I", Cond.fieldLink RX4 13 "ClientGuaranteesModel" "saved" "[I", Cond.fieldLink RX4 16 "ClientGuaranteesModel" "aside" "[I", Cond.fieldLink RX4 19 "ClientGuaranteesModel" "errors" "[I", Cond.fieldLink RX4 22 "ClientGuaranteesModel" "text" "[I", Cond.fieldLink RX4 25 "ClientGuaranteesModel" "numbers" "[I"]
def wsL_law_r4 : List Cond := [Cond.methodLink RL 13 yX3_setGuarantees, Cond.instanceMethod yX3_setGuarantees, Cond.selects RX3 yX3_setGuarantees yX3_setGuarantees, Cond.code yX3_setGuarantees cX3_setGuarantees 3 (some .int), Cond.methodLink RX3 34 yX0_prepare, Cond.instanceMethod yX0_prepare, Cond.selects RX0 yX0_prepare yX0_prepare, Cond.code yX0_prepare cX0_prepare 2 none, Cond.methodLink RX0 25 yX2_copyFrom, Cond.instanceMethod yX2_copyFrom, Cond.selects RX2 yX2_copyFrom yX2_copyFrom, Cond.code yX2_copyFrom cX2_copyFrom 2 none, Cond.methodLink RX2 51 yX2_copyRow, Cond.static yX2_copyRow, Cond.code yX2_copyRow cX2_copyRow 2 none, Cond.methodLink RX2 123 Lib.Math.min.name, Cond.static Lib.Math.min.name, Cond.initialized "java/lang/Math", Cond.code Lib.Math.min.name Lib.Math.min.code 2 (some .int), Cond.methodLink RX2 126 arraycopyName, Cond.native arraycopyName, Cond.static arraycopyName, Cond.initialized "java/lang/System", Cond.methodLink RX2 55 yX2_copyRows]
def wsL_law_r5 : List Cond := [Cond.static yX2_copyRows, Cond.code yX2_copyRows cX2_copyRows 3 none, Cond.methodLink RX3 38 yX2_changeGuarantees, Cond.instanceMethod yX2_changeGuarantees, Cond.selects RX2 yX2_changeGuarantees yX2_changeGuarantees, Cond.code yX2_changeGuarantees cX2_changeGuarantees 4 (some .int), Cond.static yX3_isClient, Cond.code yX3_isClient cX3_isClient 1 (some .boolean), Cond.methodLink RX3 112 yX3_isBelow, Cond.static yX3_isBelow, Cond.code yX3_isBelow cX3_isBelow 2 (some .boolean), Cond.methodLink RX3 42 yX3_endUndoable, Cond.instanceMethod yX3_endUndoable, Cond.selects RX3 yX3_endUndoable yX3_endUndoable, Cond.code yX3_endUndoable cX3_endUndoable 2 (some .int), Cond.methodLink RX3 138 yX0_keepPrepared, Cond.instanceMethod yX0_keepPrepared, Cond.selects RX0 yX0_keepPrepared yX0_keepPrepared, Cond.code yX0_keepPrepared cX0_keepPrepared 1 none, Cond.methodLink RX0 29 Lib.Math.min.name, Cond.methodLink RX3 56 yX3_counted, Cond.instanceMethod yX3_counted, Cond.selects RX3 yX3_counted yX3_counted, Cond.code yX3_counted cX3_counted 2 (some .int)]
def wsL_law_r6 : List Cond := [Cond.methodLink RX3 148 yX3_isErrorCode, Cond.static yX3_isErrorCode, Cond.code yX3_isErrorCode cX3_isErrorCode 1 (some .boolean), Cond.methodLink RL 17 yX4_setGuarantees, Cond.instanceMethod yX4_setGuarantees, Cond.selects RX4 yX4_setGuarantees yX4_setGuarantees, Cond.code yX4_setGuarantees cX4_setGuarantees 3 (some .int), Cond.methodLink RX4 56 yX4_putsAside, Cond.instanceMethod yX4_putsAside, Cond.selects RX4 yX4_putsAside yX4_putsAside, Cond.code yX4_putsAside cX4_putsAside 2 none, Cond.methodLink RX4 59 yX4_doesSet, Cond.instanceMethod yX4_doesSet, Cond.selects RX4 yX4_doesSet yX4_doesSet, Cond.code yX4_doesSet cX4_doesSet 4 (some .int), Cond.constantLong RX4 51 (15), Cond.methodLink RX4 47 yX4_isClient, Cond.static yX4_isClient, Cond.code yX4_isClient cX4_isClient 1 (some .boolean), Cond.constantLong RX4 39 (3), Cond.methodLink RX4 41 yX4_in, Cond.static yX4_in, Cond.code yX4_in cX4_in 6 (some .boolean), Cond.methodLink RX4 53 yX4_guarantees]
def wsL_law_r7 : List Cond := [Cond.instanceMethod yX4_guarantees, Cond.selects RX4 yX4_guarantees yX4_guarantees, Cond.code yX4_guarantees cX4_guarantees 2 (some .int), Cond.methodLink RX4 63 yX4_answered, Cond.instanceMethod yX4_answered, Cond.selects RX4 yX4_answered yX4_answered, Cond.code yX4_answered cX4_answered 2 (some .int), Cond.methodLink RX4 28 yX4_error, Cond.instanceMethod yX4_error, Cond.selects RX4 yX4_error yX4_error, Cond.code yX4_error cX4_error 2 (some .int), Cond.methodLink RX4 32 yX4_savesAside, Cond.instanceMethod yX4_savesAside, Cond.selects RX4 yX4_savesAside yX4_savesAside, Cond.code yX4_savesAside cX4_savesAside 2 none, Cond.fieldLink RX4 35 "ClientGuaranteesModel" "savedMany" "I", Cond.methodLink RL 18 yX3_forget, Cond.instanceMethod yX3_forget, Cond.selects RX3 yX3_forget yX3_forget, Cond.code yX3_forget cX3_forget 2 (some .int), Cond.methodLink RX3 46 yX2_clearVectors, Cond.instanceMethod yX2_clearVectors, Cond.selects RX2 yX2_clearVectors yX2_clearVectors, Cond.code yX2_clearVectors cX2_clearVectors 4 (some .int)]
def wsL_law_r8 : List Cond := [Cond.methodLink RL 22 yX4_forget, Cond.instanceMethod yX4_forget, Cond.selects RX4 yX4_forget yX4_forget, Cond.code yX4_forget cX4_forget 2 (some .int), Cond.methodLink RX4 66 yX4_doesForget, Cond.instanceMethod yX4_doesForget, Cond.selects RX4 yX4_doesForget yX4_doesForget, Cond.code yX4_doesForget cX4_doesForget 4 (some .int), Cond.methodLink RL 23 yX3_readCount, Cond.instanceMethod yX3_readCount, Cond.selects RX3 yX3_readCount yX3_readCount, Cond.code yX3_readCount cX3_readCount 3 (some .int), Cond.fieldLink RX3 59 "ClientGuarantees$State" "readVectors" "[[I", Cond.methodLink RX3 49 yX3_isClient, Cond.methodLink RX3 53 yX3_isReplica, Cond.static yX3_isReplica, Cond.code yX3_isReplica cX3_isReplica 1 (some .boolean), Cond.methodLink RL 26 yX4_readCount, Cond.instanceMethod yX4_readCount, Cond.selects RX4 yX4_readCount yX4_readCount, Cond.code yX4_readCount cX4_readCount 3 (some .int), Cond.methodLink RX4 69 yX4_isReplica, Cond.static yX4_isReplica, Cond.code yX4_isReplica cX4_isReplica 1 (some .boolean)]
def wsL_law_r9 : List Cond := [Cond.constantLong RX4 45 (2), Cond.methodLink RL 27 yX3_writeCount, Cond.instanceMethod yX3_writeCount, Cond.selects RX3 yX3_writeCount yX3_writeCount, Cond.code yX3_writeCount cX3_writeCount 3 (some .int), Cond.fieldLink RX3 63 "ClientGuarantees$State" "writeVectors" "[[I", Cond.methodLink RL 30 yX4_writeCount, Cond.instanceMethod yX4_writeCount, Cond.selects RX4 yX4_writeCount yX4_writeCount, Cond.code yX4_writeCount cX4_writeCount 3 (some .int), Cond.methodLink RL 31 yX3_read, Cond.instanceMethod yX3_read, Cond.selects RX3 yX3_read yX3_read, Cond.code yX3_read cX3_read 4 (some .int), Cond.methodLink RX3 66 yX2_readKey, Cond.instanceMethod yX2_readKey, Cond.selects RX2 yX2_readKey yX2_readKey, Cond.code yX2_readKey cX2_readKey 5 (some .int), Cond.static yX3_isKey, Cond.code yX3_isKey cX3_isKey 1 (some .boolean), Cond.static yX3_only, Cond.code yX3_only cX3_only 1 (some .int), Cond.methodLink RX2 77 yX2_unmetByRead, Cond.instanceMethod yX2_unmetByRead]
def wsL_law_r10 : List Cond := [Cond.selects RX2 yX2_unmetByRead yX2_unmetByRead, Cond.code yX2_unmetByRead cX2_unmetByRead 4 (some .int), Cond.methodLink RX2 102 yX2_covers, Cond.instanceMethod yX2_covers, Cond.selects RX2 yX2_covers yX2_covers, Cond.code yX2_covers cX2_covers 4 (some .boolean), Cond.methodLink RX2 106 yX2_greatestCount, Cond.instanceMethod yX2_greatestCount, Cond.selects RX2 yX2_greatestCount yX2_greatestCount, Cond.code yX2_greatestCount cX2_greatestCount 5 (some .int), Cond.methodLink RX2 97 Lib.Math.max.name, Cond.static Lib.Math.max.name, Cond.code Lib.Math.max.name Lib.Math.max.code 2 (some .int), Cond.static yX3_contains, Cond.code yX3_contains cX3_contains 2 (some .boolean), Cond.methodLink RX2 81 yX2_countBreaches, Cond.instanceMethod yX2_countBreaches, Cond.selects RX2 yX2_countBreaches yX2_countBreaches, Cond.code yX2_countBreaches cX2_countBreaches 3 none, Cond.methodLink RX2 85 yX2_merge, Cond.static yX2_merge, Cond.code yX2_merge cX2_merge 3 none, Cond.methodLink RX2 88 yX2_valueAt, Cond.instanceMethod yX2_valueAt]
def wsL_law_r11 : List Cond := [Cond.selects RX2 yX2_valueAt yX2_valueAt, Cond.code yX2_valueAt cX2_valueAt 5 (some .int), Cond.methodLink RX2 94 yX2_knows, Cond.instanceMethod yX2_knows, Cond.selects RX2 yX2_knows yX2_knows, Cond.code yX2_knows cX2_knows 3 (some .boolean), Cond.methodLink RX2 112 yX2_isLater, Cond.instanceMethod yX2_isLater, Cond.selects RX2 yX2_isLater yX2_isLater, Cond.code yX2_isLater cX2_isLater 3 (some .boolean), Cond.methodLink RL 35 yX4_read, Cond.instanceMethod yX4_read, Cond.selects RX4 yX4_read yX4_read, Cond.code yX4_read cX4_read 4 (some .int), Cond.methodLink RX4 92 yX4_doesRead, Cond.instanceMethod yX4_doesRead, Cond.selects RX4 yX4_doesRead yX4_doesRead, Cond.code yX4_doesRead cX4_doesRead 8 (some .int), Cond.methodLink RX4 79 yX4_isKey, Cond.static yX4_isKey, Cond.code yX4_isKey cX4_isKey 1 (some .boolean), Cond.methodLink RX4 82 yX4_breachesOfRead, Cond.instanceMethod yX4_breachesOfRead, Cond.selects RX4 yX4_breachesOfRead yX4_breachesOfRead]
def wsL_law_r12 : List Cond := [Cond.code yX4_breachesOfRead cX4_breachesOfRead 4 (some .int), Cond.methodLink RX4 72 yX4_covers, Cond.instanceMethod yX4_covers, Cond.selects RX4 yX4_covers yX4_covers, Cond.code yX4_covers cX4_covers 5 (some .boolean), Cond.methodLink RX4 85 yX4_countsBreaches, Cond.instanceMethod yX4_countsBreaches, Cond.selects RX4 yX4_countsBreaches yX4_countsBreaches, Cond.code yX4_countsBreaches cX4_countsBreaches 3 none, Cond.methodLink RX4 89 yX4_valueAt, Cond.instanceMethod yX4_valueAt, Cond.selects RX4 yX4_valueAt yX4_valueAt, Cond.code yX4_valueAt cX4_valueAt 7 (some .int), Cond.methodLink RX4 76 yX4_isLater, Cond.instanceMethod yX4_isLater, Cond.selects RX4 yX4_isLater yX4_isLater, Cond.code yX4_isLater cX4_isLater 5 (some .boolean), Cond.methodLink RL 36 yX3_write, Cond.instanceMethod yX3_write, Cond.selects RX3 yX3_write yX3_write, Cond.code yX3_write cX3_write 5 (some .int), Cond.methodLink RX3 70 yX2_writeKey, Cond.instanceMethod yX2_writeKey, Cond.selects RX2 yX2_writeKey yX2_writeKey]
def wsL_law_r13 : List Cond := [Cond.code yX2_writeKey cX2_writeKey 6 (some .int), Cond.methodLink RX2 91 yX2_unmetByWrite, Cond.instanceMethod yX2_unmetByWrite, Cond.selects RX2 yX2_unmetByWrite yX2_unmetByWrite, Cond.code yX2_unmetByWrite cX2_unmetByWrite 4 (some .int), Cond.methodLink RL 40 yX4_write, Cond.instanceMethod yX4_write, Cond.selects RX4 yX4_write yX4_write, Cond.code yX4_write cX4_write 5 (some .int), Cond.methodLink RX4 101 yX4_doesWrite, Cond.instanceMethod yX4_doesWrite, Cond.selects RX4 yX4_doesWrite yX4_doesWrite, Cond.code yX4_doesWrite cX4_doesWrite 8 (some .int), Cond.constantLong RX4 96 (99), Cond.methodLink RX4 98 yX4_breachesOfWrite, Cond.instanceMethod yX4_breachesOfWrite, Cond.selects RX4 yX4_breachesOfWrite yX4_breachesOfWrite, Cond.code yX4_breachesOfWrite cX4_breachesOfWrite 4 (some .int), Cond.methodLink RL 41 yX3_sync, Cond.instanceMethod yX3_sync, Cond.selects RX3 yX3_sync yX3_sync, Cond.code yX3_sync cX3_sync 3 (some .int), Cond.methodLink RX3 74 yX2_synchronize, Cond.instanceMethod yX2_synchronize]
def wsL_law_r14 : List Cond := [Cond.selects RX2 yX2_synchronize yX2_synchronize, Cond.code yX2_synchronize cX2_synchronize 5 (some .int), Cond.methodLink RL 44 yX4_sync, Cond.instanceMethod yX4_sync, Cond.selects RX4 yX4_sync yX4_sync, Cond.code yX4_sync cX4_sync 3 (some .int), Cond.methodLink RX4 105 yX4_doesSync, Cond.instanceMethod yX4_doesSync, Cond.selects RX4 yX4_doesSync yX4_doesSync, Cond.code yX4_doesSync cX4_doesSync 7 (some .int), Cond.methodLink RL 45 yX3_readBreaches, Cond.instanceMethod yX3_readBreaches, Cond.selects RX3 yX3_readBreaches yX3_readBreaches, Cond.code yX3_readBreaches cX3_readBreaches 3 (some .int), Cond.methodLink RX3 77 yX3_only, Cond.methodLink RX3 80 yX2_unmetByRead, Cond.methodLink RL 48 yX4_readBreaches, Cond.instanceMethod yX4_readBreaches, Cond.selects RX4 yX4_readBreaches yX4_readBreaches, Cond.code yX4_readBreaches cX4_readBreaches 3 (some .int), Cond.methodLink RL 49 yX3_writeBreaches, Cond.instanceMethod yX3_writeBreaches, Cond.selects RX3 yX3_writeBreaches yX3_writeBreaches, Cond.code yX3_writeBreaches cX3_writeBreaches 3 (some .int)]
def wsL_law_r15 : List Cond := [Cond.methodLink RX3 83 yX2_unmetByWrite, Cond.methodLink RL 52 yX4_writeBreaches, Cond.instanceMethod yX4_writeBreaches, Cond.selects RX4 yX4_writeBreaches yX4_writeBreaches, Cond.code yX4_writeBreaches cX4_writeBreaches 3 (some .int), Cond.methodLink RL 53 yX3_readableReplica, Cond.instanceMethod yX3_readableReplica, Cond.selects RX3 yX3_readableReplica yX3_readableReplica, Cond.code yX3_readableReplica cX3_readableReplica 3 (some .int), Cond.methodLink RX3 86 yX2_isReadAllowed, Cond.instanceMethod yX2_isReadAllowed, Cond.selects RX2 yX2_isReadAllowed yX2_isReadAllowed, Cond.code yX2_isReadAllowed cX2_isReadAllowed 3 (some .boolean), Cond.methodLink RL 56 yX4_readableReplica, Cond.instanceMethod yX4_readableReplica, Cond.selects RX4 yX4_readableReplica yX4_readableReplica, Cond.code yX4_readableReplica cX4_readableReplica 3 (some .int), Cond.methodLink RL 57 yX3_writableReplica, Cond.instanceMethod yX3_writableReplica, Cond.selects RX3 yX3_writableReplica yX3_writableReplica, Cond.code yX3_writableReplica cX3_writableReplica 3 (some .int), Cond.methodLink RX3 90 yX2_isWriteAllowed, Cond.instanceMethod yX2_isWriteAllowed, Cond.selects RX2 yX2_isWriteAllowed yX2_isWriteAllowed]
def wsL_law_r16 : List Cond := [Cond.code yX2_isWriteAllowed cX2_isWriteAllowed 3 (some .boolean), Cond.methodLink RL 60 yX4_writableReplica, Cond.instanceMethod yX4_writableReplica, Cond.selects RX4 yX4_writableReplica yX4_writableReplica, Cond.code yX4_writableReplica cX4_writableReplica 3 (some .int), Cond.methodLink RL 61 yX3_syncsForRead, Cond.instanceMethod yX3_syncsForRead, Cond.selects RX3 yX3_syncsForRead yX3_syncsForRead, Cond.code yX3_syncsForRead cX3_syncsForRead 4 (some .int), Cond.methodLink RX3 93 yX3_contains, Cond.methodLink RL 64 yX4_syncsForRead, Cond.instanceMethod yX4_syncsForRead, Cond.selects RX4 yX4_syncsForRead yX4_syncsForRead, Cond.code yX4_syncsForRead cX4_syncsForRead 7 (some .int), Cond.methodLink RX4 111 yX4_bits, Cond.static yX4_bits, Cond.code yX4_bits cX4_bits 1 (some .int), Cond.methodLink RX4 114 yX4_isReadBy, Cond.instanceMethod yX4_isReadBy, Cond.selects RX4 yX4_isReadBy yX4_isReadBy, Cond.code yX4_isReadBy cX4_isReadBy 5 (some .boolean), Cond.methodLink RX4 108 yX4_isCoveredBy, Cond.instanceMethod yX4_isCoveredBy, Cond.selects RX4 yX4_isCoveredBy yX4_isCoveredBy]
def wsL_law_r17 : List Cond := [Cond.code yX4_isCoveredBy cX4_isCoveredBy 8 (some .boolean), Cond.methodLink RL 65 yX3_count, Cond.instanceMethod yX3_count, Cond.selects RX3 yX3_count yX3_count, Cond.code yX3_count cX3_count 3 (some .int), Cond.fieldLink RX3 96 "ClientGuarantees$State" "counts" "[[I", Cond.methodLink RL 68 yX4_count, Cond.instanceMethod yX4_count, Cond.selects RX4 yX4_count yX4_count, Cond.code yX4_count cX4_count 3 (some .int), Cond.methodLink RL 69 yX3_clock, Cond.instanceMethod yX3_clock, Cond.selects RX3 yX3_clock yX3_clock, Cond.code yX3_clock cX3_clock 2 (some .int), Cond.fieldLink RX3 99 "ClientGuarantees$State" "clocks" "[I", Cond.methodLink RL 72 yX4_clock, Cond.instanceMethod yX4_clock, Cond.selects RX4 yX4_clock yX4_clock, Cond.code yX4_clock cX4_clock 2 (some .int), Cond.methodLink RL 73 yX3_peek, Cond.instanceMethod yX3_peek, Cond.selects RX3 yX3_peek yX3_peek, Cond.code yX3_peek cX3_peek 4 (some .int), Cond.methodLink RX3 102 yX3_isKey]
def wsL_law_r18 : List Cond := [Cond.methodLink RX3 105 yX2_valueAt, Cond.methodLink RL 76 yX4_peek, Cond.instanceMethod yX4_peek, Cond.selects RX4 yX4_peek yX4_peek, Cond.code yX4_peek cX4_peek 4 (some .int), Cond.methodLink RL 77 yX3_compare, Cond.instanceMethod yX3_compare, Cond.selects RX3 yX3_compare yX3_compare, Cond.code yX3_compare cX3_compare 5 (some .int), Cond.methodLink RX3 108 yX2_covers, Cond.methodLink RL 80 yX4_compare, Cond.instanceMethod yX4_compare, Cond.selects RX4 yX4_compare yX4_compare, Cond.code yX4_compare cX4_compare 5 (some .int), Cond.methodLink RL 81 yX3_breaches, Cond.instanceMethod yX3_breaches, Cond.selects RX3 yX3_breaches yX3_breaches, Cond.code yX3_breaches cX3_breaches 2 (some .int), Cond.fieldLink RX3 115 "ClientGuarantees$State" "breachCounts" "[I", Cond.methodLink RL 84 yX4_breaches, Cond.instanceMethod yX4_breaches, Cond.selects RX4 yX4_breaches yX4_breaches, Cond.code yX4_breaches cX4_breaches 2 (some .int), Cond.methodLink RL 85 yX3_append]
def wsL_law_r19 : List Cond := [Cond.instanceMethod yX3_append, Cond.selects RX3 yX3_append yX3_append, Cond.code yX3_append cX3_append 2 (some .int), Cond.methodLink RX3 118 yX1_add, Cond.instanceMethod yX1_add, Cond.selects RX1 yX1_add yX1_add, Cond.code yX1_add cX1_add 2 (some .int), Cond.methodLink RL 88 yX4_append, Cond.instanceMethod yX4_append, Cond.selects RX4 yX4_append yX4_append, Cond.code yX4_append cX4_append 2 (some .int), Cond.constantLong RX4 117 (127), Cond.fieldLink RX4 119 "ClientGuaranteesModel" "textLong" "I", Cond.methodLink RL 89 yX3_clearText, Cond.instanceMethod yX3_clearText, Cond.selects RX3 yX3_clearText yX3_clearText, Cond.code yX3_clearText cX3_clearText 2 (some .int), Cond.fieldLink RX3 121 "ClientGuarantees$Script" "length" "I", Cond.methodLink RL 93 yX4_clearText, Cond.instanceMethod yX4_clearText, Cond.selects RX4 yX4_clearText yX4_clearText, Cond.code yX4_clearText cX4_clearText 2 (some .int), Cond.methodLink RL 94 yX3_execute, Cond.instanceMethod yX3_execute]
def wsL_law_r20 : List Cond := [Cond.selects RX3 yX3_execute yX3_execute, Cond.code yX3_execute cX3_execute 5 (some .int), Cond.fieldLink RX3 129 "ClientGuarantees$Script" "commands" "I", Cond.methodLink RX3 125 yX1_parse, Cond.instanceMethod yX1_parse, Cond.selects RX1 yX1_parse yX1_parse, Cond.code yX1_parse cX1_parse 2 (some .int), Cond.methodLink RX1 40 yX1_accepts, Cond.instanceMethod yX1_accepts, Cond.selects RX1 yX1_accepts yX1_accepts, Cond.code yX1_accepts cX1_accepts 2 (some .boolean), Cond.methodLink RX1 44 yX1_beginsCommand, Cond.instanceMethod yX1_beginsCommand, Cond.selects RX1 yX1_beginsCommand yX1_beginsCommand, Cond.code yX1_beginsCommand cX1_beginsCommand 2 (some .boolean), Cond.methodLink RX1 54 yX1_numbersAfter, Cond.static yX1_numbersAfter, Cond.code yX1_numbersAfter cX1_numbersAfter 1 (some .int), Cond.methodLink RX1 47 yX1_endsCommand, Cond.instanceMethod yX1_endsCommand, Cond.selects RX1 yX1_endsCommand yX1_endsCommand, Cond.code yX1_endsCommand cX1_endsCommand 1 (some .boolean), Cond.methodLink RX1 51 yX1_takesDigit, Cond.instanceMethod yX1_takesDigit]
def wsL_law_r21 : List Cond := [Cond.selects RX1 yX1_takesDigit yX1_takesDigit, Cond.code yX1_takesDigit cX1_takesDigit 3 (some .boolean), Cond.methodLink RX3 132 yX3_runCommand, Cond.instanceMethod yX3_runCommand, Cond.selects RX3 yX3_runCommand yX3_runCommand, Cond.code yX3_runCommand cX3_runCommand 3 (some .int), Cond.fieldLink RX3 168 "ClientGuarantees$Script" "numbers" "[[I", Cond.fieldLink RX3 171 "ClientGuarantees$Script" "letters" "[I", Cond.methodLink RX3 135 yX0_restorePrepared, Cond.instanceMethod yX0_restorePrepared, Cond.selects RX0 yX0_restorePrepared yX0_restorePrepared, Cond.code yX0_restorePrepared cX0_restorePrepared 2 none, Cond.methodLink RL 97 yX4_execute, Cond.instanceMethod yX4_execute, Cond.selects RX4 yX4_execute yX4_execute, Cond.code yX4_execute cX4_execute 7 (some .int), Cond.fieldLink RX4 122 "ClientGuaranteesModel" "at" "I", Cond.methodLink RX4 146 yX4_takesCommand, Cond.instanceMethod yX4_takesCommand, Cond.selects RX4 yX4_takesCommand yX4_takesCommand, Cond.code yX4_takesCommand cX4_takesCommand 3 (some .boolean), Cond.fieldLink RX4 137 "ClientGuaranteesModel" "command" "I", Cond.methodLink RX4 129 yX4_here, Cond.instanceMethod yX4_here]
def wsL_law_r22 : List Cond := [Cond.selects RX4 yX4_here yX4_here, Cond.code yX4_here cX4_here 1 (some .int), Cond.methodLink RX4 140 yX4_numbersOf, Cond.static yX4_numbersOf, Cond.code yX4_numbersOf cX4_numbersOf 1 (some .int), Cond.methodLink RX4 143 yX4_takesNumber, Cond.instanceMethod yX4_takesNumber, Cond.selects RX4 yX4_takesNumber yX4_takesNumber, Cond.code yX4_takesNumber cX4_takesNumber 4 (some .boolean), Cond.constantLong RX4 125 (48), Cond.constantLong RX4 127 (57), Cond.methodLink RX4 133 yX4_isDigit, Cond.instanceMethod yX4_isDigit, Cond.selects RX4 yX4_isDigit yX4_isDigit, Cond.code yX4_isDigit cX4_isDigit 1 (some .boolean), Cond.methodLink RX4 149 yX4_doesCommand, Cond.instanceMethod yX4_doesCommand, Cond.selects RX4 yX4_doesCommand yX4_doesCommand, Cond.code yX4_doesCommand cX4_doesCommand 3 (some .int), Cond.methodLink RL 98 yX3_undo, Cond.instanceMethod yX3_undo, Cond.selects RX3 yX3_undo yX3_undo, Cond.code yX3_undo cX3_undo 1 (some .int), Cond.fieldLink RX3 145 "ClientGuarantees$History" "size" "I"]
def wsL_law_r23 : List Cond := [Cond.methodLink RX3 141 yX0_restoreNewest, Cond.instanceMethod yX0_restoreNewest, Cond.selects RX0 yX0_restoreNewest yX0_restoreNewest, Cond.code yX0_restoreNewest cX0_restoreNewest 2 (some .boolean), Cond.methodLink RL 101 yX4_undo, Cond.instanceMethod yX4_undo, Cond.selects RX4 yX4_undo yX4_undo, Cond.code yX4_undo cX4_undo 2 (some .int), Cond.methodLink RL 102 yX3_errorCount, Cond.instanceMethod yX3_errorCount, Cond.selects RX3 yX3_errorCount yX3_errorCount, Cond.code yX3_errorCount cX3_errorCount 2 (some .int), Cond.methodLink RL 105 yX4_errorCount, Cond.instanceMethod yX4_errorCount, Cond.selects RX4 yX4_errorCount yX4_errorCount, Cond.code yX4_errorCount cX4_errorCount 2 (some .int), Cond.constantLong RX4 152 (-6), Cond.constantLong RX4 154 (-2), Cond.methodLink RL 106 yX3_writes, Cond.instanceMethod yX3_writes, Cond.selects RX3 yX3_writes yX3_writes, Cond.code yX3_writes cX3_writes 1 (some .int), Cond.fieldLink RX3 151 "ClientGuarantees$State" "writeTotal" "I", Cond.methodLink RL 109 yX4_writes]
def wsL_law_r24 : List Cond := [Cond.instanceMethod yX4_writes, Cond.selects RX4 yX4_writes yX4_writes, Cond.code yX4_writes cX4_writes 1 (some .int), Cond.methodLink RL 110 yX3_digest, Cond.instanceMethod yX3_digest, Cond.selects RX3 yX3_digest yX3_digest, Cond.code yX3_digest cX3_digest 3 (some .long), Cond.constantLong RX3 154 (2647), Cond.methodLink RX3 156 yX3_mixAll, Cond.static yX3_mixAll, Cond.code yX3_mixAll cX3_mixAll 7 (some .long), Cond.methodLink RX3 164 yX3_mix, Cond.static yX3_mix, Cond.code yX3_mix cX3_mix 3 (some .long), Cond.constantLong RX3 174 (31), Cond.methodLink RX3 160 yX2_mixInto, Cond.instanceMethod yX2_mixInto, Cond.selects RX2 yX2_mixInto yX2_mixInto, Cond.code yX2_mixInto cX2_mixInto 5 (some .long), Cond.methodLink RL 114 yX4_digest, Cond.instanceMethod yX4_digest, Cond.selects RX4 yX4_digest yX4_digest, Cond.code yX4_digest cX4_digest 5 (some .long), Cond.constantLong RX4 156 (2647)]
def wsL_law_r25 : List Cond := [Cond.constantLong RX4 158 (31)]
def wsL_law : List Cond := (wsL_law_r1 ++ (wsL_law_r2 ++ (wsL_law_r3 ++ (wsL_law_r4 ++ (wsL_law_r5 ++ (wsL_law_r6 ++ (wsL_law_r7 ++ (wsL_law_r8 ++ (wsL_law_r9 ++ (wsL_law_r10 ++ (wsL_law_r11 ++ (wsL_law_r12 ++ (wsL_law_r13 ++ (wsL_law_r14 ++ (wsL_law_r15 ++ (wsL_law_r16 ++ (wsL_law_r17 ++ (wsL_law_r18 ++ (wsL_law_r19 ++ (wsL_law_r20 ++ (wsL_law_r21 ++ (wsL_law_r22 ++ (wsL_law_r23 ++ (wsL_law_r24 ++ wsL_law_r25)))))))))))))))))))))))) ++ wsX30 ++ wsX40 ++ wsX20 ++ wsX00 ++ wsX10 ++ ([] : List Cond)
abbrev vwCl : List vw_C := [(RX0, TX0, 3), (RX1, TX1, 8), (RX2, TX2, 12), (RX3, TX3, 4), (RX4, TX4, 10)]
end
section
/-! ===== the layer, 1: labels, memory, cells ===== -/
/-- a label of a cell: kind (0 State, 1 Script, 2 History, 3 ClientGuarantees, 4 the reference), which one, field + 1 (0: the object), row + 1 (0: the array itself) -/
abbrev cg_L : Type := Nat × Nat × Nat × Nat
/-- the memory: block, place -/
abbrev cg_M : Type := Nat → Nat → Int32
abbrev cg_V : Type := Int32 ⊕ (Int64 ⊕ cg_L)
/-- geometry: numbers of classes and slots; the classes int[], int[][], State[]; the addresses -/
abbrev cg_G : Type := va_G × (ClassId × ClassId × ClassId) × (cg_L → Nat)
def cg_vv (ad : cg_L → Nat) (v : cg_V) : Value := match v with
  | .inl x => .int x
  | .inr (.inl x) => .long x
  | .inr (.inr q) => .ref (ad q)
/-- int arrays: block, length, places -/
def cg_ai (q : cg_L) : Option (Nat × Nat × (Nat → Nat)) := match q with
  | (0, k, 2, 0) => some (k, 60, fun j => 13 + 5 * j)
  | (0, k, 3, 0) => some (k, 60, fun j => 14 + 5 * j)
  | (0, k, 4, 0) => some (k, 60, fun j => 15 + 5 * j)
  | (0, k, 5, 0) => some (k, 60, fun j => 16 + 5 * j)
  | (0, k, 6, 0) => some (k, 60, fun j => 17 + 5 * j)
  | (0, k, 7, r + 1) => some (k, 3, fun j => 3 * r + j)
  | (0, k, 8, 0) => some (k, 3, fun j => 9 + j)
  | (0, k, 9, 0) => some (k, 4, fun j => 313 + 7 * j)
  | (0, k, 10, r + 1) => some (k, 3, fun j => 314 + 7 * r + j)
  | (0, k, 11, r + 1) => some (k, 3, fun j => 317 + 7 * r + j)
  | (0, k, 12, 0) => some (k, 4, fun j => 341 + j)
  | (1, _, 1, 0) => some (10, 100, fun j => j)
  | (1, _, 3, 0) => some (11, 34, fun j => j)
  | (1, _, 4, r + 1) => some (12, 4, fun j => 4 * r + j)
  | (3, _, 4, 0) => some (15, 5, fun j => j)
  | (4, _, 1, 0) => some (20, 345, fun j => j)
  | (4, _, 2, 0) => some (21, 1380, fun j => j)
  | (4, _, 4, 0) => some (22, 345, fun j => j)
  | (4, _, 5, 0) => some (23, 5, fun j => j)
  | (4, _, 6, 0) => some (24, 100, fun j => j)
  | (4, _, 9, 0) => some (25, 4, fun j => j)
  | _ => none
/-- arrays of references: length, elements -/
def cg_ri (q : cg_L) : Option (Nat × (Nat → cg_L)) := match q with
  | (0, k, 7, 0) => some (3, fun j => (0, k, 7, j + 1))
  | (0, k, 10, 0) => some (4, fun j => (0, k, 10, j + 1))
  | (0, k, 11, 0) => some (4, fun j => (0, k, 11, j + 1))
  | (1, k, 4, 0) => some (34, fun j => (1, k, 4, j + 1))
  | (2, _, 1, 0) => some (5, fun j => (0, j + 1, 0, 0))
  | _ => none
/-- objects: the number of the kind in vwCl -/
def cg_oi (q : cg_L) : Option Nat := match q with
  | (0, _, 0, 0) => some 2
  | (1, _, 0, 0) => some 1
  | (2, _, 0, 0) => some 0
  | (3, _, 0, 0) => some 3
  | (4, _, 0, 0) => some 4
  | _ => none
def cg_nf (c : Nat) : Nat := match c with
  | 0 => 3
  | 1 => 8
  | 2 => 12
  | 3 => 4
  | _ => 10
/-- fields that hold references -/
def cg_fr (q : cg_L) (j : Nat) : Option cg_L := match q, j with
  | (0, k, _, _), j + 1 => some (0, k, j + 2, 0)
  | (1, k, _, _), 0 => some (1, k, 1, 0)
  | (1, k, _, _), 2 => some (1, k, 3, 0)
  | (1, k, _, _), 3 => some (1, k, 4, 0)
  | (2, k, _, _), 0 => some (2, k, 1, 0)
  | (3, _, _, _), 0 => some (0, 0, 0, 0)
  | (3, _, _, _), 1 => some (2, 0, 0, 0)
  | (3, _, _, _), 2 => some (1, 0, 0, 0)
  | (3, k, _, _), 3 => some (3, k, 4, 0)
  | (4, k, _, _), 0 => some (4, k, 1, 0)
  | (4, k, _, _), 1 => some (4, k, 2, 0)
  | (4, k, _, _), 3 => some (4, k, 4, 0)
  | (4, k, _, _), 4 => some (4, k, 5, 0)
  | (4, k, _, _), 5 => some (4, k, 6, 0)
  | (4, k, _, _), 8 => some (4, k, 9, 0)
  | _, _ => none
/-- fields that hold ints: block, place -/
def cg_fi (q : cg_L) (j : Nat) : Nat × Nat := match q with
  | (0, k, _, _) => (k, 12)
  | (1, _, _, _) => (13, j)
  | (2, _, _, _) => (14, j)
  | (4, _, _, _) => (26, j)
  | _ => (99, j)
def cg_ok (q : cg_L) : Bool := match q with
  | (0, k, 7, r) => decide (k < 6) && decide (r < 4)
  | (0, k, 10, r) => decide (k < 6) && decide (r < 5)
  | (0, k, 11, r) => decide (k < 6) && decide (r < 5)
  | (0, k, f, r) => decide (k < 6) && (decide (f < 13) && !(f == 1)) && decide (r = 0)
  | (1, k, 4, r) => decide (k = 0) && decide (r < 35)
  | (1, k, f, r) => decide (k = 0) && (f == 0 || f == 1 || f == 3) && decide (r = 0)
  | (2, k, f, r) => decide (k = 0) && (f == 0 || f == 1) && decide (r = 0)
  | (3, k, f, r) => decide (k = 0) && (f == 0 || f == 4) && decide (r = 0)
  | (4, k, f, r) => decide (k = 0) && (f == 0 || f == 1 || f == 2 || f == 4 || f == 5 || f == 6 || f == 9) && decide (r = 0)
  | _ => false
def cg_fv (ad : cg_L → Nat) (M : cg_M) (q : cg_L) (j : Nat) : Value := match cg_fr q j with
  | some t => .ref (ad t)
  | none => .int (M (cg_fi q j).1 (cg_fi q j).2)
def cg_ce (g : cg_G) (M : cg_M) (q : cg_L) : va_E := match cg_oi q with
  | some c => .inr (c, (List.range (cg_nf c)).map (cg_fv g.2.2 M q))
  | none => match cg_ai q with
    | some (b, n, f) => .inl (g.2.1.1, n, .inl (fun j => M b (f j)))
    | none => match cg_ri q with
      | some (n, f) => .inl (if q.1 = 2 then g.2.1.2.2 else g.2.1.2.1, n, .inr (.inr (.inr (.inr (fun j => if j < n then some (g.2.2 (f j)) else none)))))
      | none => .inl (g.2.1.1, 0, .inl (fun _ => 0))
def cg_tys (g : cg_G) : List (ClassId × FieldType) := [(g.2.1.1, .int), (g.2.1.2.1, .array .int), (g.2.1.2.2, .object RX2)]
def cg_H (g : cg_G) (M : cg_M) (H : Heap) : Prop := ∀ q : cg_L, cg_ok q = true → va_at g.1 vwCl (g.2.2 q, cg_ce g M q) H
def cg_inj (g : cg_G) : Prop := ∀ q r : cg_L, cg_ok q = true → cg_ok r = true → g.2.2 q = g.2.2 r → q = r
/-- whose place it is -/
def cg_oS (k x : Nat) : cg_L × Nat :=
  if x < 9 then ((0, k, 7, x / 3 + 1), x % 3) else if x < 12 then ((0, k, 8, 0), x - 9) else if x = 12 then ((0, k, 0, 0), 0)
  else if x < 313 then ((0, k, 2 + (x - 13) % 5, 0), (x - 13) / 5)
  else if x < 341 then (if (x - 313) % 7 = 0 then ((0, k, 9, 0), (x - 313) / 7) else if (x - 313) % 7 < 4 then ((0, k, 10, (x - 313) / 7 + 1), (x - 313) % 7 - 1) else ((0, k, 11, (x - 313) / 7 + 1), (x - 313) % 7 - 4))
  else ((0, k, 12, 0), x - 341)
def cg_ow (b x : Nat) : cg_L × Nat := match b with
  | 10 => ((1, 0, 1, 0), x)
  | 11 => ((1, 0, 3, 0), x)
  | 12 => ((1, 0, 4, x / 4 + 1), x % 4)
  | 13 => ((1, 0, 0, 0), x)
  | 14 => ((2, 0, 0, 0), x)
  | 15 => ((3, 0, 4, 0), x)
  | 20 => ((4, 0, 1, 0), x)
  | 21 => ((4, 0, 2, 0), x)
  | 22 => ((4, 0, 4, 0), x)
  | 23 => ((4, 0, 5, 0), x)
  | 24 => ((4, 0, 6, 0), x)
  | 25 => ((4, 0, 9, 0), x)
  | 26 => ((4, 0, 0, 0), x)
  | k => cg_oS k x
theorem cg_ow_S {k : Nat} (h : k < 6) (x : Nat) : cg_ow k x = cg_oS k x := by
  match k, h with
  | 0, _ => rfl
  | 1, _ => rfl
  | 2, _ => rfl
  | 3, _ => rfl
  | 4, _ => rfl
  | 5, _ => rfl
  | k + 6, h => exact absurd h (by omega)
theorem cg_ok0 {k f r : Nat} (h : cg_ok (0, k, f, r) = true) : k < 6 := by
  unfold cg_ok at h
  split at h <;> simp_all
theorem cg_ow_ai {q : cg_L} {b n j : Nat} {f : Nat → Nat} (hq : cg_ok q = true) (h : cg_ai q = some (b, n, f)) (hj : j < n) : cg_ow b (f j) = (q, j) := by
  unfold cg_ai at h
  split at h <;> first | (cases h; done) | skip
  all_goals (obtain ⟨rfl, rfl, rfl⟩ := h)
  all_goals (try dsimp only)
  all_goals (first | (rw [cg_ow_S (cg_ok0 hq)]; unfold cg_oS; repeat' split) | skip)
  all_goals (first | omega | skip)
  all_goals (first | (simp only [Prod.mk.injEq, true_and, and_true]; omega) | skip)
  all_goals (simp [cg_ok] at hq; simp [cg_ow, hq]; try omega)
theorem cg_ow_fi {q : cg_L} {c j : Nat} (hq : cg_ok q = true) (h : cg_oi q = some c) (hj : j < cg_nf c) (hr : cg_fr q j = none) : cg_ow (cg_fi q j).1 (cg_fi q j).2 = (q, j) := by
  unfold cg_oi at h
  split at h <;> first | (cases h; done) | skip
  all_goals (obtain rfl := Option.some.inj h)
  · have hk := cg_ok0 hq
    match j, hr with
    | 0, _ => exact (cg_ow_S hk 12).trans rfl
    | j + 1, hr => simp [cg_fr] at hr
  · simp [cg_ok] at hq; subst hq; rfl
  · simp [cg_ok] at hq; subst hq; rfl
  · match j, hr, hj with
    | 0, hr, _ => simp [cg_fr] at hr
    | 1, hr, _ => simp [cg_fr] at hr
    | 2, hr, _ => simp [cg_fr] at hr
    | 3, hr, _ => simp [cg_fr] at hr
    | j + 4, _, hj => exact absurd hj (by simp [cg_nf])
  · simp [cg_ok] at hq; subst hq; rfl
/-- a block put anew; a place put anew -/
def cg_sb (M : cg_M) (b : Nat) (P : Nat → Int32) : cg_M := fun b' => if b' = b then P else M b'
def cg_up (M : cg_M) (b x : Nat) (v : Int32) : cg_M := cg_sb M b (upd (M b) x v)
theorem cg_sb_s (M : cg_M) (b : Nat) (P : Nat → Int32) : cg_sb M b P b = P := by simp [cg_sb]
theorem cg_sb_n {M : cg_M} {b b' : Nat} {P : Nat → Int32} (h : b' ≠ b) : cg_sb M b P b' = M b' := by simp [cg_sb, h]
theorem cg_up_at (M : cg_M) (b x : Nat) (v : Int32) (b' x' : Nat) : cg_up M b x v b' x' = if b' = b ∧ x' = x then v else M b' x' := by
  unfold cg_up cg_sb
  by_cases h : b' = b
  · subst h
    by_cases h2 : x' = x
    · subst h2; simp [upd]
    · simp [upd, h2]
  · simp [h]
theorem cg_up_ne {M : cg_M} {b x : Nat} {v : Int32} {b' x' : Nat} (h : cg_ow b' x' ≠ cg_ow b x) : cg_up M b x v b' x' = M b' x' := by
  rw [cg_up_at, if_neg]
  rintro ⟨rfl, rfl⟩
  exact h rfl
theorem cg_arrV {c : ClassId} {n : Nat} {f f' : Nat → Value} (h : ∀ j, j < n → f j = f' j) : arrV c n f = arrV c n f' := by
  unfold arrV
  congr 1
  apply Array.ext
  · simp
  · intro i h1 h2
    simp only [Array.getElem_ofFn]
    exact h i (by simpa using h1)
/-- a cell none of whose places has changed -/
theorem cg_at_same {g : cg_G} {M M' : cg_M} {q : cg_L} {H : Heap} (h : va_at g.1 vwCl (g.2.2 q, cg_ce g M q) H) (ha : ∀ b n f, cg_ai q = some (b, n, f) → ∀ j, j < n → M' b (f j) = M b (f j)) (hf : ∀ c j, cg_oi q = some c → j < cg_nf c → cg_fr q j = none → M' (cg_fi q j).1 (cg_fi q j).2 = M (cg_fi q j).1 (cg_fi q j).2) : va_at g.1 vwCl (g.2.2 q, cg_ce g M' q) H := by
  have e : va_at g.1 vwCl (g.2.2 q, cg_ce g M' q) H = va_at g.1 vwCl (g.2.2 q, cg_ce g M q) H := by
    unfold cg_ce
    cases ho : cg_oi q with
    | some c =>
      have : (List.range (cg_nf c)).map (cg_fv g.2.2 M' q) = (List.range (cg_nf c)).map (cg_fv g.2.2 M q) := by
        apply List.map_congr_left
        intro j hj
        unfold cg_fv
        cases hr : cg_fr q j with
        | some t => rfl
        | none => simp only []; rw [hf c j ho (List.mem_range.mp hj) hr]
      simp only [this]
    | none =>
      cases hai : cg_ai q with
      | some t =>
        obtain ⟨b, n, f⟩ := t
        simp only [va_at, vp_cell_i]
        rw [cg_arrV (f := fun j => Value.int (M' b (f j))) (f' := fun j => Value.int (M b (f j))) (fun j hj => by rw [ha b n f hai j hj])]
      | none => rfl
  rw [e]
  exact h
end
section
/-! ===== the layer, 2: the judgement, rows ===== -/
abbrev cg_E : Type := Program × Launch × Env × Room × State × MethodId × Array Value × List Frame × Method × Code × (State → Prop) × cg_G × (Nat → Prop) × Nat × Nat
/-- what stands in the frame's variables -/
def cg_lv (ad : cg_L → Nat) : Nat → List (Option cg_V) → List (Nat × Value)
  | _, [] => []
  | i, none :: r => cg_lv ad (i + 1) r
  | i, some v :: r => (i, cg_vv ad v) :: cg_lv ad (i + 1) r
theorem cg_lv_mem {ad : cg_L → Nat} {x : Nat × Value} : ∀ {ls : List (Option cg_V)} {i : Nat}, x ∈ cg_lv ad i ls ↔ ∃ (k : Nat) (v : cg_V), ls[k]? = some (some v) ∧ x = (i + k, cg_vv ad v)
  | [], i => by simp [cg_lv]
  | none :: r, i => by
    show x ∈ cg_lv ad (i + 1) r ↔ _
    rw [cg_lv_mem]
    constructor
    · rintro ⟨k, v, h1, h2⟩
      exact ⟨k + 1, v, by simpa using h1, by rw [h2]; congr 1; omega⟩
    · rintro ⟨k, v, h1, h2⟩
      match k, h1 with
      | 0, h1 => simp at h1
      | k + 1, h1 => exact ⟨k, v, by simpa using h1, by rw [h2]; congr 1; omega⟩
  | some w :: r, i => by
    show x ∈ (i, cg_vv ad w) :: cg_lv ad (i + 1) r ↔ _
    rw [List.mem_cons, cg_lv_mem]
    constructor
    · rintro (h | ⟨k, v, h1, h2⟩)
      · exact ⟨0, w, rfl, h⟩
      · exact ⟨k + 1, v, by simpa using h1, by rw [h2]; congr 1; omega⟩
    · rintro ⟨k, v, h1, h2⟩
      match k, h1 with
      | 0, h1 => left; simp at h1; subst h1; exact h2
      | k + 1, h1 => right; exact ⟨k, v, by simpa using h1, by rw [h2]; congr 1; omega⟩
theorem cg_lv_get {ad : cg_L → Nat} {la : Array Slot} {nL k : Nat} {ls : List (Option cg_V)} {v : cg_V} (h : lv_has la nL (cg_lv ad 0 ls)) (hk : ls[k]? = some (some v)) : la[k]? = some (.val (cg_vv ad v)) := by
  have := h.2.2 (0 + k, cg_vv ad v) (cg_lv_mem.mpr ⟨k, v, hk, rfl⟩)
  simpa using this
def cg_two (v : cg_V) : Bool := match v with
  | .inr (.inl _) => true
  | _ => false
theorem cg_cat (ad : cg_L → Nat) (v : cg_V) : ((cg_vv ad v).category == 2) = cg_two v := by
  rcases v with x | x | x <;> rfl
/-- no long stands just ahead of place i -/
def cg_free (ls : List (Option cg_V)) (i : Nat) : Bool := match i with
  | 0 => true
  | i + 1 => match ls[i]? with
    | some (some v) => !cg_two v
    | _ => true
theorem cg_lv_set {ad : cg_L → Nat} {la : Array Slot} {nL i : Nat} {ls : List (Option cg_V)} {v : cg_V} {lv : List (Nat × Value)} (h : lv_has la nL lv) (hlv : lv = (i, cg_vv ad v) :: (cg_lv ad 0 ls).filter (fun q => !(q.1 == i) && !(q.1 + 1 == i && q.2.category == 2))) (hf : cg_free ls i = true) : lv_has la nL (cg_lv ad 0 (ls.set i (some v))) := by
  refine ⟨h.1, h.2.1, fun x hx => h.2.2 x ?_⟩
  obtain ⟨k, w, h1, h2⟩ := cg_lv_mem.mp hx
  rw [hlv]
  by_cases hk : i = k
  · subst hk
    rw [List.getElem?_set] at h1
    split at h1
    · split at h1
      · simp at h1; subst h1; rw [h2]; simp
      · simp at h1
    · omega
  · rw [List.getElem?_set_ne hk] at h1
    refine List.mem_cons_of_mem _ (List.mem_filter.mpr ⟨cg_lv_mem.mpr ⟨k, w, h1, h2⟩, ?_⟩)
    subst h2
    simp only [Nat.zero_add, cg_cat]
    have : (k == i) = false := by simp; omega
    rw [this]
    simp only [Bool.not_false, Bool.true_and, Bool.not_eq_true', Bool.and_eq_false_imp, beq_iff_eq]
    intro hki
    subst hki
    simp only [cg_free, h1] at hf
    simpa using hf
theorem cg_lv_set2 {ad : cg_L → Nat} {la : Array Slot} {nL i : Nat} {ls : List (Option cg_V)} {v : cg_V} {lv : List (Nat × Value)} (h : lv_has la nL lv) (hlv : lv = (i, cg_vv ad v) :: (cg_lv ad 0 ls).filter (fun q => !(q.1 == i) && (!(q.1 == i + 1) && !(q.1 + 1 == i && q.2.category == 2)))) (hf : cg_free ls i = true) : lv_has la nL (cg_lv ad 0 ((ls.set i (some v)).set (i + 1) none)) := by
  refine ⟨h.1, h.2.1, fun x hx => h.2.2 x ?_⟩
  obtain ⟨k, w, h1, h2⟩ := cg_lv_mem.mp hx
  rw [hlv]
  have hk1 : i + 1 ≠ k := by
    rintro rfl
    rw [List.getElem?_set] at h1
    split at h1
    · split at h1 <;> simp at h1
    · omega
  rw [List.getElem?_set_ne hk1] at h1
  by_cases hk : i = k
  · subst hk
    rw [List.getElem?_set] at h1
    split at h1
    · split at h1
      · simp at h1; subst h1; rw [h2]; simp
      · simp at h1
    · omega
  · rw [List.getElem?_set_ne hk] at h1
    refine List.mem_cons_of_mem _ (List.mem_filter.mpr ⟨cg_lv_mem.mpr ⟨k, w, h1, h2⟩, ?_⟩)
    subst h2
    simp only [Nat.zero_add, cg_cat]
    have e1 : (k == i) = false := by simp; omega
    have e2 : (k == i + 1) = false := by simp; omega
    rw [e1, e2]
    simp only [Bool.not_false, Bool.true_and, Bool.not_eq_true', Bool.and_eq_false_imp, beq_iff_eq]
    intro hki
    subst hki
    simp only [cg_free, h1] at hf
    simpa using hf
def cg_nests : List Cond := [.methodLinkNest RX2 59 yX3_isClient RX3, .methodLinkNest RX2 63 yX3_isBelow RX3, .methodLinkNest RX2 67 yX3_isReplica RX3, .methodLinkNest RX2 70 yX3_isKey RX3, .methodLinkNest RX2 73 yX3_only RX3, .methodLinkNest RX2 109 yX3_contains RX3, .methodLinkNest RX2 115 yX3_mix RX3, .methodLinkNest RX2 119 yX3_mixAll RX3]
def cg_N (U : State) : Prop := ∀ w ∈ cg_nests, va_Nw w U
def cg_C (E : cg_E) (cc : ByteArray) (nL : Nat) (own : String) (Ts : List Cond) (rm : Room) : Prop := match E with
  | (p, _, _, R, s, m, args, _, _, c, _, g, A, cells, slots) => p.tables.exec = Jvm.exec ∧ c.code = cc ∧ c.maxLocals = nL ∧ s.vm.findClass own = some m.cls ∧ (∀ w ∈ Ts, w.before args s = true) ∧ va_K g.1 vwCl (cg_tys g) s ∧ cg_N s ∧ cg_inj g ∧ (∀ q : cg_L, cg_ok q = true → A (g.2.2 q)) ∧ R = rm ∧ cells ≤ R.cells ∧ slots ≤ R.slots
def cg_W (E : cg_E) (M : cg_M) (pc : Nat) (ls : List (Option cg_V)) (st : List cg_V) : Prop := match E with
  | (p, l, e, R, s, m, args, below, meth, c, Q, g, A, cells, slots) => ∀ (H : Heap) (locs : List Loc) (la : Array Slot), cg_H g M H → va_S A s.heap H locs → lv_has la c.maxLocals (cg_lv g.2.2 0 ls) → W p l e R s m args below meth c H locs cells slots Q (F0 m pc la (st.map (cg_vv g.2.2)))
/-- all labels -/
def cg_all : List cg_L := ((List.range 5).flatMap fun a => (List.range 6).flatMap fun k => (List.range 13).flatMap fun f => (List.range 35).map fun r => (a, k, f, r)).filter cg_ok
theorem cg_ok_lt {a k f r : Nat} (h : cg_ok (a, k, f, r) = true) : a < 5 ∧ k < 6 ∧ f < 13 ∧ r < 35 := by
  unfold cg_ok at h
  split at h <;> simp_all <;> omega
theorem cg_all_mem {q : cg_L} (h : cg_ok q = true) : q ∈ cg_all := by
  obtain ⟨a, k, f, r⟩ := q
  obtain ⟨h1, h2, h3, h4⟩ := cg_ok_lt h
  unfold cg_all
  refine List.mem_filter.mpr ⟨?_, h⟩
  simp only [List.mem_flatMap, List.mem_range, List.mem_map]
  exact ⟨a, h1, k, h2, f, h3, r, h4, rfl⟩
theorem cg_all_ok {q : cg_L} (h : q ∈ cg_all) : cg_ok q = true := (List.mem_filter.mp h).2
theorem cg_all_nd : cg_all.Nodup := by decide +kernel
def cg_wd (g : cg_G) (M : cg_M) : va_W := cg_all.map (fun q => (g.2.2 q, cg_ce g M q))
theorem cg_wd_at {g : cg_G} {M : cg_M} {q : cg_L} (h : cg_ok q = true) : ∃ i : Nat, (cg_wd g M)[i]? = some (g.2.2 q, cg_ce g M q) ∧ cg_all[i]? = some q := by
  obtain ⟨i, hi⟩ := List.getElem?_of_mem (cg_all_mem h)
  exact ⟨i, by unfold cg_wd; rw [List.getElem?_map, hi]; rfl, hi⟩
theorem cg_wd_P {g : cg_G} {M : cg_M} {H : Heap} (h : cg_H g M H) : va_P g.1 vwCl (cg_wd g M) H := by
  intro k x hx
  unfold cg_wd at hx
  rw [List.getElem?_map] at hx
  cases hq : cg_all[k]? with
  | none => rw [hq] at hx; simp at hx
  | some q => rw [hq] at hx; simp at hx; subst hx; exact h q (cg_all_ok (List.mem_of_getElem? hq))
theorem cg_wd_D {g : cg_G} {M : cg_M} {A : Nat → Prop} (hi : cg_inj g) (hA : ∀ q : cg_L, cg_ok q = true → A (g.2.2 q)) : va_D A (cg_wd g M) := by
  have at' : ∀ (k : Nat) (x : Nat × va_E), (cg_wd g M)[k]? = some x → ∃ q, cg_all[k]? = some q ∧ x.1 = g.2.2 q := by
    intro k x hx
    unfold cg_wd at hx
    rw [List.getElem?_map] at hx
    cases hq : cg_all[k]? with
    | none => rw [hq] at hx; simp at hx
    | some q => rw [hq] at hx; simp at hx; subst hx; exact ⟨q, rfl, rfl⟩
  refine ⟨fun i j x y hx hy he => ?_, fun k x hx => ?_⟩
  · obtain ⟨q, hq, e1⟩ := at' i x hx
    obtain ⟨r, hr, e2⟩ := at' j y hy
    have hqr : q = r := hi q r (cg_all_ok (List.mem_of_getElem? hq)) (cg_all_ok (List.mem_of_getElem? hr)) (by rw [← e1, ← e2, he])
    subst hqr
    obtain ⟨h1, h1'⟩ := List.getElem?_eq_some_iff.mp hq
    obtain ⟨h2, h2'⟩ := List.getElem?_eq_some_iff.mp hr
    exact (List.getElem_inj cg_all_nd).mp (h1'.trans h2'.symm)
  · obtain ⟨q, hq, e1⟩ := at' k x hx
    rw [e1]
    exact hA q (cg_all_ok (List.mem_of_getElem? hq))
/-- behind a write to one cell: the others as they were -/
theorem cg_wd_set {g : cg_G} {M : cg_M} {H : Heap} {q : cg_L} {i : Nat} {x : va_E} (hi : cg_all[i]? = some q) (h : va_P g.1 vwCl ((cg_wd g M).set i (g.2.2 q, x)) H) : va_at g.1 vwCl (g.2.2 q, x) H ∧ ∀ r, cg_ok r = true → r ≠ q → va_at g.1 vwCl (g.2.2 r, cg_ce g M r) H := by
  have hl : i < (cg_wd g M).length := by unfold cg_wd; rw [List.length_map]; exact (List.getElem?_eq_some_iff.mp hi).1
  refine ⟨h i _ (List.getElem?_set_self hl), fun r hr hne => ?_⟩
  obtain ⟨j, hj, hj2⟩ := cg_wd_at (g := g) (M := M) hr
  refine h j _ ?_
  rw [List.getElem?_set_ne ?_]
  · exact hj
  · rintro rfl
    exact hne (Option.some.inj (hj2.symm.trans hi))
theorem cg_H_up {g : cg_G} {M : cg_M} {H : Heap} {q : cg_L} {b x j : Nat} {v : Int32} (ho : cg_ow b x = (q, j)) (h1 : va_at g.1 vwCl (g.2.2 q, cg_ce g (cg_up M b x v) q) H) (h2 : ∀ r, cg_ok r = true → r ≠ q → va_at g.1 vwCl (g.2.2 r, cg_ce g M r) H) : cg_H g (cg_up M b x v) H := by
  intro r hr
  by_cases hq : r = q
  · rw [hq]; exact h1
  · refine cg_at_same (h2 r hr hq) (fun b' n f h j' hj => ?_) (fun c j' hc hj hn => ?_)
    · exact cg_up_ne (by rw [ho, cg_ow_ai hr h hj]; exact fun e => hq (congrArg Prod.fst e))
    · exact cg_up_ne (by rw [ho, cg_ow_fi hr hc hj hn]; exact fun e => hq (congrArg Prod.fst e))
section CGR

theorem cr_iconst {E : cg_E} {cc : ByteArray} {nL : Nat} {own : String} {Ts : List Cond} {rm : Room} (C : cg_C E cc nL own Ts rm) {M : cg_M} {pc : Nat} {ls : List (Option cg_V)} {rest : List cg_V} {n : Int} {v : Int32} (d : decode cc pc = .ok (.iconst n, 1)) (hv : Int32.ofInt n = v) (K : cg_W E M (pc + 1) ls (.inl v :: rest)) : cg_W E M pc ls (rest) := by
  obtain ⟨p, l, e, R, s, m, args, below, meth, c, Q, g, A, cells, slots⟩ := E
  intro H locs la hH hS hl
  exact lv_iconst C.1 C.2.1 d hv (K H locs la hH hS hl)
theorem cr_bipush {E : cg_E} {cc : ByteArray} {nL : Nat} {own : String} {Ts : List Cond} {rm : Room} (C : cg_C E cc nL own Ts rm) {M : cg_M} {pc : Nat} {ls : List (Option cg_V)} {rest : List cg_V} {n : Int} {v : Int32} (d : decode cc pc = .ok (.bipush n, 2)) (hv : (Int8.ofInt n).toInt32 = v) (K : cg_W E M (pc + 2) ls (.inl v :: rest)) : cg_W E M pc ls (rest) := by
  obtain ⟨p, l, e, R, s, m, args, below, meth, c, Q, g, A, cells, slots⟩ := E
  intro H locs la hH hS hl
  exact lv_bipush C.1 C.2.1 d hv (K H locs la hH hS hl)
theorem cr_sipush {E : cg_E} {cc : ByteArray} {nL : Nat} {own : String} {Ts : List Cond} {rm : Room} (C : cg_C E cc nL own Ts rm) {M : cg_M} {pc : Nat} {ls : List (Option cg_V)} {rest : List cg_V} {n : Int} {v : Int32} (d : decode cc pc = .ok (.sipush n, 3)) (hv : (Int16.ofInt n).toInt32 = v) (K : cg_W E M (pc + 3) ls (.inl v :: rest)) : cg_W E M pc ls (rest) := by
  obtain ⟨p, l, e, R, s, m, args, below, meth, c, Q, g, A, cells, slots⟩ := E
  intro H locs la hH hS hl
  exact lv_sipush C.1 C.2.1 d hv (K H locs la hH hS hl)
theorem cr_lconst {E : cg_E} {cc : ByteArray} {nL : Nat} {own : String} {Ts : List Cond} {rm : Room} (C : cg_C E cc nL own Ts rm) {M : cg_M} {pc : Nat} {ls : List (Option cg_V)} {rest : List cg_V} {n : Fin 2} {v : Int64} (d : decode cc pc = .ok (.lconst n, 1)) (hv : Int64.ofNat (n : Nat) = v) (K : cg_W E M (pc + 1) ls (.inr (.inl v) :: rest)) : cg_W E M pc ls (rest) := by
  obtain ⟨p, l, e, R, s, m, args, below, meth, c, Q, g, A, cells, slots⟩ := E
  intro H locs la hH hS hl
  exact lv_lconst C.1 C.2.1 d hv (K H locs la hH hS hl)
theorem cr_ldc2 {E : cg_E} {cc : ByteArray} {nL : Nat} {own : String} {Ts : List Cond} {rm : Room} (C : cg_C E cc nL own Ts rm) {M : cg_M} {pc : Nat} {ls : List (Option cg_V)} {rest : List cg_V} {index : Nat} {v : Int64} (d : decode cc pc = .ok (.ldc2_w index, 3)) (hw : Jvm.Cond.constantLong own index v ∈ Ts) (K : cg_W E M (pc + 3) ls (.inr (.inl v) :: rest)) : cg_W E M pc ls (rest) := by
  obtain ⟨p, l, e, R, s, m, args, below, meth, c, Q, g, A, cells, slots⟩ := E
  intro H locs la hH hS hl
  exact lv_ldc2 C.1 C.2.1 C.2.2.2.1 (C.2.2.2.2.1 _ hw) d (K H locs la hH hS hl)
theorem cr_iload_n {E : cg_E} {cc : ByteArray} {nL : Nat} {own : String} {Ts : List Cond} {rm : Room} (C : cg_C E cc nL own Ts rm) {M : cg_M} {pc : Nat} {ls : List (Option cg_V)} {rest : List cg_V} {k : Fin 4} {x : Int32} (d : decode cc pc = .ok (.iload_n k, 1)) (h : ls[(k : Nat)]? = some (some (.inl x))) (K : cg_W E M (pc + 1) ls (.inl x :: rest)) : cg_W E M pc ls (rest) := by
  obtain ⟨p, l, e, R, s, m, args, below, meth, c, Q, g, A, cells, slots⟩ := E
  intro H locs la hH hS hl
  exact lv_iload_n C.1 C.2.1 d rfl (cg_lv_get hl h) (K H locs la hH hS hl)
theorem cr_iload {E : cg_E} {cc : ByteArray} {nL : Nat} {own : String} {Ts : List Cond} {rm : Room} (C : cg_C E cc nL own Ts rm) {M : cg_M} {pc : Nat} {ls : List (Option cg_V)} {rest : List cg_V} {k : Nat} {x : Int32} (d : decode cc pc = .ok (.iload k, 2)) (h : ls[k]? = some (some (.inl x))) (K : cg_W E M (pc + 2) ls (.inl x :: rest)) : cg_W E M pc ls (rest) := by
  obtain ⟨p, l, e, R, s, m, args, below, meth, c, Q, g, A, cells, slots⟩ := E
  intro H locs la hH hS hl
  exact lv_iload C.1 C.2.1 d (cg_lv_get hl h) (K H locs la hH hS hl)
theorem cr_lload_n {E : cg_E} {cc : ByteArray} {nL : Nat} {own : String} {Ts : List Cond} {rm : Room} (C : cg_C E cc nL own Ts rm) {M : cg_M} {pc : Nat} {ls : List (Option cg_V)} {rest : List cg_V} {k : Fin 4} {x : Int64} (d : decode cc pc = .ok (.lload_n k, 1)) (h : ls[(k : Nat)]? = some (some (.inr (.inl x)))) (K : cg_W E M (pc + 1) ls (.inr (.inl x) :: rest)) : cg_W E M pc ls (rest) := by
  obtain ⟨p, l, e, R, s, m, args, below, meth, c, Q, g, A, cells, slots⟩ := E
  intro H locs la hH hS hl
  exact lv_lload_n C.1 C.2.1 d rfl (cg_lv_get hl h) (K H locs la hH hS hl)
theorem cr_lload {E : cg_E} {cc : ByteArray} {nL : Nat} {own : String} {Ts : List Cond} {rm : Room} (C : cg_C E cc nL own Ts rm) {M : cg_M} {pc : Nat} {ls : List (Option cg_V)} {rest : List cg_V} {k : Nat} {x : Int64} (d : decode cc pc = .ok (.lload k, 2)) (h : ls[k]? = some (some (.inr (.inl x)))) (K : cg_W E M (pc + 2) ls (.inr (.inl x) :: rest)) : cg_W E M pc ls (rest) := by
  obtain ⟨p, l, e, R, s, m, args, below, meth, c, Q, g, A, cells, slots⟩ := E
  intro H locs la hH hS hl
  exact lv_lload C.1 C.2.1 d (cg_lv_get hl h) (K H locs la hH hS hl)
theorem cr_aload_n {E : cg_E} {cc : ByteArray} {nL : Nat} {own : String} {Ts : List Cond} {rm : Room} (C : cg_C E cc nL own Ts rm) {M : cg_M} {pc : Nat} {ls : List (Option cg_V)} {rest : List cg_V} {k : Fin 4} {x : cg_L} (d : decode cc pc = .ok (.aload_n k, 1)) (h : ls[(k : Nat)]? = some (some (.inr (.inr x)))) (K : cg_W E M (pc + 1) ls (.inr (.inr x) :: rest)) : cg_W E M pc ls (rest) := by
  obtain ⟨p, l, e, R, s, m, args, below, meth, c, Q, g, A, cells, slots⟩ := E
  intro H locs la hH hS hl
  exact lv_aload_n C.1 C.2.1 d rfl (cg_lv_get hl h) (K H locs la hH hS hl)
theorem cr_aload {E : cg_E} {cc : ByteArray} {nL : Nat} {own : String} {Ts : List Cond} {rm : Room} (C : cg_C E cc nL own Ts rm) {M : cg_M} {pc : Nat} {ls : List (Option cg_V)} {rest : List cg_V} {k : Nat} {x : cg_L} (d : decode cc pc = .ok (.aload k, 2)) (h : ls[k]? = some (some (.inr (.inr x)))) (K : cg_W E M (pc + 2) ls (.inr (.inr x) :: rest)) : cg_W E M pc ls (rest) := by
  obtain ⟨p, l, e, R, s, m, args, below, meth, c, Q, g, A, cells, slots⟩ := E
  intro H locs la hH hS hl
  exact lv_aload C.1 C.2.1 d (cg_lv_get hl h) (K H locs la hH hS hl)
theorem cr_istore_n {E : cg_E} {cc : ByteArray} {nL : Nat} {own : String} {Ts : List Cond} {rm : Room} (C : cg_C E cc nL own Ts rm) {M : cg_M} {pc : Nat} {ls : List (Option cg_V)} {rest : List cg_V} {k : Fin 4} {x : Int32} (d : decode cc pc = .ok (.istore_n k, 1)) (hn : (k : Nat) < nL) (hf : cg_free ls k = true) (K : cg_W E M (pc + 1) (ls.set k (some (.inl x))) rest) : cg_W E M pc ls (.inl x :: rest) := by
  obtain ⟨p, l, e, R, s, m, args, below, meth, c, Q, g, A, cells, slots⟩ := E
  intro H locs la hH hS hl
  exact lv_istore_n C.1 C.2.1 d rfl hl (by rw [C.2.2.1]; exact hn) rfl (fun la hl => K H locs la hH hS (cg_lv_set hl rfl hf))
theorem cr_istore {E : cg_E} {cc : ByteArray} {nL : Nat} {own : String} {Ts : List Cond} {rm : Room} (C : cg_C E cc nL own Ts rm) {M : cg_M} {pc : Nat} {ls : List (Option cg_V)} {rest : List cg_V} {k : Nat} {x : Int32} (d : decode cc pc = .ok (.istore k, 2)) (hn : k < nL) (hf : cg_free ls k = true) (K : cg_W E M (pc + 2) (ls.set k (some (.inl x))) rest) : cg_W E M pc ls (.inl x :: rest) := by
  obtain ⟨p, l, e, R, s, m, args, below, meth, c, Q, g, A, cells, slots⟩ := E
  intro H locs la hH hS hl
  exact lv_istore C.1 C.2.1 d hl (by rw [C.2.2.1]; exact hn) rfl (fun la hl => K H locs la hH hS (cg_lv_set hl rfl hf))
theorem cr_astore_n {E : cg_E} {cc : ByteArray} {nL : Nat} {own : String} {Ts : List Cond} {rm : Room} (C : cg_C E cc nL own Ts rm) {M : cg_M} {pc : Nat} {ls : List (Option cg_V)} {rest : List cg_V} {k : Fin 4} {x : cg_L} (d : decode cc pc = .ok (.astore_n k, 1)) (hn : (k : Nat) < nL) (hf : cg_free ls k = true) (K : cg_W E M (pc + 1) (ls.set k (some (.inr (.inr x)))) rest) : cg_W E M pc ls (.inr (.inr x) :: rest) := by
  obtain ⟨p, l, e, R, s, m, args, below, meth, c, Q, g, A, cells, slots⟩ := E
  intro H locs la hH hS hl
  exact lv_astore_n C.1 C.2.1 d rfl hl (by rw [C.2.2.1]; exact hn) rfl (fun la hl => K H locs la hH hS (cg_lv_set (v := .inr (.inr x)) hl rfl hf))
theorem cr_astore {E : cg_E} {cc : ByteArray} {nL : Nat} {own : String} {Ts : List Cond} {rm : Room} (C : cg_C E cc nL own Ts rm) {M : cg_M} {pc : Nat} {ls : List (Option cg_V)} {rest : List cg_V} {k : Nat} {x : cg_L} (d : decode cc pc = .ok (.astore k, 2)) (hn : k < nL) (hf : cg_free ls k = true) (K : cg_W E M (pc + 2) (ls.set k (some (.inr (.inr x)))) rest) : cg_W E M pc ls (.inr (.inr x) :: rest) := by
  obtain ⟨p, l, e, R, s, m, args, below, meth, c, Q, g, A, cells, slots⟩ := E
  intro H locs la hH hS hl
  exact lv_astore C.1 C.2.1 d hl (by rw [C.2.2.1]; exact hn) rfl (fun la hl => K H locs la hH hS (cg_lv_set (v := .inr (.inr x)) hl rfl hf))
theorem cr_lstore_n {E : cg_E} {cc : ByteArray} {nL : Nat} {own : String} {Ts : List Cond} {rm : Room} (C : cg_C E cc nL own Ts rm) {M : cg_M} {pc : Nat} {ls : List (Option cg_V)} {rest : List cg_V} {k : Fin 4} {x : Int64} (d : decode cc pc = .ok (.lstore_n k, 1)) (hn : (k : Nat) + 1 < nL) (hf : cg_free ls k = true) (K : cg_W E M (pc + 1) ((ls.set k (some (.inr (.inl x)))).set (k + 1) none) rest) : cg_W E M pc ls (.inr (.inl x) :: rest) := by
  obtain ⟨p, l, e, R, s, m, args, below, meth, c, Q, g, A, cells, slots⟩ := E
  intro H locs la hH hS hl
  exact lv_lstore_n C.1 C.2.1 d rfl hl (by rw [C.2.2.1]; exact hn) rfl (fun la hl => K H locs la hH hS (cg_lv_set2 (v := .inr (.inl x)) hl rfl hf))
theorem cr_lstore {E : cg_E} {cc : ByteArray} {nL : Nat} {own : String} {Ts : List Cond} {rm : Room} (C : cg_C E cc nL own Ts rm) {M : cg_M} {pc : Nat} {ls : List (Option cg_V)} {rest : List cg_V} {k : Nat} {x : Int64} (d : decode cc pc = .ok (.lstore k, 2)) (hn : k + 1 < nL) (hf : cg_free ls k = true) (K : cg_W E M (pc + 2) ((ls.set k (some (.inr (.inl x)))).set (k + 1) none) rest) : cg_W E M pc ls (.inr (.inl x) :: rest) := by
  obtain ⟨p, l, e, R, s, m, args, below, meth, c, Q, g, A, cells, slots⟩ := E
  intro H locs la hH hS hl
  exact lv_lstore C.1 C.2.1 d hl (by rw [C.2.2.1]; exact hn) rfl (fun la hl => K H locs la hH hS (cg_lv_set2 (v := .inr (.inl x)) hl rfl hf))
theorem cr_iinc {E : cg_E} {cc : ByteArray} {nL : Nat} {own : String} {Ts : List Cond} {rm : Room} (C : cg_C E cc nL own Ts rm) {M : cg_M} {pc : Nat} {ls : List (Option cg_V)} {rest : List cg_V} {k : Nat} {n : Int} {x v : Int32} (d : decode cc pc = .ok (.iinc k n, 3)) (h : ls[k]? = some (some (.inl x))) (hv : x + Int32.ofInt n = v) (hn : k < nL) (hf : cg_free ls k = true) (K : cg_W E M (pc + 3) (ls.set k (some (.inl v))) rest) : cg_W E M pc ls rest := by
  obtain ⟨p, l, e, R, s, m, args, below, meth, c, Q, g, A, cells, slots⟩ := E
  intro H locs la hH hS hl
  obtain ⟨i, hi⟩ := List.getElem?_of_mem (cg_lv_mem (ad := g.2.2) (i := 0) |>.mpr ⟨k, .inl x, h, rfl⟩)
  rw [Nat.zero_add] at hi
  exact lv_iinc C.1 C.2.1 d hl hi hv (by rw [C.2.2.1]; exact hn) rfl (fun la hl => K H locs la hH hS (cg_lv_set hl rfl hf))
theorem cr_iadd {E : cg_E} {cc : ByteArray} {nL : Nat} {own : String} {Ts : List Cond} {rm : Room} (C : cg_C E cc nL own Ts rm) {M : cg_M} {pc : Nat} {ls : List (Option cg_V)} {rest : List cg_V} {x y : Int32} (d : decode cc pc = .ok (.iadd, 1)) (K : cg_W E M (pc + 1) ls (.inl (x + y) :: rest)) : cg_W E M pc ls (.inl y :: .inl x :: rest) := by
  obtain ⟨p, l, e, R, s, m, args, below, meth, c, Q, g, A, cells, slots⟩ := E
  intro H locs la hH hS hl
  exact lv_iadd C.1 C.2.1 d (K H locs la hH hS hl)
theorem cr_isub {E : cg_E} {cc : ByteArray} {nL : Nat} {own : String} {Ts : List Cond} {rm : Room} (C : cg_C E cc nL own Ts rm) {M : cg_M} {pc : Nat} {ls : List (Option cg_V)} {rest : List cg_V} {x y : Int32} (d : decode cc pc = .ok (.isub, 1)) (K : cg_W E M (pc + 1) ls (.inl (x - y) :: rest)) : cg_W E M pc ls (.inl y :: .inl x :: rest) := by
  obtain ⟨p, l, e, R, s, m, args, below, meth, c, Q, g, A, cells, slots⟩ := E
  intro H locs la hH hS hl
  exact lv_isub C.1 C.2.1 d (K H locs la hH hS hl)
theorem cr_imul {E : cg_E} {cc : ByteArray} {nL : Nat} {own : String} {Ts : List Cond} {rm : Room} (C : cg_C E cc nL own Ts rm) {M : cg_M} {pc : Nat} {ls : List (Option cg_V)} {rest : List cg_V} {x y : Int32} (d : decode cc pc = .ok (.imul, 1)) (K : cg_W E M (pc + 1) ls (.inl (x * y) :: rest)) : cg_W E M pc ls (.inl y :: .inl x :: rest) := by
  obtain ⟨p, l, e, R, s, m, args, below, meth, c, Q, g, A, cells, slots⟩ := E
  intro H locs la hH hS hl
  exact lv_imul C.1 C.2.1 d (K H locs la hH hS hl)
theorem cr_iand {E : cg_E} {cc : ByteArray} {nL : Nat} {own : String} {Ts : List Cond} {rm : Room} (C : cg_C E cc nL own Ts rm) {M : cg_M} {pc : Nat} {ls : List (Option cg_V)} {rest : List cg_V} {x y : Int32} (d : decode cc pc = .ok (.iand, 1)) (K : cg_W E M (pc + 1) ls (.inl (x &&& y) :: rest)) : cg_W E M pc ls (.inl y :: .inl x :: rest) := by
  obtain ⟨p, l, e, R, s, m, args, below, meth, c, Q, g, A, cells, slots⟩ := E
  intro H locs la hH hS hl
  exact lv_iand C.1 C.2.1 d (K H locs la hH hS hl)
theorem cr_ior {E : cg_E} {cc : ByteArray} {nL : Nat} {own : String} {Ts : List Cond} {rm : Room} (C : cg_C E cc nL own Ts rm) {M : cg_M} {pc : Nat} {ls : List (Option cg_V)} {rest : List cg_V} {x y : Int32} (d : decode cc pc = .ok (.ior, 1)) (K : cg_W E M (pc + 1) ls (.inl (x ||| y) :: rest)) : cg_W E M pc ls (.inl y :: .inl x :: rest) := by
  obtain ⟨p, l, e, R, s, m, args, below, meth, c, Q, g, A, cells, slots⟩ := E
  intro H locs la hH hS hl
  exact lv_ior C.1 C.2.1 d (K H locs la hH hS hl)
theorem cr_ishl {E : cg_E} {cc : ByteArray} {nL : Nat} {own : String} {Ts : List Cond} {rm : Room} (C : cg_C E cc nL own Ts rm) {M : cg_M} {pc : Nat} {ls : List (Option cg_V)} {rest : List cg_V} {x y : Int32} (d : decode cc pc = .ok (.ishl, 1)) (K : cg_W E M (pc + 1) ls (.inl (x <<< (y &&& 31)) :: rest)) : cg_W E M pc ls (.inl y :: .inl x :: rest) := by
  obtain ⟨p, l, e, R, s, m, args, below, meth, c, Q, g, A, cells, slots⟩ := E
  intro H locs la hH hS hl
  exact lv_ishl C.1 C.2.1 d (K H locs la hH hS hl)
theorem cr_ishr {E : cg_E} {cc : ByteArray} {nL : Nat} {own : String} {Ts : List Cond} {rm : Room} (C : cg_C E cc nL own Ts rm) {M : cg_M} {pc : Nat} {ls : List (Option cg_V)} {rest : List cg_V} {x y : Int32} (d : decode cc pc = .ok (.ishr, 1)) (K : cg_W E M (pc + 1) ls (.inl (x >>> (y &&& 31)) :: rest)) : cg_W E M pc ls (.inl y :: .inl x :: rest) := by
  obtain ⟨p, l, e, R, s, m, args, below, meth, c, Q, g, A, cells, slots⟩ := E
  intro H locs la hH hS hl
  exact lv_ishr C.1 C.2.1 d (K H locs la hH hS hl)
theorem cr_irem {E : cg_E} {cc : ByteArray} {nL : Nat} {own : String} {Ts : List Cond} {rm : Room} (C : cg_C E cc nL own Ts rm) {M : cg_M} {pc : Nat} {ls : List (Option cg_V)} {rest : List cg_V} {x y : Int32} (d : decode cc pc = .ok (.irem, 1)) (hne : ¬ y = 0) (K : cg_W E M (pc + 1) ls (.inl (x - x / y * y) :: rest)) : cg_W E M pc ls (.inl y :: .inl x :: rest) := by
  obtain ⟨p, l, e, R, s, m, args, below, meth, c, Q, g, A, cells, slots⟩ := E
  intro H locs la hH hS hl
  exact lv_irem C.1 C.2.1 d hne (K H locs la hH hS hl)
theorem cr_iadd_n {E : cg_E} {cc : ByteArray} {nL : Nat} {own : String} {Ts : List Cond} {rm : Room} (C : cg_C E cc nL own Ts rm) {M : cg_M} {pc : Nat} {ls : List (Option cg_V)} {rest : List cg_V} {a b : Nat} (d : decode cc pc = .ok (.iadd, 1)) (K : cg_W E M (pc + 1) ls (.inl (nI (a + b)) :: rest)) : cg_W E M pc ls (.inl (nI b) :: .inl (nI a) :: rest) := cr_iadd C d (by rw [nI_add]; exact K)
theorem cr_imul_n {E : cg_E} {cc : ByteArray} {nL : Nat} {own : String} {Ts : List Cond} {rm : Room} (C : cg_C E cc nL own Ts rm) {M : cg_M} {pc : Nat} {ls : List (Option cg_V)} {rest : List cg_V} {a b : Nat} (d : decode cc pc = .ok (.imul, 1)) (K : cg_W E M (pc + 1) ls (.inl (nI (a * b)) :: rest)) : cg_W E M pc ls (.inl (nI b) :: .inl (nI a) :: rest) := cr_imul C d (by rw [pk_mul]; exact K)
theorem cr_top {E : cg_E} {M : cg_M} {pc : Nat} {ls : List (Option cg_V)} {rest : List cg_V} {x y : Int32} (h : x = y) (K : cg_W E M pc ls (.inl y :: rest)) : cg_W E M pc ls (.inl x :: rest) := by rw [h]; exact K
theorem cr_mem {E : cg_E} {M M' : cg_M} {pc : Nat} {ls : List (Option cg_V)} {st : List cg_V} (h : M = M') (K : cg_W E M' pc ls st) : cg_W E M pc ls st := by rw [h]; exact K
theorem cr_pc {E : cg_E} {M : cg_M} {pc pc' : Nat} {ls : List (Option cg_V)} {st : List cg_V} (h : pc = pc') (K : cg_W E M pc' ls st) : cg_W E M pc ls st := by rw [h]; exact K
theorem cr_ladd {E : cg_E} {cc : ByteArray} {nL : Nat} {own : String} {Ts : List Cond} {rm : Room} (C : cg_C E cc nL own Ts rm) {M : cg_M} {pc : Nat} {ls : List (Option cg_V)} {rest : List cg_V} {x y : Int64} (d : decode cc pc = .ok (.ladd, 1)) (K : cg_W E M (pc + 1) ls (.inr (.inl (x + y)) :: rest)) : cg_W E M pc ls (.inr (.inl y) :: .inr (.inl x) :: rest) := by
  obtain ⟨p, l, e, R, s, m, args, below, meth, c, Q, g, A, cells, slots⟩ := E
  intro H locs la hH hS hl
  exact lv_ladd C.1 C.2.1 d (K H locs la hH hS hl)
theorem cr_lmul {E : cg_E} {cc : ByteArray} {nL : Nat} {own : String} {Ts : List Cond} {rm : Room} (C : cg_C E cc nL own Ts rm) {M : cg_M} {pc : Nat} {ls : List (Option cg_V)} {rest : List cg_V} {x y : Int64} (d : decode cc pc = .ok (.lmul, 1)) (K : cg_W E M (pc + 1) ls (.inr (.inl (x * y)) :: rest)) : cg_W E M pc ls (.inr (.inl y) :: .inr (.inl x) :: rest) := by
  obtain ⟨p, l, e, R, s, m, args, below, meth, c, Q, g, A, cells, slots⟩ := E
  intro H locs la hH hS hl
  exact lv_lmul C.1 C.2.1 d (K H locs la hH hS hl)
theorem cr_i2l {E : cg_E} {cc : ByteArray} {nL : Nat} {own : String} {Ts : List Cond} {rm : Room} (C : cg_C E cc nL own Ts rm) {M : cg_M} {pc : Nat} {ls : List (Option cg_V)} {rest : List cg_V} {x : Int32} (d : decode cc pc = .ok (.i2l, 1)) (K : cg_W E M (pc + 1) ls (.inr (.inl x.toInt64) :: rest)) : cg_W E M pc ls (.inl x :: rest) := by
  obtain ⟨p, l, e, R, s, m, args, below, meth, c, Q, g, A, cells, slots⟩ := E
  intro H locs la hH hS hl
  exact lv_i2l C.1 C.2.1 d rfl (K H locs la hH hS hl)
theorem cr_dup {E : cg_E} {cc : ByteArray} {nL : Nat} {own : String} {Ts : List Cond} {rm : Room} (C : cg_C E cc nL own Ts rm) {M : cg_M} {pc : Nat} {ls : List (Option cg_V)} {rest : List cg_V} {v : cg_V} (d : decode cc pc = .ok (.dup, 1)) (hv : cg_two v = false) (K : cg_W E M (pc + 1) ls (v :: v :: rest)) : cg_W E M pc ls (v :: rest) := by
  obtain ⟨p, l, e, R, s, m, args, below, meth, c, Q, g, A, cells, slots⟩ := E
  intro H locs la hH hS hl
  exact lv_dup C.1 C.2.1 d (by rcases v with x | x | x <;> first | rfl | cases hv) (K H locs la hH hS hl)
theorem cr_dup2 {E : cg_E} {cc : ByteArray} {nL : Nat} {own : String} {Ts : List Cond} {rm : Room} (C : cg_C E cc nL own Ts rm) {M : cg_M} {pc : Nat} {ls : List (Option cg_V)} {rest : List cg_V} {v w : cg_V} (d : decode cc pc = .ok (.dup2, 1)) (hv : cg_two v = false) (hw : cg_two w = false) (K : cg_W E M (pc + 1) ls (v :: w :: v :: w :: rest)) : cg_W E M pc ls (v :: w :: rest) := by
  obtain ⟨p, l, e, R, s, m, args, below, meth, c, Q, g, A, cells, slots⟩ := E
  intro H locs la hH hS hl
  exact lv_dup2_11 C.1 C.2.1 d (by rcases v with x | x | x <;> first | rfl | cases hv) (by rcases w with x | x | x <;> first | rfl | cases hw) (K H locs la hH hS hl)
theorem cr_icmp_eq {E : cg_E} {cc : ByteArray} {nL : Nat} {own : String} {Ts : List Cond} {rm : Room} (C : cg_C E cc nL own Ts rm) {M : cg_M} {pc : Nat} {ls : List (Option cg_V)} {rest : List cg_V} {x y : Int32} {off : Int} {tgt : Nat} (d : decode cc pc = .ok (.if_icmp .eq off, 3)) (ht : (pc : Int) + off = (tgt : Int)) (kt : x = y → cg_W E M tgt ls rest) (kf : ¬ x = y → cg_W E M (pc + 3) ls rest) : cg_W E M pc ls (.inl y :: .inl x :: rest) := by
  obtain ⟨p, l, e, R, s, m, args, below, meth, c, Q, g, A, cells, slots⟩ := E
  intro H locs la hH hS hl
  exact lv_icmp_eq C.1 C.2.1 d ht (fun h => kt h H locs la hH hS hl) (fun h => kf h H locs la hH hS hl)
theorem cr_icmp_eq_t {E : cg_E} {cc : ByteArray} {nL : Nat} {own : String} {Ts : List Cond} {rm : Room} (C : cg_C E cc nL own Ts rm) {M : cg_M} {pc : Nat} {ls : List (Option cg_V)} {rest : List cg_V} {x y : Int32} {off : Int} {tgt : Nat} (d : decode cc pc = .ok (.if_icmp .eq off, 3)) (ht : (pc : Int) + off = (tgt : Int)) (h : x = y) (K : cg_W E M tgt ls rest) : cg_W E M pc ls (.inl y :: .inl x :: rest) := cr_icmp_eq C d ht (fun _ => K) (fun h2 => absurd h (by first | exact h2 | exact fun h3 => absurd h2 h3))
theorem cr_icmp_eq_f {E : cg_E} {cc : ByteArray} {nL : Nat} {own : String} {Ts : List Cond} {rm : Room} (C : cg_C E cc nL own Ts rm) {M : cg_M} {pc : Nat} {ls : List (Option cg_V)} {rest : List cg_V} {x y : Int32} {off : Int} {tgt : Nat} (d : decode cc pc = .ok (.if_icmp .eq off, 3)) (ht : (pc : Int) + off = (tgt : Int)) (h : ¬ x = y) (K : cg_W E M (pc + 3) ls rest) : cg_W E M pc ls (.inl y :: .inl x :: rest) := cr_icmp_eq C d ht (fun h2 => absurd h2 (by first | exact h | exact fun h3 => absurd h h3)) (fun _ => K)
theorem cr_if_eq {E : cg_E} {cc : ByteArray} {nL : Nat} {own : String} {Ts : List Cond} {rm : Room} (C : cg_C E cc nL own Ts rm) {M : cg_M} {pc : Nat} {ls : List (Option cg_V)} {rest : List cg_V} {x : Int32} {off : Int} {tgt : Nat} (d : decode cc pc = .ok (.ifCond .eq off, 3)) (ht : (pc : Int) + off = (tgt : Int)) (kt : x = 0 → cg_W E M tgt ls rest) (kf : ¬ x = 0 → cg_W E M (pc + 3) ls rest) : cg_W E M pc ls (.inl x :: rest) := by
  obtain ⟨p, l, e, R, s, m, args, below, meth, c, Q, g, A, cells, slots⟩ := E
  intro H locs la hH hS hl
  exact lv_if_eq C.1 C.2.1 d ht (fun h => kt h H locs la hH hS hl) (fun h => kf h H locs la hH hS hl)
theorem cr_if_eq_t {E : cg_E} {cc : ByteArray} {nL : Nat} {own : String} {Ts : List Cond} {rm : Room} (C : cg_C E cc nL own Ts rm) {M : cg_M} {pc : Nat} {ls : List (Option cg_V)} {rest : List cg_V} {x : Int32} {off : Int} {tgt : Nat} (d : decode cc pc = .ok (.ifCond .eq off, 3)) (ht : (pc : Int) + off = (tgt : Int)) (h : x = 0) (K : cg_W E M tgt ls rest) : cg_W E M pc ls (.inl x :: rest) := cr_if_eq C d ht (fun _ => K) (fun h2 => absurd h (by first | exact h2 | exact fun h3 => absurd h2 h3))
theorem cr_if_eq_f {E : cg_E} {cc : ByteArray} {nL : Nat} {own : String} {Ts : List Cond} {rm : Room} (C : cg_C E cc nL own Ts rm) {M : cg_M} {pc : Nat} {ls : List (Option cg_V)} {rest : List cg_V} {x : Int32} {off : Int} {tgt : Nat} (d : decode cc pc = .ok (.ifCond .eq off, 3)) (ht : (pc : Int) + off = (tgt : Int)) (h : ¬ x = 0) (K : cg_W E M (pc + 3) ls rest) : cg_W E M pc ls (.inl x :: rest) := cr_if_eq C d ht (fun h2 => absurd h2 (by first | exact h | exact fun h3 => absurd h h3)) (fun _ => K)
theorem cr_icmp_ne {E : cg_E} {cc : ByteArray} {nL : Nat} {own : String} {Ts : List Cond} {rm : Room} (C : cg_C E cc nL own Ts rm) {M : cg_M} {pc : Nat} {ls : List (Option cg_V)} {rest : List cg_V} {x y : Int32} {off : Int} {tgt : Nat} (d : decode cc pc = .ok (.if_icmp .ne off, 3)) (ht : (pc : Int) + off = (tgt : Int)) (kt : ¬ x = y → cg_W E M tgt ls rest) (kf : x = y → cg_W E M (pc + 3) ls rest) : cg_W E M pc ls (.inl y :: .inl x :: rest) := by
  obtain ⟨p, l, e, R, s, m, args, below, meth, c, Q, g, A, cells, slots⟩ := E
  intro H locs la hH hS hl
  exact lv_icmp_ne C.1 C.2.1 d ht (fun h => kt h H locs la hH hS hl) (fun h => kf h H locs la hH hS hl)
theorem cr_icmp_ne_t {E : cg_E} {cc : ByteArray} {nL : Nat} {own : String} {Ts : List Cond} {rm : Room} (C : cg_C E cc nL own Ts rm) {M : cg_M} {pc : Nat} {ls : List (Option cg_V)} {rest : List cg_V} {x y : Int32} {off : Int} {tgt : Nat} (d : decode cc pc = .ok (.if_icmp .ne off, 3)) (ht : (pc : Int) + off = (tgt : Int)) (h : ¬ x = y) (K : cg_W E M tgt ls rest) : cg_W E M pc ls (.inl y :: .inl x :: rest) := cr_icmp_ne C d ht (fun _ => K) (fun h2 => absurd h (by first | exact h2 | exact fun h3 => absurd h2 h3))
theorem cr_icmp_ne_f {E : cg_E} {cc : ByteArray} {nL : Nat} {own : String} {Ts : List Cond} {rm : Room} (C : cg_C E cc nL own Ts rm) {M : cg_M} {pc : Nat} {ls : List (Option cg_V)} {rest : List cg_V} {x y : Int32} {off : Int} {tgt : Nat} (d : decode cc pc = .ok (.if_icmp .ne off, 3)) (ht : (pc : Int) + off = (tgt : Int)) (h : x = y) (K : cg_W E M (pc + 3) ls rest) : cg_W E M pc ls (.inl y :: .inl x :: rest) := cr_icmp_ne C d ht (fun h2 => absurd h2 (by first | exact h | exact fun h3 => absurd h h3)) (fun _ => K)
theorem cr_if_ne {E : cg_E} {cc : ByteArray} {nL : Nat} {own : String} {Ts : List Cond} {rm : Room} (C : cg_C E cc nL own Ts rm) {M : cg_M} {pc : Nat} {ls : List (Option cg_V)} {rest : List cg_V} {x : Int32} {off : Int} {tgt : Nat} (d : decode cc pc = .ok (.ifCond .ne off, 3)) (ht : (pc : Int) + off = (tgt : Int)) (kt : ¬ x = 0 → cg_W E M tgt ls rest) (kf : x = 0 → cg_W E M (pc + 3) ls rest) : cg_W E M pc ls (.inl x :: rest) := by
  obtain ⟨p, l, e, R, s, m, args, below, meth, c, Q, g, A, cells, slots⟩ := E
  intro H locs la hH hS hl
  exact lv_if_ne C.1 C.2.1 d ht (fun h => kt h H locs la hH hS hl) (fun h => kf h H locs la hH hS hl)
theorem cr_if_ne_t {E : cg_E} {cc : ByteArray} {nL : Nat} {own : String} {Ts : List Cond} {rm : Room} (C : cg_C E cc nL own Ts rm) {M : cg_M} {pc : Nat} {ls : List (Option cg_V)} {rest : List cg_V} {x : Int32} {off : Int} {tgt : Nat} (d : decode cc pc = .ok (.ifCond .ne off, 3)) (ht : (pc : Int) + off = (tgt : Int)) (h : ¬ x = 0) (K : cg_W E M tgt ls rest) : cg_W E M pc ls (.inl x :: rest) := cr_if_ne C d ht (fun _ => K) (fun h2 => absurd h (by first | exact h2 | exact fun h3 => absurd h2 h3))
theorem cr_if_ne_f {E : cg_E} {cc : ByteArray} {nL : Nat} {own : String} {Ts : List Cond} {rm : Room} (C : cg_C E cc nL own Ts rm) {M : cg_M} {pc : Nat} {ls : List (Option cg_V)} {rest : List cg_V} {x : Int32} {off : Int} {tgt : Nat} (d : decode cc pc = .ok (.ifCond .ne off, 3)) (ht : (pc : Int) + off = (tgt : Int)) (h : x = 0) (K : cg_W E M (pc + 3) ls rest) : cg_W E M pc ls (.inl x :: rest) := cr_if_ne C d ht (fun h2 => absurd h2 (by first | exact h | exact fun h3 => absurd h h3)) (fun _ => K)
theorem cr_icmp_lt {E : cg_E} {cc : ByteArray} {nL : Nat} {own : String} {Ts : List Cond} {rm : Room} (C : cg_C E cc nL own Ts rm) {M : cg_M} {pc : Nat} {ls : List (Option cg_V)} {rest : List cg_V} {x y : Int32} {off : Int} {tgt : Nat} (d : decode cc pc = .ok (.if_icmp .lt off, 3)) (ht : (pc : Int) + off = (tgt : Int)) (kt : x < y → cg_W E M tgt ls rest) (kf : ¬ x < y → cg_W E M (pc + 3) ls rest) : cg_W E M pc ls (.inl y :: .inl x :: rest) := by
  obtain ⟨p, l, e, R, s, m, args, below, meth, c, Q, g, A, cells, slots⟩ := E
  intro H locs la hH hS hl
  exact lv_icmp_lt C.1 C.2.1 d ht (fun h => kt h H locs la hH hS hl) (fun h => kf h H locs la hH hS hl)
theorem cr_icmp_lt_t {E : cg_E} {cc : ByteArray} {nL : Nat} {own : String} {Ts : List Cond} {rm : Room} (C : cg_C E cc nL own Ts rm) {M : cg_M} {pc : Nat} {ls : List (Option cg_V)} {rest : List cg_V} {x y : Int32} {off : Int} {tgt : Nat} (d : decode cc pc = .ok (.if_icmp .lt off, 3)) (ht : (pc : Int) + off = (tgt : Int)) (h : x < y) (K : cg_W E M tgt ls rest) : cg_W E M pc ls (.inl y :: .inl x :: rest) := cr_icmp_lt C d ht (fun _ => K) (fun h2 => absurd h (by first | exact h2 | exact fun h3 => absurd h2 h3))
theorem cr_icmp_lt_f {E : cg_E} {cc : ByteArray} {nL : Nat} {own : String} {Ts : List Cond} {rm : Room} (C : cg_C E cc nL own Ts rm) {M : cg_M} {pc : Nat} {ls : List (Option cg_V)} {rest : List cg_V} {x y : Int32} {off : Int} {tgt : Nat} (d : decode cc pc = .ok (.if_icmp .lt off, 3)) (ht : (pc : Int) + off = (tgt : Int)) (h : ¬ x < y) (K : cg_W E M (pc + 3) ls rest) : cg_W E M pc ls (.inl y :: .inl x :: rest) := cr_icmp_lt C d ht (fun h2 => absurd h2 (by first | exact h | exact fun h3 => absurd h h3)) (fun _ => K)
theorem cr_if_lt {E : cg_E} {cc : ByteArray} {nL : Nat} {own : String} {Ts : List Cond} {rm : Room} (C : cg_C E cc nL own Ts rm) {M : cg_M} {pc : Nat} {ls : List (Option cg_V)} {rest : List cg_V} {x : Int32} {off : Int} {tgt : Nat} (d : decode cc pc = .ok (.ifCond .lt off, 3)) (ht : (pc : Int) + off = (tgt : Int)) (kt : x < 0 → cg_W E M tgt ls rest) (kf : ¬ x < 0 → cg_W E M (pc + 3) ls rest) : cg_W E M pc ls (.inl x :: rest) := by
  obtain ⟨p, l, e, R, s, m, args, below, meth, c, Q, g, A, cells, slots⟩ := E
  intro H locs la hH hS hl
  exact lv_if_lt C.1 C.2.1 d ht (fun h => kt h H locs la hH hS hl) (fun h => kf h H locs la hH hS hl)
theorem cr_if_lt_t {E : cg_E} {cc : ByteArray} {nL : Nat} {own : String} {Ts : List Cond} {rm : Room} (C : cg_C E cc nL own Ts rm) {M : cg_M} {pc : Nat} {ls : List (Option cg_V)} {rest : List cg_V} {x : Int32} {off : Int} {tgt : Nat} (d : decode cc pc = .ok (.ifCond .lt off, 3)) (ht : (pc : Int) + off = (tgt : Int)) (h : x < 0) (K : cg_W E M tgt ls rest) : cg_W E M pc ls (.inl x :: rest) := cr_if_lt C d ht (fun _ => K) (fun h2 => absurd h (by first | exact h2 | exact fun h3 => absurd h2 h3))
theorem cr_if_lt_f {E : cg_E} {cc : ByteArray} {nL : Nat} {own : String} {Ts : List Cond} {rm : Room} (C : cg_C E cc nL own Ts rm) {M : cg_M} {pc : Nat} {ls : List (Option cg_V)} {rest : List cg_V} {x : Int32} {off : Int} {tgt : Nat} (d : decode cc pc = .ok (.ifCond .lt off, 3)) (ht : (pc : Int) + off = (tgt : Int)) (h : ¬ x < 0) (K : cg_W E M (pc + 3) ls rest) : cg_W E M pc ls (.inl x :: rest) := cr_if_lt C d ht (fun h2 => absurd h2 (by first | exact h | exact fun h3 => absurd h h3)) (fun _ => K)
theorem cr_icmp_ge {E : cg_E} {cc : ByteArray} {nL : Nat} {own : String} {Ts : List Cond} {rm : Room} (C : cg_C E cc nL own Ts rm) {M : cg_M} {pc : Nat} {ls : List (Option cg_V)} {rest : List cg_V} {x y : Int32} {off : Int} {tgt : Nat} (d : decode cc pc = .ok (.if_icmp .ge off, 3)) (ht : (pc : Int) + off = (tgt : Int)) (kt : y ≤ x → cg_W E M tgt ls rest) (kf : ¬ y ≤ x → cg_W E M (pc + 3) ls rest) : cg_W E M pc ls (.inl y :: .inl x :: rest) := by
  obtain ⟨p, l, e, R, s, m, args, below, meth, c, Q, g, A, cells, slots⟩ := E
  intro H locs la hH hS hl
  exact lv_icmp_ge C.1 C.2.1 d ht (fun h => kt h H locs la hH hS hl) (fun h => kf h H locs la hH hS hl)
theorem cr_icmp_ge_t {E : cg_E} {cc : ByteArray} {nL : Nat} {own : String} {Ts : List Cond} {rm : Room} (C : cg_C E cc nL own Ts rm) {M : cg_M} {pc : Nat} {ls : List (Option cg_V)} {rest : List cg_V} {x y : Int32} {off : Int} {tgt : Nat} (d : decode cc pc = .ok (.if_icmp .ge off, 3)) (ht : (pc : Int) + off = (tgt : Int)) (h : y ≤ x) (K : cg_W E M tgt ls rest) : cg_W E M pc ls (.inl y :: .inl x :: rest) := cr_icmp_ge C d ht (fun _ => K) (fun h2 => absurd h (by first | exact h2 | exact fun h3 => absurd h2 h3))
theorem cr_icmp_ge_f {E : cg_E} {cc : ByteArray} {nL : Nat} {own : String} {Ts : List Cond} {rm : Room} (C : cg_C E cc nL own Ts rm) {M : cg_M} {pc : Nat} {ls : List (Option cg_V)} {rest : List cg_V} {x y : Int32} {off : Int} {tgt : Nat} (d : decode cc pc = .ok (.if_icmp .ge off, 3)) (ht : (pc : Int) + off = (tgt : Int)) (h : ¬ y ≤ x) (K : cg_W E M (pc + 3) ls rest) : cg_W E M pc ls (.inl y :: .inl x :: rest) := cr_icmp_ge C d ht (fun h2 => absurd h2 (by first | exact h | exact fun h3 => absurd h h3)) (fun _ => K)
theorem cr_if_ge {E : cg_E} {cc : ByteArray} {nL : Nat} {own : String} {Ts : List Cond} {rm : Room} (C : cg_C E cc nL own Ts rm) {M : cg_M} {pc : Nat} {ls : List (Option cg_V)} {rest : List cg_V} {x : Int32} {off : Int} {tgt : Nat} (d : decode cc pc = .ok (.ifCond .ge off, 3)) (ht : (pc : Int) + off = (tgt : Int)) (kt : 0 ≤ x → cg_W E M tgt ls rest) (kf : ¬ 0 ≤ x → cg_W E M (pc + 3) ls rest) : cg_W E M pc ls (.inl x :: rest) := by
  obtain ⟨p, l, e, R, s, m, args, below, meth, c, Q, g, A, cells, slots⟩ := E
  intro H locs la hH hS hl
  exact lv_if_ge C.1 C.2.1 d ht (fun h => kt h H locs la hH hS hl) (fun h => kf h H locs la hH hS hl)
theorem cr_if_ge_t {E : cg_E} {cc : ByteArray} {nL : Nat} {own : String} {Ts : List Cond} {rm : Room} (C : cg_C E cc nL own Ts rm) {M : cg_M} {pc : Nat} {ls : List (Option cg_V)} {rest : List cg_V} {x : Int32} {off : Int} {tgt : Nat} (d : decode cc pc = .ok (.ifCond .ge off, 3)) (ht : (pc : Int) + off = (tgt : Int)) (h : 0 ≤ x) (K : cg_W E M tgt ls rest) : cg_W E M pc ls (.inl x :: rest) := cr_if_ge C d ht (fun _ => K) (fun h2 => absurd h (by first | exact h2 | exact fun h3 => absurd h2 h3))
theorem cr_if_ge_f {E : cg_E} {cc : ByteArray} {nL : Nat} {own : String} {Ts : List Cond} {rm : Room} (C : cg_C E cc nL own Ts rm) {M : cg_M} {pc : Nat} {ls : List (Option cg_V)} {rest : List cg_V} {x : Int32} {off : Int} {tgt : Nat} (d : decode cc pc = .ok (.ifCond .ge off, 3)) (ht : (pc : Int) + off = (tgt : Int)) (h : ¬ 0 ≤ x) (K : cg_W E M (pc + 3) ls rest) : cg_W E M pc ls (.inl x :: rest) := cr_if_ge C d ht (fun h2 => absurd h2 (by first | exact h | exact fun h3 => absurd h h3)) (fun _ => K)
theorem cr_icmp_gt {E : cg_E} {cc : ByteArray} {nL : Nat} {own : String} {Ts : List Cond} {rm : Room} (C : cg_C E cc nL own Ts rm) {M : cg_M} {pc : Nat} {ls : List (Option cg_V)} {rest : List cg_V} {x y : Int32} {off : Int} {tgt : Nat} (d : decode cc pc = .ok (.if_icmp .gt off, 3)) (ht : (pc : Int) + off = (tgt : Int)) (kt : y < x → cg_W E M tgt ls rest) (kf : ¬ y < x → cg_W E M (pc + 3) ls rest) : cg_W E M pc ls (.inl y :: .inl x :: rest) := by
  obtain ⟨p, l, e, R, s, m, args, below, meth, c, Q, g, A, cells, slots⟩ := E
  intro H locs la hH hS hl
  exact lv_icmp_gt C.1 C.2.1 d ht (fun h => kt h H locs la hH hS hl) (fun h => kf h H locs la hH hS hl)
theorem cr_icmp_gt_t {E : cg_E} {cc : ByteArray} {nL : Nat} {own : String} {Ts : List Cond} {rm : Room} (C : cg_C E cc nL own Ts rm) {M : cg_M} {pc : Nat} {ls : List (Option cg_V)} {rest : List cg_V} {x y : Int32} {off : Int} {tgt : Nat} (d : decode cc pc = .ok (.if_icmp .gt off, 3)) (ht : (pc : Int) + off = (tgt : Int)) (h : y < x) (K : cg_W E M tgt ls rest) : cg_W E M pc ls (.inl y :: .inl x :: rest) := cr_icmp_gt C d ht (fun _ => K) (fun h2 => absurd h (by first | exact h2 | exact fun h3 => absurd h2 h3))
theorem cr_icmp_gt_f {E : cg_E} {cc : ByteArray} {nL : Nat} {own : String} {Ts : List Cond} {rm : Room} (C : cg_C E cc nL own Ts rm) {M : cg_M} {pc : Nat} {ls : List (Option cg_V)} {rest : List cg_V} {x y : Int32} {off : Int} {tgt : Nat} (d : decode cc pc = .ok (.if_icmp .gt off, 3)) (ht : (pc : Int) + off = (tgt : Int)) (h : ¬ y < x) (K : cg_W E M (pc + 3) ls rest) : cg_W E M pc ls (.inl y :: .inl x :: rest) := cr_icmp_gt C d ht (fun h2 => absurd h2 (by first | exact h | exact fun h3 => absurd h h3)) (fun _ => K)
theorem cr_if_gt {E : cg_E} {cc : ByteArray} {nL : Nat} {own : String} {Ts : List Cond} {rm : Room} (C : cg_C E cc nL own Ts rm) {M : cg_M} {pc : Nat} {ls : List (Option cg_V)} {rest : List cg_V} {x : Int32} {off : Int} {tgt : Nat} (d : decode cc pc = .ok (.ifCond .gt off, 3)) (ht : (pc : Int) + off = (tgt : Int)) (kt : 0 < x → cg_W E M tgt ls rest) (kf : ¬ 0 < x → cg_W E M (pc + 3) ls rest) : cg_W E M pc ls (.inl x :: rest) := by
  obtain ⟨p, l, e, R, s, m, args, below, meth, c, Q, g, A, cells, slots⟩ := E
  intro H locs la hH hS hl
  exact lv_if_gt C.1 C.2.1 d ht (fun h => kt h H locs la hH hS hl) (fun h => kf h H locs la hH hS hl)
theorem cr_if_gt_t {E : cg_E} {cc : ByteArray} {nL : Nat} {own : String} {Ts : List Cond} {rm : Room} (C : cg_C E cc nL own Ts rm) {M : cg_M} {pc : Nat} {ls : List (Option cg_V)} {rest : List cg_V} {x : Int32} {off : Int} {tgt : Nat} (d : decode cc pc = .ok (.ifCond .gt off, 3)) (ht : (pc : Int) + off = (tgt : Int)) (h : 0 < x) (K : cg_W E M tgt ls rest) : cg_W E M pc ls (.inl x :: rest) := cr_if_gt C d ht (fun _ => K) (fun h2 => absurd h (by first | exact h2 | exact fun h3 => absurd h2 h3))
theorem cr_if_gt_f {E : cg_E} {cc : ByteArray} {nL : Nat} {own : String} {Ts : List Cond} {rm : Room} (C : cg_C E cc nL own Ts rm) {M : cg_M} {pc : Nat} {ls : List (Option cg_V)} {rest : List cg_V} {x : Int32} {off : Int} {tgt : Nat} (d : decode cc pc = .ok (.ifCond .gt off, 3)) (ht : (pc : Int) + off = (tgt : Int)) (h : ¬ 0 < x) (K : cg_W E M (pc + 3) ls rest) : cg_W E M pc ls (.inl x :: rest) := cr_if_gt C d ht (fun h2 => absurd h2 (by first | exact h | exact fun h3 => absurd h h3)) (fun _ => K)
theorem cr_icmp_le {E : cg_E} {cc : ByteArray} {nL : Nat} {own : String} {Ts : List Cond} {rm : Room} (C : cg_C E cc nL own Ts rm) {M : cg_M} {pc : Nat} {ls : List (Option cg_V)} {rest : List cg_V} {x y : Int32} {off : Int} {tgt : Nat} (d : decode cc pc = .ok (.if_icmp .le off, 3)) (ht : (pc : Int) + off = (tgt : Int)) (kt : x ≤ y → cg_W E M tgt ls rest) (kf : ¬ x ≤ y → cg_W E M (pc + 3) ls rest) : cg_W E M pc ls (.inl y :: .inl x :: rest) := by
  obtain ⟨p, l, e, R, s, m, args, below, meth, c, Q, g, A, cells, slots⟩ := E
  intro H locs la hH hS hl
  exact lv_icmp_le C.1 C.2.1 d ht (fun h => kt h H locs la hH hS hl) (fun h => kf h H locs la hH hS hl)
theorem cr_icmp_le_t {E : cg_E} {cc : ByteArray} {nL : Nat} {own : String} {Ts : List Cond} {rm : Room} (C : cg_C E cc nL own Ts rm) {M : cg_M} {pc : Nat} {ls : List (Option cg_V)} {rest : List cg_V} {x y : Int32} {off : Int} {tgt : Nat} (d : decode cc pc = .ok (.if_icmp .le off, 3)) (ht : (pc : Int) + off = (tgt : Int)) (h : x ≤ y) (K : cg_W E M tgt ls rest) : cg_W E M pc ls (.inl y :: .inl x :: rest) := cr_icmp_le C d ht (fun _ => K) (fun h2 => absurd h (by first | exact h2 | exact fun h3 => absurd h2 h3))
theorem cr_icmp_le_f {E : cg_E} {cc : ByteArray} {nL : Nat} {own : String} {Ts : List Cond} {rm : Room} (C : cg_C E cc nL own Ts rm) {M : cg_M} {pc : Nat} {ls : List (Option cg_V)} {rest : List cg_V} {x y : Int32} {off : Int} {tgt : Nat} (d : decode cc pc = .ok (.if_icmp .le off, 3)) (ht : (pc : Int) + off = (tgt : Int)) (h : ¬ x ≤ y) (K : cg_W E M (pc + 3) ls rest) : cg_W E M pc ls (.inl y :: .inl x :: rest) := cr_icmp_le C d ht (fun h2 => absurd h2 (by first | exact h | exact fun h3 => absurd h h3)) (fun _ => K)
theorem cr_if_le {E : cg_E} {cc : ByteArray} {nL : Nat} {own : String} {Ts : List Cond} {rm : Room} (C : cg_C E cc nL own Ts rm) {M : cg_M} {pc : Nat} {ls : List (Option cg_V)} {rest : List cg_V} {x : Int32} {off : Int} {tgt : Nat} (d : decode cc pc = .ok (.ifCond .le off, 3)) (ht : (pc : Int) + off = (tgt : Int)) (kt : x ≤ 0 → cg_W E M tgt ls rest) (kf : ¬ x ≤ 0 → cg_W E M (pc + 3) ls rest) : cg_W E M pc ls (.inl x :: rest) := by
  obtain ⟨p, l, e, R, s, m, args, below, meth, c, Q, g, A, cells, slots⟩ := E
  intro H locs la hH hS hl
  exact lv_if_le C.1 C.2.1 d ht (fun h => kt h H locs la hH hS hl) (fun h => kf h H locs la hH hS hl)
theorem cr_if_le_t {E : cg_E} {cc : ByteArray} {nL : Nat} {own : String} {Ts : List Cond} {rm : Room} (C : cg_C E cc nL own Ts rm) {M : cg_M} {pc : Nat} {ls : List (Option cg_V)} {rest : List cg_V} {x : Int32} {off : Int} {tgt : Nat} (d : decode cc pc = .ok (.ifCond .le off, 3)) (ht : (pc : Int) + off = (tgt : Int)) (h : x ≤ 0) (K : cg_W E M tgt ls rest) : cg_W E M pc ls (.inl x :: rest) := cr_if_le C d ht (fun _ => K) (fun h2 => absurd h (by first | exact h2 | exact fun h3 => absurd h2 h3))
theorem cr_if_le_f {E : cg_E} {cc : ByteArray} {nL : Nat} {own : String} {Ts : List Cond} {rm : Room} (C : cg_C E cc nL own Ts rm) {M : cg_M} {pc : Nat} {ls : List (Option cg_V)} {rest : List cg_V} {x : Int32} {off : Int} {tgt : Nat} (d : decode cc pc = .ok (.ifCond .le off, 3)) (ht : (pc : Int) + off = (tgt : Int)) (h : ¬ x ≤ 0) (K : cg_W E M (pc + 3) ls rest) : cg_W E M pc ls (.inl x :: rest) := cr_if_le C d ht (fun h2 => absurd h2 (by first | exact h | exact fun h3 => absurd h h3)) (fun _ => K)
theorem cr_goto {E : cg_E} {cc : ByteArray} {nL : Nat} {own : String} {Ts : List Cond} {rm : Room} (C : cg_C E cc nL own Ts rm) {M : cg_M} {pc : Nat} {ls : List (Option cg_V)} {rest : List cg_V} {off : Int} {tgt : Nat} (d : decode cc pc = .ok (.goto off, 3)) (ht : (pc : Int) + off = (tgt : Int)) (K : cg_W E M tgt ls rest) : cg_W E M pc ls (rest) := by
  obtain ⟨p, l, e, R, s, m, args, below, meth, c, Q, g, A, cells, slots⟩ := E
  intro H locs la hH hS hl
  exact lv_goto C.1 C.2.1 d ht (K H locs la hH hS hl)
theorem cr_lookup {E : cg_E} {cc : ByteArray} {nL : Nat} {own : String} {Ts : List Cond} {rm : Room} (C : cg_C E cc nL own Ts rm) {M : cg_M} {pc : Nat} {ls : List (Option cg_V)} {rest : List cg_V} {dflt : Int} {ps : Array (Int × Int)} {len : Nat} {x : Int32} {off : Int} {tgt : Nat} (d : decode cc pc = .ok (.lookupswitch dflt ps, len)) (hp : (ps.toList.zip (ps.toList.drop 1)).all (fun (a, next) => a.1 < next.1) = true) (ho : Op.lookupswitch.offset ps.toList dflt x.toInt = off) (ht : (pc : Int) + off = (tgt : Int)) (K : cg_W E M tgt ls rest) : cg_W E M pc ls (.inl x :: rest) := by
  obtain ⟨p, l, e, R, s, m, args, below, meth, c, Q, g, A, cells, slots⟩ := E
  intro H locs la hH hS hl
  exact lv_lookup C.1 C.2.1 d hp ho ht (K H locs la hH hS hl)
theorem cr_lcmp {E : cg_E} {cc : ByteArray} {nL : Nat} {own : String} {Ts : List Cond} {rm : Room} (C : cg_C E cc nL own Ts rm) {M : cg_M} {pc : Nat} {ls : List (Option cg_V)} {rest : List cg_V} {x y : Int64} (d : decode cc pc = .ok (.lcmp, 1)) (K : cg_W E M (pc + 1) ls (.inl (lg_cmp x y) :: rest)) : cg_W E M pc ls (.inr (.inl y) :: .inr (.inl x) :: rest) := by
  obtain ⟨p, l, e, R, s, m, args, below, meth, c, Q, g, A, cells, slots⟩ := E
  intro H locs la hH hS hl
  exact W.lcmp C.1 C.2.1 d (K H locs la hH hS hl)
end CGR
end
section
/-! ===== the layer, 3: fields, arrays, ends, calls ===== -/
def cg_T (c : Nat) : vw_C := match c with
  | 0 => (RX0, TX0, 3)
  | 1 => (RX1, TX1, 8)
  | 2 => (RX2, TX2, 12)
  | 3 => (RX3, TX3, 4)
  | _ => (RX4, TX4, 10)
def cg_ty (c : Nat) : Nat → FieldType := match c with
  | 0 => tyX0
  | 1 => tyX1
  | 2 => tyX2
  | 3 => tyX3
  | _ => tyX4
theorem cg_oi_lt {q : cg_L} {c : Nat} (h : cg_oi q = some c) : c < 5 := by
  unfold cg_oi at h
  split at h <;> first | (cases h; done) | (obtain rfl := Option.some.inj h; decide)
theorem cg_T_at {c : Nat} (h : c < 5) : vwCl[c]? = some (cg_T c) := by
  match c, h with
  | 0, _ => rfl
  | 1, _ => rfl
  | 2, _ => rfl
  | 3, _ => rfl
  | 4, _ => rfl
  | c + 5, h => exact absurd h (by omega)
theorem cg_T_nf {c : Nat} (h : c < 5) : (cg_T c).2.2 = cg_nf c := by
  match c, h with
  | 0, _ => rfl
  | 1, _ => rfl
  | 2, _ => rfl
  | 3, _ => rfl
  | 4, _ => rfl
  | c + 5, h => exact absurd h (by omega)
theorem cg_ty_ok {c : Nat} (h : c < 5) : ∀ k, k < (cg_T c).2.2 → parseFieldDescriptor ((cg_T c).2.1 k).2.2.1 = some (cg_ty c k) := by
  match c, h with
  | 0, _ => exact tyX0_ok
  | 1, _ => exact tyX1_ok
  | 2, _ => exact tyX2_ok
  | 3, _ => exact tyX3_ok
  | 4, _ => exact tyX4_ok
  | c + 5, h => exact absurd h (by omega)
theorem cg_nm {c : Nat} (h : c < 5) : ∀ a, a < (cg_T c).2.2 → ∀ b, b < (cg_T c).2.2 → a ≠ b → ((cg_T c).2.1 a).2.1 ≠ ((cg_T c).2.1 b).2.1 := by
  match c, h with
  | 0, _ => exact nmX0
  | 1, _ => exact nmX1
  | 2, _ => exact nmX2
  | 3, _ => exact nmX3
  | 4, _ => exact nmX4
  | c + 5, h => exact absurd h (by omega)
theorem cg_ce_o {g : cg_G} {M : cg_M} {q : cg_L} {c : Nat} (h : cg_oi q = some c) : cg_ce g M q = .inr (c, (List.range (cg_nf c)).map (cg_fv g.2.2 M q)) := by
  unfold cg_ce
  rw [h]
theorem cg_ai_oi {q : cg_L} {b n : Nat} {f : Nat → Nat} (h : cg_ai q = some (b, n, f)) : cg_oi q = none := by
  unfold cg_ai at h
  split at h <;> first | (cases h; done) | rfl
theorem cg_ri_oi {q : cg_L} {n : Nat} {f : Nat → cg_L} (h : cg_ri q = some (n, f)) : cg_oi q = none ∧ cg_ai q = none := by
  unfold cg_ri at h
  split at h <;> first | (cases h; done) | exact ⟨rfl, rfl⟩
theorem cg_ce_a {g : cg_G} {M : cg_M} {q : cg_L} {b n : Nat} {f : Nat → Nat} (h : cg_ai q = some (b, n, f)) : cg_ce g M q = .inl (g.2.1.1, n, .inl (fun j => M b (f j))) := by
  unfold cg_ce
  rw [cg_ai_oi h, h]
theorem cg_ce_r {g : cg_G} {M : cg_M} {q : cg_L} {n : Nat} {f : Nat → cg_L} (h : cg_ri q = some (n, f)) : cg_ce g M q = .inl (if q.1 = 2 then g.2.1.2.2 else g.2.1.2.1, n, .inr (.inr (.inr (.inr (fun j => if j < n then some (g.2.2 (f j)) else none))))) := by
  unfold cg_ce
  rw [(cg_ri_oi h).1, (cg_ri_oi h).2, h]
theorem cg_one {D : va_G} {cl : List vw_C} {x : Nat × va_E} {H : Heap} (h : va_at D cl x H) : va_P D cl [x] H := by
  intro k q hk
  match k, hk with
  | 0, hk => cases hk; exact h
  | k + 1, hk => simp at hk
section CGH
variable {E : cg_E} {cc : ByteArray} {nL : Nat} {own : String} {Ts : List Cond} {rm : Room} {M : cg_M} {pc : Nat} {ls : List (Option cg_V)} {rest : List cg_V}
theorem cr_get0 (C : cg_C E cc nL own Ts rm) {q : cg_L} {c k index : Nat} {v : cg_V} (hq : cg_ok q = true) (ho : cg_oi q = some c) (hk : k < cg_nf c) (hv : ∀ ad, cg_fv ad M q k = cg_vv ad v) (hin : ∀ w ∈ u_ws (cg_T c).1 (cg_T c).2.1 (cg_T c).2.2, w ∈ Ts) (hw : Cond.fieldLink own index ((cg_T c).2.1 k).1 ((cg_T c).2.1 k).2.1 ((cg_T c).2.1 k).2.2.1 ∈ Ts) (d : decode cc pc = .ok (.getfield index, 3)) (K : cg_W E M (pc + 3) ls (v :: rest)) : cg_W E M pc ls (.inr (.inr q) :: rest) := by
  obtain ⟨p, l, e, R, s, m, args, below, meth, c0, Q, g, A, cells, slots⟩ := E
  intro H locs la hH hS hl
  have h1 := hH q hq
  rw [cg_ce_o ho] at h1
  refine va_get (D := g.1) (cl := vwCl) (C := (cg_T c).1) (T := (cg_T c).2.1) (N := (cg_T c).2.2) C.1 C.2.1 C.2.2.2.2.1 hin C.2.2.2.1 C.2.2.2.2.2.1 (cg_one h1) 0 rfl (cg_T_at (cg_oi_lt ho)) k (by rw [cg_T_nf (cg_oi_lt ho)]; exact hk) (C.2.2.2.2.1 _ hw) (fun _ h => h) (v := cg_vv g.2.2 v) ?_ d (K H locs la hH hS hl)
  rw [List.getElem?_map, List.getElem?_range hk, ← hv]
  rfl
theorem cr_geti (C : cg_C E cc nL own Ts rm) {q : cg_L} {c k index b x : Nat} (hq : cg_ok q = true) (ho : cg_oi q = some c) (hk : k < cg_nf c) (hr : cg_fr q k = none) (hf : cg_fi q k = (b, x)) (hin : ∀ w ∈ u_ws (cg_T c).1 (cg_T c).2.1 (cg_T c).2.2, w ∈ Ts) (hw : Cond.fieldLink own index ((cg_T c).2.1 k).1 ((cg_T c).2.1 k).2.1 ((cg_T c).2.1 k).2.2.1 ∈ Ts) (d : decode cc pc = .ok (.getfield index, 3)) (K : cg_W E M (pc + 3) ls (.inl (M b x) :: rest)) : cg_W E M pc ls (.inr (.inr q) :: rest) :=
  cr_get0 C (v := .inl (M b x)) hq ho hk (fun ad => by unfold cg_fv; rw [hr, hf]; rfl) hin hw d K
theorem cr_getr (C : cg_C E cc nL own Ts rm) {q t : cg_L} {c k index : Nat} (hq : cg_ok q = true) (ho : cg_oi q = some c) (hk : k < cg_nf c) (hr : cg_fr q k = some t) (hin : ∀ w ∈ u_ws (cg_T c).1 (cg_T c).2.1 (cg_T c).2.2, w ∈ Ts) (hw : Cond.fieldLink own index ((cg_T c).2.1 k).1 ((cg_T c).2.1 k).2.1 ((cg_T c).2.1 k).2.2.1 ∈ Ts) (d : decode cc pc = .ok (.getfield index, 3)) (K : cg_W E M (pc + 3) ls (.inr (.inr t) :: rest)) : cg_W E M pc ls (.inr (.inr q) :: rest) :=
  cr_get0 C (v := .inr (.inr t)) hq ho hk (fun ad => by unfold cg_fv; rw [hr]; rfl) hin hw d K
theorem cr_puti (C : cg_C E cc nL own Ts rm) {q : cg_L} {c k index b x : Nat} {y : Int32} (hq : cg_ok q = true) (ho : cg_oi q = some c) (hk : k < cg_nf c) (hr : cg_fr q k = none) (hf : cg_fi q k = (b, x)) (hin : ∀ w ∈ u_ws (cg_T c).1 (cg_T c).2.1 (cg_T c).2.2, w ∈ Ts) (hw : Cond.fieldLink own index ((cg_T c).2.1 k).1 ((cg_T c).2.1 k).2.1 ((cg_T c).2.1 k).2.2.1 ∈ Ts) (hfin : ((cg_T c).2.1 k).2.2.2 = false) (hn : narrow (cg_ty c k) (.int y) = .int y) (hfit : fits (cg_ty c k) (.int y) = true) (d : decode cc pc = .ok (.putfield index, 3)) (K : cg_W E (cg_up M b x y) (pc + 3) ls rest) : cg_W E M pc ls (.inl y :: .inr (.inr q) :: rest) := by
  obtain ⟨p, l, e, R, s, m, args, below, meth, c0, Q, g, A, cells, slots⟩ := E
  intro H locs la hH hS hl
  obtain ⟨i, hi, hi2⟩ := cg_wd_at (g := g) (M := M) hq
  rw [cg_ce_o ho] at hi
  have hc := cg_oi_lt ho
  have hN : k < (cg_T c).2.2 := by rw [cg_T_nf hc]; exact hk
  refine va_put (D := g.1) (cl := vwCl) (C := (cg_T c).1) (T := (cg_T c).2.1) (N := (cg_T c).2.2) C.1 C.2.1 C.2.2.2.2.1 hin (cg_ty c) (cg_ty_ok hc) (cg_nm hc) C.2.2.2.1 C.2.2.2.2.2.1 (cg_wd_P hH) (cg_wd_D C.2.2.2.2.2.2.2.1 C.2.2.2.2.2.2.2.2.1) hS i hi (cg_T_at hc) k hN (C.2.2.2.2.1 _ hw) (fun _ h => h) hfin (cg_ty_ok hc k hN) hn hfit (by rw [List.length_map, List.length_range]; exact hk) d (fun H1 locs1 hP1 _ hS1 => K H1 locs1 la ?_ hS1 hl)
  obtain ⟨h1, h2⟩ := cg_wd_set hi2 hP1
  have how : cg_ow b x = (q, k) := by have := cg_ow_fi hq ho hk hr; rw [hf] at this; exact this
  refine cg_H_up how ?_ h2
  rw [cg_ce_o ho]
  have e : (List.range (cg_nf c)).map (cg_fv g.2.2 (cg_up M b x y) q) = ((List.range (cg_nf c)).map (cg_fv g.2.2 M q)).set k (.int y) := by
    apply List.ext_getElem?
    intro j
    by_cases hj : j < cg_nf c
    · rw [List.getElem?_map, List.getElem?_range hj]
      by_cases hjk : k = j
      · subst hjk
        rw [List.getElem?_set_self (by rw [List.length_map, List.length_range]; exact hk)]
        simp only [Option.map_some, cg_fv, hr, hf, cg_up_at, and_self, if_true]
      · rw [List.getElem?_set_ne hjk, List.getElem?_map, List.getElem?_range hj]
        simp only [Option.map_some, Option.some.injEq, cg_fv]
        cases hrj : cg_fr q j with
        | some t => rfl
        | none =>
          simp only [Value.int.injEq]
          refine cg_up_ne ?_
          rw [how, cg_ow_fi hq ho hj hrj]
          exact fun e => hjk (congrArg Prod.snd e).symm
    · rw [List.getElem?_eq_none (by rw [List.length_map, List.length_range]; omega), List.getElem?_eq_none (by rw [List.length_set, List.length_map, List.length_range]; omega)]
  rw [e]
  exact h1
theorem cr_iaload (C : cg_C E cc nL own Ts rm) {q : cg_L} {b n k : Nat} {f : Nat → Nat} (ha : cg_ai q = some (b, n, f)) (hq : cg_ok q = true) (hk : k < n) (hn : n < 2147483648) (d : decode cc pc = .ok (.iaload, 1)) (K : cg_W E M (pc + 1) ls (.inl (M b (f k)) :: rest)) : cg_W E M pc ls (.inl (nI k) :: .inr (.inr q) :: rest) := by
  obtain ⟨p, l, e, R, s, m, args, below, meth, c0, Q, g, A, cells, slots⟩ := E
  intro H locs la hH hS hl
  have h1 := hH q hq
  rw [cg_ce_a ha] at h1
  refine va_iald (D := g.1) (cl := vwCl) C.1 C.2.1 C.2.2.2.2.2.1 (cg_one h1) 0 0 rfl rfl (vp_in_nI hk hn) d ?_
  have hk2 : k < 2 ^ 31 := by omega
  rw [nI_clamp hk2]
  exact K H locs la hH hS hl
theorem cr_iastore (C : cg_C E cc nL own Ts rm) {q : cg_L} {b n k : Nat} {f : Nat → Nat} {y : Int32} (ha : cg_ai q = some (b, n, f)) (hq : cg_ok q = true) (hk : k < n) (hn : n < 2147483648) (d : decode cc pc = .ok (.iastore, 1)) (K : cg_W E (cg_up M b (f k) y) (pc + 1) ls rest) : cg_W E M pc ls (.inl y :: .inl (nI k) :: .inr (.inr q) :: rest) := by
  obtain ⟨p, l, e, R, s, m, args, below, meth, c0, Q, g, A, cells, slots⟩ := E
  intro H locs la hH hS hl
  obtain ⟨i, hi, hi2⟩ := cg_wd_at (g := g) (M := M) hq
  rw [cg_ce_a ha] at hi
  have hk2 : k < 2 ^ 31 := by omega
  refine va_iast (D := g.1) (cl := vwCl) C.1 C.2.1 C.2.2.2.2.2.1 (cg_wd_P hH) (cg_wd_D C.2.2.2.2.2.2.2.1 C.2.2.2.2.2.2.2.2.1) hS i 0 hi rfl (vp_in_nI hk hn) d (fun H1 locs1 hP1 _ hS1 => K H1 locs1 la ?_ hS1 hl)
  obtain ⟨h1, h2⟩ := cg_wd_set hi2 hP1
  refine cg_H_up (cg_ow_ai hq ha hk) ?_ h2
  rw [cg_ce_a ha]
  rw [nI_clamp hk2] at h1
  have e : va_at g.1 vwCl (g.2.2 q, .inl (g.2.1.1, n, .inl (fun j => cg_up M b (f k) y b (f j)))) H1 = va_at g.1 vwCl (g.2.2 q, .inl (g.2.1.1, n, .inl (upd (fun j => M b (f j)) k y))) H1 := by
    simp only [va_at, vp_cell_i]
    rw [cg_arrV (f := fun j => Value.int (cg_up M b (f k) y b (f j))) (f' := fun j => Value.int (upd (fun j => M b (f j)) k y j))]
    intro j hj
    by_cases hjk : j = k
    · subst hjk
      simp [cg_up_at, upd]
    · rw [cg_up_ne (by rw [cg_ow_ai hq ha hj, cg_ow_ai hq ha hk]; exact fun e => hjk (congrArg Prod.snd e))]
      simp [upd, hjk]
  rw [e]
  exact h1
theorem cr_aaload (C : cg_C E cc nL own Ts rm) {q : cg_L} {n k : Nat} {f : Nat → cg_L} (ha : cg_ri q = some (n, f)) (hq : cg_ok q = true) (hk : k < n) (hn : n < 2147483648) (d : decode cc pc = .ok (.aaload, 1)) (K : cg_W E M (pc + 1) ls (.inr (.inr (f k)) :: rest)) : cg_W E M pc ls (.inl (nI k) :: .inr (.inr q) :: rest) := by
  obtain ⟨p, l, e, R, s, m, args, below, meth, c0, Q, g, A, cells, slots⟩ := E
  intro H locs la hH hS hl
  have h1 := hH q hq
  rw [cg_ce_r ha] at h1
  have hk2 : k < 2 ^ 31 := by omega
  have hK := C.2.2.2.2.2.1
  have hin : ¬ ((nI k) < 0 ∨ n ≤ (nI k).toNatClampNeg) := vp_in_nI hk hn
  have hv : va_rf (if k < n then some (g.2.2 (f k)) else none) = cg_vv g.2.2 (.inr (.inr (f k))) := by rw [if_pos hk]; rfl
  have hv2 := K H locs la hH hS hl
  have h1 : H[g.2.2 q]? = some (arrV (if q.1 = 2 then g.2.1.2.2 else g.2.1.2.1) n (fun j => va_rf (if j < n then some (g.2.2 (f j)) else none))) := h1
  by_cases h2 : q.1 = 2
  · rw [if_pos h2] at h1
    refine W.aald (v := cg_vv g.2.2 (.inr (.inr (f k)))) (ty := .object RX2) C.1 C.2.1 h1 ((hK.2 2 _ rfl).1 n _) rfl (fun q => by cases q) (by rw [arrV_size]; exact hin) ?_ rfl rfl d hv2
    rw [nI_clamp hk2, arrV_read _ _ hk, hv]
  · rw [if_neg h2] at h1
    refine W.aald (v := cg_vv g.2.2 (.inr (.inr (f k)))) (ty := .array .int) C.1 C.2.1 h1 ((hK.2 1 _ rfl).1 n _) rfl (fun q => by cases q) (by rw [arrV_size]; exact hin) ?_ rfl rfl d hv2
    rw [nI_clamp hk2, arrV_read _ _ hk, hv]
theorem cr_alen (C : cg_C E cc nL own Ts rm) {q : cg_L} {b n : Nat} {f : Nat → Nat} (ha : cg_ai q = some (b, n, f)) (hq : cg_ok q = true) (d : decode cc pc = .ok (.arraylength, 1)) (K : cg_W E M (pc + 1) ls (.inl (nI n) :: rest)) : cg_W E M pc ls (.inr (.inr q) :: rest) := by
  obtain ⟨p, l, e, R, s, m, args, below, meth, c0, Q, g, A, cells, slots⟩ := E
  intro H locs la hH hS hl
  have h1 := hH q hq
  rw [cg_ce_a ha] at h1
  exact va_alen (D := g.1) (cl := vwCl) C.1 C.2.1 C.2.2.2.2.2.1 (cg_one h1) 0 0 rfl rfl (v := nI n) rfl d (K H locs la hH hS hl)
theorem cr_alenr (C : cg_C E cc nL own Ts rm) {q : cg_L} {n : Nat} {f : Nat → cg_L} (ha : cg_ri q = some (n, f)) (hq : cg_ok q = true) (h2 : ¬ q.1 = 2) (d : decode cc pc = .ok (.arraylength, 1)) (K : cg_W E M (pc + 1) ls (.inl (nI n) :: rest)) : cg_W E M pc ls (.inr (.inr q) :: rest) := by
  obtain ⟨p, l, e, R, s, m, args, below, meth, c0, Q, g, A, cells, slots⟩ := E
  intro H locs la hH hS hl
  have h1 := hH q hq
  rw [cg_ce_r ha, if_neg h2] at h1
  exact va_alen (D := g.1) (cl := vwCl) C.1 C.2.1 C.2.2.2.2.2.1 (cg_one h1) 0 1 rfl rfl (v := nI n) rfl d (K H locs la hH hS hl)
theorem cr_max (C : cg_C E cc nL own Ts rm) {x y : Int32} {index : Nat} (d : decode cc pc = .ok (.invokestatic index, 3)) (hw : Cond.methodLink own index Lib.Math.max.name ∈ Ts ∧ Cond.static Lib.Math.max.name ∈ Ts ∧ Cond.initialized "java/lang/Math" ∈ Ts ∧ Cond.code Lib.Math.max.name Lib.Math.max.code 2 (some .int) ∈ Ts) (hr : 1 ≤ rm.frames ∧ 21 ≤ rm.locals) (hst : (rest.map fun v => if cg_two v then 2 else 1).sum ≤ 8) (K : cg_W E M (pc + 3) ls (.inl (if x < y then y else x) :: rest)) : cg_W E M pc ls (.inl y :: .inl x :: rest) := by
  obtain ⟨p, l, e, R, s, m, args, below, meth, c0, Q, g, A, cells, slots⟩ := E
  intro H locs la hH hS hl
  have ht := C.2.2.2.2.1
  have hR : R = rm := C.2.2.2.2.2.2.2.2.2.1
  have hsum : ((rest.map (cg_vv g.2.2)).map fun v => v.category).sum = (rest.map fun v => if cg_two v then 2 else 1).sum := by
    rw [List.map_map]
    congr 1
    apply List.map_congr_left
    intro v _
    rcases v with x | x | x <;> rfl
  exact va_mmax C.1 C.2.1 hl.1.symm C.2.2.2.1 (ht _ hw.1) (ht _ hw.2.1) (ht _ hw.2.2.1) (ht _ hw.2.2.2) (by rw [hR]; exact hr.1) (by rw [hR, hsum]; have := hr.2; omega) C.2.2.2.2.2.2.2.2.2.2.1 C.2.2.2.2.2.2.2.2.2.2.2 d (K H locs la hH hS hl)
theorem cr_min (C : cg_C E cc nL own Ts rm) {x y : Int32} {index : Nat} (d : decode cc pc = .ok (.invokestatic index, 3)) (hw : Cond.methodLink own index Lib.Math.min.name ∈ Ts ∧ Cond.static Lib.Math.min.name ∈ Ts ∧ Cond.initialized "java/lang/Math" ∈ Ts ∧ Cond.code Lib.Math.min.name Lib.Math.min.code 2 (some .int) ∈ Ts) (hr : 1 ≤ rm.frames ∧ 21 ≤ rm.locals) (hst : (rest.map fun v => if cg_two v then 2 else 1).sum ≤ 8) (K : cg_W E M (pc + 3) ls (.inl (if y < x then y else x) :: rest)) : cg_W E M pc ls (.inl y :: .inl x :: rest) := by
  obtain ⟨p, l, e, R, s, m, args, below, meth, c0, Q, g, A, cells, slots⟩ := E
  intro H locs la hH hS hl
  have ht := C.2.2.2.2.1
  have hR : R = rm := C.2.2.2.2.2.2.2.2.2.1
  have hsum : ((rest.map (cg_vv g.2.2)).map fun v => v.category).sum = (rest.map fun v => if cg_two v then 2 else 1).sum := by
    rw [List.map_map]
    congr 1
    apply List.map_congr_left
    intro v _
    rcases v with x | x | x <;> rfl
  exact va_mmin C.1 C.2.1 hl.1.symm C.2.2.2.1 (ht _ hw.1) (ht _ hw.2.1) (ht _ hw.2.2.1) (ht _ hw.2.2.2) (by rw [hR]; exact hr.1) (by rw [hR, hsum]; have := hr.2; omega) C.2.2.2.2.2.2.2.2.2.2.1 C.2.2.2.2.2.2.2.2.2.2.2 d (K H locs la hH hS hl)
end CGH
/-! the contract of a method: from memory M and the arguments as it comes to an end with post -/
def cg_Ag (g : cg_G) : Nat → Prop := fun a => ∃ q : cg_L, cg_ok q = true ∧ a = g.2.2 q
def cg_Pre (g : cg_G) (as : List cg_V) (M : cg_M) : Array Value → State → Prop := va_Pc (as.map (cg_vv g.2.2)) (fun U => cg_H g M U.heap ∧ va_K g.1 vwCl (cg_tys g) U ∧ cg_N U ∧ cg_inj g)
def cg_Q (g : cg_G) (post : Option cg_V → cg_M → Prop) : Array Value → State → Outcome → State → Prop := fun _ st oc t => (∃ (v : Option cg_V) (M' : cg_M), oc = .returned (v.map (cg_vv g.2.2)) ∧ post v M' ∧ cg_H g M' t.heap) ∧ va_F (cg_Ag g) st t
def cg_S (y : MethodName) (ws : List Cond) (rm : Room) (as : List cg_V) (M : cg_M) (post : Option cg_V → cg_M → Prop) : Prop := ∀ (l : Launch) (g : cg_G), Met l y ws rm (cg_Pre g as M) (cg_Q g post) 0 0 (cg_Ag g)
/-- what the end of a method needs -/
def cg_R (E : cg_E) (ret : Option FieldType) (post : Option cg_V → cg_M → Prop) : Prop := match E with
  | (_, _, _, _, s, _, args, below, meth, _, Q, g, A, cells, slots) => meth.sig.returnType = ret ∧ meth.locks = false ∧ A = cg_Ag g ∧ Q = MQ below (cg_Q g post) args s cells slots (cg_Ag g)
theorem cg_N.moved {s U : State} (hW : s.WarmedH U.vm) (h : cg_N s) : cg_N U := by
  intro w hw
  have h1 := h w hw
  simp only [cg_nests, List.mem_cons, List.not_mem_nil, or_false] at hw
  rcases hw with rfl | rfl | rfl | rfl | rfl | rfl | rfl | rfl <;> exact va_Nw.warmM hW h1
theorem cg_N.same {s U : State} (hW : s.vm = U.vm) (h : cg_N s) : cg_N U := by
  intro w hw
  have h1 := h w hw
  simp only [cg_nests, List.mem_cons, List.not_mem_nil, or_false] at hw
  rcases hw with rfl | rfl | rfl | rfl | rfl | rfl | rfl | rfl <;> exact va_Nw.same rfl hW h1
theorem cg_blind (g : cg_G) (as : List cg_V) (M : cg_M) : FrameBlind (cg_Pre g as M) := fun a U g' mk q => by
  obtain ⟨q0, q1, q2, q3, q4⟩ := q
  exact ⟨q0, q1, va_K.moved (u := U) (U := U.calling g' mk a) (Vm.Alike.refl U.vm) q2, cg_N.same (s := U) (U := U.calling g' mk a) rfl q3, q4⟩
section CGE
variable {E : cg_E} {cc : ByteArray} {nL : Nat} {own : String} {Ts : List Cond} {rm : Room} {M : cg_M} {pc : Nat} {ls : List (Option cg_V)} {post : Option cg_V → cg_M → Prop}
theorem cr_ireturn (C : cg_C E cc nL own Ts rm) {x : Int32} (X : cg_R E (some .int) post) (d : decode cc pc = .ok (.ireturn, 1)) (h : post (some (.inl x)) M) : cg_W E M pc ls [.inl x] := by
  obtain ⟨p, l, e, R, s, m, args, below, meth, c0, Q, g, A, cells, slots⟩ := E
  intro H locs la hH hS hl
  obtain ⟨h1, hlocks, rfl, rfl⟩ := X
  exact W.iret C.1 C.2.1 h1 (fun t ht hW => ⟨⟨some (.inl x), M, rfl, h, by rw [ht]; exact hH⟩, hS.F ht⟩) (fun q hq => hS.2.2 q hq) d hlocks
theorem cr_zreturn (C : cg_C E cc nL own Ts rm) {x : Int32} (X : cg_R E (some .boolean) post) (d : decode cc pc = .ok (.ireturn, 1)) (hx : x = 0 ∨ x = 1) (h : post (some (.inl x)) M) : cg_W E M pc ls [.inl x] := by
  obtain ⟨p, l, e, R, s, m, args, below, meth, c0, Q, g, A, cells, slots⟩ := E
  intro H locs la hH hS hl
  obtain ⟨h1, hlocks, rfl, rfl⟩ := X
  exact W.zret C.1 C.2.1 h1 (by rcases hx with rfl | rfl <;> rfl) (fun t ht hW => ⟨⟨some (.inl x), M, rfl, h, by rw [ht]; exact hH⟩, hS.F ht⟩) (fun q hq => hS.2.2 q hq) d hlocks
theorem cr_lreturn (C : cg_C E cc nL own Ts rm) {x : Int64} (X : cg_R E (some .long) post) (d : decode cc pc = .ok (.lreturn, 1)) (h : post (some (.inr (.inl x))) M) : cg_W E M pc ls [.inr (.inl x)] := by
  obtain ⟨p, l, e, R, s, m, args, below, meth, c0, Q, g, A, cells, slots⟩ := E
  intro H locs la hH hS hl
  obtain ⟨h1, hlocks, rfl, rfl⟩ := X
  exact W.lret C.1 C.2.1 h1 (fun t ht hW => ⟨⟨some (.inr (.inl x)), M, rfl, h, by rw [ht]; exact hH⟩, hS.F ht⟩) (fun q hq => hS.2.2 q hq) d hlocks
theorem cr_return (C : cg_C E cc nL own Ts rm) (X : cg_R E none post) (d : decode cc pc = .ok (.return_, 1)) (h : post none M) : cg_W E M pc ls [] := by
  obtain ⟨p, l, e, R, s, m, args, below, meth, c0, Q, g, A, cells, slots⟩ := E
  intro H locs la hH hS hl
  obtain ⟨h1, hlocks, rfl, rfl⟩ := X
  exact W.vret C.1 C.2.1 h1 (fun t ht hW => ⟨⟨none, M, rfl, h, by rw [ht]; exact hH⟩, hS.F ht⟩) (fun q hq => hS.2.2 q hq) d hlocks
end CGE
/-- the frame's variables at a method's entry -/
def cg_en : List cg_V → List (Option cg_V)
  | [] => []
  | v :: r => if cg_two v then some v :: none :: cg_en r else some v :: cg_en r
theorem cg_en_lv (ad : cg_L → Nat) : ∀ (as : List cg_V) (i : Nat), lv_args i (as.map (cg_vv ad)) = cg_lv ad i (cg_en as)
  | [], _ => rfl
  | v :: r, i => by
    rcases v with x | x | x
    · show (i, _) :: lv_args (i + 1) _ = (i, _) :: cg_lv ad (i + 1) _
      rw [cg_en_lv ad r]
    · show (i, _) :: lv_args (i + 2) _ = (i, _) :: cg_lv ad (i + 1 + 1) _
      rw [cg_en_lv ad r]
    · show (i, _) :: lv_args (i + 1) _ = (i, _) :: cg_lv ad (i + 1) _
      rw [cg_en_lv ad r]
theorem cg_lv_pad (ad : cg_L → Nat) (n : Nat) : ∀ (ls : List (Option cg_V)) (i : Nat), cg_lv ad i (ls ++ List.replicate n none) = cg_lv ad i ls
  | [], i => by
    induction n generalizing i with
    | zero => rfl
    | succ n ih => exact ih (i + 1)
  | none :: r, i => cg_lv_pad ad n r (i + 1)
  | some v :: r, i => by
    show (i, cg_vv ad v) :: cg_lv ad (i + 1) (r ++ List.replicate n none) = (i, cg_vv ad v) :: cg_lv ad (i + 1) r
    rw [cg_lv_pad ad n r (i + 1)]
theorem cg_en_len (ad : cg_L → Nat) : ∀ as : List cg_V, (lg_sl (as.map (cg_vv ad))).length = (cg_en as).length
  | [] => rfl
  | v :: r => by
    have ih := cg_en_len ad r
    rcases v with x | x | x <;> simp [lg_sl, cg_en, cg_vv, cg_two, Value.category] at ih ⊢ <;> omega
theorem cg_S_of {y : MethodName} {cc : ByteArray} {maxL : Nat} {ret : Option FieldType} {ws ws' : List Cond} {rm : Room} {as : List cg_V} {M : cg_M} {post : Option cg_V → cg_M → Prop} {ls0 : List (Option cg_V)} (own : String) (hown : y.cls = own) (hy : plainName y.cls = true) (hw : ws = Cond.code y cc maxL ret :: ws') (hls : cg_en as ++ List.replicate (maxL - (cg_en as).length) none = ls0) (hlen : (cg_en as).length ≤ maxL)
    (body : ∀ E : cg_E, cg_C E cc maxL own ws rm → cg_R E ret post → cg_W E M 0 ls0 []) : cg_S y ws rm as M post := by
  intro l g
  refine Met.ofW (cc := cc) (maxL := maxL) (ret := ret) hy hw ?_
  intro p e s m args below meth c s₁ B hml hv
  obtain ⟨rfl, h1, h2, h3, h4⟩ := hv
  have hts := atoms_spec (ws := ws) B.pre
  have hown2 : s.vm.findClass y.cls = some m.cls := findClass_of_methodNamed B.named
  rw [hown] at hown2
  have hb := body (p, l, e, rm, s, m, (as.map (cg_vv g.2.2)).toArray, below, meth, c, MQ below (cg_Q g post) (as.map (cg_vv g.2.2)).toArray s 0 0 (cg_Ag g), g, cg_Ag g, 0, 0) ⟨B.exec, B.bytes, hml, hown2, hts, h2, h3, h4, fun q hq => ⟨q, hq, rfl⟩, rfl, Nat.zero_le _, Nat.zero_le _⟩ ⟨B.returns, B.notSynchronized, rfl, rfl⟩
  rw [lg_entry_eq]
  refine hb s.heap [] _ h1 va_S.rf ?_
  have hl := lv_entry (as.map (cg_vv g.2.2)) (n := maxL) (by rw [cg_en_len]; exact hlen)
  rw [cg_en_lv] at hl
  rw [← hls, cg_lv_pad]
  show lv_has _ c.maxLocals _
  rw [hml]
  exact hl
section CGC
variable {E : cg_E} {cc : ByteArray} {nL : Nat} {own : String} {Ts : List Cond} {rm : Room} {M : cg_M} {pc : Nat} {ls : List (Option cg_V)} {rest st : List cg_V} {post : Option cg_V → cg_M → Prop}
theorem cg_sum (ad : cg_L → Nat) (rest : List cg_V) : ((rest.map (cg_vv ad)).map fun v => v.category).sum = (rest.map fun v => if cg_two v then 2 else 1).sum := by
  rw [List.map_map]
  congr 1
  apply List.map_congr_left
  intro v _
  rcases v with x | x | x <;> rfl
/-- behind a call, whatever its kind -/
theorem cg_run {p : Program} {l : Launch} {e : Env} {R : Room} {s : State} {m : MethodId} {args : Array Value} {below : List Frame} {meth : Method} {c : Code} {Q : State → Prop} {g : cg_G} {A : Nat → Prop} {cells slots : Nat} {H : Heap} {locs : List Loc} {la : Array Slot} {st0 : List Value} {a : Array Value}
    (hr : va_Run p l e R s m args below meth c H locs cells slots 0 0 (F0 m pc la st0) (rest.map (cg_vv g.2.2)) (cg_Q g post a) (cg_Ag g)) (hS : va_S A s.heap H locs) (hA : ∀ q : cg_L, cg_ok q = true → A (g.2.2 q)) (hl : lv_has la c.maxLocals (cg_lv g.2.2 0 ls))
    (K : ∀ v M', post v M' → cg_W (p, l, e, R, s, m, args, below, meth, c, Q, g, A, cells, slots) M' (pc + 3) ls (v.toList ++ rest)) : W p l e R s m args below meth c H locs cells slots Q (F0 m pc la st0) := by
  intro T hT X
  obtain ⟨v, st₀, t, T', L, h0, X', hL, e1, e2, ⟨⟨w, M', hv, hp, hb⟩, hz, hk⟩, st⟩ := hr T hT X
  have hv : v = w.map (cg_vv g.2.2) := by simpa using hv
  rw [h0] at hz hk
  have hAg : ∀ q, cg_Ag g q → A q := fun q hq => by obtain ⟨x, hx, rfl⟩ := hq; exact hA x hx
  have hS1 : va_S A s.heap T'.heap (locs ++ L) := ⟨Nat.le_trans hS.1 (by rw [e1]; exact hz), fun q h1 h2 => by rw [e1, hk q (Nat.lt_of_lt_of_le h1 hS.1) (fun z => h2 (hAg q z))]; exact hS.2.1 q h1 h2, fun q hq => by
      rcases List.mem_append.mp hq with h | h
      · exact hS.2.2 q h
      · exact hAg _ (hL q h)⟩
  obtain ⟨t2, a1, b1⟩ := K w M' hp T'.heap (locs ++ L) la (by rw [e1]; exact hb) hS1 hl T' rfl X'
  refine ⟨t2, st t2 ?_, b1⟩
  have e3 : v.toList ++ rest.map (cg_vv g.2.2) = (w.toList ++ rest).map (cg_vv g.2.2) := by
    rw [hv, List.map_append]
    cases w <;> rfl
  show Steps _ _ _ (T'.setTop { F0 m pc la st0 with pc := pc + 3, stack := v.toList ++ rest.map (cg_vv g.2.2) }) t2
  rw [e3]
  exact a1
theorem cr_callV (C : cg_C E cc nL own Ts rm) {y : MethodName} {ws ws' : List Cond} {rm' : Room} {q : cg_L} {as : List cg_V} {index maxL n cN : Nat} {bytes : ByteArray} {ret : Option FieldType} (hSp : cg_S y ws rm' (.inr (.inr q) :: as) M post) (hst : st = as.reverse ++ .inr (.inr q) :: rest) (hG : GoodIn Ts (wsV own index (cg_T cN).1 y ws)) (hw : ws = Cond.code y bytes maxL ret :: ws') (d : decode cc pc = .ok (.invokevirtual index, 3)) (hq : cg_ok q = true) (ho : cg_oi q = some cN)
    (hd : y.cls = (cg_T cN).1 ∧ y.cls ≠ "java/lang/invoke/MethodHandle" ∧ y.cls ≠ "java/lang/invoke/VarHandle" ∧ (parseMethodDescriptor y.desc).map (fun d => d.parameters.length) = some n) (hn : as.length = n) (hr : rm'.cells = 0 ∧ rm'.slots = 0 ∧ rm'.frames + 1 ≤ rm.frames ∧ 8 + (maxL + 11) + rm'.locals ≤ rm.locals) (hsum : (rest.map fun v => if cg_two v then 2 else 1).sum ≤ 8)
    (K : ∀ v M', post v M' → cg_W E M' (pc + 3) ls (v.toList ++ rest)) : cg_W E M pc ls st := by
  obtain ⟨p, l, e, R, s, m, args, below, meth, c0, Q, g, A, cells, slots⟩ := E
  intro H locs la hH hS hl
  have hR : R = rm := C.2.2.2.2.2.2.2.2.2.1
  subst hR
  subst hst
  have h1 := hH q hq
  rw [cg_ce_o ho] at h1
  have hbnd := C.2.2.2.2.2.2.2.2.2.2
  refine cg_run (post := post) (rest := rest) (va_runV (As := as.map (cg_vv g.2.2)) (rest := rest.map (cg_vv g.2.2)) (b := g.2.2 q) ⟨C.1, C.2.1, C.2.2.1, C.2.2.2.1, C.2.2.2.2.1⟩ (hSp l g) (cwV n C.2.2.2.2.1 hG hw hr.1 hr.2.1 hd ⟨hr.2.2.1, hr.2.2.2⟩) ⟨cg_blind g _ M, va_recv C.2.2.2.2.2.1 (cg_one h1) (q0 := 0) (cg_T_at (cg_oi_lt ho)) rfl, fun U hU hW => ⟨rfl, by rw [hU]; exact hH, va_K.moved hW.alike C.2.2.2.2.2.1, C.2.2.2.2.2.2.1.moved hW, C.2.2.2.2.2.2.2.1⟩⟩ rfl (by rw [List.length_map]; exact hn) (hl.1.trans C.2.2.1) (by rw [List.map_append, List.map_reverse]; rfl) (by rw [cg_sum]; exact (show 2 * 0 + _ ≤ 8 by omega)) d ⟨hbnd.1, hbnd.2⟩) hS C.2.2.2.2.2.2.2.2.1 hl K
theorem cr_callS (C : cg_C E cc nL own Ts rm) {y : MethodName} {ws ws' : List Cond} {rm' : Room} {as : List cg_V} {index maxL n : Nat} {bytes : ByteArray} {ret : Option FieldType} (hSp : cg_S y ws rm' as M post) (hst : st = as.reverse ++ rest) (hG : GoodIn Ts (va_wsS own index y ws)) (hw : ws = Cond.code y bytes maxL ret :: ws') (d : decode cc pc = .ok (.invokestatic index, 3))
    (hd : y.cls ≠ "java/lang/invoke/MethodHandle" ∧ y.cls ≠ "java/lang/invoke/VarHandle" ∧ (parseMethodDescriptor y.desc).map (fun d => d.parameters.length) = some n) (hn : as.length = n) (hr : rm'.cells = 0 ∧ rm'.slots = 0 ∧ rm'.frames + 1 ≤ rm.frames ∧ 8 + (maxL + 11) + rm'.locals ≤ rm.locals) (hsum : (rest.map fun v => if cg_two v then 2 else 1).sum ≤ 8)
    (K : ∀ v M', post v M' → cg_W E M' (pc + 3) ls (v.toList ++ rest)) : cg_W E M pc ls st := by
  obtain ⟨p, l, e, R, s, m, args, below, meth, c0, Q, g, A, cells, slots⟩ := E
  intro H locs la hH hS hl
  have hR : R = rm := C.2.2.2.2.2.2.2.2.2.1
  subst hR
  subst hst
  have hbnd := C.2.2.2.2.2.2.2.2.2.2
  have ht := C.2.2.2.2.1
  have hG2 : GoodIn Ts ws := fun w h => hG w (by unfold va_wsS; exact List.mem_append_right _ h)
  have ok : ∀ w ∈ va_wsS own index y ws, w.before args s = true := fun w h => ht w (hG w h).1
  refine cg_run (post := post) (rest := rest) (va_runS (As := as.map (cg_vv g.2.2)) (rest := rest.map (cg_vv g.2.2)) ⟨C.1, C.2.1, C.2.2.1, C.2.2.2.1, C.2.2.2.2.1⟩ (hSp l g) ⟨callB_of n ht hG2 hw hr.1 hr.2.1 (ok _ (by simp [va_wsS])) (ok _ (by simp [va_wsS])) hd ⟨hr.2.2.1, hr.2.2.2⟩, ok _ (by simp [va_wsS])⟩ ⟨cg_blind g _ M, fun U hU hW => ⟨rfl, by rw [hU]; exact hH, va_K.moved hW.alike C.2.2.2.2.2.1, C.2.2.2.2.2.2.1.moved hW, C.2.2.2.2.2.2.2.1⟩⟩ rfl (by rw [List.length_map]; exact hn) (hl.1.trans C.2.2.1) (by rw [List.map_append, List.map_reverse]) (by rw [cg_sum]; exact (show 2 * 0 + _ ≤ 8 by omega)) d ⟨hbnd.1, hbnd.2⟩) hS C.2.2.2.2.2.2.2.2.1 hl K
theorem cr_callN (C : cg_C E cc nL own Ts rm) {y : MethodName} {host : String} {ws ws' : List Cond} {rm' : Room} {as : List cg_V} {index maxL n : Nat} {bytes : ByteArray} {ret : Option FieldType} (hSp : cg_S y ws rm' as M post) (hst : st = as.reverse ++ rest) (hG : GoodIn Ts ws) (hw : ws = Cond.code y bytes maxL ret :: ws') (d : decode cc pc = .ok (.invokestatic index, 3)) (hnw : Cond.methodLinkNest own index y host ∈ cg_nests) (hini : Cond.initialized y.cls ∈ Ts) (hstt : Cond.static y ∈ Ts)
    (hd : y.cls ≠ "java/lang/invoke/MethodHandle" ∧ y.cls ≠ "java/lang/invoke/VarHandle" ∧ (parseMethodDescriptor y.desc).map (fun d => d.parameters.length) = some n) (hn : as.length = n) (hr : rm'.cells = 0 ∧ rm'.slots = 0 ∧ rm'.frames + 1 ≤ rm.frames ∧ 8 + (maxL + 11) + rm'.locals ≤ rm.locals) (hsum : (rest.map fun v => if cg_two v then 2 else 1).sum ≤ 8)
    (K : ∀ v M', post v M' → cg_W E M' (pc + 3) ls (v.toList ++ rest)) : cg_W E M pc ls st := by
  obtain ⟨p, l, e, R, s, m, args, below, meth, c0, Q, g, A, cells, slots⟩ := E
  intro H locs la hH hS hl
  have hR : R = rm := C.2.2.2.2.2.2.2.2.2.1
  subst hR
  subst hst
  have hbnd := C.2.2.2.2.2.2.2.2.2.2
  have ht := C.2.2.2.2.1
  refine cg_run (post := post) (rest := rest) (va_runSN (As := as.map (cg_vv g.2.2)) (rest := rest.map (cg_vv g.2.2)) ⟨C.1, C.2.1, C.2.2.1, C.2.2.2.1, C.2.2.2.2.1⟩ (hSp l g) ⟨va_cnB n ht hG hw hr.1 hr.2.1 (C.2.2.2.2.2.2.1 _ hnw) (ht _ hini) hd ⟨hr.2.2.1, hr.2.2.2⟩, ht _ hstt, trivial⟩ ⟨cg_blind g _ M, fun U hU hW => ⟨rfl, by rw [hU]; exact hH, va_K.moved hW.alike C.2.2.2.2.2.1, C.2.2.2.2.2.2.1.moved hW, C.2.2.2.2.2.2.2.1⟩⟩ rfl (by rw [List.length_map]; exact hn) (hl.1.trans C.2.2.1) (by rw [List.map_append, List.map_reverse]) (by rw [cg_sum]; exact (show 2 * 0 + _ ≤ 8 by omega)) d ⟨hbnd.1, hbnd.2⟩) hS C.2.2.2.2.2.2.2.2.1 hl K
end CGC
end
section
/-! ===== calls with one answer ===== -/
def cg_D (y : MethodName) (ws : List Cond) (rm : Room) (as : List cg_V) (M : cg_M) (v : Option cg_V) (M1 : cg_M) : Prop := cg_S y ws rm as M (fun v' M' => v' = v ∧ M' = M1)
section CGD
variable {E : cg_E} {cc : ByteArray} {nL : Nat} {own : String} {Ts : List Cond} {rm : Room} {M M1 : cg_M} {pc : Nat} {ls : List (Option cg_V)} {rest st : List cg_V} {v : Option cg_V}
theorem cr_dV (C : cg_C E cc nL own Ts rm) {y : MethodName} {ws ws' : List Cond} {rm' : Room} {q : cg_L} {as : List cg_V} {index maxL n cN : Nat} {bytes : ByteArray} {ret : Option FieldType} {st2 : List cg_V} (hSp : cg_D y ws rm' (.inr (.inr q) :: as) M v M1) (hst : st = as.reverse ++ .inr (.inr q) :: rest) (hG : GoodIn Ts (wsV own index (cg_T cN).1 y ws)) (hw : ws = Cond.code y bytes maxL ret :: ws') (d : decode cc pc = .ok (.invokevirtual index, 3)) (hq : cg_ok q = true) (ho : cg_oi q = some cN)
    (hd : y.cls = (cg_T cN).1 ∧ y.cls ≠ "java/lang/invoke/MethodHandle" ∧ y.cls ≠ "java/lang/invoke/VarHandle" ∧ (parseMethodDescriptor y.desc).map (fun d => d.parameters.length) = some n) (hn : as.length = n) (hr : rm'.cells = 0 ∧ rm'.slots = 0 ∧ rm'.frames + 1 ≤ rm.frames ∧ 8 + (maxL + 11) + rm'.locals ≤ rm.locals) (hsum : (rest.map fun v => if cg_two v then 2 else 1).sum ≤ 8) (hst2 : v.toList ++ rest = st2)
    (K : cg_W E M1 (pc + 3) ls st2) : cg_W E M pc ls st :=
  cr_callV C hSp hst hG hw d hq ho hd hn hr hsum (fun v' M' h => by obtain ⟨rfl, rfl⟩ := h; rw [hst2]; exact K)
theorem cr_dS (C : cg_C E cc nL own Ts rm) {y : MethodName} {ws ws' : List Cond} {rm' : Room} {as : List cg_V} {index maxL n : Nat} {bytes : ByteArray} {ret : Option FieldType} {st2 : List cg_V} (hSp : cg_D y ws rm' as M v M1) (hst : st = as.reverse ++ rest) (hG : GoodIn Ts (va_wsS own index y ws)) (hw : ws = Cond.code y bytes maxL ret :: ws') (d : decode cc pc = .ok (.invokestatic index, 3))
    (hd : y.cls ≠ "java/lang/invoke/MethodHandle" ∧ y.cls ≠ "java/lang/invoke/VarHandle" ∧ (parseMethodDescriptor y.desc).map (fun d => d.parameters.length) = some n) (hn : as.length = n) (hr : rm'.cells = 0 ∧ rm'.slots = 0 ∧ rm'.frames + 1 ≤ rm.frames ∧ 8 + (maxL + 11) + rm'.locals ≤ rm.locals) (hsum : (rest.map fun v => if cg_two v then 2 else 1).sum ≤ 8) (hst2 : v.toList ++ rest = st2)
    (K : cg_W E M1 (pc + 3) ls st2) : cg_W E M pc ls st :=
  cr_callS C hSp hst hG hw d hd hn hr hsum (fun v' M' h => by obtain ⟨rfl, rfl⟩ := h; rw [hst2]; exact K)
theorem cr_dN (C : cg_C E cc nL own Ts rm) {y : MethodName} {host : String} {ws ws' : List Cond} {rm' : Room} {as : List cg_V} {index maxL n : Nat} {bytes : ByteArray} {ret : Option FieldType} {st2 : List cg_V} (hSp : cg_D y ws rm' as M v M1) (hst : st = as.reverse ++ rest) (hG : GoodIn Ts ws) (hw : ws = Cond.code y bytes maxL ret :: ws') (d : decode cc pc = .ok (.invokestatic index, 3)) (hnw : Cond.methodLinkNest own index y host ∈ cg_nests) (hini : Cond.initialized y.cls ∈ Ts ∧ Cond.static y ∈ Ts)
    (hd : y.cls ≠ "java/lang/invoke/MethodHandle" ∧ y.cls ≠ "java/lang/invoke/VarHandle" ∧ (parseMethodDescriptor y.desc).map (fun d => d.parameters.length) = some n) (hn : as.length = n) (hr : rm'.cells = 0 ∧ rm'.slots = 0 ∧ rm'.frames + 1 ≤ rm.frames ∧ 8 + (maxL + 11) + rm'.locals ≤ rm.locals) (hsum : (rest.map fun v => if cg_two v then 2 else 1).sum ≤ 8) (hst2 : v.toList ++ rest = st2)
    (K : cg_W E M1 (pc + 3) ls st2) : cg_W E M pc ls st :=
  cr_callN C hSp hst hG hw d hnw hini.1 hini.2 hd hn hr hsum (fun v' M' h => by obtain ⟨rfl, rfl⟩ := h; rw [hst2]; exact K)
end CGD
theorem cg_inc1 (a : Nat) : nI a + Int32.ofInt 1 = nI (a + 1) := nI_1 a
/-- what a copy of the first k places of one array to another leaves -/
def cg_cp (M : cg_M) (q2 : cg_L) (k b1 : Nat) (f1 : Nat → Nat) : cg_M := fun b x => if (cg_ow b x).1 = q2 ∧ (cg_ow b x).2 < k then M b1 (f1 (cg_ow b x).2) else M b x
theorem cr_copy {E : cg_E} {cc : ByteArray} {nL : Nat} {own : String} {Ts : List Cond} {rm : Room} (C : cg_C E cc nL own Ts rm) {M : cg_M} {pc : Nat} {ls : List (Option cg_V)} {q1 q2 : cg_L} {b1 b2 n1 n2 k index : Nat} {f1 f2 : Nat → Nat} (h1 : cg_ai q1 = some (b1, n1, f1)) (h2 : cg_ai q2 = some (b2, n2, f2)) (o1 : cg_ok q1 = true) (o2 : cg_ok q2 = true) (k1 : k ≤ n1) (k2 : k ≤ n2) (hb : n1 < 2147483648) (hw : Cond.methodLink own index arraycopyName ∈ Ts ∧ Cond.native arraycopyName ∈ Ts ∧ Cond.static arraycopyName ∈ Ts ∧ Cond.initialized "java/lang/System" ∈ Ts) (hr : 1 ≤ rm.frames ∧ 40 ≤ rm.locals) (d : decode cc pc = .ok (.invokestatic index, 3)) (K : cg_W E (cg_cp M q2 k b1 f1) (pc + 3) ls []) : cg_W E M pc ls [.inl (nI k), .inl (nI 0), .inr (.inr q2), .inl (nI 0), .inr (.inr q1)] := by
  obtain ⟨p, l, e, R, s, m, args, below, meth, c0, Q, g, A, cells, slots⟩ := E
  intro H locs la hH hS hl
  obtain ⟨i1, hi1, -⟩ := cg_wd_at (g := g) (M := M) o1
  obtain ⟨i2, hi2, hj2⟩ := cg_wd_at (g := g) (M := M) o2
  rw [cg_ce_a h1] at hi1
  rw [cg_ce_a h2] at hi2
  have ht := C.2.2.2.2.1
  have hR : R = rm := C.2.2.2.2.2.2.2.2.2.1
  have hk2 : k < 2 ^ 31 := by omega
  have e0 : (nI 0).toNatClampNeg = 0 := nI_clamp (by decide)
  refine va_copyi (D := g.1) (cl := vwCl) (rest := []) C.1 C.2.1 hl.1.symm C.2.2.2.1 (ht _ hw.1) (ht _ hw.2.1) (ht _ hw.2.2.1) (ht _ hw.2.2.2) C.2.2.2.2.2.1 (cg_wd_P hH) (cg_wd_D C.2.2.2.2.2.2.2.1 C.2.2.2.2.2.2.2.2.1) hS i1 i2 0 0 hi1 hi2 rfl rfl rfl (sp := nI 0) (dp := nI 0) (n := nI k) (by decide) (by decide) (nI_pos hk2) (by rw [e0, nI_clamp hk2]; omega) (by rw [e0, nI_clamp hk2]; omega) (fun _ _ => rfl) (by rw [hR]; exact hr.1) (by rw [hR]; have := hr.2; exact (show 0 + (5 + 2 + 11) ≤ rm.locals by omega)) d (fun H1 locs1 hP1 _ hS1 => K H1 locs1 la ?_ hS1 hl)
  obtain ⟨g1, g2⟩ := cg_wd_set hj2 hP1
  rw [e0, nI_clamp hk2] at g1
  intro r hr2
  by_cases hq : r = q2
  · subst hq
    rw [cg_ce_a h2]
    have e1 : va_at g.1 vwCl (g.2.2 r, .inl (g.2.1.1, n2, .inl (fun j => cg_cp M r k b1 f1 b2 (f2 j)))) H1 = va_at g.1 vwCl (g.2.2 r, .inl (g.2.1.1, n2, .inl (va_cpy (fun j => M b1 (f1 j)) (fun j => M b2 (f2 j)) 0 0 k))) H1 := by
      simp only [va_at, vp_cell_i]
      rw [cg_arrV (f := fun j => Value.int (cg_cp M r k b1 f1 b2 (f2 j))) (f' := fun j => Value.int (va_cpy (fun j => M b1 (f1 j)) (fun j => M b2 (f2 j)) 0 0 k j))]
      intro j hj
      unfold cg_cp va_cpy
      rw [cg_ow_ai o2 h2 hj]
      simp
    rw [e1]
    exact g1
  · refine cg_at_same (g2 r hr2 hq) (fun b' n f h j' hj => ?_) (fun c j' hc hj hn => ?_)
    · unfold cg_cp
      rw [if_neg]
      rw [cg_ow_ai hr2 h hj]
      exact fun z => hq z.1
    · unfold cg_cp
      rw [if_neg]
      rw [cg_ow_fi hr2 hc hj hn]
      exact fun z => hq z.1
end
