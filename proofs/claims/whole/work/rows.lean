section
-- ===== PART A: goes FIRST, ahead of the names: the tables' words, and 'selects' of the private methods out of them =====
/-- a private method of a class that the tables say can be made, by its rows of tables_1 -/
def lw_okq (q : MethodName × Nat) : Prop := (q.1.cls ≠ "java/lang/invoke/MethodHandle" ∧ q.1.cls ≠ "java/lang/invoke/VarHandle") ∧ Cond.instantiable q.1.cls q.2 ∈ tables_1 ∧ Cond.privateMethod q.1 ∈ tables_1 ∧ Cond.instanceMethod q.1 ∈ tables_1
theorem lw_p0 : lw_okq (⟨"MinedLedger", "forgetNonces", "()V"⟩, 14) := ⟨⟨by decide +kernel, by decide +kernel⟩, List.mem_of_getElem? (i := 10) (by decide +kernel), List.mem_of_getElem? (i := 98) (by decide +kernel), List.mem_of_getElem? (i := 99) (by decide +kernel)⟩
theorem lw_p1 : lw_okq (⟨"MinedLedger", "clearWordsFrom", "(I)V"⟩, 14) := ⟨⟨by decide +kernel, by decide +kernel⟩, List.mem_of_getElem? (i := 10) (by decide +kernel), List.mem_of_getElem? (i := 106) (by decide +kernel), List.mem_of_getElem? (i := 107) (by decide +kernel)⟩
theorem lw_p2 : lw_okq (⟨"MinedLedger", "fillDraft", "()V"⟩, 14) := ⟨⟨by decide +kernel, by decide +kernel⟩, List.mem_of_getElem? (i := 10) (by decide +kernel), List.mem_of_getElem? (i := 129) (by decide +kernel), List.mem_of_getElem? (i := 130) (by decide +kernel)⟩
theorem lw_p3 : lw_okq (⟨"MinedLedger", "copyHashOf", "(II)V"⟩, 14) := ⟨⟨by decide +kernel, by decide +kernel⟩, List.mem_of_getElem? (i := 10) (by decide +kernel), List.mem_of_getElem? (i := 133) (by decide +kernel), List.mem_of_getElem? (i := 134) (by decide +kernel)⟩
theorem lw_p4 : lw_okq (⟨"MinedLedger", "hasEntry", "(I)Z"⟩, 14) := ⟨⟨by decide +kernel, by decide +kernel⟩, List.mem_of_getElem? (i := 10) (by decide +kernel), List.mem_of_getElem? (i := 137) (by decide +kernel), List.mem_of_getElem? (i := 138) (by decide +kernel)⟩
theorem lw_p5 : lw_okq (⟨"MinedLedger", "tryNonces", "(I)V"⟩, 14) := ⟨⟨by decide +kernel, by decide +kernel⟩, List.mem_of_getElem? (i := 10) (by decide +kernel), List.mem_of_getElem? (i := 147) (by decide +kernel), List.mem_of_getElem? (i := 148) (by decide +kernel)⟩
theorem lw_p6 : lw_okq (⟨"MinedLedger$Hasher", "mixInto", "([I)V"⟩, 3) := ⟨⟨by decide +kernel, by decide +kernel⟩, List.mem_of_getElem? (i := 18) (by decide +kernel), List.mem_of_getElem? (i := 158) (by decide +kernel), List.mem_of_getElem? (i := 159) (by decide +kernel)⟩
theorem lw_p7 : lw_okq (⟨"MinedLedger$Hasher", "spread", "()V"⟩, 3) := ⟨⟨by decide +kernel, by decide +kernel⟩, List.mem_of_getElem? (i := 18) (by decide +kernel), List.mem_of_getElem? (i := 162) (by decide +kernel), List.mem_of_getElem? (i := 163) (by decide +kernel)⟩
theorem lw_p8 : lw_okq (⟨"MinedLedger", "addToFilter", "(I)V"⟩, 14) := ⟨⟨by decide +kernel, by decide +kernel⟩, List.mem_of_getElem? (i := 10) (by decide +kernel), List.mem_of_getElem? (i := 197) (by decide +kernel), List.mem_of_getElem? (i := 198) (by decide +kernel)⟩
theorem lw_p9 : lw_okq (⟨"MinedLedger", "hasCell", "(II)Z"⟩, 14) := ⟨⟨by decide +kernel, by decide +kernel⟩, List.mem_of_getElem? (i := 10) (by decide +kernel), List.mem_of_getElem? (i := 230) (by decide +kernel), List.mem_of_getElem? (i := 231) (by decide +kernel)⟩
theorem lw_p10 : lw_okq (⟨"MinedLedger", "remakeFilter", "()V"⟩, 14) := ⟨⟨by decide +kernel, by decide +kernel⟩, List.mem_of_getElem? (i := 10) (by decide +kernel), List.mem_of_getElem? (i := 242) (by decide +kernel), List.mem_of_getElem? (i := 243) (by decide +kernel)⟩
theorem lw_p11 : lw_okq (⟨"MinedLedger", "hasWord", "(II)Z"⟩, 14) := ⟨⟨by decide +kernel, by decide +kernel⟩, List.mem_of_getElem? (i := 10) (by decide +kernel), List.mem_of_getElem? (i := 265) (by decide +kernel), List.mem_of_getElem? (i := 266) (by decide +kernel)⟩
theorem lw_p12 : lw_okq (⟨"MinedLedger", "auditHead", "()I"⟩, 14) := ⟨⟨by decide +kernel, by decide +kernel⟩, List.mem_of_getElem? (i := 10) (by decide +kernel), List.mem_of_getElem? (i := 282) (by decide +kernel), List.mem_of_getElem? (i := 283) (by decide +kernel)⟩
theorem lw_p13 : lw_okq (⟨"MinedLedger", "isHashOf", "(I[II)Z"⟩, 14) := ⟨⟨by decide +kernel, by decide +kernel⟩, List.mem_of_getElem? (i := 10) (by decide +kernel), List.mem_of_getElem? (i := 286) (by decide +kernel), List.mem_of_getElem? (i := 287) (by decide +kernel)⟩
theorem lw_p14 : lw_okq (⟨"MinedLedger", "faultOf", "(I)I"⟩, 14) := ⟨⟨by decide +kernel, by decide +kernel⟩, List.mem_of_getElem? (i := 10) (by decide +kernel), List.mem_of_getElem? (i := 290) (by decide +kernel), List.mem_of_getElem? (i := 291) (by decide +kernel)⟩
theorem lw_p15 : lw_okq (⟨"MinedLedger", "levelsTo", "(I)I"⟩, 14) := ⟨⟨by decide +kernel, by decide +kernel⟩, List.mem_of_getElem? (i := 10) (by decide +kernel), List.mem_of_getElem? (i := 312) (by decide +kernel), List.mem_of_getElem? (i := 313) (by decide +kernel)⟩
def lw_privs_1 : List (MethodName × Nat) := [(⟨"MinedLedger", "forgetNonces", "()V"⟩, 14), (⟨"MinedLedger", "clearWordsFrom", "(I)V"⟩, 14), (⟨"MinedLedger", "fillDraft", "()V"⟩, 14), (⟨"MinedLedger", "copyHashOf", "(II)V"⟩, 14), (⟨"MinedLedger", "hasEntry", "(I)Z"⟩, 14), (⟨"MinedLedger", "tryNonces", "(I)V"⟩, 14), (⟨"MinedLedger$Hasher", "mixInto", "([I)V"⟩, 3), (⟨"MinedLedger$Hasher", "spread", "()V"⟩, 3), (⟨"MinedLedger", "addToFilter", "(I)V"⟩, 14), (⟨"MinedLedger", "hasCell", "(II)Z"⟩, 14), (⟨"MinedLedger", "remakeFilter", "()V"⟩, 14), (⟨"MinedLedger", "hasWord", "(II)Z"⟩, 14), (⟨"MinedLedger", "auditHead", "()I"⟩, 14), (⟨"MinedLedger", "isHashOf", "(I[II)Z"⟩, 14), (⟨"MinedLedger", "faultOf", "(I)I"⟩, 14), (⟨"MinedLedger", "levelsTo", "(I)I"⟩, 14)]
theorem lw_r1 : ∀ q ∈ lw_privs_1, lw_okq q := List.forall_mem_cons.mpr ⟨lw_p0, List.forall_mem_cons.mpr ⟨lw_p1, List.forall_mem_cons.mpr ⟨lw_p2, List.forall_mem_cons.mpr ⟨lw_p3, List.forall_mem_cons.mpr ⟨lw_p4, List.forall_mem_cons.mpr ⟨lw_p5, List.forall_mem_cons.mpr ⟨lw_p6, List.forall_mem_cons.mpr ⟨lw_p7, List.forall_mem_cons.mpr ⟨lw_p8, List.forall_mem_cons.mpr ⟨lw_p9, List.forall_mem_cons.mpr ⟨lw_p10, List.forall_mem_cons.mpr ⟨lw_p11, List.forall_mem_cons.mpr ⟨lw_p12, List.forall_mem_cons.mpr ⟨lw_p13, List.forall_mem_cons.mpr ⟨lw_p14, List.forall_mem_cons.mpr ⟨lw_p15, fun _ h => absurd h List.not_mem_nil⟩⟩⟩⟩⟩⟩⟩⟩⟩⟩⟩⟩⟩⟩⟩⟩
theorem lw_p16 : lw_okq (⟨"MinedLedger", "proofHolds", "(I)Z"⟩, 14) := ⟨⟨by decide +kernel, by decide +kernel⟩, List.mem_of_getElem? (i := 10) (by decide +kernel), List.mem_of_getElem? (i := 338) (by decide +kernel), List.mem_of_getElem? (i := 339) (by decide +kernel)⟩
theorem lw_p17 : lw_okq (⟨"MinedLedgerModel", "firstHalf", "()V"⟩, 19) := ⟨⟨by decide +kernel, by decide +kernel⟩, List.mem_of_getElem? (i := 345) (by decide +kernel), List.mem_of_getElem? (i := 359) (by decide +kernel), List.mem_of_getElem? (i := 360) (by decide +kernel)⟩
theorem lw_p18 : lw_okq (⟨"MinedLedgerModel", "secondHalf", "()V"⟩, 19) := ⟨⟨by decide +kernel, by decide +kernel⟩, List.mem_of_getElem? (i := 345) (by decide +kernel), List.mem_of_getElem? (i := 395) (by decide +kernel), List.mem_of_getElem? (i := 396) (by decide +kernel)⟩
theorem lw_p19 : lw_okq (⟨"MinedLedgerModel", "forget", "()V"⟩, 19) := ⟨⟨by decide +kernel, by decide +kernel⟩, List.mem_of_getElem? (i := 345) (by decide +kernel), List.mem_of_getElem? (i := 494) (by decide +kernel), List.mem_of_getElem? (i := 495) (by decide +kernel)⟩
theorem lw_p20 : lw_okq (⟨"MinedLedgerModel", "draft", "()V"⟩, 19) := ⟨⟨by decide +kernel, by decide +kernel⟩, List.mem_of_getElem? (i := 345) (by decide +kernel), List.mem_of_getElem? (i := 515) (by decide +kernel), List.mem_of_getElem? (i := 516) (by decide +kernel)⟩
theorem lw_p21 : lw_okq (⟨"MinedLedgerModel", "hashCell", "(II)I"⟩, 19) := ⟨⟨by decide +kernel, by decide +kernel⟩, List.mem_of_getElem? (i := 345) (by decide +kernel), List.mem_of_getElem? (i := 519) (by decide +kernel), List.mem_of_getElem? (i := 520) (by decide +kernel)⟩
theorem lw_p22 : lw_okq (⟨"MinedLedgerModel", "mixFirst", "()V"⟩, 19) := ⟨⟨by decide +kernel, by decide +kernel⟩, List.mem_of_getElem? (i := 345) (by decide +kernel), List.mem_of_getElem? (i := 526) (by decide +kernel), List.mem_of_getElem? (i := 527) (by decide +kernel)⟩
theorem lw_p23 : lw_okq (⟨"MinedLedgerModel", "mix", "()V"⟩, 19) := ⟨⟨by decide +kernel, by decide +kernel⟩, List.mem_of_getElem? (i := 345) (by decide +kernel), List.mem_of_getElem? (i := 530) (by decide +kernel), List.mem_of_getElem? (i := 531) (by decide +kernel)⟩
theorem lw_p24 : lw_okq (⟨"MinedLedgerModel", "mixSecond", "()V"⟩, 19) := ⟨⟨by decide +kernel, by decide +kernel⟩, List.mem_of_getElem? (i := 345) (by decide +kernel), List.mem_of_getElem? (i := 537) (by decide +kernel), List.mem_of_getElem? (i := 538) (by decide +kernel)⟩
theorem lw_p25 : lw_okq (⟨"MinedLedgerModel", "zeros", "()I"⟩, 19) := ⟨⟨by decide +kernel, by decide +kernel⟩, List.mem_of_getElem? (i := 345) (by decide +kernel), List.mem_of_getElem? (i := 542) (by decide +kernel), List.mem_of_getElem? (i := 543) (by decide +kernel)⟩
theorem lw_p26 : lw_okq (⟨"MinedLedgerModel", "setBits", "(I)V"⟩, 19) := ⟨⟨by decide +kernel, by decide +kernel⟩, List.mem_of_getElem? (i := 345) (by decide +kernel), List.mem_of_getElem? (i := 557) (by decide +kernel), List.mem_of_getElem? (i := 558) (by decide +kernel)⟩
theorem lw_p27 : lw_okq (⟨"MinedLedgerModel", "bit", "(II)I"⟩, 19) := ⟨⟨by decide +kernel, by decide +kernel⟩, List.mem_of_getElem? (i := 345) (by decide +kernel), List.mem_of_getElem? (i := 561) (by decide +kernel), List.mem_of_getElem? (i := 562) (by decide +kernel)⟩
theorem lw_p28 : lw_okq (⟨"MinedLedgerModel", "isCell", "(II)Z"⟩, 19) := ⟨⟨by decide +kernel, by decide +kernel⟩, List.mem_of_getElem? (i := 345) (by decide +kernel), List.mem_of_getElem? (i := 587) (by decide +kernel), List.mem_of_getElem? (i := 588) (by decide +kernel)⟩
theorem lw_p29 : lw_okq (⟨"MinedLedgerModel", "maybe", "(I)Z"⟩, 19) := ⟨⟨by decide +kernel, by decide +kernel⟩, List.mem_of_getElem? (i := 345) (by decide +kernel), List.mem_of_getElem? (i := 604) (by decide +kernel), List.mem_of_getElem? (i := 605) (by decide +kernel)⟩
theorem lw_p30 : lw_okq (⟨"MinedLedgerModel", "faultOf", "(I)I"⟩, 19) := ⟨⟨by decide +kernel, by decide +kernel⟩, List.mem_of_getElem? (i := 345) (by decide +kernel), List.mem_of_getElem? (i := 620) (by decide +kernel), List.mem_of_getElem? (i := 621) (by decide +kernel)⟩
theorem lw_p31 : lw_okq (⟨"MinedLedgerModel", "isHashOf", "(II)Z"⟩, 19) := ⟨⟨by decide +kernel, by decide +kernel⟩, List.mem_of_getElem? (i := 345) (by decide +kernel), List.mem_of_getElem? (i := 624) (by decide +kernel), List.mem_of_getElem? (i := 625) (by decide +kernel)⟩
def lw_privs_2 : List (MethodName × Nat) := [(⟨"MinedLedger", "proofHolds", "(I)Z"⟩, 14), (⟨"MinedLedgerModel", "firstHalf", "()V"⟩, 19), (⟨"MinedLedgerModel", "secondHalf", "()V"⟩, 19), (⟨"MinedLedgerModel", "forget", "()V"⟩, 19), (⟨"MinedLedgerModel", "draft", "()V"⟩, 19), (⟨"MinedLedgerModel", "hashCell", "(II)I"⟩, 19), (⟨"MinedLedgerModel", "mixFirst", "()V"⟩, 19), (⟨"MinedLedgerModel", "mix", "()V"⟩, 19), (⟨"MinedLedgerModel", "mixSecond", "()V"⟩, 19), (⟨"MinedLedgerModel", "zeros", "()I"⟩, 19), (⟨"MinedLedgerModel", "setBits", "(I)V"⟩, 19), (⟨"MinedLedgerModel", "bit", "(II)I"⟩, 19), (⟨"MinedLedgerModel", "isCell", "(II)Z"⟩, 19), (⟨"MinedLedgerModel", "maybe", "(I)Z"⟩, 19), (⟨"MinedLedgerModel", "faultOf", "(I)I"⟩, 19), (⟨"MinedLedgerModel", "isHashOf", "(II)Z"⟩, 19)]
theorem lw_r2 : ∀ q ∈ lw_privs_2, lw_okq q := List.forall_mem_cons.mpr ⟨lw_p16, List.forall_mem_cons.mpr ⟨lw_p17, List.forall_mem_cons.mpr ⟨lw_p18, List.forall_mem_cons.mpr ⟨lw_p19, List.forall_mem_cons.mpr ⟨lw_p20, List.forall_mem_cons.mpr ⟨lw_p21, List.forall_mem_cons.mpr ⟨lw_p22, List.forall_mem_cons.mpr ⟨lw_p23, List.forall_mem_cons.mpr ⟨lw_p24, List.forall_mem_cons.mpr ⟨lw_p25, List.forall_mem_cons.mpr ⟨lw_p26, List.forall_mem_cons.mpr ⟨lw_p27, List.forall_mem_cons.mpr ⟨lw_p28, List.forall_mem_cons.mpr ⟨lw_p29, List.forall_mem_cons.mpr ⟨lw_p30, List.forall_mem_cons.mpr ⟨lw_p31, fun _ h => absurd h List.not_mem_nil⟩⟩⟩⟩⟩⟩⟩⟩⟩⟩⟩⟩⟩⟩⟩⟩
theorem lw_p32 : lw_okq (⟨"MinedLedgerModel", "isHeadRight", "()Z"⟩, 19) := ⟨⟨by decide +kernel, by decide +kernel⟩, List.mem_of_getElem? (i := 345) (by decide +kernel), List.mem_of_getElem? (i := 628) (by decide +kernel), List.mem_of_getElem? (i := 629) (by decide +kernel)⟩
theorem lw_p33 : lw_okq (⟨"MinedLedgerModel", "next", "(II)I"⟩, 19) := ⟨⟨by decide +kernel, by decide +kernel⟩, List.mem_of_getElem? (i := 345) (by decide +kernel), List.mem_of_getElem? (i := 640) (by decide +kernel), List.mem_of_getElem? (i := 641) (by decide +kernel)⟩
def lw_privs_3 : List (MethodName × Nat) := [(⟨"MinedLedgerModel", "isHeadRight", "()Z"⟩, 19), (⟨"MinedLedgerModel", "next", "(II)I"⟩, 19)]
theorem lw_r3 : ∀ q ∈ lw_privs_3, lw_okq q := List.forall_mem_cons.mpr ⟨lw_p32, List.forall_mem_cons.mpr ⟨lw_p33, fun _ h => absurd h List.not_mem_nil⟩⟩
def lw_privs : List (MethodName × Nat) := lw_privs_1 ++ (lw_privs_2 ++ (lw_privs_3))
def lw_tbl : List Cond := k2_sels lw_privs ++ tables_1
theorem lw_privs_ok : ∀ q ∈ lw_privs, lw_okq q := by
  show ∀ q ∈ lw_privs_1 ++ (lw_privs_2 ++ (lw_privs_3)), lw_okq q
  exact List.forall_mem_append.mpr ⟨lw_r1, List.forall_mem_append.mpr ⟨lw_r2, lw_r3⟩⟩
end
section
/-! ===== BEGIN words of one list among another's, by their places ===== -/
theorem goodIn_r {big : List Cond} (ws : List Cond) (ps : List Nat) (hp : ws = ps.filterMap (fun i => big[i]?)) (h : ws.all goodWord = true) : GoodIn big ws := by
  intro w hw
  have h1 := List.all_eq_true.mp h w hw
  rw [hp] at hw
  obtain ⟨i, -, hi⟩ := List.mem_filterMap.mp hw
  have hm : w ∈ big := by first | exact List.mem_of_getElem? hi | exact List.getElem?_mem hi
  exact ⟨hm, good_of_word h1⟩
theorem goodIn_app {big a b : List Cond} (ha : GoodIn big a) (hb : GoodIn big b) : GoodIn big (a ++ b) := fun w h => (List.mem_append.mp h).elim (ha w) (hb w)
theorem goodIn_ca {big a b : List Cond} {c : Cond} (ha : GoodIn big (c :: a)) (hb : GoodIn big b) : GoodIn big (c :: (a ++ b)) := fun w h => (List.mem_cons.mp h).elim (fun e => ha w (List.mem_cons.mpr (Or.inl e))) (fun h => (List.mem_append.mp h).elim (fun h => ha w (List.mem_cons.mpr (Or.inr h))) (hb w))
theorem goodIn_sub {big ws : List Cond} (hm : ∀ w ∈ ws, w ∈ big) (h : ws.all goodWord = true) : GoodIn big ws := fun w hw => ⟨hm w hw, good_of_word (List.all_eq_true.mp h w hw)⟩
/-! ===== END ===== -/

/-! ===== BEGIN printed: names, fields, word lists, decode rows ===== -/
def RX0 : String := "MinedLedger$Filter"
def TX0 : u_T := fun k => match k with
  | _ => ("MinedLedger$Filter", "bits", "[I", true)
def tyX0 : Nat → FieldType := fun k => match k with
  | _ => .array .int
abbrev wsX00 : List Cond := u_ws RX0 TX0 1
theorem nmX0 : ∀ a, a < 1 → ∀ b, b < 1 → a ≠ b → (TX0 a).2.1 ≠ (TX0 b).2.1 := by decide +kernel
theorem tyX0_ok : ∀ k, k < 1 → parseFieldDescriptor (TX0 k).2.2.1 = some (tyX0 k) := by decide +kernel
abbrev cX0_init : ByteArray := prog_2_method_1_code
def yX0_init : MethodName := ⟨RX0, "<init>", "()V"⟩
abbrev cX0_clear : ByteArray := prog_2_method_2_code
def yX0_clear : MethodName := ⟨RX0, "clear", "()V"⟩
abbrev cX0_include : ByteArray := prog_2_method_3_code
def yX0_include : MethodName := ⟨RX0, "include", "(I)V"⟩
abbrev cX0_mayHave : ByteArray := prog_2_method_4_code
def yX0_mayHave : MethodName := ⟨RX0, "mayHave", "(I)Z"⟩
abbrev cX0_bitOf : ByteArray := prog_2_method_5_code
def yX0_bitOf : MethodName := ⟨RX0, "bitOf", "(II)I"⟩
abbrev cX0_stirred : ByteArray := prog_2_method_6_code
def yX0_stirred : MethodName := ⟨RX0, "stirred", "(II)I"⟩
def RX1 : String := "MinedLedger$Hasher"
def TX1 : u_T := fun k => match k with
  | 0 => ("MinedLedger$Hasher", "middle", "[I", true)
  | 1 => ("MinedLedger$Hasher", "hash", "[I", true)
  | _ => ("MinedLedger$Hasher", "w", "[I", true)
def tyX1 : Nat → FieldType := fun k => match k with
  | 0 => .array .int
  | 1 => .array .int
  | _ => .array .int
abbrev wsX10 : List Cond := u_ws RX1 TX1 3
theorem nmX1 : ∀ a, a < 3 → ∀ b, b < 3 → a ≠ b → (TX1 a).2.1 ≠ (TX1 b).2.1 := by decide +kernel
theorem tyX1_ok : ∀ k, k < 3 → parseFieldDescriptor (TX1 k).2.2.1 = some (tyX1 k) := by decide +kernel
abbrev cX1_init : ByteArray := prog_3_method_1_code
def yX1_init : MethodName := ⟨RX1, "<init>", "()V"⟩
abbrev cX1_takeAll : ByteArray := prog_3_method_2_code
def yX1_takeAll : MethodName := ⟨RX1, "takeAll", "([II)V"⟩
abbrev cX1_takeFirst : ByteArray := prog_3_method_3_code
def yX1_takeFirst : MethodName := ⟨RX1, "takeFirst", "([II)V"⟩
abbrev cX1_takeRest : ByteArray := prog_3_method_4_code
def yX1_takeRest : MethodName := ⟨RX1, "takeRest", "([II)V"⟩
abbrev cX1_isAt : ByteArray := prog_3_method_5_code
def yX1_isAt : MethodName := ⟨RX1, "isAt", "([II)Z"⟩
abbrev cX1_copyTo : ByteArray := prog_3_method_6_code
def yX1_copyTo : MethodName := ⟨RX1, "copyTo", "([II)V"⟩
abbrev cX1_zeros : ByteArray := prog_3_method_7_code
def yX1_zeros : MethodName := ⟨RX1, "zeros", "()I"⟩
abbrev cX1_mixInto : ByteArray := prog_3_method_8_code
def yX1_mixInto : MethodName := ⟨RX1, "mixInto", "([I)V"⟩
abbrev cX1_spread : ByteArray := prog_3_method_9_code
def yX1_spread : MethodName := ⟨RX1, "spread", "()V"⟩
def RX2 : String := "MinedLedger"
def TX2 : u_T := fun k => match k with
  | 0 => ("MinedLedger", "hasher", "LMinedLedger$Hasher;", true)
  | 1 => ("MinedLedger", "filter", "LMinedLedger$Filter;", true)
  | 2 => ("MinedLedger", "cells", "[I", true)
  | 3 => ("MinedLedger", "headWords", "[I", true)
  | 4 => ("MinedLedger", "draft", "[I", true)
  | 5 => ("MinedLedger", "proofWords", "[I", true)
  | 6 => ("MinedLedger", "entryCount", "I", false)
  | 7 => ("MinedLedger", "wordCount", "I", false)
  | 8 => ("MinedLedger", "zerosAsked", "I", false)
  | 9 => ("MinedLedger", "triedCount", "I", false)
  | 10 => ("MinedLedger", "keptNonce", "I", false)
  | 11 => ("MinedLedger", "place", "I", false)
  | 12 => ("MinedLedger", "latestFault", "I", false)
  | _ => ("MinedLedger", "proofLength", "I", false)
def tyX2 : Nat → FieldType := fun k => match k with
  | 0 => .object "MinedLedger$Hasher"
  | 1 => .object "MinedLedger$Filter"
  | 2 => .array .int
  | 3 => .array .int
  | 4 => .array .int
  | 5 => .array .int
  | 6 => .int
  | 7 => .int
  | 8 => .int
  | 9 => .int
  | 10 => .int
  | 11 => .int
  | 12 => .int
  | _ => .int
abbrev wsX20 : List Cond := u_ws RX2 TX2 14
theorem nmX2 : ∀ a, a < 14 → ∀ b, b < 14 → a ≠ b → (TX2 a).2.1 ≠ (TX2 b).2.1 := by decide +kernel
theorem tyX2_ok : ∀ k, k < 14 → parseFieldDescriptor (TX2 k).2.2.1 = some (tyX2 k) := by decide +kernel
abbrev cX2_init : ByteArray := prog_1_method_1_code
def yX2_init : MethodName := ⟨RX2, "<init>", "(I)V"⟩
abbrev cX2_put : ByteArray := prog_1_method_2_code
def yX2_put : MethodName := ⟨RX2, "put", "(I)I"⟩
abbrev cX2_takeBack : ByteArray := prog_1_method_3_code
def yX2_takeBack : MethodName := ⟨RX2, "takeBack", "(I)I"⟩
abbrev cX2_pending : ByteArray := prog_1_method_4_code
def yX2_pending : MethodName := ⟨RX2, "pending", "(I)I"⟩
abbrev cX2_difficulty : ByteArray := prog_1_method_5_code
def yX2_difficulty : MethodName := ⟨RX2, "difficulty", "(I)I"⟩
abbrev cX2_mine : ByteArray := prog_1_method_6_code
def yX2_mine : MethodName := ⟨RX2, "mine", "(I)I"⟩
abbrev cX2_tried : ByteArray := prog_1_method_7_code
def yX2_tried : MethodName := ⟨RX2, "tried", "()I"⟩
abbrev cX2_commit : ByteArray := prog_1_method_8_code
def yX2_commit : MethodName := ⟨RX2, "commit", "()I"⟩
abbrev cX2_clearWordsFrom : ByteArray := prog_1_method_9_code
def yX2_clearWordsFrom : MethodName := ⟨RX2, "clearWordsFrom", "(I)V"⟩
abbrev cX2_forgetNonces : ByteArray := prog_1_method_10_code
def yX2_forgetNonces : MethodName := ⟨RX2, "forgetNonces", "()V"⟩
abbrev cX2_fillDraft : ByteArray := prog_1_method_11_code
def yX2_fillDraft : MethodName := ⟨RX2, "fillDraft", "()V"⟩
abbrev cX2_copyHashOf : ByteArray := prog_1_method_12_code
def yX2_copyHashOf : MethodName := ⟨RX2, "copyHashOf", "(II)V"⟩
abbrev cX2_tryNonces : ByteArray := prog_1_method_13_code
def yX2_tryNonces : MethodName := ⟨RX2, "tryNonces", "(I)V"⟩
abbrev cX2_count : ByteArray := prog_1_method_14_code
def yX2_count : MethodName := ⟨RX2, "count", "()I"⟩
abbrev cX2_head : ByteArray := prog_1_method_15_code
def yX2_head : MethodName := ⟨RX2, "head", "(I)I"⟩
abbrev cX2_cell : ByteArray := prog_1_method_16_code
def yX2_cell : MethodName := ⟨RX2, "cell", "(II)I"⟩
abbrev cX2_spoil : ByteArray := prog_1_method_17_code
def yX2_spoil : MethodName := ⟨RX2, "spoil", "(III)I"⟩
abbrev cX2_drop : ByteArray := prog_1_method_18_code
def yX2_drop : MethodName := ⟨RX2, "drop", "()I"⟩
abbrev cX2_hasEntry : ByteArray := prog_1_method_19_code
def yX2_hasEntry : MethodName := ⟨RX2, "hasEntry", "(I)Z"⟩
abbrev cX2_hasCell : ByteArray := prog_1_method_20_code
def yX2_hasCell : MethodName := ⟨RX2, "hasCell", "(II)Z"⟩
abbrev cX2_skipOf : ByteArray := prog_1_method_21_code
def yX2_skipOf : MethodName := ⟨RX2, "skipOf", "(I)I"⟩
abbrev cX2_may : ByteArray := prog_1_method_22_code
def yX2_may : MethodName := ⟨RX2, "may", "(I)I"⟩
abbrev cX2_find : ByteArray := prog_1_method_23_code
def yX2_find : MethodName := ⟨RX2, "find", "(I)I"⟩
abbrev cX2_stir : ByteArray := prog_1_method_24_code
def yX2_stir : MethodName := ⟨RX2, "stir", "(II)I"⟩
abbrev cX2_hasWord : ByteArray := prog_1_method_25_code
def yX2_hasWord : MethodName := ⟨RX2, "hasWord", "(II)Z"⟩
abbrev cX2_addToFilter : ByteArray := prog_1_method_26_code
def yX2_addToFilter : MethodName := ⟨RX2, "addToFilter", "(I)V"⟩
abbrev cX2_remakeFilter : ByteArray := prog_1_method_27_code
def yX2_remakeFilter : MethodName := ⟨RX2, "remakeFilter", "()V"⟩
abbrev cX2_begin : ByteArray := prog_1_method_28_code
def yX2_begin : MethodName := ⟨RX2, "begin", "()I"⟩
abbrev cX2_audit : ByteArray := prog_1_method_29_code
def yX2_audit : MethodName := ⟨RX2, "audit", "(I)I"⟩
abbrev cX2_fault : ByteArray := prog_1_method_30_code
def yX2_fault : MethodName := ⟨RX2, "fault", "()I"⟩
abbrev cX2_auditHead : ByteArray := prog_1_method_31_code
def yX2_auditHead : MethodName := ⟨RX2, "auditHead", "()I"⟩
abbrev cX2_faultOf : ByteArray := prog_1_method_32_code
def yX2_faultOf : MethodName := ⟨RX2, "faultOf", "(I)I"⟩
abbrev cX2_isHashOf : ByteArray := prog_1_method_33_code
def yX2_isHashOf : MethodName := ⟨RX2, "isHashOf", "(I[II)Z"⟩
abbrev cX2_way : ByteArray := prog_1_method_34_code
def yX2_way : MethodName := ⟨RX2, "way", "(II)I"⟩
abbrev cX2_prove : ByteArray := prog_1_method_35_code
def yX2_prove : MethodName := ⟨RX2, "prove", "(I)I"⟩
abbrev cX2_proof : ByteArray := prog_1_method_36_code
def yX2_proof : MethodName := ⟨RX2, "proof", "(I)I"⟩
abbrev cX2_forge : ByteArray := prog_1_method_37_code
def yX2_forge : MethodName := ⟨RX2, "forge", "(II)I"⟩
abbrev cX2_check : ByteArray := prog_1_method_38_code
def yX2_check : MethodName := ⟨RX2, "check", "(I)I"⟩
abbrev cX2_proofHolds : ByteArray := prog_1_method_39_code
def yX2_proofHolds : MethodName := ⟨RX2, "proofHolds", "(I)Z"⟩
abbrev cX2_levelsTo : ByteArray := prog_1_method_40_code
def yX2_levelsTo : MethodName := ⟨RX2, "levelsTo", "(I)I"⟩
abbrev cX2_nextOnWay : ByteArray := prog_1_method_41_code
def yX2_nextOnWay : MethodName := ⟨RX2, "nextOnWay", "(II)I"⟩
abbrev cX2_goesBySkip : ByteArray := prog_1_method_42_code
def yX2_goesBySkip : MethodName := ⟨RX2, "goesBySkip", "(II)Z"⟩
abbrev cX2_right : ByteArray := prog_1_method_43_code
def yX2_right : MethodName := ⟨RX2, "right", "(II)I"⟩
def RX3 : String := "MinedLedgerModel"
def TX3 : u_T := fun k => match k with
  | 0 => ("MinedLedgerModel", "cells", "[I", true)
  | 1 => ("MinedLedgerModel", "count", "I", false)
  | 2 => ("MinedLedgerModel", "head", "[I", true)
  | 3 => ("MinedLedgerModel", "words", "[I", true)
  | 4 => ("MinedLedgerModel", "wordCount", "I", false)
  | 5 => ("MinedLedgerModel", "difficulty", "I", false)
  | 6 => ("MinedLedgerModel", "tried", "I", false)
  | 7 => ("MinedLedgerModel", "kept", "I", false)
  | 8 => ("MinedLedgerModel", "filter", "[Z", true)
  | 9 => ("MinedLedgerModel", "place", "I", false)
  | 10 => ("MinedLedgerModel", "fault", "I", false)
  | 11 => ("MinedLedgerModel", "proof", "[I", true)
  | 12 => ("MinedLedgerModel", "proofSize", "I", false)
  | 13 => ("MinedLedgerModel", "add", "[I", true)
  | 14 => ("MinedLedgerModel", "begun", "[I", true)
  | 15 => ("MinedLedgerModel", "h", "[I", true)
  | 16 => ("MinedLedgerModel", "half", "[I", true)
  | 17 => ("MinedLedgerModel", "w", "[I", true)
  | _ => ("MinedLedgerModel", "entry", "[I", true)
def tyX3 : Nat → FieldType := fun k => match k with
  | 0 => .array .int
  | 1 => .int
  | 2 => .array .int
  | 3 => .array .int
  | 4 => .int
  | 5 => .int
  | 6 => .int
  | 7 => .int
  | 8 => .array .boolean
  | 9 => .int
  | 10 => .int
  | 11 => .array .int
  | 12 => .int
  | 13 => .array .int
  | 14 => .array .int
  | 15 => .array .int
  | 16 => .array .int
  | 17 => .array .int
  | _ => .array .int
abbrev wsX30 : List Cond := u_ws RX3 TX3 19
theorem nmX3 : ∀ a, a < 19 → ∀ b, b < 19 → a ≠ b → (TX3 a).2.1 ≠ (TX3 b).2.1 := by decide +kernel
theorem tyX3_ok : ∀ k, k < 19 → parseFieldDescriptor (TX3 k).2.2.1 = some (tyX3 k) := by decide +kernel
abbrev cX3_init : ByteArray := prog_5_method_1_code
def yX3_init : MethodName := ⟨RX3, "<init>", "(I)V"⟩
abbrev cX3_firstHalf : ByteArray := prog_5_method_2_code
def yX3_firstHalf : MethodName := ⟨RX3, "firstHalf", "()V"⟩
abbrev cX3_secondHalf : ByteArray := prog_5_method_3_code
def yX3_secondHalf : MethodName := ⟨RX3, "secondHalf", "()V"⟩
abbrev cX3_turned : ByteArray := prog_5_method_4_code
def yX3_turned : MethodName := ⟨RX3, "turned", "(II)I"⟩
abbrev cX3_mix : ByteArray := prog_5_method_5_code
def yX3_mix : MethodName := ⟨RX3, "mix", "()V"⟩
abbrev cX3_mixFirst : ByteArray := prog_5_method_6_code
def yX3_mixFirst : MethodName := ⟨RX3, "mixFirst", "()V"⟩
abbrev cX3_mixSecond : ByteArray := prog_5_method_7_code
def yX3_mixSecond : MethodName := ⟨RX3, "mixSecond", "()V"⟩
abbrev cX3_zerosOf : ByteArray := prog_5_method_8_code
def yX3_zerosOf : MethodName := ⟨RX3, "zerosOf", "(I)I"⟩
abbrev cX3_zeros : ByteArray := prog_5_method_9_code
def yX3_zeros : MethodName := ⟨RX3, "zeros", "()I"⟩
abbrev cX3_lowest : ByteArray := prog_5_method_10_code
def yX3_lowest : MethodName := ⟨RX3, "lowest", "(I)I"⟩
abbrev cX3_hashCell : ByteArray := prog_5_method_11_code
def yX3_hashCell : MethodName := ⟨RX3, "hashCell", "(II)I"⟩
abbrev cX3_draft : ByteArray := prog_5_method_12_code
def yX3_draft : MethodName := ⟨RX3, "draft", "()V"⟩
abbrev cX3_forget : ByteArray := prog_5_method_13_code
def yX3_forget : MethodName := ⟨RX3, "forget", "()V"⟩
abbrev cX3_put : ByteArray := prog_5_method_14_code
def yX3_put : MethodName := ⟨RX3, "put", "(I)I"⟩
abbrev cX3_takeBack : ByteArray := prog_5_method_15_code
def yX3_takeBack : MethodName := ⟨RX3, "takeBack", "(I)I"⟩
abbrev cX3_pending : ByteArray := prog_5_method_16_code
def yX3_pending : MethodName := ⟨RX3, "pending", "(I)I"⟩
abbrev cX3_difficulty : ByteArray := prog_5_method_17_code
def yX3_difficulty : MethodName := ⟨RX3, "difficulty", "(I)I"⟩
abbrev cX3_mine : ByteArray := prog_5_method_18_code
def yX3_mine : MethodName := ⟨RX3, "mine", "(I)I"⟩
abbrev cX3_tried : ByteArray := prog_5_method_19_code
def yX3_tried : MethodName := ⟨RX3, "tried", "()I"⟩
abbrev cX3_commit : ByteArray := prog_5_method_20_code
def yX3_commit : MethodName := ⟨RX3, "commit", "()I"⟩
abbrev cX3_count : ByteArray := prog_5_method_21_code
def yX3_count : MethodName := ⟨RX3, "count", "()I"⟩
abbrev cX3_head : ByteArray := prog_5_method_22_code
def yX3_head : MethodName := ⟨RX3, "head", "(I)I"⟩
abbrev cX3_isCell : ByteArray := prog_5_method_23_code
def yX3_isCell : MethodName := ⟨RX3, "isCell", "(II)Z"⟩
abbrev cX3_cell : ByteArray := prog_5_method_24_code
def yX3_cell : MethodName := ⟨RX3, "cell", "(II)I"⟩
abbrev cX3_spoil : ByteArray := prog_5_method_25_code
def yX3_spoil : MethodName := ⟨RX3, "spoil", "(III)I"⟩
abbrev cX3_drop : ByteArray := prog_5_method_26_code
def yX3_drop : MethodName := ⟨RX3, "drop", "()I"⟩
abbrev cX3_stir : ByteArray := prog_5_method_27_code
def yX3_stir : MethodName := ⟨RX3, "stir", "(II)I"⟩
abbrev cX3_bit : ByteArray := prog_5_method_28_code
def yX3_bit : MethodName := ⟨RX3, "bit", "(II)I"⟩
abbrev cX3_setBits : ByteArray := prog_5_method_29_code
def yX3_setBits : MethodName := ⟨RX3, "setBits", "(I)V"⟩
abbrev cX3_maybe : ByteArray := prog_5_method_30_code
def yX3_maybe : MethodName := ⟨RX3, "maybe", "(I)Z"⟩
abbrev cX3_may : ByteArray := prog_5_method_31_code
def yX3_may : MethodName := ⟨RX3, "may", "(I)I"⟩
abbrev cX3_find : ByteArray := prog_5_method_32_code
def yX3_find : MethodName := ⟨RX3, "find", "(I)I"⟩
abbrev cX3_begin : ByteArray := prog_5_method_33_code
def yX3_begin : MethodName := ⟨RX3, "begin", "()I"⟩
abbrev cX3_isHashOf : ByteArray := prog_5_method_34_code
def yX3_isHashOf : MethodName := ⟨RX3, "isHashOf", "(II)Z"⟩
abbrev cX3_faultOf : ByteArray := prog_5_method_35_code
def yX3_faultOf : MethodName := ⟨RX3, "faultOf", "(I)I"⟩
abbrev cX3_isHeadRight : ByteArray := prog_5_method_36_code
def yX3_isHeadRight : MethodName := ⟨RX3, "isHeadRight", "()Z"⟩
abbrev cX3_audit : ByteArray := prog_5_method_37_code
def yX3_audit : MethodName := ⟨RX3, "audit", "(I)I"⟩
abbrev cX3_fault : ByteArray := prog_5_method_38_code
def yX3_fault : MethodName := ⟨RX3, "fault", "()I"⟩
abbrev cX3_next : ByteArray := prog_5_method_39_code
def yX3_next : MethodName := ⟨RX3, "next", "(II)I"⟩
abbrev cX3_way : ByteArray := prog_5_method_40_code
def yX3_way : MethodName := ⟨RX3, "way", "(II)I"⟩
abbrev cX3_prove : ByteArray := prog_5_method_41_code
def yX3_prove : MethodName := ⟨RX3, "prove", "(I)I"⟩
abbrev cX3_proof : ByteArray := prog_5_method_42_code
def yX3_proof : MethodName := ⟨RX3, "proof", "(I)I"⟩
abbrev cX3_forge : ByteArray := prog_5_method_43_code
def yX3_forge : MethodName := ⟨RX3, "forge", "(II)I"⟩
abbrev cX3_check : ByteArray := prog_5_method_44_code
def yX3_check : MethodName := ⟨RX3, "check", "(I)I"⟩
def RJ6 : String := "java/lang/Integer"
def TJ6 : u_T := fun k => match k with
  | _ => ("", "", "", false)
def tyJ6 : Nat → FieldType := fun k => match k with
  | _ => .int
abbrev wsJ60 : List Cond := u_ws RJ6 TJ6 0
theorem nmJ6 : ∀ a, a < 0 → ∀ b, b < 0 → a ≠ b → (TJ6 a).2.1 ≠ (TJ6 b).2.1 := by decide +kernel
theorem tyJ6_ok : ∀ k, k < 0 → parseFieldDescriptor (TJ6 k).2.2.1 = some (tyJ6 k) := by decide +kernel
abbrev cJ6_numberOfLeadingZeros_0f7a4 : ByteArray := prog_6_method_47_code
def yJ6_numberOfLeadingZeros_0f7a4 : MethodName := ⟨RJ6, "numberOfLeadingZeros", "(I)I"⟩
def RJ9 : String := "java/lang/Math"
def TJ9 : u_T := fun k => match k with
  | _ => ("", "", "", false)
def tyJ9 : Nat → FieldType := fun k => match k with
  | _ => .int
abbrev wsJ90 : List Cond := u_ws RJ9 TJ9 0
theorem nmJ9 : ∀ a, a < 0 → ∀ b, b < 0 → a ≠ b → (TJ9 a).2.1 ≠ (TJ9 b).2.1 := by decide +kernel
theorem tyJ9_ok : ∀ k, k < 0 → parseFieldDescriptor (TJ9 k).2.2.1 = some (tyJ9 k) := by decide +kernel
abbrev cJ9_max_7cf53 : ByteArray := prog_7_method_65_code
def yJ9_max_7cf53 : MethodName := ⟨RJ9, "max", "(II)I"⟩
abbrev cJ9_min_7cf53 : ByteArray := prog_7_method_69_code
def yJ9_min_7cf53 : MethodName := ⟨RJ9, "min", "(II)I"⟩
def RJ10 : String := "java/lang/System"
def TJ10 : u_T := fun k => match k with
  | _ => ("", "", "", false)
def tyJ10 : Nat → FieldType := fun k => match k with
  | _ => .int
abbrev wsJ100 : List Cond := u_ws RJ10 TJ10 0
theorem nmJ10 : ∀ a, a < 0 → ∀ b, b < 0 → a ≠ b → (TJ10 a).2.1 ≠ (TJ10 b).2.1 := by decide +kernel
theorem tyJ10_ok : ∀ k, k < 0 → parseFieldDescriptor (TJ10 k).2.2.1 = some (tyJ10 k) := by decide +kernel
def RJ7 : String := "java/util/Arrays"
def TJ7 : u_T := fun k => match k with
  | _ => ("", "", "", false)
def tyJ7 : Nat → FieldType := fun k => match k with
  | _ => .int
abbrev wsJ70 : List Cond := u_ws RJ7 TJ7 0
theorem nmJ7 : ∀ a, a < 0 → ∀ b, b < 0 → a ≠ b → (TJ7 a).2.1 ≠ (TJ7 b).2.1 := by decide +kernel
theorem tyJ7_ok : ∀ k, k < 0 → parseFieldDescriptor (TJ7 k).2.2.1 = some (tyJ7 k) := by decide +kernel
abbrev cJ7_rangeCheck_23922 : ByteArray := prog_9_method_30_code
def yJ7_rangeCheck_23922 : MethodName := ⟨RJ7, "rangeCheck", "(III)V"⟩
abbrev cJ7_fill_53178 : ByteArray := prog_9_method_103_code
def yJ7_fill_53178 : MethodName := ⟨RJ7, "fill", "([II)V"⟩
abbrev cJ7_fill_fda19 : ByteArray := prog_9_method_104_code
def yJ7_fill_fda19 : MethodName := ⟨RJ7, "fill", "([IIII)V"⟩
def RL : String := "MinedLedgerLaw"
abbrev cL_cell : ByteArray := method_2_code
def yL_cell : MethodName := ⟨RL, "cell", "([II)I"⟩
abbrev cL_law : ByteArray := code
def yL_law : MethodName := ⟨RL, "law", "([I)Z"⟩
def wsX0_init : List Cond := .code yX0_init cX0_init 1 none :: ([.methodLink RX0 1 objectInit, .instanceMethod objectInit, .code objectInit ⟨#[0xb1]⟩ 1 none, .arrayClass .int, .fieldLink RX0 9 "MinedLedger$Filter" "bits" "[I"] ++ wsX00)
def wsJ7_fill_53178 : List Cond := .code yJ7_fill_53178 cJ7_fill_53178 4 none :: ([])
def wsX0_clear : List Cond := .code yX0_clear cX0_clear 1 none :: ([.fieldLink RX0 9 "MinedLedger$Filter" "bits" "[I", .methodLink RX0 13 yJ7_fill_53178, .static yJ7_fill_53178, .initialized RJ7, .code yJ7_fill_53178 cJ7_fill_53178 4 none] ++ wsX00)
def wsX2_right : List Cond := .code yX2_right cX2_right 2 (some .int) :: ([])
def wsX0_stirred : List Cond := .code yX0_stirred cX0_stirred 4 (some .int) :: ([.constant RX0 27 (-862048943), .constant RX0 33 (461845907), .constant RX0 34 (-430675100), .constant RX0 35 (-2048144789), .constant RX0 36 (-1028477387), .static yX2_right, .initialized RX2, .code yX2_right cX2_right 2 (some .int)])
def wsX0_bitOf : List Cond := .code yX0_bitOf cX0_bitOf 2 (some .int) :: ([.constant RX0 26 (-1756908916), .methodLink RX0 23 yX0_stirred, .static yX0_stirred, .initialized RX0, .code yX0_stirred cX0_stirred 4 (some .int), .constant RX0 27 (-862048943), .constant RX0 33 (461845907), .constant RX0 34 (-430675100), .constant RX0 35 (-2048144789), .constant RX0 36 (-1028477387), .static yX2_right, .initialized RX2, .code yX2_right cX2_right 2 (some .int)])
def wsX0_include : List Cond := .code yX0_include cX0_include 4 none :: ([.fieldLink RX0 9 "MinedLedger$Filter" "bits" "[I", .methodLink RX0 19 yX0_bitOf, .static yX0_bitOf, .initialized RX0, .code yX0_bitOf cX0_bitOf 2 (some .int), .constant RX0 26 (-1756908916), .methodLink RX0 23 yX0_stirred, .static yX0_stirred, .code yX0_stirred cX0_stirred 4 (some .int), .constant RX0 27 (-862048943), .constant RX0 33 (461845907), .constant RX0 34 (-430675100), .constant RX0 35 (-2048144789), .constant RX0 36 (-1028477387), .static yX2_right, .initialized RX2, .code yX2_right cX2_right 2 (some .int)] ++ wsX00)
def wsX0_mayHave : List Cond := .code yX0_mayHave cX0_mayHave 4 (some .boolean) :: ([.fieldLink RX0 9 "MinedLedger$Filter" "bits" "[I", .methodLink RX0 19 yX0_bitOf, .static yX0_bitOf, .initialized RX0, .code yX0_bitOf cX0_bitOf 2 (some .int), .constant RX0 26 (-1756908916), .methodLink RX0 23 yX0_stirred, .static yX0_stirred, .code yX0_stirred cX0_stirred 4 (some .int), .constant RX0 27 (-862048943), .constant RX0 33 (461845907), .constant RX0 34 (-430675100), .constant RX0 35 (-2048144789), .constant RX0 36 (-1028477387), .static yX2_right, .initialized RX2, .code yX2_right cX2_right 2 (some .int)] ++ wsX00)
def wsX1_init : List Cond := .code yX1_init cX1_init 1 none :: ([.methodLink RX1 3 objectInit, .instanceMethod objectInit, .code objectInit ⟨#[0xb1]⟩ 1 none, .arrayClass .int, .fieldLink RX1 9 "MinedLedger$Hasher" "middle" "[I", .fieldLink RX1 15 "MinedLedger$Hasher" "hash" "[I", .fieldLink RX1 18 "MinedLedger$Hasher" "w" "[I"] ++ wsX10)
def wsX1_spread : List Cond := .code yX1_spread cX1_spread 4 none :: ([.fieldLink RX1 18 "MinedLedger$Hasher" "w" "[I", .static yX2_right, .initialized RX2, .code yX2_right cX2_right 2 (some .int)] ++ wsX10)
def wsX1_mixInto : List Cond := .code yX1_mixInto cX1_mixInto 13 none :: ([.fieldLink RX1 61 "MinedLedger$Hasher" "K" "[I", .fieldLink RX1 18 "MinedLedger$Hasher" "w" "[I", .methodLink RX1 54 yX1_spread, .instanceMethod yX1_spread, .selects RX1 yX1_spread yX1_spread, .initialized RX1, .code yX1_spread cX1_spread 4 none, .static yX2_right, .initialized RX2, .code yX2_right cX2_right 2 (some .int)] ++ wsX10)
def wsX1_takeFirst : List Cond := .code yX1_takeFirst cX1_takeFirst 3 none :: ([.fieldLink RX1 28 "MinedLedger$Hasher" "START" "[I", .fieldLink RX1 9 "MinedLedger$Hasher" "middle" "[I", .methodLink RX1 31 arraycopyName, .native arraycopyName, .static arraycopyName, .initialized "java/lang/System", .fieldLink RX1 18 "MinedLedger$Hasher" "w" "[I", .methodLink RX1 37 yX1_mixInto, .instanceMethod yX1_mixInto, .selects RX1 yX1_mixInto yX1_mixInto, .initialized RX1, .code yX1_mixInto cX1_mixInto 13 none, .fieldLink RX1 61 "MinedLedger$Hasher" "K" "[I", .methodLink RX1 54 yX1_spread, .instanceMethod yX1_spread, .selects RX1 yX1_spread yX1_spread, .code yX1_spread cX1_spread 4 none, .static yX2_right, .initialized RX2, .code yX2_right cX2_right 2 (some .int)] ++ wsX10)
def wsJ7_rangeCheck_23922 : List Cond := .code yJ7_rangeCheck_23922 cJ7_rangeCheck_23922 3 none :: ([])
def wsJ7_fill_fda19 : List Cond := .code yJ7_fill_fda19 cJ7_fill_fda19 5 none :: ([.methodLink RJ7 13 yJ7_rangeCheck_23922, .static yJ7_rangeCheck_23922, .initialized RJ7, .code yJ7_rangeCheck_23922 cJ7_rangeCheck_23922 3 none])
def wsX1_takeRest_r1 : List Cond := [Cond.fieldLink RX1 9 "MinedLedger$Hasher" "middle" "[I", Cond.fieldLink RX1 15 "MinedLedger$Hasher" "hash" "[I", Cond.methodLink RX1 31 arraycopyName, Cond.native arraycopyName, Cond.static arraycopyName, Cond.initialized "java/lang/System", Cond.fieldLink RX1 18 "MinedLedger$Hasher" "w" "[I", Cond.constant RX1 41 (-2147483648), Cond.methodLink RX1 42 yJ7_fill_fda19, Cond.static yJ7_fill_fda19, Cond.initialized RJ7, Cond.code yJ7_fill_fda19 cJ7_fill_fda19 5 none, Cond.methodLink RJ7 13 yJ7_rangeCheck_23922, Cond.static yJ7_rangeCheck_23922, Cond.code yJ7_rangeCheck_23922 cJ7_rangeCheck_23922 3 none, Cond.methodLink RX1 37 yX1_mixInto, Cond.instanceMethod yX1_mixInto, Cond.selects RX1 yX1_mixInto yX1_mixInto, Cond.initialized RX1, Cond.code yX1_mixInto cX1_mixInto 13 none, Cond.fieldLink RX1 61 "MinedLedger$Hasher" "K" "[I", Cond.methodLink RX1 54 yX1_spread, Cond.instanceMethod yX1_spread, Cond.selects RX1 yX1_spread yX1_spread]
def wsX1_takeRest_r2 : List Cond := [Cond.code yX1_spread cX1_spread 4 none, Cond.static yX2_right, Cond.initialized RX2, Cond.code yX2_right cX2_right 2 (some .int)]
def wsX1_takeRest : List Cond := .code yX1_takeRest cX1_takeRest 4 none :: ((wsX1_takeRest_r1 ++ wsX1_takeRest_r2) ++ wsX10)
def wsX1_takeAll_r1 : List Cond := [Cond.methodLink RX1 21 yX1_takeFirst, Cond.instanceMethod yX1_takeFirst, Cond.selects RX1 yX1_takeFirst yX1_takeFirst, Cond.initialized RX1, Cond.code yX1_takeFirst cX1_takeFirst 3 none, Cond.fieldLink RX1 28 "MinedLedger$Hasher" "START" "[I", Cond.fieldLink RX1 9 "MinedLedger$Hasher" "middle" "[I", Cond.methodLink RX1 31 arraycopyName, Cond.native arraycopyName, Cond.static arraycopyName, Cond.initialized "java/lang/System", Cond.fieldLink RX1 18 "MinedLedger$Hasher" "w" "[I", Cond.methodLink RX1 37 yX1_mixInto, Cond.instanceMethod yX1_mixInto, Cond.selects RX1 yX1_mixInto yX1_mixInto, Cond.code yX1_mixInto cX1_mixInto 13 none, Cond.fieldLink RX1 61 "MinedLedger$Hasher" "K" "[I", Cond.methodLink RX1 54 yX1_spread, Cond.instanceMethod yX1_spread, Cond.selects RX1 yX1_spread yX1_spread, Cond.code yX1_spread cX1_spread 4 none, Cond.static yX2_right, Cond.initialized RX2, Cond.code yX2_right cX2_right 2 (some .int)]
def wsX1_takeAll_r2 : List Cond := [Cond.methodLink RX1 25 yX1_takeRest, Cond.instanceMethod yX1_takeRest, Cond.selects RX1 yX1_takeRest yX1_takeRest, Cond.code yX1_takeRest cX1_takeRest 4 none, Cond.fieldLink RX1 15 "MinedLedger$Hasher" "hash" "[I", Cond.constant RX1 41 (-2147483648), Cond.methodLink RX1 42 yJ7_fill_fda19, Cond.static yJ7_fill_fda19, Cond.initialized RJ7, Cond.code yJ7_fill_fda19 cJ7_fill_fda19 5 none, Cond.methodLink RJ7 13 yJ7_rangeCheck_23922, Cond.static yJ7_rangeCheck_23922, Cond.code yJ7_rangeCheck_23922 cJ7_rangeCheck_23922 3 none]
def wsX1_takeAll : List Cond := .code yX1_takeAll cX1_takeAll 3 none :: ((wsX1_takeAll_r1 ++ wsX1_takeAll_r2) ++ wsX10)
def wsX1_isAt : List Cond := .code yX1_isAt cX1_isAt 4 (some .boolean) :: ([.fieldLink RX1 15 "MinedLedger$Hasher" "hash" "[I"] ++ wsX10)
def wsX1_copyTo : List Cond := .code yX1_copyTo cX1_copyTo 3 none :: ([.fieldLink RX1 15 "MinedLedger$Hasher" "hash" "[I", .methodLink RX1 31 arraycopyName, .native arraycopyName, .static arraycopyName, .initialized "java/lang/System"] ++ wsX10)
def wsJ6_numberOfLeadingZeros_0f7a4 : List Cond := .code yJ6_numberOfLeadingZeros_0f7a4 cJ6_numberOfLeadingZeros_0f7a4 2 (some .int) :: ([.constant RJ6 264 (65536)])
def wsX1_zeros : List Cond := .code yX1_zeros cX1_zeros 2 (some .int) :: ([.fieldLink RX1 15 "MinedLedger$Hasher" "hash" "[I", .methodLink RX1 48 yJ6_numberOfLeadingZeros_0f7a4, .static yJ6_numberOfLeadingZeros_0f7a4, .initialized RJ6, .code yJ6_numberOfLeadingZeros_0f7a4 cJ6_numberOfLeadingZeros_0f7a4 2 (some .int), .constant RJ6 264 (65536)] ++ wsX10)
def wsX2_init_r1 : List Cond := [Cond.methodLink RX2 1 objectInit, Cond.instanceMethod objectInit, Cond.code objectInit ⟨#[0xb1]⟩ 1 none, Cond.classLink RX2 7 RX1, Cond.instantiable RX1 3, Cond.initialized RX1, Cond.fieldLink RX2 10 "MinedLedger" "hasher" "LMinedLedger$Hasher;", Cond.classLink RX2 16 RX0, Cond.instantiable RX0 1, Cond.initialized RX0, Cond.fieldLink RX2 19 "MinedLedger" "filter" "LMinedLedger$Filter;", Cond.arrayClass .int, Cond.fieldLink RX2 23 "MinedLedger" "cells" "[I", Cond.fieldLink RX2 27 "MinedLedger" "headWords" "[I", Cond.fieldLink RX2 30 "MinedLedger" "draft" "[I", Cond.fieldLink RX2 33 "MinedLedger" "proofWords" "[I", Cond.fieldLink RX2 36 "MinedLedger" "entryCount" "I", Cond.fieldLink RX2 40 "MinedLedger" "wordCount" "I", Cond.methodLink RX2 43 Lib.Math.min.name, Cond.static Lib.Math.min.name, Cond.initialized "java/lang/Math", Cond.code Lib.Math.min.name Lib.Math.min.code 2 (some .int), Cond.methodLink RX2 49 Lib.Math.max.name, Cond.static Lib.Math.max.name]
def wsX2_init_r2 : List Cond := [Cond.code Lib.Math.max.name Lib.Math.max.code 2 (some .int), Cond.fieldLink RX2 52 "MinedLedger" "zerosAsked" "I", Cond.fieldLink RX2 55 "MinedLedger" "triedCount" "I", Cond.fieldLink RX2 58 "MinedLedger" "keptNonce" "I", Cond.fieldLink RX2 61 "MinedLedger" "place" "I", Cond.fieldLink RX2 64 "MinedLedger" "latestFault" "I", Cond.fieldLink RX2 67 "MinedLedger" "proofLength" "I", Cond.instanceMethod yX1_init, Cond.code yX1_init cX1_init 1 none, Cond.methodLink RX1 3 objectInit, Cond.fieldLink RX1 9 "MinedLedger$Hasher" "middle" "[I", Cond.fieldLink RX1 15 "MinedLedger$Hasher" "hash" "[I", Cond.fieldLink RX1 18 "MinedLedger$Hasher" "w" "[I", Cond.instanceMethod yX0_init, Cond.code yX0_init cX0_init 1 none, Cond.methodLink RX0 1 objectInit, Cond.fieldLink RX0 9 "MinedLedger$Filter" "bits" "[I"]
def wsX2_init : List Cond := .code yX2_init cX2_init 2 none :: ((wsX2_init_r1 ++ wsX2_init_r2) ++ wsX10 ++ wsX20 ++ wsX00)
def wsX2_forgetNonces : List Cond := .code yX2_forgetNonces cX2_forgetNonces 1 none :: ([.fieldLink RX2 55 "MinedLedger" "triedCount" "I", .fieldLink RX2 58 "MinedLedger" "keptNonce" "I"] ++ wsX20)
def wsX2_put : List Cond := .code yX2_put cX2_put 2 (some .int) :: ([.fieldLink RX2 40 "MinedLedger" "wordCount" "I", .fieldLink RX2 30 "MinedLedger" "draft" "[I", .methodLink RX2 70 yX2_forgetNonces, .instanceMethod yX2_forgetNonces, .selects RX2 yX2_forgetNonces yX2_forgetNonces, .initialized RX2, .code yX2_forgetNonces cX2_forgetNonces 1 none, .fieldLink RX2 55 "MinedLedger" "triedCount" "I", .fieldLink RX2 58 "MinedLedger" "keptNonce" "I"] ++ wsX20)
def wsX2_clearWordsFrom : List Cond := .code yX2_clearWordsFrom cX2_clearWordsFrom 2 none :: ([.fieldLink RX2 30 "MinedLedger" "draft" "[I", .fieldLink RX2 40 "MinedLedger" "wordCount" "I", .methodLink RX2 93 yJ7_fill_fda19, .static yJ7_fill_fda19, .initialized RJ7, .code yJ7_fill_fda19 cJ7_fill_fda19 5 none, .methodLink RJ7 13 yJ7_rangeCheck_23922, .static yJ7_rangeCheck_23922, .code yJ7_rangeCheck_23922 cJ7_rangeCheck_23922 3 none] ++ wsX20)
def wsX2_takeBack : List Cond := .code yX2_takeBack cX2_takeBack 2 (some .int) :: ([.fieldLink RX2 40 "MinedLedger" "wordCount" "I", .methodLink RX2 73 yX2_clearWordsFrom, .instanceMethod yX2_clearWordsFrom, .selects RX2 yX2_clearWordsFrom yX2_clearWordsFrom, .initialized RX2, .code yX2_clearWordsFrom cX2_clearWordsFrom 2 none, .fieldLink RX2 30 "MinedLedger" "draft" "[I", .methodLink RX2 93 yJ7_fill_fda19, .static yJ7_fill_fda19, .initialized RJ7, .code yJ7_fill_fda19 cJ7_fill_fda19 5 none, .methodLink RJ7 13 yJ7_rangeCheck_23922, .static yJ7_rangeCheck_23922, .code yJ7_rangeCheck_23922 cJ7_rangeCheck_23922 3 none, .methodLink RX2 70 yX2_forgetNonces, .instanceMethod yX2_forgetNonces, .selects RX2 yX2_forgetNonces yX2_forgetNonces, .code yX2_forgetNonces cX2_forgetNonces 1 none, .fieldLink RX2 55 "MinedLedger" "triedCount" "I", .fieldLink RX2 58 "MinedLedger" "keptNonce" "I"] ++ wsX20)
def wsX2_pending : List Cond := .code yX2_pending cX2_pending 2 (some .int) :: ([.fieldLink RX2 40 "MinedLedger" "wordCount" "I", .fieldLink RX2 30 "MinedLedger" "draft" "[I"] ++ wsX20)
def wsX2_difficulty : List Cond := .code yX2_difficulty cX2_difficulty 3 (some .int) :: ([.fieldLink RX2 52 "MinedLedger" "zerosAsked" "I", .methodLink RX2 70 yX2_forgetNonces, .instanceMethod yX2_forgetNonces, .selects RX2 yX2_forgetNonces yX2_forgetNonces, .initialized RX2, .code yX2_forgetNonces cX2_forgetNonces 1 none, .fieldLink RX2 55 "MinedLedger" "triedCount" "I", .fieldLink RX2 58 "MinedLedger" "keptNonce" "I"] ++ wsX20)
def wsX2_hasEntry : List Cond := .code yX2_hasEntry cX2_hasEntry 2 (some .boolean) :: ([.fieldLink RX2 36 "MinedLedger" "entryCount" "I"] ++ wsX20)
def wsX2_copyHashOf : List Cond := .code yX2_copyHashOf cX2_copyHashOf 3 none :: ([.fieldLink RX2 23 "MinedLedger" "cells" "[I", .fieldLink RX2 30 "MinedLedger" "draft" "[I", .methodLink RX2 84 arraycopyName, .native arraycopyName, .static arraycopyName, .initialized "java/lang/System", .methodLink RX2 107 yX2_hasEntry, .instanceMethod yX2_hasEntry, .selects RX2 yX2_hasEntry yX2_hasEntry, .initialized RX2, .code yX2_hasEntry cX2_hasEntry 2 (some .boolean), .fieldLink RX2 36 "MinedLedger" "entryCount" "I", .methodLink RX2 93 yJ7_fill_fda19, .static yJ7_fill_fda19, .initialized RJ7, .code yJ7_fill_fda19 cJ7_fill_fda19 5 none, .methodLink RJ7 13 yJ7_rangeCheck_23922, .static yJ7_rangeCheck_23922, .code yJ7_rangeCheck_23922 cJ7_rangeCheck_23922 3 none] ++ wsX20)
def wsX2_skipOf : List Cond := .code yX2_skipOf cX2_skipOf 1 (some .int) :: ([])
def wsX2_fillDraft_r1 : List Cond := [Cond.fieldLink RX2 36 "MinedLedger" "entryCount" "I", Cond.fieldLink RX2 30 "MinedLedger" "draft" "[I", Cond.fieldLink RX2 52 "MinedLedger" "zerosAsked" "I", Cond.fieldLink RX2 40 "MinedLedger" "wordCount" "I", Cond.methodLink RX2 99 yX2_copyHashOf, Cond.instanceMethod yX2_copyHashOf, Cond.selects RX2 yX2_copyHashOf yX2_copyHashOf, Cond.initialized RX2, Cond.code yX2_copyHashOf cX2_copyHashOf 3 none, Cond.fieldLink RX2 23 "MinedLedger" "cells" "[I", Cond.methodLink RX2 84 arraycopyName, Cond.native arraycopyName, Cond.static arraycopyName, Cond.initialized "java/lang/System", Cond.methodLink RX2 107 yX2_hasEntry, Cond.instanceMethod yX2_hasEntry, Cond.selects RX2 yX2_hasEntry yX2_hasEntry, Cond.code yX2_hasEntry cX2_hasEntry 2 (some .boolean), Cond.methodLink RX2 93 yJ7_fill_fda19, Cond.static yJ7_fill_fda19, Cond.initialized RJ7, Cond.code yJ7_fill_fda19 cJ7_fill_fda19 5 none, Cond.methodLink RJ7 13 yJ7_rangeCheck_23922, Cond.static yJ7_rangeCheck_23922]
def wsX2_fillDraft_r2 : List Cond := [Cond.code yJ7_rangeCheck_23922 cJ7_rangeCheck_23922 3 none, Cond.methodLink RX2 103 yX2_skipOf, Cond.static yX2_skipOf, Cond.code yX2_skipOf cX2_skipOf 1 (some .int)]
def wsX2_fillDraft : List Cond := .code yX2_fillDraft cX2_fillDraft 1 none :: ((wsX2_fillDraft_r1 ++ wsX2_fillDraft_r2) ++ wsX20)
def wsX2_tryNonces_r1 : List Cond := [Cond.fieldLink RX2 10 "MinedLedger" "hasher" "LMinedLedger$Hasher;", Cond.fieldLink RX2 30 "MinedLedger" "draft" "[I", Cond.fieldLink RX2 58 "MinedLedger" "keptNonce" "I", Cond.fieldLink RX2 55 "MinedLedger" "triedCount" "I", Cond.fieldLink RX2 52 "MinedLedger" "zerosAsked" "I", Cond.methodLink RX2 111 yX1_takeFirst, Cond.instanceMethod yX1_takeFirst, Cond.selects RX1 yX1_takeFirst yX1_takeFirst, Cond.initialized RX1, Cond.code yX1_takeFirst cX1_takeFirst 3 none, Cond.fieldLink RX1 28 "MinedLedger$Hasher" "START" "[I", Cond.fieldLink RX1 9 "MinedLedger$Hasher" "middle" "[I", Cond.methodLink RX1 31 arraycopyName, Cond.native arraycopyName, Cond.static arraycopyName, Cond.initialized "java/lang/System", Cond.fieldLink RX1 18 "MinedLedger$Hasher" "w" "[I", Cond.methodLink RX1 37 yX1_mixInto, Cond.instanceMethod yX1_mixInto, Cond.selects RX1 yX1_mixInto yX1_mixInto, Cond.code yX1_mixInto cX1_mixInto 13 none, Cond.fieldLink RX1 61 "MinedLedger$Hasher" "K" "[I", Cond.methodLink RX1 54 yX1_spread, Cond.instanceMethod yX1_spread]
def wsX2_tryNonces_r2 : List Cond := [Cond.selects RX1 yX1_spread yX1_spread, Cond.code yX1_spread cX1_spread 4 none, Cond.static yX2_right, Cond.initialized RX2, Cond.code yX2_right cX2_right 2 (some .int), Cond.methodLink RX2 115 yX1_takeRest, Cond.instanceMethod yX1_takeRest, Cond.selects RX1 yX1_takeRest yX1_takeRest, Cond.code yX1_takeRest cX1_takeRest 4 none, Cond.fieldLink RX1 15 "MinedLedger$Hasher" "hash" "[I", Cond.constant RX1 41 (-2147483648), Cond.methodLink RX1 42 yJ7_fill_fda19, Cond.static yJ7_fill_fda19, Cond.initialized RJ7, Cond.code yJ7_fill_fda19 cJ7_fill_fda19 5 none, Cond.methodLink RJ7 13 yJ7_rangeCheck_23922, Cond.static yJ7_rangeCheck_23922, Cond.code yJ7_rangeCheck_23922 cJ7_rangeCheck_23922 3 none, Cond.methodLink RX2 118 yX1_zeros, Cond.instanceMethod yX1_zeros, Cond.selects RX1 yX1_zeros yX1_zeros, Cond.code yX1_zeros cX1_zeros 2 (some .int), Cond.methodLink RX1 48 yJ6_numberOfLeadingZeros_0f7a4, Cond.static yJ6_numberOfLeadingZeros_0f7a4]
def wsX2_tryNonces_r3 : List Cond := [Cond.initialized RJ6, Cond.code yJ6_numberOfLeadingZeros_0f7a4 cJ6_numberOfLeadingZeros_0f7a4 2 (some .int), Cond.constant RJ6 264 (65536), Cond.methodLink RX2 122 yX1_copyTo, Cond.instanceMethod yX1_copyTo, Cond.selects RX1 yX1_copyTo yX1_copyTo, Cond.code yX1_copyTo cX1_copyTo 3 none]
def wsX2_tryNonces : List Cond := .code yX2_tryNonces cX2_tryNonces 3 none :: ((wsX2_tryNonces_r1 ++ (wsX2_tryNonces_r2 ++ wsX2_tryNonces_r3)) ++ wsX20 ++ wsX10)
def wsX2_mine_r1 : List Cond := [Cond.fieldLink RX2 58 "MinedLedger" "keptNonce" "I", Cond.fieldLink RX2 55 "MinedLedger" "triedCount" "I", Cond.constant RX2 77 (100000), Cond.methodLink RX2 43 Lib.Math.min.name, Cond.static Lib.Math.min.name, Cond.initialized "java/lang/Math", Cond.code Lib.Math.min.name Lib.Math.min.code 2 (some .int), Cond.methodLink RX2 78 yX2_fillDraft, Cond.instanceMethod yX2_fillDraft, Cond.selects RX2 yX2_fillDraft yX2_fillDraft, Cond.initialized RX2, Cond.code yX2_fillDraft cX2_fillDraft 1 none, Cond.fieldLink RX2 36 "MinedLedger" "entryCount" "I", Cond.fieldLink RX2 30 "MinedLedger" "draft" "[I", Cond.fieldLink RX2 52 "MinedLedger" "zerosAsked" "I", Cond.fieldLink RX2 40 "MinedLedger" "wordCount" "I", Cond.methodLink RX2 99 yX2_copyHashOf, Cond.instanceMethod yX2_copyHashOf, Cond.selects RX2 yX2_copyHashOf yX2_copyHashOf, Cond.code yX2_copyHashOf cX2_copyHashOf 3 none, Cond.fieldLink RX2 23 "MinedLedger" "cells" "[I", Cond.methodLink RX2 84 arraycopyName, Cond.native arraycopyName, Cond.static arraycopyName]
def wsX2_mine_r2 : List Cond := [Cond.initialized "java/lang/System", Cond.methodLink RX2 107 yX2_hasEntry, Cond.instanceMethod yX2_hasEntry, Cond.selects RX2 yX2_hasEntry yX2_hasEntry, Cond.code yX2_hasEntry cX2_hasEntry 2 (some .boolean), Cond.methodLink RX2 93 yJ7_fill_fda19, Cond.static yJ7_fill_fda19, Cond.initialized RJ7, Cond.code yJ7_fill_fda19 cJ7_fill_fda19 5 none, Cond.methodLink RJ7 13 yJ7_rangeCheck_23922, Cond.static yJ7_rangeCheck_23922, Cond.code yJ7_rangeCheck_23922 cJ7_rangeCheck_23922 3 none, Cond.methodLink RX2 103 yX2_skipOf, Cond.static yX2_skipOf, Cond.code yX2_skipOf cX2_skipOf 1 (some .int), Cond.methodLink RX2 81 yX2_tryNonces, Cond.instanceMethod yX2_tryNonces, Cond.selects RX2 yX2_tryNonces yX2_tryNonces, Cond.code yX2_tryNonces cX2_tryNonces 3 none, Cond.fieldLink RX2 10 "MinedLedger" "hasher" "LMinedLedger$Hasher;", Cond.methodLink RX2 111 yX1_takeFirst, Cond.instanceMethod yX1_takeFirst, Cond.selects RX1 yX1_takeFirst yX1_takeFirst, Cond.initialized RX1]
def wsX2_mine_r3 : List Cond := [Cond.code yX1_takeFirst cX1_takeFirst 3 none, Cond.fieldLink RX1 28 "MinedLedger$Hasher" "START" "[I", Cond.fieldLink RX1 9 "MinedLedger$Hasher" "middle" "[I", Cond.methodLink RX1 31 arraycopyName, Cond.fieldLink RX1 18 "MinedLedger$Hasher" "w" "[I", Cond.methodLink RX1 37 yX1_mixInto, Cond.instanceMethod yX1_mixInto, Cond.selects RX1 yX1_mixInto yX1_mixInto, Cond.code yX1_mixInto cX1_mixInto 13 none, Cond.fieldLink RX1 61 "MinedLedger$Hasher" "K" "[I", Cond.methodLink RX1 54 yX1_spread, Cond.instanceMethod yX1_spread, Cond.selects RX1 yX1_spread yX1_spread, Cond.code yX1_spread cX1_spread 4 none, Cond.static yX2_right, Cond.code yX2_right cX2_right 2 (some .int), Cond.methodLink RX2 115 yX1_takeRest, Cond.instanceMethod yX1_takeRest, Cond.selects RX1 yX1_takeRest yX1_takeRest, Cond.code yX1_takeRest cX1_takeRest 4 none, Cond.fieldLink RX1 15 "MinedLedger$Hasher" "hash" "[I", Cond.constant RX1 41 (-2147483648), Cond.methodLink RX1 42 yJ7_fill_fda19, Cond.methodLink RX2 118 yX1_zeros]
def wsX2_mine_r4 : List Cond := [Cond.instanceMethod yX1_zeros, Cond.selects RX1 yX1_zeros yX1_zeros, Cond.code yX1_zeros cX1_zeros 2 (some .int), Cond.methodLink RX1 48 yJ6_numberOfLeadingZeros_0f7a4, Cond.static yJ6_numberOfLeadingZeros_0f7a4, Cond.initialized RJ6, Cond.code yJ6_numberOfLeadingZeros_0f7a4 cJ6_numberOfLeadingZeros_0f7a4 2 (some .int), Cond.constant RJ6 264 (65536), Cond.methodLink RX2 122 yX1_copyTo, Cond.instanceMethod yX1_copyTo, Cond.selects RX1 yX1_copyTo yX1_copyTo, Cond.code yX1_copyTo cX1_copyTo 3 none]
def wsX2_mine : List Cond := .code yX2_mine cX2_mine 2 (some .int) :: ((wsX2_mine_r1 ++ (wsX2_mine_r2 ++ (wsX2_mine_r3 ++ wsX2_mine_r4))) ++ wsX20 ++ wsX10)
def wsX2_tried : List Cond := .code yX2_tried cX2_tried 1 (some .int) :: ([.fieldLink RX2 55 "MinedLedger" "triedCount" "I"] ++ wsX20)
def wsX2_addToFilter : List Cond := .code yX2_addToFilter cX2_addToFilter 4 none :: ([.fieldLink RX2 19 "MinedLedger" "filter" "LMinedLedger$Filter;", .fieldLink RX2 23 "MinedLedger" "cells" "[I", .methodLink RX2 141 yX0_include, .instanceMethod yX0_include, .selects RX0 yX0_include yX0_include, .initialized RX0, .code yX0_include cX0_include 4 none, .fieldLink RX0 9 "MinedLedger$Filter" "bits" "[I", .methodLink RX0 19 yX0_bitOf, .static yX0_bitOf, .code yX0_bitOf cX0_bitOf 2 (some .int), .constant RX0 26 (-1756908916), .methodLink RX0 23 yX0_stirred, .static yX0_stirred, .code yX0_stirred cX0_stirred 4 (some .int), .constant RX0 27 (-862048943), .constant RX0 33 (461845907), .constant RX0 34 (-430675100), .constant RX0 35 (-2048144789), .constant RX0 36 (-1028477387), .static yX2_right, .initialized RX2, .code yX2_right cX2_right 2 (some .int)] ++ wsX20 ++ wsX00)
def wsX2_commit_r1 : List Cond := [Cond.fieldLink RX2 36 "MinedLedger" "entryCount" "I", Cond.fieldLink RX2 58 "MinedLedger" "keptNonce" "I", Cond.fieldLink RX2 30 "MinedLedger" "draft" "[I", Cond.fieldLink RX2 23 "MinedLedger" "cells" "[I", Cond.methodLink RX2 84 arraycopyName, Cond.native arraycopyName, Cond.static arraycopyName, Cond.initialized "java/lang/System", Cond.fieldLink RX2 27 "MinedLedger" "headWords" "[I", Cond.methodLink RX2 90 yX2_addToFilter, Cond.instanceMethod yX2_addToFilter, Cond.selects RX2 yX2_addToFilter yX2_addToFilter, Cond.initialized RX2, Cond.code yX2_addToFilter cX2_addToFilter 4 none, Cond.fieldLink RX2 19 "MinedLedger" "filter" "LMinedLedger$Filter;", Cond.methodLink RX2 141 yX0_include, Cond.instanceMethod yX0_include, Cond.selects RX0 yX0_include yX0_include, Cond.initialized RX0, Cond.code yX0_include cX0_include 4 none, Cond.fieldLink RX0 9 "MinedLedger$Filter" "bits" "[I", Cond.methodLink RX0 19 yX0_bitOf, Cond.static yX0_bitOf, Cond.code yX0_bitOf cX0_bitOf 2 (some .int)]
def wsX2_commit_r2 : List Cond := [Cond.constant RX0 26 (-1756908916), Cond.methodLink RX0 23 yX0_stirred, Cond.static yX0_stirred, Cond.code yX0_stirred cX0_stirred 4 (some .int), Cond.constant RX0 27 (-862048943), Cond.constant RX0 33 (461845907), Cond.constant RX0 34 (-430675100), Cond.constant RX0 35 (-2048144789), Cond.constant RX0 36 (-1028477387), Cond.static yX2_right, Cond.code yX2_right cX2_right 2 (some .int), Cond.methodLink RX2 73 yX2_clearWordsFrom, Cond.instanceMethod yX2_clearWordsFrom, Cond.selects RX2 yX2_clearWordsFrom yX2_clearWordsFrom, Cond.code yX2_clearWordsFrom cX2_clearWordsFrom 2 none, Cond.fieldLink RX2 40 "MinedLedger" "wordCount" "I", Cond.methodLink RX2 93 yJ7_fill_fda19, Cond.static yJ7_fill_fda19, Cond.initialized RJ7, Cond.code yJ7_fill_fda19 cJ7_fill_fda19 5 none, Cond.methodLink RJ7 13 yJ7_rangeCheck_23922, Cond.static yJ7_rangeCheck_23922, Cond.code yJ7_rangeCheck_23922 cJ7_rangeCheck_23922 3 none, Cond.methodLink RX2 70 yX2_forgetNonces]
def wsX2_commit_r3 : List Cond := [Cond.instanceMethod yX2_forgetNonces, Cond.selects RX2 yX2_forgetNonces yX2_forgetNonces, Cond.code yX2_forgetNonces cX2_forgetNonces 1 none, Cond.fieldLink RX2 55 "MinedLedger" "triedCount" "I"]
def wsX2_commit : List Cond := .code yX2_commit cX2_commit 2 (some .int) :: ((wsX2_commit_r1 ++ (wsX2_commit_r2 ++ wsX2_commit_r3)) ++ wsX20 ++ wsX00)
def wsX2_count : List Cond := .code yX2_count cX2_count 1 (some .int) :: ([.fieldLink RX2 36 "MinedLedger" "entryCount" "I"] ++ wsX20)
def wsX2_head : List Cond := .code yX2_head cX2_head 2 (some .int) :: ([.fieldLink RX2 27 "MinedLedger" "headWords" "[I"] ++ wsX20)
def wsX2_hasCell : List Cond := .code yX2_hasCell cX2_hasCell 3 (some .boolean) :: ([.methodLink RX2 107 yX2_hasEntry, .instanceMethod yX2_hasEntry, .selects RX2 yX2_hasEntry yX2_hasEntry, .initialized RX2, .code yX2_hasEntry cX2_hasEntry 2 (some .boolean), .fieldLink RX2 36 "MinedLedger" "entryCount" "I"] ++ wsX20)
def wsX2_cell : List Cond := .code yX2_cell cX2_cell 3 (some .int) :: ([.fieldLink RX2 23 "MinedLedger" "cells" "[I", .methodLink RX2 125 yX2_hasCell, .instanceMethod yX2_hasCell, .selects RX2 yX2_hasCell yX2_hasCell, .initialized RX2, .code yX2_hasCell cX2_hasCell 3 (some .boolean), .methodLink RX2 107 yX2_hasEntry, .instanceMethod yX2_hasEntry, .selects RX2 yX2_hasEntry yX2_hasEntry, .code yX2_hasEntry cX2_hasEntry 2 (some .boolean), .fieldLink RX2 36 "MinedLedger" "entryCount" "I"] ++ wsX20)
def wsX2_spoil : List Cond := .code yX2_spoil cX2_spoil 5 (some .int) :: ([.fieldLink RX2 23 "MinedLedger" "cells" "[I", .methodLink RX2 125 yX2_hasCell, .instanceMethod yX2_hasCell, .selects RX2 yX2_hasCell yX2_hasCell, .initialized RX2, .code yX2_hasCell cX2_hasCell 3 (some .boolean), .methodLink RX2 107 yX2_hasEntry, .instanceMethod yX2_hasEntry, .selects RX2 yX2_hasEntry yX2_hasEntry, .code yX2_hasEntry cX2_hasEntry 2 (some .boolean), .fieldLink RX2 36 "MinedLedger" "entryCount" "I", .methodLink RX2 70 yX2_forgetNonces, .instanceMethod yX2_forgetNonces, .selects RX2 yX2_forgetNonces yX2_forgetNonces, .code yX2_forgetNonces cX2_forgetNonces 1 none, .fieldLink RX2 55 "MinedLedger" "triedCount" "I", .fieldLink RX2 58 "MinedLedger" "keptNonce" "I"] ++ wsX20)
def wsX2_remakeFilter_r1 : List Cond := [Cond.fieldLink RX2 19 "MinedLedger" "filter" "LMinedLedger$Filter;", Cond.fieldLink RX2 36 "MinedLedger" "entryCount" "I", Cond.methodLink RX2 144 yX0_clear, Cond.instanceMethod yX0_clear, Cond.selects RX0 yX0_clear yX0_clear, Cond.initialized RX0, Cond.code yX0_clear cX0_clear 1 none, Cond.fieldLink RX0 9 "MinedLedger$Filter" "bits" "[I", Cond.methodLink RX0 13 yJ7_fill_53178, Cond.static yJ7_fill_53178, Cond.initialized RJ7, Cond.code yJ7_fill_53178 cJ7_fill_53178 4 none, Cond.methodLink RX2 90 yX2_addToFilter, Cond.instanceMethod yX2_addToFilter, Cond.selects RX2 yX2_addToFilter yX2_addToFilter, Cond.initialized RX2, Cond.code yX2_addToFilter cX2_addToFilter 4 none, Cond.fieldLink RX2 23 "MinedLedger" "cells" "[I", Cond.methodLink RX2 141 yX0_include, Cond.instanceMethod yX0_include, Cond.selects RX0 yX0_include yX0_include, Cond.code yX0_include cX0_include 4 none, Cond.methodLink RX0 19 yX0_bitOf, Cond.static yX0_bitOf]
def wsX2_remakeFilter_r2 : List Cond := [Cond.code yX0_bitOf cX0_bitOf 2 (some .int), Cond.constant RX0 26 (-1756908916), Cond.methodLink RX0 23 yX0_stirred, Cond.static yX0_stirred, Cond.code yX0_stirred cX0_stirred 4 (some .int), Cond.constant RX0 27 (-862048943), Cond.constant RX0 33 (461845907), Cond.constant RX0 34 (-430675100), Cond.constant RX0 35 (-2048144789), Cond.constant RX0 36 (-1028477387), Cond.static yX2_right, Cond.code yX2_right cX2_right 2 (some .int)]
def wsX2_remakeFilter : List Cond := .code yX2_remakeFilter cX2_remakeFilter 2 none :: ((wsX2_remakeFilter_r1 ++ wsX2_remakeFilter_r2) ++ wsX20 ++ wsX00)
def wsX2_drop_r1 : List Cond := [Cond.fieldLink RX2 36 "MinedLedger" "entryCount" "I", Cond.fieldLink RX2 23 "MinedLedger" "cells" "[I", Cond.fieldLink RX2 27 "MinedLedger" "headWords" "[I", Cond.methodLink RX2 84 arraycopyName, Cond.native arraycopyName, Cond.static arraycopyName, Cond.initialized "java/lang/System", Cond.fieldLink RX2 61 "MinedLedger" "place" "I", Cond.methodLink RX2 43 Lib.Math.min.name, Cond.static Lib.Math.min.name, Cond.initialized "java/lang/Math", Cond.code Lib.Math.min.name Lib.Math.min.code 2 (some .int), Cond.methodLink RX2 129 yX2_remakeFilter, Cond.instanceMethod yX2_remakeFilter, Cond.selects RX2 yX2_remakeFilter yX2_remakeFilter, Cond.initialized RX2, Cond.code yX2_remakeFilter cX2_remakeFilter 2 none, Cond.fieldLink RX2 19 "MinedLedger" "filter" "LMinedLedger$Filter;", Cond.methodLink RX2 144 yX0_clear, Cond.instanceMethod yX0_clear, Cond.selects RX0 yX0_clear yX0_clear, Cond.initialized RX0, Cond.code yX0_clear cX0_clear 1 none, Cond.fieldLink RX0 9 "MinedLedger$Filter" "bits" "[I"]
def wsX2_drop_r2 : List Cond := [Cond.methodLink RX0 13 yJ7_fill_53178, Cond.static yJ7_fill_53178, Cond.initialized RJ7, Cond.code yJ7_fill_53178 cJ7_fill_53178 4 none, Cond.methodLink RX2 90 yX2_addToFilter, Cond.instanceMethod yX2_addToFilter, Cond.selects RX2 yX2_addToFilter yX2_addToFilter, Cond.code yX2_addToFilter cX2_addToFilter 4 none, Cond.methodLink RX2 141 yX0_include, Cond.instanceMethod yX0_include, Cond.selects RX0 yX0_include yX0_include, Cond.code yX0_include cX0_include 4 none, Cond.methodLink RX0 19 yX0_bitOf, Cond.static yX0_bitOf, Cond.code yX0_bitOf cX0_bitOf 2 (some .int), Cond.constant RX0 26 (-1756908916), Cond.methodLink RX0 23 yX0_stirred, Cond.static yX0_stirred, Cond.code yX0_stirred cX0_stirred 4 (some .int), Cond.constant RX0 27 (-862048943), Cond.constant RX0 33 (461845907), Cond.constant RX0 34 (-430675100), Cond.constant RX0 35 (-2048144789), Cond.constant RX0 36 (-1028477387)]
def wsX2_drop_r3 : List Cond := [Cond.static yX2_right, Cond.code yX2_right cX2_right 2 (some .int), Cond.methodLink RX2 70 yX2_forgetNonces, Cond.instanceMethod yX2_forgetNonces, Cond.selects RX2 yX2_forgetNonces yX2_forgetNonces, Cond.code yX2_forgetNonces cX2_forgetNonces 1 none, Cond.fieldLink RX2 55 "MinedLedger" "triedCount" "I", Cond.fieldLink RX2 58 "MinedLedger" "keptNonce" "I"]
def wsX2_drop : List Cond := .code yX2_drop cX2_drop 1 (some .int) :: ((wsX2_drop_r1 ++ (wsX2_drop_r2 ++ wsX2_drop_r3)) ++ wsX20 ++ wsX00)
def wsX2_may : List Cond := .code yX2_may cX2_may 2 (some .int) :: ([.fieldLink RX2 19 "MinedLedger" "filter" "LMinedLedger$Filter;", .methodLink RX2 132 yX0_mayHave, .instanceMethod yX0_mayHave, .selects RX0 yX0_mayHave yX0_mayHave, .initialized RX0, .code yX0_mayHave cX0_mayHave 4 (some .boolean), .fieldLink RX0 9 "MinedLedger$Filter" "bits" "[I", .methodLink RX0 19 yX0_bitOf, .static yX0_bitOf, .code yX0_bitOf cX0_bitOf 2 (some .int), .constant RX0 26 (-1756908916), .methodLink RX0 23 yX0_stirred, .static yX0_stirred, .code yX0_stirred cX0_stirred 4 (some .int), .constant RX0 27 (-862048943), .constant RX0 33 (461845907), .constant RX0 34 (-430675100), .constant RX0 35 (-2048144789), .constant RX0 36 (-1028477387), .static yX2_right, .initialized RX2, .code yX2_right cX2_right 2 (some .int)] ++ wsX20 ++ wsX00)
def wsX2_hasWord : List Cond := .code yX2_hasWord cX2_hasWord 5 (some .boolean) :: ([.fieldLink RX2 23 "MinedLedger" "cells" "[I"] ++ wsX20)
def wsX2_find_r1 : List Cond := [Cond.fieldLink RX2 19 "MinedLedger" "filter" "LMinedLedger$Filter;", Cond.fieldLink RX2 36 "MinedLedger" "entryCount" "I", Cond.methodLink RX2 132 yX0_mayHave, Cond.instanceMethod yX0_mayHave, Cond.selects RX0 yX0_mayHave yX0_mayHave, Cond.initialized RX0, Cond.code yX0_mayHave cX0_mayHave 4 (some .boolean), Cond.fieldLink RX0 9 "MinedLedger$Filter" "bits" "[I", Cond.methodLink RX0 19 yX0_bitOf, Cond.static yX0_bitOf, Cond.code yX0_bitOf cX0_bitOf 2 (some .int), Cond.constant RX0 26 (-1756908916), Cond.methodLink RX0 23 yX0_stirred, Cond.static yX0_stirred, Cond.code yX0_stirred cX0_stirred 4 (some .int), Cond.constant RX0 27 (-862048943), Cond.constant RX0 33 (461845907), Cond.constant RX0 34 (-430675100), Cond.constant RX0 35 (-2048144789), Cond.constant RX0 36 (-1028477387), Cond.static yX2_right, Cond.initialized RX2, Cond.code yX2_right cX2_right 2 (some .int), Cond.methodLink RX2 135 yX2_hasWord]
def wsX2_find_r2 : List Cond := [Cond.instanceMethod yX2_hasWord, Cond.selects RX2 yX2_hasWord yX2_hasWord, Cond.code yX2_hasWord cX2_hasWord 5 (some .boolean), Cond.fieldLink RX2 23 "MinedLedger" "cells" "[I"]
def wsX2_find : List Cond := .code yX2_find cX2_find 3 (some .int) :: ((wsX2_find_r1 ++ wsX2_find_r2) ++ wsX20 ++ wsX00)
def wsX2_stir : List Cond := .code yX2_stir cX2_stir 3 (some .int) :: ([.methodLink RX2 138 yX0_stirred, .static yX0_stirred, .initialized RX0, .code yX0_stirred cX0_stirred 4 (some .int), .constant RX0 27 (-862048943), .constant RX0 33 (461845907), .constant RX0 34 (-430675100), .constant RX0 35 (-2048144789), .constant RX0 36 (-1028477387), .static yX2_right, .initialized RX2, .code yX2_right cX2_right 2 (some .int)])
def wsX2_begin : List Cond := .code yX2_begin cX2_begin 2 (some .int) :: ([.fieldLink RX2 61 "MinedLedger" "place" "I"] ++ wsX20)
def wsX2_isHashOf : List Cond := .code yX2_isHashOf cX2_isHashOf 7 (some .boolean) :: ([.fieldLink RX2 23 "MinedLedger" "cells" "[I", .methodLink RX2 107 yX2_hasEntry, .instanceMethod yX2_hasEntry, .selects RX2 yX2_hasEntry yX2_hasEntry, .initialized RX2, .code yX2_hasEntry cX2_hasEntry 2 (some .boolean), .fieldLink RX2 36 "MinedLedger" "entryCount" "I"] ++ wsX20)
def wsX2_auditHead : List Cond := .code yX2_auditHead cX2_auditHead 1 (some .int) :: ([.fieldLink RX2 36 "MinedLedger" "entryCount" "I", .fieldLink RX2 27 "MinedLedger" "headWords" "[I", .fieldLink RX2 64 "MinedLedger" "latestFault" "I", .methodLink RX2 49 Lib.Math.max.name, .static Lib.Math.max.name, .initialized "java/lang/Math", .code Lib.Math.max.name Lib.Math.max.code 2 (some .int), .methodLink RX2 153 yX2_isHashOf, .instanceMethod yX2_isHashOf, .selects RX2 yX2_isHashOf yX2_isHashOf, .initialized RX2, .code yX2_isHashOf cX2_isHashOf 7 (some .boolean), .fieldLink RX2 23 "MinedLedger" "cells" "[I", .methodLink RX2 107 yX2_hasEntry, .instanceMethod yX2_hasEntry, .selects RX2 yX2_hasEntry yX2_hasEntry, .code yX2_hasEntry cX2_hasEntry 2 (some .boolean)] ++ wsX20)
def wsX2_faultOf_r1 : List Cond := [Cond.fieldLink RX2 23 "MinedLedger" "cells" "[I", Cond.fieldLink RX2 10 "MinedLedger" "hasher" "LMinedLedger$Hasher;", Cond.methodLink RX2 153 yX2_isHashOf, Cond.instanceMethod yX2_isHashOf, Cond.selects RX2 yX2_isHashOf yX2_isHashOf, Cond.initialized RX2, Cond.code yX2_isHashOf cX2_isHashOf 7 (some .boolean), Cond.methodLink RX2 107 yX2_hasEntry, Cond.instanceMethod yX2_hasEntry, Cond.selects RX2 yX2_hasEntry yX2_hasEntry, Cond.code yX2_hasEntry cX2_hasEntry 2 (some .boolean), Cond.fieldLink RX2 36 "MinedLedger" "entryCount" "I", Cond.methodLink RX2 103 yX2_skipOf, Cond.static yX2_skipOf, Cond.code yX2_skipOf cX2_skipOf 1 (some .int), Cond.methodLink RX2 157 yX1_takeAll, Cond.instanceMethod yX1_takeAll, Cond.selects RX1 yX1_takeAll yX1_takeAll, Cond.initialized RX1, Cond.code yX1_takeAll cX1_takeAll 3 none, Cond.methodLink RX1 21 yX1_takeFirst, Cond.instanceMethod yX1_takeFirst, Cond.selects RX1 yX1_takeFirst yX1_takeFirst, Cond.code yX1_takeFirst cX1_takeFirst 3 none]
def wsX2_faultOf_r2 : List Cond := [Cond.fieldLink RX1 28 "MinedLedger$Hasher" "START" "[I", Cond.fieldLink RX1 9 "MinedLedger$Hasher" "middle" "[I", Cond.methodLink RX1 31 arraycopyName, Cond.native arraycopyName, Cond.static arraycopyName, Cond.initialized "java/lang/System", Cond.fieldLink RX1 18 "MinedLedger$Hasher" "w" "[I", Cond.methodLink RX1 37 yX1_mixInto, Cond.instanceMethod yX1_mixInto, Cond.selects RX1 yX1_mixInto yX1_mixInto, Cond.code yX1_mixInto cX1_mixInto 13 none, Cond.fieldLink RX1 61 "MinedLedger$Hasher" "K" "[I", Cond.methodLink RX1 54 yX1_spread, Cond.instanceMethod yX1_spread, Cond.selects RX1 yX1_spread yX1_spread, Cond.code yX1_spread cX1_spread 4 none, Cond.static yX2_right, Cond.code yX2_right cX2_right 2 (some .int), Cond.methodLink RX1 25 yX1_takeRest, Cond.instanceMethod yX1_takeRest, Cond.selects RX1 yX1_takeRest yX1_takeRest, Cond.code yX1_takeRest cX1_takeRest 4 none, Cond.fieldLink RX1 15 "MinedLedger$Hasher" "hash" "[I", Cond.constant RX1 41 (-2147483648)]
def wsX2_faultOf_r3 : List Cond := [Cond.methodLink RX1 42 yJ7_fill_fda19, Cond.static yJ7_fill_fda19, Cond.initialized RJ7, Cond.code yJ7_fill_fda19 cJ7_fill_fda19 5 none, Cond.methodLink RJ7 13 yJ7_rangeCheck_23922, Cond.static yJ7_rangeCheck_23922, Cond.code yJ7_rangeCheck_23922 cJ7_rangeCheck_23922 3 none, Cond.methodLink RX2 160 yX1_isAt, Cond.instanceMethod yX1_isAt, Cond.selects RX1 yX1_isAt yX1_isAt, Cond.code yX1_isAt cX1_isAt 4 (some .boolean), Cond.methodLink RX2 118 yX1_zeros, Cond.instanceMethod yX1_zeros, Cond.selects RX1 yX1_zeros yX1_zeros, Cond.code yX1_zeros cX1_zeros 2 (some .int), Cond.methodLink RX1 48 yJ6_numberOfLeadingZeros_0f7a4, Cond.static yJ6_numberOfLeadingZeros_0f7a4, Cond.initialized RJ6, Cond.code yJ6_numberOfLeadingZeros_0f7a4 cJ6_numberOfLeadingZeros_0f7a4 2 (some .int), Cond.constant RJ6 264 (65536)]
def wsX2_faultOf : List Cond := .code yX2_faultOf cX2_faultOf 3 (some .int) :: ((wsX2_faultOf_r1 ++ (wsX2_faultOf_r2 ++ wsX2_faultOf_r3)) ++ wsX20 ++ wsX10)
def wsX2_audit_r1 : List Cond := [Cond.fieldLink RX2 64 "MinedLedger" "latestFault" "I", Cond.fieldLink RX2 61 "MinedLedger" "place" "I", Cond.fieldLink RX2 36 "MinedLedger" "entryCount" "I", Cond.methodLink RX2 147 yX2_auditHead, Cond.instanceMethod yX2_auditHead, Cond.selects RX2 yX2_auditHead yX2_auditHead, Cond.initialized RX2, Cond.code yX2_auditHead cX2_auditHead 1 (some .int), Cond.fieldLink RX2 27 "MinedLedger" "headWords" "[I", Cond.methodLink RX2 49 Lib.Math.max.name, Cond.static Lib.Math.max.name, Cond.initialized "java/lang/Math", Cond.code Lib.Math.max.name Lib.Math.max.code 2 (some .int), Cond.methodLink RX2 153 yX2_isHashOf, Cond.instanceMethod yX2_isHashOf, Cond.selects RX2 yX2_isHashOf yX2_isHashOf, Cond.code yX2_isHashOf cX2_isHashOf 7 (some .boolean), Cond.fieldLink RX2 23 "MinedLedger" "cells" "[I", Cond.methodLink RX2 107 yX2_hasEntry, Cond.instanceMethod yX2_hasEntry, Cond.selects RX2 yX2_hasEntry yX2_hasEntry, Cond.code yX2_hasEntry cX2_hasEntry 2 (some .boolean), Cond.methodLink RX2 150 yX2_faultOf, Cond.instanceMethod yX2_faultOf]
def wsX2_audit_r2 : List Cond := [Cond.selects RX2 yX2_faultOf yX2_faultOf, Cond.code yX2_faultOf cX2_faultOf 3 (some .int), Cond.fieldLink RX2 10 "MinedLedger" "hasher" "LMinedLedger$Hasher;", Cond.methodLink RX2 103 yX2_skipOf, Cond.static yX2_skipOf, Cond.code yX2_skipOf cX2_skipOf 1 (some .int), Cond.methodLink RX2 157 yX1_takeAll, Cond.instanceMethod yX1_takeAll, Cond.selects RX1 yX1_takeAll yX1_takeAll, Cond.initialized RX1, Cond.code yX1_takeAll cX1_takeAll 3 none, Cond.methodLink RX1 21 yX1_takeFirst, Cond.instanceMethod yX1_takeFirst, Cond.selects RX1 yX1_takeFirst yX1_takeFirst, Cond.code yX1_takeFirst cX1_takeFirst 3 none, Cond.fieldLink RX1 28 "MinedLedger$Hasher" "START" "[I", Cond.fieldLink RX1 9 "MinedLedger$Hasher" "middle" "[I", Cond.methodLink RX1 31 arraycopyName, Cond.native arraycopyName, Cond.static arraycopyName, Cond.initialized "java/lang/System", Cond.fieldLink RX1 18 "MinedLedger$Hasher" "w" "[I", Cond.methodLink RX1 37 yX1_mixInto, Cond.instanceMethod yX1_mixInto]
def wsX2_audit_r3 : List Cond := [Cond.selects RX1 yX1_mixInto yX1_mixInto, Cond.code yX1_mixInto cX1_mixInto 13 none, Cond.fieldLink RX1 61 "MinedLedger$Hasher" "K" "[I", Cond.methodLink RX1 54 yX1_spread, Cond.instanceMethod yX1_spread, Cond.selects RX1 yX1_spread yX1_spread, Cond.code yX1_spread cX1_spread 4 none, Cond.static yX2_right, Cond.code yX2_right cX2_right 2 (some .int), Cond.methodLink RX1 25 yX1_takeRest, Cond.instanceMethod yX1_takeRest, Cond.selects RX1 yX1_takeRest yX1_takeRest, Cond.code yX1_takeRest cX1_takeRest 4 none, Cond.fieldLink RX1 15 "MinedLedger$Hasher" "hash" "[I", Cond.constant RX1 41 (-2147483648), Cond.methodLink RX1 42 yJ7_fill_fda19, Cond.static yJ7_fill_fda19, Cond.initialized RJ7, Cond.code yJ7_fill_fda19 cJ7_fill_fda19 5 none, Cond.methodLink RJ7 13 yJ7_rangeCheck_23922, Cond.static yJ7_rangeCheck_23922, Cond.code yJ7_rangeCheck_23922 cJ7_rangeCheck_23922 3 none, Cond.methodLink RX2 160 yX1_isAt, Cond.instanceMethod yX1_isAt]
def wsX2_audit_r4 : List Cond := [Cond.selects RX1 yX1_isAt yX1_isAt, Cond.code yX1_isAt cX1_isAt 4 (some .boolean), Cond.methodLink RX2 118 yX1_zeros, Cond.instanceMethod yX1_zeros, Cond.selects RX1 yX1_zeros yX1_zeros, Cond.code yX1_zeros cX1_zeros 2 (some .int), Cond.methodLink RX1 48 yJ6_numberOfLeadingZeros_0f7a4, Cond.static yJ6_numberOfLeadingZeros_0f7a4, Cond.initialized RJ6, Cond.code yJ6_numberOfLeadingZeros_0f7a4 cJ6_numberOfLeadingZeros_0f7a4 2 (some .int), Cond.constant RJ6 264 (65536)]
def wsX2_audit : List Cond := .code yX2_audit cX2_audit 3 (some .int) :: ((wsX2_audit_r1 ++ (wsX2_audit_r2 ++ (wsX2_audit_r3 ++ wsX2_audit_r4))) ++ wsX20 ++ wsX10)
def wsX2_fault : List Cond := .code yX2_fault cX2_fault 1 (some .int) :: ([.fieldLink RX2 64 "MinedLedger" "latestFault" "I"] ++ wsX20)
def wsX2_goesBySkip : List Cond := .code yX2_goesBySkip cX2_goesBySkip 2 (some .boolean) :: ([.methodLink RX2 103 yX2_skipOf, .static yX2_skipOf, .initialized RX2, .code yX2_skipOf cX2_skipOf 1 (some .int)])
def wsX2_nextOnWay : List Cond := .code yX2_nextOnWay cX2_nextOnWay 2 (some .int) :: ([.methodLink RX2 173 yX2_goesBySkip, .static yX2_goesBySkip, .initialized RX2, .code yX2_goesBySkip cX2_goesBySkip 2 (some .boolean), .methodLink RX2 103 yX2_skipOf, .static yX2_skipOf, .code yX2_skipOf cX2_skipOf 1 (some .int)])
def wsX2_levelsTo : List Cond := .code yX2_levelsTo cX2_levelsTo 4 (some .int) :: ([.fieldLink RX2 36 "MinedLedger" "entryCount" "I", .methodLink RX2 167 yX2_nextOnWay, .static yX2_nextOnWay, .initialized RX2, .code yX2_nextOnWay cX2_nextOnWay 2 (some .int), .methodLink RX2 173 yX2_goesBySkip, .static yX2_goesBySkip, .code yX2_goesBySkip cX2_goesBySkip 2 (some .boolean), .methodLink RX2 103 yX2_skipOf, .static yX2_skipOf, .code yX2_skipOf cX2_skipOf 1 (some .int)] ++ wsX20)
def wsX2_way : List Cond := .code yX2_way cX2_way 5 (some .int) :: ([.fieldLink RX2 36 "MinedLedger" "entryCount" "I", .methodLink RX2 107 yX2_hasEntry, .instanceMethod yX2_hasEntry, .selects RX2 yX2_hasEntry yX2_hasEntry, .initialized RX2, .code yX2_hasEntry cX2_hasEntry 2 (some .boolean), .methodLink RX2 164 yX2_levelsTo, .instanceMethod yX2_levelsTo, .selects RX2 yX2_levelsTo yX2_levelsTo, .code yX2_levelsTo cX2_levelsTo 4 (some .int), .methodLink RX2 167 yX2_nextOnWay, .static yX2_nextOnWay, .code yX2_nextOnWay cX2_nextOnWay 2 (some .int), .methodLink RX2 173 yX2_goesBySkip, .static yX2_goesBySkip, .code yX2_goesBySkip cX2_goesBySkip 2 (some .boolean), .methodLink RX2 103 yX2_skipOf, .static yX2_skipOf, .code yX2_skipOf cX2_skipOf 1 (some .int)] ++ wsX20)
def wsX2_prove_r1 : List Cond := [Cond.fieldLink RX2 36 "MinedLedger" "entryCount" "I", Cond.fieldLink RX2 23 "MinedLedger" "cells" "[I", Cond.fieldLink RX2 33 "MinedLedger" "proofWords" "[I", Cond.methodLink RX2 84 arraycopyName, Cond.native arraycopyName, Cond.static arraycopyName, Cond.initialized "java/lang/System", Cond.fieldLink RX2 67 "MinedLedger" "proofLength" "I", Cond.methodLink RX2 107 yX2_hasEntry, Cond.instanceMethod yX2_hasEntry, Cond.selects RX2 yX2_hasEntry yX2_hasEntry, Cond.initialized RX2, Cond.code yX2_hasEntry cX2_hasEntry 2 (some .boolean), Cond.methodLink RX2 164 yX2_levelsTo, Cond.instanceMethod yX2_levelsTo, Cond.selects RX2 yX2_levelsTo yX2_levelsTo, Cond.code yX2_levelsTo cX2_levelsTo 4 (some .int), Cond.methodLink RX2 167 yX2_nextOnWay, Cond.static yX2_nextOnWay, Cond.code yX2_nextOnWay cX2_nextOnWay 2 (some .int), Cond.methodLink RX2 173 yX2_goesBySkip, Cond.static yX2_goesBySkip, Cond.code yX2_goesBySkip cX2_goesBySkip 2 (some .boolean), Cond.methodLink RX2 103 yX2_skipOf]
def wsX2_prove_r2 : List Cond := [Cond.static yX2_skipOf, Cond.code yX2_skipOf cX2_skipOf 1 (some .int)]
def wsX2_prove : List Cond := .code yX2_prove cX2_prove 5 (some .int) :: ((wsX2_prove_r1 ++ wsX2_prove_r2) ++ wsX20)
def wsX2_proof : List Cond := .code yX2_proof cX2_proof 2 (some .int) :: ([.fieldLink RX2 67 "MinedLedger" "proofLength" "I", .fieldLink RX2 33 "MinedLedger" "proofWords" "[I"] ++ wsX20)
def wsX2_forge : List Cond := .code yX2_forge cX2_forge 4 (some .int) :: ([.fieldLink RX2 67 "MinedLedger" "proofLength" "I", .fieldLink RX2 33 "MinedLedger" "proofWords" "[I"] ++ wsX20)
def wsX2_proofHolds_r1 : List Cond := [Cond.fieldLink RX2 67 "MinedLedger" "proofLength" "I", Cond.fieldLink RX2 27 "MinedLedger" "headWords" "[I", Cond.fieldLink RX2 36 "MinedLedger" "entryCount" "I", Cond.fieldLink RX2 10 "MinedLedger" "hasher" "LMinedLedger$Hasher;", Cond.fieldLink RX2 33 "MinedLedger" "proofWords" "[I", Cond.methodLink RX2 164 yX2_levelsTo, Cond.instanceMethod yX2_levelsTo, Cond.selects RX2 yX2_levelsTo yX2_levelsTo, Cond.initialized RX2, Cond.code yX2_levelsTo cX2_levelsTo 4 (some .int), Cond.methodLink RX2 167 yX2_nextOnWay, Cond.static yX2_nextOnWay, Cond.code yX2_nextOnWay cX2_nextOnWay 2 (some .int), Cond.methodLink RX2 173 yX2_goesBySkip, Cond.static yX2_goesBySkip, Cond.code yX2_goesBySkip cX2_goesBySkip 2 (some .boolean), Cond.methodLink RX2 103 yX2_skipOf, Cond.static yX2_skipOf, Cond.code yX2_skipOf cX2_skipOf 1 (some .int), Cond.methodLink RX2 157 yX1_takeAll, Cond.instanceMethod yX1_takeAll, Cond.selects RX1 yX1_takeAll yX1_takeAll, Cond.initialized RX1, Cond.code yX1_takeAll cX1_takeAll 3 none]
def wsX2_proofHolds_r2 : List Cond := [Cond.methodLink RX1 21 yX1_takeFirst, Cond.instanceMethod yX1_takeFirst, Cond.selects RX1 yX1_takeFirst yX1_takeFirst, Cond.code yX1_takeFirst cX1_takeFirst 3 none, Cond.fieldLink RX1 28 "MinedLedger$Hasher" "START" "[I", Cond.fieldLink RX1 9 "MinedLedger$Hasher" "middle" "[I", Cond.methodLink RX1 31 arraycopyName, Cond.native arraycopyName, Cond.static arraycopyName, Cond.initialized "java/lang/System", Cond.fieldLink RX1 18 "MinedLedger$Hasher" "w" "[I", Cond.methodLink RX1 37 yX1_mixInto, Cond.instanceMethod yX1_mixInto, Cond.selects RX1 yX1_mixInto yX1_mixInto, Cond.code yX1_mixInto cX1_mixInto 13 none, Cond.fieldLink RX1 61 "MinedLedger$Hasher" "K" "[I", Cond.methodLink RX1 54 yX1_spread, Cond.instanceMethod yX1_spread, Cond.selects RX1 yX1_spread yX1_spread, Cond.code yX1_spread cX1_spread 4 none, Cond.static yX2_right, Cond.code yX2_right cX2_right 2 (some .int), Cond.methodLink RX1 25 yX1_takeRest, Cond.instanceMethod yX1_takeRest]
def wsX2_proofHolds_r3 : List Cond := [Cond.selects RX1 yX1_takeRest yX1_takeRest, Cond.code yX1_takeRest cX1_takeRest 4 none, Cond.fieldLink RX1 15 "MinedLedger$Hasher" "hash" "[I", Cond.constant RX1 41 (-2147483648), Cond.methodLink RX1 42 yJ7_fill_fda19, Cond.static yJ7_fill_fda19, Cond.initialized RJ7, Cond.code yJ7_fill_fda19 cJ7_fill_fda19 5 none, Cond.methodLink RJ7 13 yJ7_rangeCheck_23922, Cond.static yJ7_rangeCheck_23922, Cond.code yJ7_rangeCheck_23922 cJ7_rangeCheck_23922 3 none, Cond.methodLink RX2 160 yX1_isAt, Cond.instanceMethod yX1_isAt, Cond.selects RX1 yX1_isAt yX1_isAt, Cond.code yX1_isAt cX1_isAt 4 (some .boolean)]
def wsX2_proofHolds : List Cond := .code yX2_proofHolds cX2_proofHolds 7 (some .boolean) :: ((wsX2_proofHolds_r1 ++ (wsX2_proofHolds_r2 ++ wsX2_proofHolds_r3)) ++ wsX20 ++ wsX10)
def wsX2_check_r1 : List Cond := [Cond.methodLink RX2 107 yX2_hasEntry, Cond.instanceMethod yX2_hasEntry, Cond.selects RX2 yX2_hasEntry yX2_hasEntry, Cond.initialized RX2, Cond.code yX2_hasEntry cX2_hasEntry 2 (some .boolean), Cond.fieldLink RX2 36 "MinedLedger" "entryCount" "I", Cond.methodLink RX2 170 yX2_proofHolds, Cond.instanceMethod yX2_proofHolds, Cond.selects RX2 yX2_proofHolds yX2_proofHolds, Cond.code yX2_proofHolds cX2_proofHolds 7 (some .boolean), Cond.fieldLink RX2 67 "MinedLedger" "proofLength" "I", Cond.fieldLink RX2 27 "MinedLedger" "headWords" "[I", Cond.fieldLink RX2 10 "MinedLedger" "hasher" "LMinedLedger$Hasher;", Cond.fieldLink RX2 33 "MinedLedger" "proofWords" "[I", Cond.methodLink RX2 164 yX2_levelsTo, Cond.instanceMethod yX2_levelsTo, Cond.selects RX2 yX2_levelsTo yX2_levelsTo, Cond.code yX2_levelsTo cX2_levelsTo 4 (some .int), Cond.methodLink RX2 167 yX2_nextOnWay, Cond.static yX2_nextOnWay, Cond.code yX2_nextOnWay cX2_nextOnWay 2 (some .int), Cond.methodLink RX2 173 yX2_goesBySkip, Cond.static yX2_goesBySkip, Cond.code yX2_goesBySkip cX2_goesBySkip 2 (some .boolean)]
def wsX2_check_r2 : List Cond := [Cond.methodLink RX2 103 yX2_skipOf, Cond.static yX2_skipOf, Cond.code yX2_skipOf cX2_skipOf 1 (some .int), Cond.methodLink RX2 157 yX1_takeAll, Cond.instanceMethod yX1_takeAll, Cond.selects RX1 yX1_takeAll yX1_takeAll, Cond.initialized RX1, Cond.code yX1_takeAll cX1_takeAll 3 none, Cond.methodLink RX1 21 yX1_takeFirst, Cond.instanceMethod yX1_takeFirst, Cond.selects RX1 yX1_takeFirst yX1_takeFirst, Cond.code yX1_takeFirst cX1_takeFirst 3 none, Cond.fieldLink RX1 28 "MinedLedger$Hasher" "START" "[I", Cond.fieldLink RX1 9 "MinedLedger$Hasher" "middle" "[I", Cond.methodLink RX1 31 arraycopyName, Cond.native arraycopyName, Cond.static arraycopyName, Cond.initialized "java/lang/System", Cond.fieldLink RX1 18 "MinedLedger$Hasher" "w" "[I", Cond.methodLink RX1 37 yX1_mixInto, Cond.instanceMethod yX1_mixInto, Cond.selects RX1 yX1_mixInto yX1_mixInto, Cond.code yX1_mixInto cX1_mixInto 13 none, Cond.fieldLink RX1 61 "MinedLedger$Hasher" "K" "[I"]
def wsX2_check_r3 : List Cond := [Cond.methodLink RX1 54 yX1_spread, Cond.instanceMethod yX1_spread, Cond.selects RX1 yX1_spread yX1_spread, Cond.code yX1_spread cX1_spread 4 none, Cond.static yX2_right, Cond.code yX2_right cX2_right 2 (some .int), Cond.methodLink RX1 25 yX1_takeRest, Cond.instanceMethod yX1_takeRest, Cond.selects RX1 yX1_takeRest yX1_takeRest, Cond.code yX1_takeRest cX1_takeRest 4 none, Cond.fieldLink RX1 15 "MinedLedger$Hasher" "hash" "[I", Cond.constant RX1 41 (-2147483648), Cond.methodLink RX1 42 yJ7_fill_fda19, Cond.static yJ7_fill_fda19, Cond.initialized RJ7, Cond.code yJ7_fill_fda19 cJ7_fill_fda19 5 none, Cond.methodLink RJ7 13 yJ7_rangeCheck_23922, Cond.static yJ7_rangeCheck_23922, Cond.code yJ7_rangeCheck_23922 cJ7_rangeCheck_23922 3 none, Cond.methodLink RX2 160 yX1_isAt, Cond.instanceMethod yX1_isAt, Cond.selects RX1 yX1_isAt yX1_isAt, Cond.code yX1_isAt cX1_isAt 4 (some .boolean)]
def wsX2_check : List Cond := .code yX2_check cX2_check 2 (some .int) :: ((wsX2_check_r1 ++ (wsX2_check_r2 ++ wsX2_check_r3)) ++ wsX20 ++ wsX10)
def wsX3_firstHalf_r1 : List Cond := [Cond.fieldLink RX3 30 "MinedLedgerModel" "add" "[I", Cond.constant RX3 65 (1116352408), Cond.constant RX3 66 (1899447441), Cond.constant RX3 67 (-1245643825), Cond.constant RX3 68 (-373957723), Cond.constant RX3 69 (961987163), Cond.constant RX3 70 (1508970993), Cond.constant RX3 71 (-1841331548), Cond.constant RX3 72 (-1424204075), Cond.constant RX3 73 (-670586216), Cond.constant RX3 74 (310598401), Cond.constant RX3 75 (607225278), Cond.constant RX3 76 (1426881987), Cond.constant RX3 77 (1925078388), Cond.constant RX3 78 (-2132889090), Cond.constant RX3 79 (-1680079193), Cond.constant RX3 80 (-1046744716), Cond.constant RX3 81 (-459576895), Cond.constant RX3 82 (-272742522), Cond.constant RX3 83 (264347078), Cond.constant RX3 84 (604807628), Cond.constant RX3 85 (770255983), Cond.constant RX3 86 (1249150122), Cond.constant RX3 87 (1555081692)]
def wsX3_firstHalf_r2 : List Cond := [Cond.constant RX3 88 (1996064986), Cond.constant RX3 89 (-1740746414), Cond.constant RX3 90 (-1473132947), Cond.constant RX3 91 (-1341970488), Cond.constant RX3 92 (-1084653625), Cond.constant RX3 93 (-958395405), Cond.constant RX3 94 (-710438585), Cond.constant RX3 95 (113926993), Cond.constant RX3 96 (338241895)]
def wsX3_firstHalf : List Cond := .code yX3_firstHalf cX3_firstHalf 1 none :: ((wsX3_firstHalf_r1 ++ wsX3_firstHalf_r2) ++ wsX30)
def wsX3_secondHalf_r1 : List Cond := [Cond.fieldLink RX3 30 "MinedLedgerModel" "add" "[I", Cond.constant RX3 97 (666307205), Cond.constant RX3 98 (773529912), Cond.constant RX3 99 (1294757372), Cond.constant RX3 100 (1396182291), Cond.constant RX3 101 (1695183700), Cond.constant RX3 102 (1986661051), Cond.constant RX3 103 (-2117940946), Cond.constant RX3 104 (-1838011259), Cond.constant RX3 105 (-1564481375), Cond.constant RX3 106 (-1474664885), Cond.constant RX3 107 (-1035236496), Cond.constant RX3 108 (-949202525), Cond.constant RX3 109 (-778901479), Cond.constant RX3 110 (-694614492), Cond.constant RX3 111 (-200395387), Cond.constant RX3 112 (275423344), Cond.constant RX3 113 (430227734), Cond.constant RX3 114 (506948616), Cond.constant RX3 115 (659060556), Cond.constant RX3 116 (883997877), Cond.constant RX3 117 (958139571), Cond.constant RX3 118 (1322822218), Cond.constant RX3 119 (1537002063)]
def wsX3_secondHalf_r2 : List Cond := [Cond.constant RX3 120 (1747873779), Cond.constant RX3 121 (1955562222), Cond.constant RX3 122 (2024104815), Cond.constant RX3 123 (-2067236844), Cond.constant RX3 124 (-1933114872), Cond.constant RX3 125 (-1866530822), Cond.constant RX3 126 (-1538233109), Cond.constant RX3 127 (-1090935817), Cond.constant RX3 128 (-965641998)]
def wsX3_secondHalf : List Cond := .code yX3_secondHalf cX3_secondHalf 1 none :: ((wsX3_secondHalf_r1 ++ wsX3_secondHalf_r2) ++ wsX30)
def wsX3_init_r1 : List Cond := [Cond.methodLink RX3 1 objectInit, Cond.instanceMethod objectInit, Cond.code objectInit ⟨#[0xb1]⟩ 1 none, Cond.arrayClass .int, Cond.fieldLink RX3 7 "MinedLedgerModel" "cells" "[I", Cond.fieldLink RX3 13 "MinedLedgerModel" "head" "[I", Cond.fieldLink RX3 16 "MinedLedgerModel" "words" "[I", Cond.fieldLink RX3 19 "MinedLedgerModel" "kept" "I", Cond.arrayClass .boolean, Cond.fieldLink RX3 23 "MinedLedgerModel" "filter" "[Z", Cond.fieldLink RX3 27 "MinedLedgerModel" "proof" "[I", Cond.fieldLink RX3 30 "MinedLedgerModel" "add" "[I", Cond.fieldLink RX3 33 "MinedLedgerModel" "begun" "[I", Cond.fieldLink RX3 36 "MinedLedgerModel" "h" "[I", Cond.fieldLink RX3 39 "MinedLedgerModel" "half" "[I", Cond.fieldLink RX3 42 "MinedLedgerModel" "w" "[I", Cond.fieldLink RX3 45 "MinedLedgerModel" "entry" "[I", Cond.fieldLink RX3 48 "MinedLedgerModel" "difficulty" "I", Cond.constant RX3 51 (1779033703), Cond.constant RX3 52 (-1150833019), Cond.constant RX3 53 (1013904242), Cond.constant RX3 54 (-1521486534), Cond.constant RX3 55 (1359893119), Cond.constant RX3 56 (-1694144372)]
def wsX3_init_r2 : List Cond := [Cond.constant RX3 57 (528734635), Cond.constant RX3 58 (1541459225), Cond.methodLink RX3 59 yX3_firstHalf, Cond.instanceMethod yX3_firstHalf, Cond.selects RX3 yX3_firstHalf yX3_firstHalf, Cond.initialized RX3, Cond.code yX3_firstHalf cX3_firstHalf 1 none, Cond.constant RX3 65 (1116352408), Cond.constant RX3 66 (1899447441), Cond.constant RX3 67 (-1245643825), Cond.constant RX3 68 (-373957723), Cond.constant RX3 69 (961987163), Cond.constant RX3 70 (1508970993), Cond.constant RX3 71 (-1841331548), Cond.constant RX3 72 (-1424204075), Cond.constant RX3 73 (-670586216), Cond.constant RX3 74 (310598401), Cond.constant RX3 75 (607225278), Cond.constant RX3 76 (1426881987), Cond.constant RX3 77 (1925078388), Cond.constant RX3 78 (-2132889090), Cond.constant RX3 79 (-1680079193), Cond.constant RX3 80 (-1046744716), Cond.constant RX3 81 (-459576895)]
def wsX3_init_r3 : List Cond := [Cond.constant RX3 82 (-272742522), Cond.constant RX3 83 (264347078), Cond.constant RX3 84 (604807628), Cond.constant RX3 85 (770255983), Cond.constant RX3 86 (1249150122), Cond.constant RX3 87 (1555081692), Cond.constant RX3 88 (1996064986), Cond.constant RX3 89 (-1740746414), Cond.constant RX3 90 (-1473132947), Cond.constant RX3 91 (-1341970488), Cond.constant RX3 92 (-1084653625), Cond.constant RX3 93 (-958395405), Cond.constant RX3 94 (-710438585), Cond.constant RX3 95 (113926993), Cond.constant RX3 96 (338241895), Cond.methodLink RX3 62 yX3_secondHalf, Cond.instanceMethod yX3_secondHalf, Cond.selects RX3 yX3_secondHalf yX3_secondHalf, Cond.code yX3_secondHalf cX3_secondHalf 1 none, Cond.constant RX3 97 (666307205), Cond.constant RX3 98 (773529912), Cond.constant RX3 99 (1294757372), Cond.constant RX3 100 (1396182291), Cond.constant RX3 101 (1695183700)]
def wsX3_init_r4 : List Cond := [Cond.constant RX3 102 (1986661051), Cond.constant RX3 103 (-2117940946), Cond.constant RX3 104 (-1838011259), Cond.constant RX3 105 (-1564481375), Cond.constant RX3 106 (-1474664885), Cond.constant RX3 107 (-1035236496), Cond.constant RX3 108 (-949202525), Cond.constant RX3 109 (-778901479), Cond.constant RX3 110 (-694614492), Cond.constant RX3 111 (-200395387), Cond.constant RX3 112 (275423344), Cond.constant RX3 113 (430227734), Cond.constant RX3 114 (506948616), Cond.constant RX3 115 (659060556), Cond.constant RX3 116 (883997877), Cond.constant RX3 117 (958139571), Cond.constant RX3 118 (1322822218), Cond.constant RX3 119 (1537002063), Cond.constant RX3 120 (1747873779), Cond.constant RX3 121 (1955562222), Cond.constant RX3 122 (2024104815), Cond.constant RX3 123 (-2067236844), Cond.constant RX3 124 (-1933114872), Cond.constant RX3 125 (-1866530822)]
def wsX3_init_r5 : List Cond := [Cond.constant RX3 126 (-1538233109), Cond.constant RX3 127 (-1090935817), Cond.constant RX3 128 (-965641998)]
def wsX3_init : List Cond := .code yX3_init cX3_init 2 none :: ((wsX3_init_r1 ++ (wsX3_init_r2 ++ (wsX3_init_r3 ++ (wsX3_init_r4 ++ wsX3_init_r5)))) ++ wsX30)
def wsX3_turned : List Cond := .code yX3_turned cX3_turned 2 (some .int) :: ([])
def wsX3_mix : List Cond := .code yX3_mix cX3_mix 12 none :: ([.fieldLink RX3 42 "MinedLedgerModel" "w" "[I", .fieldLink RX3 36 "MinedLedgerModel" "h" "[I", .fieldLink RX3 30 "MinedLedgerModel" "add" "[I", .methodLink RX3 129 yX3_turned, .static yX3_turned, .initialized RX3, .code yX3_turned cX3_turned 2 (some .int)] ++ wsX30)
def wsX3_mixFirst : List Cond := .code yX3_mixFirst cX3_mixFirst 2 none :: ([.fieldLink RX3 36 "MinedLedgerModel" "h" "[I", .fieldLink RX3 33 "MinedLedgerModel" "begun" "[I", .fieldLink RX3 42 "MinedLedgerModel" "w" "[I", .fieldLink RX3 45 "MinedLedgerModel" "entry" "[I", .fieldLink RX3 39 "MinedLedgerModel" "half" "[I", .methodLink RX3 133 yX3_mix, .instanceMethod yX3_mix, .selects RX3 yX3_mix yX3_mix, .initialized RX3, .code yX3_mix cX3_mix 12 none, .fieldLink RX3 30 "MinedLedgerModel" "add" "[I", .methodLink RX3 129 yX3_turned, .static yX3_turned, .code yX3_turned cX3_turned 2 (some .int)] ++ wsX30)
def wsX3_mixSecond : List Cond := .code yX3_mixSecond cX3_mixSecond 2 none :: ([.fieldLink RX3 36 "MinedLedgerModel" "h" "[I", .fieldLink RX3 39 "MinedLedgerModel" "half" "[I", .fieldLink RX3 42 "MinedLedgerModel" "w" "[I", .fieldLink RX3 45 "MinedLedgerModel" "entry" "[I", .constant RX3 136 (-2147483648), .methodLink RX3 133 yX3_mix, .instanceMethod yX3_mix, .selects RX3 yX3_mix yX3_mix, .initialized RX3, .code yX3_mix cX3_mix 12 none, .fieldLink RX3 30 "MinedLedgerModel" "add" "[I", .methodLink RX3 129 yX3_turned, .static yX3_turned, .code yX3_turned cX3_turned 2 (some .int)] ++ wsX30)
def wsX3_zerosOf : List Cond := .code yX3_zerosOf cX3_zerosOf 2 (some .int) :: ([])
def wsX3_zeros : List Cond := .code yX3_zeros cX3_zeros 3 (some .int) :: ([.fieldLink RX3 36 "MinedLedgerModel" "h" "[I", .methodLink RX3 137 yX3_zerosOf, .static yX3_zerosOf, .initialized RX3, .code yX3_zerosOf cX3_zerosOf 2 (some .int)] ++ wsX30)
def wsX3_lowest : List Cond := .code yX3_lowest cX3_lowest 1 (some .int) :: ([])
def wsX3_hashCell : List Cond := .code yX3_hashCell cX3_hashCell 3 (some .int) :: ([.fieldLink RX3 7 "MinedLedgerModel" "cells" "[I"] ++ wsX30)
def wsX3_draft : List Cond := .code yX3_draft cX3_draft 2 none :: ([.fieldLink RX3 45 "MinedLedgerModel" "entry" "[I", .fieldLink RX3 141 "MinedLedgerModel" "count" "I", .fieldLink RX3 150 "MinedLedgerModel" "wordCount" "I", .fieldLink RX3 16 "MinedLedgerModel" "words" "[I", .fieldLink RX3 48 "MinedLedgerModel" "difficulty" "I", .methodLink RX3 144 yX3_hashCell, .instanceMethod yX3_hashCell, .selects RX3 yX3_hashCell yX3_hashCell, .initialized RX3, .code yX3_hashCell cX3_hashCell 3 (some .int), .fieldLink RX3 7 "MinedLedgerModel" "cells" "[I", .methodLink RX3 147 yX3_lowest, .static yX3_lowest, .code yX3_lowest cX3_lowest 1 (some .int)] ++ wsX30)
def wsX3_forget : List Cond := .code yX3_forget cX3_forget 1 none :: ([.fieldLink RX3 153 "MinedLedgerModel" "tried" "I", .fieldLink RX3 19 "MinedLedgerModel" "kept" "I"] ++ wsX30)
def wsX3_put : List Cond := .code yX3_put cX3_put 2 (some .int) :: ([.fieldLink RX3 150 "MinedLedgerModel" "wordCount" "I", .fieldLink RX3 16 "MinedLedgerModel" "words" "[I", .methodLink RX3 156 yX3_forget, .instanceMethod yX3_forget, .selects RX3 yX3_forget yX3_forget, .initialized RX3, .code yX3_forget cX3_forget 1 none, .fieldLink RX3 153 "MinedLedgerModel" "tried" "I", .fieldLink RX3 19 "MinedLedgerModel" "kept" "I"] ++ wsX30)
def wsX3_takeBack : List Cond := .code yX3_takeBack cX3_takeBack 2 (some .int) :: ([.fieldLink RX3 150 "MinedLedgerModel" "wordCount" "I", .methodLink RX3 156 yX3_forget, .instanceMethod yX3_forget, .selects RX3 yX3_forget yX3_forget, .initialized RX3, .code yX3_forget cX3_forget 1 none, .fieldLink RX3 153 "MinedLedgerModel" "tried" "I", .fieldLink RX3 19 "MinedLedgerModel" "kept" "I"] ++ wsX30)
def wsX3_pending : List Cond := .code yX3_pending cX3_pending 2 (some .int) :: ([.fieldLink RX3 150 "MinedLedgerModel" "wordCount" "I", .fieldLink RX3 16 "MinedLedgerModel" "words" "[I"] ++ wsX30)
def wsX3_difficulty : List Cond := .code yX3_difficulty cX3_difficulty 3 (some .int) :: ([.fieldLink RX3 48 "MinedLedgerModel" "difficulty" "I", .methodLink RX3 156 yX3_forget, .instanceMethod yX3_forget, .selects RX3 yX3_forget yX3_forget, .initialized RX3, .code yX3_forget cX3_forget 1 none, .fieldLink RX3 153 "MinedLedgerModel" "tried" "I", .fieldLink RX3 19 "MinedLedgerModel" "kept" "I"] ++ wsX30)
def wsX3_mine_r1 : List Cond := [Cond.fieldLink RX3 19 "MinedLedgerModel" "kept" "I", Cond.fieldLink RX3 153 "MinedLedgerModel" "tried" "I", Cond.constant RX3 159 (100000), Cond.fieldLink RX3 45 "MinedLedgerModel" "entry" "[I", Cond.fieldLink RX3 48 "MinedLedgerModel" "difficulty" "I", Cond.methodLink RX3 160 yX3_draft, Cond.instanceMethod yX3_draft, Cond.selects RX3 yX3_draft yX3_draft, Cond.initialized RX3, Cond.code yX3_draft cX3_draft 2 none, Cond.fieldLink RX3 141 "MinedLedgerModel" "count" "I", Cond.fieldLink RX3 150 "MinedLedgerModel" "wordCount" "I", Cond.fieldLink RX3 16 "MinedLedgerModel" "words" "[I", Cond.methodLink RX3 144 yX3_hashCell, Cond.instanceMethod yX3_hashCell, Cond.selects RX3 yX3_hashCell yX3_hashCell, Cond.code yX3_hashCell cX3_hashCell 3 (some .int), Cond.fieldLink RX3 7 "MinedLedgerModel" "cells" "[I", Cond.methodLink RX3 147 yX3_lowest, Cond.static yX3_lowest, Cond.code yX3_lowest cX3_lowest 1 (some .int), Cond.methodLink RX3 163 yX3_mixFirst, Cond.instanceMethod yX3_mixFirst, Cond.selects RX3 yX3_mixFirst yX3_mixFirst]
def wsX3_mine_r2 : List Cond := [Cond.code yX3_mixFirst cX3_mixFirst 2 none, Cond.fieldLink RX3 36 "MinedLedgerModel" "h" "[I", Cond.fieldLink RX3 33 "MinedLedgerModel" "begun" "[I", Cond.fieldLink RX3 42 "MinedLedgerModel" "w" "[I", Cond.fieldLink RX3 39 "MinedLedgerModel" "half" "[I", Cond.methodLink RX3 133 yX3_mix, Cond.instanceMethod yX3_mix, Cond.selects RX3 yX3_mix yX3_mix, Cond.code yX3_mix cX3_mix 12 none, Cond.fieldLink RX3 30 "MinedLedgerModel" "add" "[I", Cond.methodLink RX3 129 yX3_turned, Cond.static yX3_turned, Cond.code yX3_turned cX3_turned 2 (some .int), Cond.methodLink RX3 166 yX3_mixSecond, Cond.instanceMethod yX3_mixSecond, Cond.selects RX3 yX3_mixSecond yX3_mixSecond, Cond.code yX3_mixSecond cX3_mixSecond 2 none, Cond.constant RX3 136 (-2147483648), Cond.methodLink RX3 169 yX3_zeros, Cond.instanceMethod yX3_zeros, Cond.selects RX3 yX3_zeros yX3_zeros, Cond.code yX3_zeros cX3_zeros 3 (some .int), Cond.methodLink RX3 137 yX3_zerosOf, Cond.static yX3_zerosOf]
def wsX3_mine_r3 : List Cond := [Cond.code yX3_zerosOf cX3_zerosOf 2 (some .int)]
def wsX3_mine : List Cond := .code yX3_mine cX3_mine 3 (some .int) :: ((wsX3_mine_r1 ++ (wsX3_mine_r2 ++ wsX3_mine_r3)) ++ wsX30)
def wsX3_tried : List Cond := .code yX3_tried cX3_tried 1 (some .int) :: ([.fieldLink RX3 153 "MinedLedgerModel" "tried" "I"] ++ wsX30)
def wsX3_stir : List Cond := .code yX3_stir cX3_stir 5 (some .int) :: ([.constant RX3 184 (-862048943), .constant RX3 185 (461845907), .constant RX3 186 (-430675100), .constant RX3 187 (-2048144789), .constant RX3 188 (-1028477387), .methodLink RX3 129 yX3_turned, .static yX3_turned, .initialized RX3, .code yX3_turned cX3_turned 2 (some .int)])
def wsX3_bit : List Cond := .code yX3_bit cX3_bit 3 (some .int) :: ([.constant RX3 192 (-1756908916), .methodLink RX3 189 yX3_stir, .instanceMethod yX3_stir, .selects RX3 yX3_stir yX3_stir, .initialized RX3, .code yX3_stir cX3_stir 5 (some .int), .constant RX3 184 (-862048943), .constant RX3 185 (461845907), .constant RX3 186 (-430675100), .constant RX3 187 (-2048144789), .constant RX3 188 (-1028477387), .methodLink RX3 129 yX3_turned, .static yX3_turned, .code yX3_turned cX3_turned 2 (some .int)])
def wsX3_setBits : List Cond := .code yX3_setBits cX3_setBits 4 none :: ([.fieldLink RX3 23 "MinedLedgerModel" "filter" "[Z", .fieldLink RX3 7 "MinedLedgerModel" "cells" "[I", .methodLink RX3 193 yX3_bit, .instanceMethod yX3_bit, .selects RX3 yX3_bit yX3_bit, .initialized RX3, .code yX3_bit cX3_bit 3 (some .int), .constant RX3 192 (-1756908916), .methodLink RX3 189 yX3_stir, .instanceMethod yX3_stir, .selects RX3 yX3_stir yX3_stir, .code yX3_stir cX3_stir 5 (some .int), .constant RX3 184 (-862048943), .constant RX3 185 (461845907), .constant RX3 186 (-430675100), .constant RX3 187 (-2048144789), .constant RX3 188 (-1028477387), .methodLink RX3 129 yX3_turned, .static yX3_turned, .code yX3_turned cX3_turned 2 (some .int)] ++ wsX30)
def wsX3_commit_r1 : List Cond := [Cond.fieldLink RX3 141 "MinedLedgerModel" "count" "I", Cond.fieldLink RX3 19 "MinedLedgerModel" "kept" "I", Cond.fieldLink RX3 45 "MinedLedgerModel" "entry" "[I", Cond.fieldLink RX3 7 "MinedLedgerModel" "cells" "[I", Cond.fieldLink RX3 36 "MinedLedgerModel" "h" "[I", Cond.fieldLink RX3 13 "MinedLedgerModel" "head" "[I", Cond.fieldLink RX3 150 "MinedLedgerModel" "wordCount" "I", Cond.methodLink RX3 160 yX3_draft, Cond.instanceMethod yX3_draft, Cond.selects RX3 yX3_draft yX3_draft, Cond.initialized RX3, Cond.code yX3_draft cX3_draft 2 none, Cond.fieldLink RX3 16 "MinedLedgerModel" "words" "[I", Cond.fieldLink RX3 48 "MinedLedgerModel" "difficulty" "I", Cond.methodLink RX3 144 yX3_hashCell, Cond.instanceMethod yX3_hashCell, Cond.selects RX3 yX3_hashCell yX3_hashCell, Cond.code yX3_hashCell cX3_hashCell 3 (some .int), Cond.methodLink RX3 147 yX3_lowest, Cond.static yX3_lowest, Cond.code yX3_lowest cX3_lowest 1 (some .int), Cond.methodLink RX3 163 yX3_mixFirst, Cond.instanceMethod yX3_mixFirst, Cond.selects RX3 yX3_mixFirst yX3_mixFirst]
def wsX3_commit_r2 : List Cond := [Cond.code yX3_mixFirst cX3_mixFirst 2 none, Cond.fieldLink RX3 33 "MinedLedgerModel" "begun" "[I", Cond.fieldLink RX3 42 "MinedLedgerModel" "w" "[I", Cond.fieldLink RX3 39 "MinedLedgerModel" "half" "[I", Cond.methodLink RX3 133 yX3_mix, Cond.instanceMethod yX3_mix, Cond.selects RX3 yX3_mix yX3_mix, Cond.code yX3_mix cX3_mix 12 none, Cond.fieldLink RX3 30 "MinedLedgerModel" "add" "[I", Cond.methodLink RX3 129 yX3_turned, Cond.static yX3_turned, Cond.code yX3_turned cX3_turned 2 (some .int), Cond.methodLink RX3 166 yX3_mixSecond, Cond.instanceMethod yX3_mixSecond, Cond.selects RX3 yX3_mixSecond yX3_mixSecond, Cond.code yX3_mixSecond cX3_mixSecond 2 none, Cond.constant RX3 136 (-2147483648), Cond.methodLink RX3 173 yX3_setBits, Cond.instanceMethod yX3_setBits, Cond.selects RX3 yX3_setBits yX3_setBits, Cond.code yX3_setBits cX3_setBits 4 none, Cond.fieldLink RX3 23 "MinedLedgerModel" "filter" "[Z", Cond.methodLink RX3 193 yX3_bit, Cond.instanceMethod yX3_bit]
def wsX3_commit_r3 : List Cond := [Cond.selects RX3 yX3_bit yX3_bit, Cond.code yX3_bit cX3_bit 3 (some .int), Cond.constant RX3 192 (-1756908916), Cond.methodLink RX3 189 yX3_stir, Cond.instanceMethod yX3_stir, Cond.selects RX3 yX3_stir yX3_stir, Cond.code yX3_stir cX3_stir 5 (some .int), Cond.constant RX3 184 (-862048943), Cond.constant RX3 185 (461845907), Cond.constant RX3 186 (-430675100), Cond.constant RX3 187 (-2048144789), Cond.constant RX3 188 (-1028477387), Cond.methodLink RX3 156 yX3_forget, Cond.instanceMethod yX3_forget, Cond.selects RX3 yX3_forget yX3_forget, Cond.code yX3_forget cX3_forget 1 none, Cond.fieldLink RX3 153 "MinedLedgerModel" "tried" "I"]
def wsX3_commit : List Cond := .code yX3_commit cX3_commit 2 (some .int) :: ((wsX3_commit_r1 ++ (wsX3_commit_r2 ++ wsX3_commit_r3)) ++ wsX30)
def wsX3_count : List Cond := .code yX3_count cX3_count 1 (some .int) :: ([.fieldLink RX3 141 "MinedLedgerModel" "count" "I"] ++ wsX30)
def wsX3_head : List Cond := .code yX3_head cX3_head 2 (some .int) :: ([.fieldLink RX3 13 "MinedLedgerModel" "head" "[I"] ++ wsX30)
def wsX3_isCell : List Cond := .code yX3_isCell cX3_isCell 3 (some .boolean) :: ([.fieldLink RX3 141 "MinedLedgerModel" "count" "I"] ++ wsX30)
def wsX3_cell : List Cond := .code yX3_cell cX3_cell 3 (some .int) :: ([.fieldLink RX3 7 "MinedLedgerModel" "cells" "[I", .methodLink RX3 177 yX3_isCell, .instanceMethod yX3_isCell, .selects RX3 yX3_isCell yX3_isCell, .initialized RX3, .code yX3_isCell cX3_isCell 3 (some .boolean), .fieldLink RX3 141 "MinedLedgerModel" "count" "I"] ++ wsX30)
def wsX3_spoil : List Cond := .code yX3_spoil cX3_spoil 5 (some .int) :: ([.fieldLink RX3 7 "MinedLedgerModel" "cells" "[I", .methodLink RX3 177 yX3_isCell, .instanceMethod yX3_isCell, .selects RX3 yX3_isCell yX3_isCell, .initialized RX3, .code yX3_isCell cX3_isCell 3 (some .boolean), .fieldLink RX3 141 "MinedLedgerModel" "count" "I", .methodLink RX3 156 yX3_forget, .instanceMethod yX3_forget, .selects RX3 yX3_forget yX3_forget, .code yX3_forget cX3_forget 1 none, .fieldLink RX3 153 "MinedLedgerModel" "tried" "I", .fieldLink RX3 19 "MinedLedgerModel" "kept" "I"] ++ wsX30)
def wsX3_drop_r1 : List Cond := [Cond.fieldLink RX3 141 "MinedLedgerModel" "count" "I", Cond.fieldLink RX3 13 "MinedLedgerModel" "head" "[I", Cond.fieldLink RX3 7 "MinedLedgerModel" "cells" "[I", Cond.fieldLink RX3 23 "MinedLedgerModel" "filter" "[Z", Cond.fieldLink RX3 181 "MinedLedgerModel" "place" "I", Cond.methodLink RX3 173 yX3_setBits, Cond.instanceMethod yX3_setBits, Cond.selects RX3 yX3_setBits yX3_setBits, Cond.initialized RX3, Cond.code yX3_setBits cX3_setBits 4 none, Cond.methodLink RX3 193 yX3_bit, Cond.instanceMethod yX3_bit, Cond.selects RX3 yX3_bit yX3_bit, Cond.code yX3_bit cX3_bit 3 (some .int), Cond.constant RX3 192 (-1756908916), Cond.methodLink RX3 189 yX3_stir, Cond.instanceMethod yX3_stir, Cond.selects RX3 yX3_stir yX3_stir, Cond.code yX3_stir cX3_stir 5 (some .int), Cond.constant RX3 184 (-862048943), Cond.constant RX3 185 (461845907), Cond.constant RX3 186 (-430675100), Cond.constant RX3 187 (-2048144789), Cond.constant RX3 188 (-1028477387)]
def wsX3_drop_r2 : List Cond := [Cond.methodLink RX3 129 yX3_turned, Cond.static yX3_turned, Cond.code yX3_turned cX3_turned 2 (some .int), Cond.methodLink RX3 156 yX3_forget, Cond.instanceMethod yX3_forget, Cond.selects RX3 yX3_forget yX3_forget, Cond.code yX3_forget cX3_forget 1 none, Cond.fieldLink RX3 153 "MinedLedgerModel" "tried" "I", Cond.fieldLink RX3 19 "MinedLedgerModel" "kept" "I"]
def wsX3_drop : List Cond := .code yX3_drop cX3_drop 2 (some .int) :: ((wsX3_drop_r1 ++ wsX3_drop_r2) ++ wsX30)
def wsX3_maybe : List Cond := .code yX3_maybe cX3_maybe 4 (some .boolean) :: ([.fieldLink RX3 23 "MinedLedgerModel" "filter" "[Z", .methodLink RX3 193 yX3_bit, .instanceMethod yX3_bit, .selects RX3 yX3_bit yX3_bit, .initialized RX3, .code yX3_bit cX3_bit 3 (some .int), .constant RX3 192 (-1756908916), .methodLink RX3 189 yX3_stir, .instanceMethod yX3_stir, .selects RX3 yX3_stir yX3_stir, .code yX3_stir cX3_stir 5 (some .int), .constant RX3 184 (-862048943), .constant RX3 185 (461845907), .constant RX3 186 (-430675100), .constant RX3 187 (-2048144789), .constant RX3 188 (-1028477387), .methodLink RX3 129 yX3_turned, .static yX3_turned, .code yX3_turned cX3_turned 2 (some .int)] ++ wsX30)
def wsX3_may : List Cond := .code yX3_may cX3_may 2 (some .int) :: ([.methodLink RX3 196 yX3_maybe, .instanceMethod yX3_maybe, .selects RX3 yX3_maybe yX3_maybe, .initialized RX3, .code yX3_maybe cX3_maybe 4 (some .boolean), .fieldLink RX3 23 "MinedLedgerModel" "filter" "[Z", .methodLink RX3 193 yX3_bit, .instanceMethod yX3_bit, .selects RX3 yX3_bit yX3_bit, .code yX3_bit cX3_bit 3 (some .int), .constant RX3 192 (-1756908916), .methodLink RX3 189 yX3_stir, .instanceMethod yX3_stir, .selects RX3 yX3_stir yX3_stir, .code yX3_stir cX3_stir 5 (some .int), .constant RX3 184 (-862048943), .constant RX3 185 (461845907), .constant RX3 186 (-430675100), .constant RX3 187 (-2048144789), .constant RX3 188 (-1028477387), .methodLink RX3 129 yX3_turned, .static yX3_turned, .code yX3_turned cX3_turned 2 (some .int)] ++ wsX30)
def wsX3_find_r1 : List Cond := [Cond.fieldLink RX3 141 "MinedLedgerModel" "count" "I", Cond.fieldLink RX3 7 "MinedLedgerModel" "cells" "[I", Cond.methodLink RX3 196 yX3_maybe, Cond.instanceMethod yX3_maybe, Cond.selects RX3 yX3_maybe yX3_maybe, Cond.initialized RX3, Cond.code yX3_maybe cX3_maybe 4 (some .boolean), Cond.fieldLink RX3 23 "MinedLedgerModel" "filter" "[Z", Cond.methodLink RX3 193 yX3_bit, Cond.instanceMethod yX3_bit, Cond.selects RX3 yX3_bit yX3_bit, Cond.code yX3_bit cX3_bit 3 (some .int), Cond.constant RX3 192 (-1756908916), Cond.methodLink RX3 189 yX3_stir, Cond.instanceMethod yX3_stir, Cond.selects RX3 yX3_stir yX3_stir, Cond.code yX3_stir cX3_stir 5 (some .int), Cond.constant RX3 184 (-862048943), Cond.constant RX3 185 (461845907), Cond.constant RX3 186 (-430675100), Cond.constant RX3 187 (-2048144789), Cond.constant RX3 188 (-1028477387), Cond.methodLink RX3 129 yX3_turned, Cond.static yX3_turned]
def wsX3_find_r2 : List Cond := [Cond.code yX3_turned cX3_turned 2 (some .int)]
def wsX3_find : List Cond := .code yX3_find cX3_find 4 (some .int) :: ((wsX3_find_r1 ++ wsX3_find_r2) ++ wsX30)
def wsX3_begin : List Cond := .code yX3_begin cX3_begin 2 (some .int) :: ([.fieldLink RX3 181 "MinedLedgerModel" "place" "I"] ++ wsX30)
def wsX3_isHashOf : List Cond := .code yX3_isHashOf cX3_isHashOf 5 (some .boolean) :: ([.fieldLink RX3 7 "MinedLedgerModel" "cells" "[I", .methodLink RX3 144 yX3_hashCell, .instanceMethod yX3_hashCell, .selects RX3 yX3_hashCell yX3_hashCell, .initialized RX3, .code yX3_hashCell cX3_hashCell 3 (some .int)] ++ wsX30)
def wsX3_faultOf_r1 : List Cond := [Cond.fieldLink RX3 45 "MinedLedgerModel" "entry" "[I", Cond.fieldLink RX3 7 "MinedLedgerModel" "cells" "[I", Cond.fieldLink RX3 36 "MinedLedgerModel" "h" "[I", Cond.methodLink RX3 200 yX3_isHashOf, Cond.instanceMethod yX3_isHashOf, Cond.selects RX3 yX3_isHashOf yX3_isHashOf, Cond.initialized RX3, Cond.code yX3_isHashOf cX3_isHashOf 5 (some .boolean), Cond.methodLink RX3 144 yX3_hashCell, Cond.instanceMethod yX3_hashCell, Cond.selects RX3 yX3_hashCell yX3_hashCell, Cond.code yX3_hashCell cX3_hashCell 3 (some .int), Cond.methodLink RX3 147 yX3_lowest, Cond.static yX3_lowest, Cond.code yX3_lowest cX3_lowest 1 (some .int), Cond.methodLink RX3 163 yX3_mixFirst, Cond.instanceMethod yX3_mixFirst, Cond.selects RX3 yX3_mixFirst yX3_mixFirst, Cond.code yX3_mixFirst cX3_mixFirst 2 none, Cond.fieldLink RX3 33 "MinedLedgerModel" "begun" "[I", Cond.fieldLink RX3 42 "MinedLedgerModel" "w" "[I", Cond.fieldLink RX3 39 "MinedLedgerModel" "half" "[I", Cond.methodLink RX3 133 yX3_mix, Cond.instanceMethod yX3_mix]
def wsX3_faultOf_r2 : List Cond := [Cond.selects RX3 yX3_mix yX3_mix, Cond.code yX3_mix cX3_mix 12 none, Cond.fieldLink RX3 30 "MinedLedgerModel" "add" "[I", Cond.methodLink RX3 129 yX3_turned, Cond.static yX3_turned, Cond.code yX3_turned cX3_turned 2 (some .int), Cond.methodLink RX3 166 yX3_mixSecond, Cond.instanceMethod yX3_mixSecond, Cond.selects RX3 yX3_mixSecond yX3_mixSecond, Cond.code yX3_mixSecond cX3_mixSecond 2 none, Cond.constant RX3 136 (-2147483648), Cond.methodLink RX3 169 yX3_zeros, Cond.instanceMethod yX3_zeros, Cond.selects RX3 yX3_zeros yX3_zeros, Cond.code yX3_zeros cX3_zeros 3 (some .int), Cond.methodLink RX3 137 yX3_zerosOf, Cond.static yX3_zerosOf, Cond.code yX3_zerosOf cX3_zerosOf 2 (some .int)]
def wsX3_faultOf : List Cond := .code yX3_faultOf cX3_faultOf 3 (some .int) :: ((wsX3_faultOf_r1 ++ wsX3_faultOf_r2) ++ wsX30)
def wsX3_isHeadRight : List Cond := .code yX3_isHeadRight cX3_isHeadRight 3 (some .boolean) :: ([.fieldLink RX3 13 "MinedLedgerModel" "head" "[I", .fieldLink RX3 141 "MinedLedgerModel" "count" "I", .methodLink RX3 144 yX3_hashCell, .instanceMethod yX3_hashCell, .selects RX3 yX3_hashCell yX3_hashCell, .initialized RX3, .code yX3_hashCell cX3_hashCell 3 (some .int), .fieldLink RX3 7 "MinedLedgerModel" "cells" "[I"] ++ wsX30)
def wsX3_audit_r1 : List Cond := [Cond.fieldLink RX3 203 "MinedLedgerModel" "fault" "I", Cond.fieldLink RX3 181 "MinedLedgerModel" "place" "I", Cond.fieldLink RX3 141 "MinedLedgerModel" "count" "I", Cond.methodLink RX3 206 yX3_faultOf, Cond.instanceMethod yX3_faultOf, Cond.selects RX3 yX3_faultOf yX3_faultOf, Cond.initialized RX3, Cond.code yX3_faultOf cX3_faultOf 3 (some .int), Cond.fieldLink RX3 45 "MinedLedgerModel" "entry" "[I", Cond.fieldLink RX3 7 "MinedLedgerModel" "cells" "[I", Cond.fieldLink RX3 36 "MinedLedgerModel" "h" "[I", Cond.methodLink RX3 200 yX3_isHashOf, Cond.instanceMethod yX3_isHashOf, Cond.selects RX3 yX3_isHashOf yX3_isHashOf, Cond.code yX3_isHashOf cX3_isHashOf 5 (some .boolean), Cond.methodLink RX3 144 yX3_hashCell, Cond.instanceMethod yX3_hashCell, Cond.selects RX3 yX3_hashCell yX3_hashCell, Cond.code yX3_hashCell cX3_hashCell 3 (some .int), Cond.methodLink RX3 147 yX3_lowest, Cond.static yX3_lowest, Cond.code yX3_lowest cX3_lowest 1 (some .int), Cond.methodLink RX3 163 yX3_mixFirst, Cond.instanceMethod yX3_mixFirst]
def wsX3_audit_r2 : List Cond := [Cond.selects RX3 yX3_mixFirst yX3_mixFirst, Cond.code yX3_mixFirst cX3_mixFirst 2 none, Cond.fieldLink RX3 33 "MinedLedgerModel" "begun" "[I", Cond.fieldLink RX3 42 "MinedLedgerModel" "w" "[I", Cond.fieldLink RX3 39 "MinedLedgerModel" "half" "[I", Cond.methodLink RX3 133 yX3_mix, Cond.instanceMethod yX3_mix, Cond.selects RX3 yX3_mix yX3_mix, Cond.code yX3_mix cX3_mix 12 none, Cond.fieldLink RX3 30 "MinedLedgerModel" "add" "[I", Cond.methodLink RX3 129 yX3_turned, Cond.static yX3_turned, Cond.code yX3_turned cX3_turned 2 (some .int), Cond.methodLink RX3 166 yX3_mixSecond, Cond.instanceMethod yX3_mixSecond, Cond.selects RX3 yX3_mixSecond yX3_mixSecond, Cond.code yX3_mixSecond cX3_mixSecond 2 none, Cond.constant RX3 136 (-2147483648), Cond.methodLink RX3 169 yX3_zeros, Cond.instanceMethod yX3_zeros, Cond.selects RX3 yX3_zeros yX3_zeros, Cond.code yX3_zeros cX3_zeros 3 (some .int), Cond.methodLink RX3 137 yX3_zerosOf, Cond.static yX3_zerosOf]
def wsX3_audit_r3 : List Cond := [Cond.code yX3_zerosOf cX3_zerosOf 2 (some .int), Cond.methodLink RX3 209 yX3_isHeadRight, Cond.instanceMethod yX3_isHeadRight, Cond.selects RX3 yX3_isHeadRight yX3_isHeadRight, Cond.code yX3_isHeadRight cX3_isHeadRight 3 (some .boolean), Cond.fieldLink RX3 13 "MinedLedgerModel" "head" "[I"]
def wsX3_audit : List Cond := .code yX3_audit cX3_audit 3 (some .int) :: ((wsX3_audit_r1 ++ (wsX3_audit_r2 ++ wsX3_audit_r3)) ++ wsX30)
def wsX3_fault : List Cond := .code yX3_fault cX3_fault 1 (some .int) :: ([.fieldLink RX3 203 "MinedLedgerModel" "fault" "I"] ++ wsX30)
def wsX3_next : List Cond := .code yX3_next cX3_next 3 (some .int) :: ([.methodLink RX3 147 yX3_lowest, .static yX3_lowest, .initialized RX3, .code yX3_lowest cX3_lowest 1 (some .int)])
def wsX3_way : List Cond := .code yX3_way cX3_way 5 (some .int) :: ([.fieldLink RX3 141 "MinedLedgerModel" "count" "I", .methodLink RX3 213 yX3_next, .instanceMethod yX3_next, .selects RX3 yX3_next yX3_next, .initialized RX3, .code yX3_next cX3_next 3 (some .int), .methodLink RX3 147 yX3_lowest, .static yX3_lowest, .code yX3_lowest cX3_lowest 1 (some .int)] ++ wsX30)
def wsX3_prove : List Cond := .code yX3_prove cX3_prove 5 (some .int) :: ([.fieldLink RX3 141 "MinedLedgerModel" "count" "I", .fieldLink RX3 216 "MinedLedgerModel" "proofSize" "I", .fieldLink RX3 27 "MinedLedgerModel" "proof" "[I", .fieldLink RX3 7 "MinedLedgerModel" "cells" "[I", .methodLink RX3 213 yX3_next, .instanceMethod yX3_next, .selects RX3 yX3_next yX3_next, .initialized RX3, .code yX3_next cX3_next 3 (some .int), .methodLink RX3 147 yX3_lowest, .static yX3_lowest, .code yX3_lowest cX3_lowest 1 (some .int)] ++ wsX30)
def wsX3_proof : List Cond := .code yX3_proof cX3_proof 2 (some .int) :: ([.fieldLink RX3 216 "MinedLedgerModel" "proofSize" "I", .fieldLink RX3 27 "MinedLedgerModel" "proof" "[I"] ++ wsX30)
def wsX3_forge : List Cond := .code yX3_forge cX3_forge 4 (some .int) :: ([.fieldLink RX3 216 "MinedLedgerModel" "proofSize" "I", .fieldLink RX3 27 "MinedLedgerModel" "proof" "[I"] ++ wsX30)
def wsX3_check_r1 : List Cond := [Cond.fieldLink RX3 141 "MinedLedgerModel" "count" "I", Cond.fieldLink RX3 216 "MinedLedgerModel" "proofSize" "I", Cond.fieldLink RX3 45 "MinedLedgerModel" "entry" "[I", Cond.fieldLink RX3 27 "MinedLedgerModel" "proof" "[I", Cond.fieldLink RX3 36 "MinedLedgerModel" "h" "[I", Cond.fieldLink RX3 13 "MinedLedgerModel" "head" "[I", Cond.methodLink RX3 163 yX3_mixFirst, Cond.instanceMethod yX3_mixFirst, Cond.selects RX3 yX3_mixFirst yX3_mixFirst, Cond.initialized RX3, Cond.code yX3_mixFirst cX3_mixFirst 2 none, Cond.fieldLink RX3 33 "MinedLedgerModel" "begun" "[I", Cond.fieldLink RX3 42 "MinedLedgerModel" "w" "[I", Cond.fieldLink RX3 39 "MinedLedgerModel" "half" "[I", Cond.methodLink RX3 133 yX3_mix, Cond.instanceMethod yX3_mix, Cond.selects RX3 yX3_mix yX3_mix, Cond.code yX3_mix cX3_mix 12 none, Cond.fieldLink RX3 30 "MinedLedgerModel" "add" "[I", Cond.methodLink RX3 129 yX3_turned, Cond.static yX3_turned, Cond.code yX3_turned cX3_turned 2 (some .int), Cond.methodLink RX3 166 yX3_mixSecond, Cond.instanceMethod yX3_mixSecond]
def wsX3_check_r2 : List Cond := [Cond.selects RX3 yX3_mixSecond yX3_mixSecond, Cond.code yX3_mixSecond cX3_mixSecond 2 none, Cond.constant RX3 136 (-2147483648), Cond.methodLink RX3 213 yX3_next, Cond.instanceMethod yX3_next, Cond.selects RX3 yX3_next yX3_next, Cond.code yX3_next cX3_next 3 (some .int), Cond.methodLink RX3 147 yX3_lowest, Cond.static yX3_lowest, Cond.code yX3_lowest cX3_lowest 1 (some .int)]
def wsX3_check : List Cond := .code yX3_check cX3_check 8 (some .int) :: ((wsX3_check_r1 ++ wsX3_check_r2) ++ wsX30)
def wsJ9_max_7cf53 : List Cond := .code yJ9_max_7cf53 cJ9_max_7cf53 2 (some .int) :: ([])
def wsJ9_min_7cf53 : List Cond := .code yJ9_min_7cf53 cJ9_min_7cf53 2 (some .int) :: ([])
set_option maxRecDepth 20000 in
abbrev vwCl : List vw_C := [(RX0, TX0, 1), (RX1, TX1, 3), (RX2, TX2, 14), (RX3, TX3, 19)]
end
section
theorem dX0_init_0 : decode cX0_init 0 = .ok (.aload_n 0, 1) := by decide +kernel
theorem dX0_init_1 : decode cX0_init 1 = .ok (.invokespecial 1, 3) := by decide +kernel
theorem dX0_init_4 : decode cX0_init 4 = .ok (.aload_n 0, 1) := by decide +kernel
theorem dX0_init_5 : decode cX0_init 5 = .ok (.bipush 32, 2) := by decide +kernel
theorem dX0_init_7 : decode cX0_init 7 = .ok (.newarray .int, 2) := by decide +kernel
theorem dX0_init_9 : decode cX0_init 9 = .ok (.putfield 9, 3) := by decide +kernel
theorem dX0_init_12 : decode cX0_init 12 = .ok (.return_, 1) := by decide +kernel
set_option maxRecDepth 20000 in
theorem ggX0_clear_J7_fill_53178 : GoodIn wsX0_clear wsJ7_fill_53178 := goodIn_r _ [5] (by decide +kernel) (by decide +kernel)
set_option maxRecDepth 20000 in
theorem gX0_clear_J7_fill_53178 : GoodIn wsX0_clear (va_wsS RX0 13 yJ7_fill_53178 wsJ7_fill_53178) := goodIn_app (goodIn_of _ (by decide +kernel)) ggX0_clear_J7_fill_53178
theorem dX0_clear_0 : decode cX0_clear 0 = .ok (.aload_n 0, 1) := by decide +kernel
theorem dX0_clear_1 : decode cX0_clear 1 = .ok (.getfield 9, 3) := by decide +kernel
theorem dX0_clear_4 : decode cX0_clear 4 = .ok (.iconst 0, 1) := by decide +kernel
theorem dX0_clear_5 : decode cX0_clear 5 = .ok (.invokestatic 13, 3) := by decide +kernel
theorem dX0_clear_8 : decode cX0_clear 8 = .ok (.return_, 1) := by decide +kernel
set_option maxRecDepth 20000 in
theorem ggX0_include_X0_bitOf : GoodIn wsX0_include wsX0_bitOf := goodIn_r _ [5, 6, 7, 8, 4, 9, 10, 11, 12, 13, 14, 15, 16, 17] (by decide +kernel) (by decide +kernel)
set_option maxRecDepth 20000 in
theorem gX0_include_X0_bitOf : GoodIn wsX0_include (va_wsS RX0 19 yX0_bitOf wsX0_bitOf) := goodIn_app (goodIn_of _ (by decide +kernel)) ggX0_include_X0_bitOf
theorem dX0_include_0 : decode cX0_include 0 = .ok (.iconst 0, 1) := by decide +kernel
theorem dX0_include_1 : decode cX0_include 1 = .ok (.istore_n 2, 1) := by decide +kernel
theorem dX0_include_2 : decode cX0_include 2 = .ok (.iload_n 2, 1) := by decide +kernel
theorem dX0_include_3 : decode cX0_include 3 = .ok (.iconst 4, 1) := by decide +kernel
theorem dX0_include_4 : decode cX0_include 4 = .ok (.if_icmp .ge 32, 3) := by decide +kernel
theorem dX0_include_7 : decode cX0_include 7 = .ok (.iload_n 1, 1) := by decide +kernel
theorem dX0_include_8 : decode cX0_include 8 = .ok (.iload_n 2, 1) := by decide +kernel
theorem dX0_include_9 : decode cX0_include 9 = .ok (.invokestatic 19, 3) := by decide +kernel
theorem dX0_include_12 : decode cX0_include 12 = .ok (.istore_n 3, 1) := by decide +kernel
theorem dX0_include_13 : decode cX0_include 13 = .ok (.aload_n 0, 1) := by decide +kernel
theorem dX0_include_14 : decode cX0_include 14 = .ok (.getfield 9, 3) := by decide +kernel
theorem dX0_include_17 : decode cX0_include 17 = .ok (.iload_n 3, 1) := by decide +kernel
theorem dX0_include_18 : decode cX0_include 18 = .ok (.iconst 5, 1) := by decide +kernel
theorem dX0_include_19 : decode cX0_include 19 = .ok (.iushr, 1) := by decide +kernel
theorem dX0_include_20 : decode cX0_include 20 = .ok (.dup2, 1) := by decide +kernel
theorem dX0_include_21 : decode cX0_include 21 = .ok (.iaload, 1) := by decide +kernel
theorem dX0_include_22 : decode cX0_include 22 = .ok (.iconst 1, 1) := by decide +kernel
theorem dX0_include_23 : decode cX0_include 23 = .ok (.iload_n 3, 1) := by decide +kernel
theorem dX0_include_24 : decode cX0_include 24 = .ok (.bipush 31, 2) := by decide +kernel
theorem dX0_include_26 : decode cX0_include 26 = .ok (.iand, 1) := by decide +kernel
theorem dX0_include_27 : decode cX0_include 27 = .ok (.ishl, 1) := by decide +kernel
theorem dX0_include_28 : decode cX0_include 28 = .ok (.ior, 1) := by decide +kernel
theorem dX0_include_29 : decode cX0_include 29 = .ok (.iastore, 1) := by decide +kernel
theorem dX0_include_30 : decode cX0_include 30 = .ok (.iinc 2 1, 3) := by decide +kernel
theorem dX0_include_33 : decode cX0_include 33 = .ok (.goto (-31), 3) := by decide +kernel
theorem dX0_include_36 : decode cX0_include 36 = .ok (.return_, 1) := by decide +kernel
set_option maxRecDepth 20000 in
theorem ggX0_mayHave_X0_bitOf : GoodIn wsX0_mayHave wsX0_bitOf := goodIn_r _ [5, 6, 7, 8, 4, 9, 10, 11, 12, 13, 14, 15, 16, 17] (by decide +kernel) (by decide +kernel)
set_option maxRecDepth 20000 in
theorem gX0_mayHave_X0_bitOf : GoodIn wsX0_mayHave (va_wsS RX0 19 yX0_bitOf wsX0_bitOf) := goodIn_app (goodIn_of _ (by decide +kernel)) ggX0_mayHave_X0_bitOf
theorem dX0_mayHave_0 : decode cX0_mayHave 0 = .ok (.iconst 0, 1) := by decide +kernel
theorem dX0_mayHave_1 : decode cX0_mayHave 1 = .ok (.istore_n 2, 1) := by decide +kernel
theorem dX0_mayHave_2 : decode cX0_mayHave 2 = .ok (.iload_n 2, 1) := by decide +kernel
theorem dX0_mayHave_3 : decode cX0_mayHave 3 = .ok (.iconst 4, 1) := by decide +kernel
theorem dX0_mayHave_4 : decode cX0_mayHave 4 = .ok (.if_icmp .ge 35, 3) := by decide +kernel
theorem dX0_mayHave_7 : decode cX0_mayHave 7 = .ok (.iload_n 1, 1) := by decide +kernel
theorem dX0_mayHave_8 : decode cX0_mayHave 8 = .ok (.iload_n 2, 1) := by decide +kernel
theorem dX0_mayHave_9 : decode cX0_mayHave 9 = .ok (.invokestatic 19, 3) := by decide +kernel
theorem dX0_mayHave_12 : decode cX0_mayHave 12 = .ok (.istore_n 3, 1) := by decide +kernel
theorem dX0_mayHave_13 : decode cX0_mayHave 13 = .ok (.aload_n 0, 1) := by decide +kernel
theorem dX0_mayHave_14 : decode cX0_mayHave 14 = .ok (.getfield 9, 3) := by decide +kernel
theorem dX0_mayHave_17 : decode cX0_mayHave 17 = .ok (.iload_n 3, 1) := by decide +kernel
theorem dX0_mayHave_18 : decode cX0_mayHave 18 = .ok (.iconst 5, 1) := by decide +kernel
theorem dX0_mayHave_19 : decode cX0_mayHave 19 = .ok (.iushr, 1) := by decide +kernel
theorem dX0_mayHave_20 : decode cX0_mayHave 20 = .ok (.iaload, 1) := by decide +kernel
theorem dX0_mayHave_21 : decode cX0_mayHave 21 = .ok (.iconst 1, 1) := by decide +kernel
theorem dX0_mayHave_22 : decode cX0_mayHave 22 = .ok (.iload_n 3, 1) := by decide +kernel
theorem dX0_mayHave_23 : decode cX0_mayHave 23 = .ok (.bipush 31, 2) := by decide +kernel
theorem dX0_mayHave_25 : decode cX0_mayHave 25 = .ok (.iand, 1) := by decide +kernel
theorem dX0_mayHave_26 : decode cX0_mayHave 26 = .ok (.ishl, 1) := by decide +kernel
theorem dX0_mayHave_27 : decode cX0_mayHave 27 = .ok (.iand, 1) := by decide +kernel
theorem dX0_mayHave_28 : decode cX0_mayHave 28 = .ok (.ifCond .ne 5, 3) := by decide +kernel
theorem dX0_mayHave_31 : decode cX0_mayHave 31 = .ok (.iconst 0, 1) := by decide +kernel
theorem dX0_mayHave_32 : decode cX0_mayHave 32 = .ok (.ireturn, 1) := by decide +kernel
theorem dX0_mayHave_33 : decode cX0_mayHave 33 = .ok (.iinc 2 1, 3) := by decide +kernel
theorem dX0_mayHave_36 : decode cX0_mayHave 36 = .ok (.goto (-34), 3) := by decide +kernel
theorem dX0_mayHave_39 : decode cX0_mayHave 39 = .ok (.iconst 1, 1) := by decide +kernel
theorem dX0_mayHave_40 : decode cX0_mayHave 40 = .ok (.ireturn, 1) := by decide +kernel
set_option maxRecDepth 20000 in
theorem ggX0_bitOf_X0_stirred : GoodIn wsX0_bitOf wsX0_stirred := goodIn_r _ [5, 6, 7, 8, 9, 10, 11, 12, 13] (by decide +kernel) (by decide +kernel)
set_option maxRecDepth 20000 in
theorem gX0_bitOf_X0_stirred : GoodIn wsX0_bitOf (va_wsS RX0 23 yX0_stirred wsX0_stirred) := goodIn_app (goodIn_of _ (by decide +kernel)) ggX0_bitOf_X0_stirred
theorem dX0_bitOf_0 : decode cX0_bitOf 0 = .ok (.iload_n 0, 1) := by decide +kernel
theorem dX0_bitOf_1 : decode cX0_bitOf 1 = .ok (.iconst 0, 1) := by decide +kernel
theorem dX0_bitOf_2 : decode cX0_bitOf 2 = .ok (.invokestatic 23, 3) := by decide +kernel
theorem dX0_bitOf_5 : decode cX0_bitOf 5 = .ok (.iload_n 1, 1) := by decide +kernel
theorem dX0_bitOf_6 : decode cX0_bitOf 6 = .ok (.iload_n 0, 1) := by decide +kernel
theorem dX0_bitOf_7 : decode cX0_bitOf 7 = .ok (.ldc 26, 2) := by decide +kernel
theorem dX0_bitOf_9 : decode cX0_bitOf 9 = .ok (.invokestatic 23, 3) := by decide +kernel
theorem dX0_bitOf_12 : decode cX0_bitOf 12 = .ok (.imul, 1) := by decide +kernel
theorem dX0_bitOf_13 : decode cX0_bitOf 13 = .ok (.iadd, 1) := by decide +kernel
theorem dX0_bitOf_14 : decode cX0_bitOf 14 = .ok (.sipush 1023, 3) := by decide +kernel
theorem dX0_bitOf_17 : decode cX0_bitOf 17 = .ok (.iand, 1) := by decide +kernel
theorem dX0_bitOf_18 : decode cX0_bitOf 18 = .ok (.ireturn, 1) := by decide +kernel
set_option maxRecDepth 20000 in
theorem ggX0_stirred_X2_right : GoodIn wsX0_stirred wsX2_right := goodIn_r _ [8] (by decide +kernel) (by decide +kernel)
set_option maxRecDepth 20000 in
theorem gX0_stirred_X2_right_n28 : GoodIn wsX0_stirred (wsX2_right) := ggX0_stirred_X2_right
theorem dX0_stirred_0 : decode cX0_stirred 0 = .ok (.iload_n 0, 1) := by decide +kernel
theorem dX0_stirred_1 : decode cX0_stirred 1 = .ok (.ldc 27, 2) := by decide +kernel
theorem dX0_stirred_3 : decode cX0_stirred 3 = .ok (.imul, 1) := by decide +kernel
theorem dX0_stirred_4 : decode cX0_stirred 4 = .ok (.istore_n 2, 1) := by decide +kernel
theorem dX0_stirred_5 : decode cX0_stirred 5 = .ok (.iload_n 2, 1) := by decide +kernel
theorem dX0_stirred_6 : decode cX0_stirred 6 = .ok (.bipush 17, 2) := by decide +kernel
theorem dX0_stirred_8 : decode cX0_stirred 8 = .ok (.invokestatic 28, 3) := by decide +kernel
theorem dX0_stirred_11 : decode cX0_stirred 11 = .ok (.ldc 33, 2) := by decide +kernel
theorem dX0_stirred_13 : decode cX0_stirred 13 = .ok (.imul, 1) := by decide +kernel
theorem dX0_stirred_14 : decode cX0_stirred 14 = .ok (.istore_n 2, 1) := by decide +kernel
theorem dX0_stirred_15 : decode cX0_stirred 15 = .ok (.iload_n 1, 1) := by decide +kernel
theorem dX0_stirred_16 : decode cX0_stirred 16 = .ok (.iload_n 2, 1) := by decide +kernel
theorem dX0_stirred_17 : decode cX0_stirred 17 = .ok (.ixor, 1) := by decide +kernel
theorem dX0_stirred_18 : decode cX0_stirred 18 = .ok (.istore_n 3, 1) := by decide +kernel
theorem dX0_stirred_19 : decode cX0_stirred 19 = .ok (.iload_n 3, 1) := by decide +kernel
theorem dX0_stirred_20 : decode cX0_stirred 20 = .ok (.bipush 19, 2) := by decide +kernel
theorem dX0_stirred_22 : decode cX0_stirred 22 = .ok (.invokestatic 28, 3) := by decide +kernel
theorem dX0_stirred_25 : decode cX0_stirred 25 = .ok (.iconst 5, 1) := by decide +kernel
theorem dX0_stirred_26 : decode cX0_stirred 26 = .ok (.imul, 1) := by decide +kernel
theorem dX0_stirred_27 : decode cX0_stirred 27 = .ok (.ldc 34, 2) := by decide +kernel
theorem dX0_stirred_29 : decode cX0_stirred 29 = .ok (.iadd, 1) := by decide +kernel
theorem dX0_stirred_30 : decode cX0_stirred 30 = .ok (.istore_n 3, 1) := by decide +kernel
theorem dX0_stirred_31 : decode cX0_stirred 31 = .ok (.iload_n 3, 1) := by decide +kernel
theorem dX0_stirred_32 : decode cX0_stirred 32 = .ok (.iconst 4, 1) := by decide +kernel
theorem dX0_stirred_33 : decode cX0_stirred 33 = .ok (.ixor, 1) := by decide +kernel
theorem dX0_stirred_34 : decode cX0_stirred 34 = .ok (.istore_n 3, 1) := by decide +kernel
theorem dX0_stirred_35 : decode cX0_stirred 35 = .ok (.iload_n 3, 1) := by decide +kernel
theorem dX0_stirred_36 : decode cX0_stirred 36 = .ok (.iload_n 3, 1) := by decide +kernel
theorem dX0_stirred_37 : decode cX0_stirred 37 = .ok (.bipush 16, 2) := by decide +kernel
theorem dX0_stirred_39 : decode cX0_stirred 39 = .ok (.iushr, 1) := by decide +kernel
theorem dX0_stirred_40 : decode cX0_stirred 40 = .ok (.ixor, 1) := by decide +kernel
theorem dX0_stirred_41 : decode cX0_stirred 41 = .ok (.ldc 35, 2) := by decide +kernel
theorem dX0_stirred_43 : decode cX0_stirred 43 = .ok (.imul, 1) := by decide +kernel
theorem dX0_stirred_44 : decode cX0_stirred 44 = .ok (.istore_n 3, 1) := by decide +kernel
theorem dX0_stirred_45 : decode cX0_stirred 45 = .ok (.iload_n 3, 1) := by decide +kernel
theorem dX0_stirred_46 : decode cX0_stirred 46 = .ok (.iload_n 3, 1) := by decide +kernel
theorem dX0_stirred_47 : decode cX0_stirred 47 = .ok (.bipush 13, 2) := by decide +kernel
theorem dX0_stirred_49 : decode cX0_stirred 49 = .ok (.iushr, 1) := by decide +kernel
theorem dX0_stirred_50 : decode cX0_stirred 50 = .ok (.ixor, 1) := by decide +kernel
theorem dX0_stirred_51 : decode cX0_stirred 51 = .ok (.ldc 36, 2) := by decide +kernel
theorem dX0_stirred_53 : decode cX0_stirred 53 = .ok (.imul, 1) := by decide +kernel
theorem dX0_stirred_54 : decode cX0_stirred 54 = .ok (.istore_n 3, 1) := by decide +kernel
theorem dX0_stirred_55 : decode cX0_stirred 55 = .ok (.iload_n 3, 1) := by decide +kernel
theorem dX0_stirred_56 : decode cX0_stirred 56 = .ok (.iload_n 3, 1) := by decide +kernel
theorem dX0_stirred_57 : decode cX0_stirred 57 = .ok (.bipush 16, 2) := by decide +kernel
theorem dX0_stirred_59 : decode cX0_stirred 59 = .ok (.iushr, 1) := by decide +kernel
theorem dX0_stirred_60 : decode cX0_stirred 60 = .ok (.ixor, 1) := by decide +kernel
theorem dX0_stirred_61 : decode cX0_stirred 61 = .ok (.ireturn, 1) := by decide +kernel
theorem dJ6_numberOfLeadingZeros_0f7a4_0 : decode cJ6_numberOfLeadingZeros_0f7a4 0 = .ok (.iload_n 0, 1) := by decide +kernel
theorem dJ6_numberOfLeadingZeros_0f7a4_1 : decode cJ6_numberOfLeadingZeros_0f7a4 1 = .ok (.ifCond .gt 14, 3) := by decide +kernel
theorem dJ6_numberOfLeadingZeros_0f7a4_4 : decode cJ6_numberOfLeadingZeros_0f7a4 4 = .ok (.iload_n 0, 1) := by decide +kernel
theorem dJ6_numberOfLeadingZeros_0f7a4_5 : decode cJ6_numberOfLeadingZeros_0f7a4 5 = .ok (.ifCond .ne 8, 3) := by decide +kernel
theorem dJ6_numberOfLeadingZeros_0f7a4_8 : decode cJ6_numberOfLeadingZeros_0f7a4 8 = .ok (.bipush 32, 2) := by decide +kernel
theorem dJ6_numberOfLeadingZeros_0f7a4_10 : decode cJ6_numberOfLeadingZeros_0f7a4 10 = .ok (.goto 4, 3) := by decide +kernel
theorem dJ6_numberOfLeadingZeros_0f7a4_13 : decode cJ6_numberOfLeadingZeros_0f7a4 13 = .ok (.iconst 0, 1) := by decide +kernel
theorem dJ6_numberOfLeadingZeros_0f7a4_14 : decode cJ6_numberOfLeadingZeros_0f7a4 14 = .ok (.ireturn, 1) := by decide +kernel
theorem dJ6_numberOfLeadingZeros_0f7a4_15 : decode cJ6_numberOfLeadingZeros_0f7a4 15 = .ok (.bipush 31, 2) := by decide +kernel
theorem dJ6_numberOfLeadingZeros_0f7a4_17 : decode cJ6_numberOfLeadingZeros_0f7a4 17 = .ok (.istore_n 1, 1) := by decide +kernel
theorem dJ6_numberOfLeadingZeros_0f7a4_18 : decode cJ6_numberOfLeadingZeros_0f7a4 18 = .ok (.iload_n 0, 1) := by decide +kernel
theorem dJ6_numberOfLeadingZeros_0f7a4_19 : decode cJ6_numberOfLeadingZeros_0f7a4 19 = .ok (.ldc_w 264, 3) := by decide +kernel
theorem dJ6_numberOfLeadingZeros_0f7a4_22 : decode cJ6_numberOfLeadingZeros_0f7a4 22 = .ok (.if_icmp .lt 11, 3) := by decide +kernel
theorem dJ6_numberOfLeadingZeros_0f7a4_25 : decode cJ6_numberOfLeadingZeros_0f7a4 25 = .ok (.iinc 1 (-16), 3) := by decide +kernel
theorem dJ6_numberOfLeadingZeros_0f7a4_28 : decode cJ6_numberOfLeadingZeros_0f7a4 28 = .ok (.iload_n 0, 1) := by decide +kernel
theorem dJ6_numberOfLeadingZeros_0f7a4_29 : decode cJ6_numberOfLeadingZeros_0f7a4 29 = .ok (.bipush 16, 2) := by decide +kernel
theorem dJ6_numberOfLeadingZeros_0f7a4_31 : decode cJ6_numberOfLeadingZeros_0f7a4 31 = .ok (.iushr, 1) := by decide +kernel
theorem dJ6_numberOfLeadingZeros_0f7a4_32 : decode cJ6_numberOfLeadingZeros_0f7a4 32 = .ok (.istore_n 0, 1) := by decide +kernel
theorem dJ6_numberOfLeadingZeros_0f7a4_33 : decode cJ6_numberOfLeadingZeros_0f7a4 33 = .ok (.iload_n 0, 1) := by decide +kernel
theorem dJ6_numberOfLeadingZeros_0f7a4_34 : decode cJ6_numberOfLeadingZeros_0f7a4 34 = .ok (.sipush 256, 3) := by decide +kernel
theorem dJ6_numberOfLeadingZeros_0f7a4_37 : decode cJ6_numberOfLeadingZeros_0f7a4 37 = .ok (.if_icmp .lt 11, 3) := by decide +kernel
theorem dJ6_numberOfLeadingZeros_0f7a4_40 : decode cJ6_numberOfLeadingZeros_0f7a4 40 = .ok (.iinc 1 (-8), 3) := by decide +kernel
theorem dJ6_numberOfLeadingZeros_0f7a4_43 : decode cJ6_numberOfLeadingZeros_0f7a4 43 = .ok (.iload_n 0, 1) := by decide +kernel
theorem dJ6_numberOfLeadingZeros_0f7a4_44 : decode cJ6_numberOfLeadingZeros_0f7a4 44 = .ok (.bipush 8, 2) := by decide +kernel
theorem dJ6_numberOfLeadingZeros_0f7a4_46 : decode cJ6_numberOfLeadingZeros_0f7a4 46 = .ok (.iushr, 1) := by decide +kernel
theorem dJ6_numberOfLeadingZeros_0f7a4_47 : decode cJ6_numberOfLeadingZeros_0f7a4 47 = .ok (.istore_n 0, 1) := by decide +kernel
theorem dJ6_numberOfLeadingZeros_0f7a4_48 : decode cJ6_numberOfLeadingZeros_0f7a4 48 = .ok (.iload_n 0, 1) := by decide +kernel
theorem dJ6_numberOfLeadingZeros_0f7a4_49 : decode cJ6_numberOfLeadingZeros_0f7a4 49 = .ok (.bipush 16, 2) := by decide +kernel
theorem dJ6_numberOfLeadingZeros_0f7a4_51 : decode cJ6_numberOfLeadingZeros_0f7a4 51 = .ok (.if_icmp .lt 10, 3) := by decide +kernel
theorem dJ6_numberOfLeadingZeros_0f7a4_54 : decode cJ6_numberOfLeadingZeros_0f7a4 54 = .ok (.iinc 1 (-4), 3) := by decide +kernel
theorem dJ6_numberOfLeadingZeros_0f7a4_57 : decode cJ6_numberOfLeadingZeros_0f7a4 57 = .ok (.iload_n 0, 1) := by decide +kernel
theorem dJ6_numberOfLeadingZeros_0f7a4_58 : decode cJ6_numberOfLeadingZeros_0f7a4 58 = .ok (.iconst 4, 1) := by decide +kernel
theorem dJ6_numberOfLeadingZeros_0f7a4_59 : decode cJ6_numberOfLeadingZeros_0f7a4 59 = .ok (.iushr, 1) := by decide +kernel
theorem dJ6_numberOfLeadingZeros_0f7a4_60 : decode cJ6_numberOfLeadingZeros_0f7a4 60 = .ok (.istore_n 0, 1) := by decide +kernel
theorem dJ6_numberOfLeadingZeros_0f7a4_61 : decode cJ6_numberOfLeadingZeros_0f7a4 61 = .ok (.iload_n 0, 1) := by decide +kernel
theorem dJ6_numberOfLeadingZeros_0f7a4_62 : decode cJ6_numberOfLeadingZeros_0f7a4 62 = .ok (.iconst 4, 1) := by decide +kernel
theorem dJ6_numberOfLeadingZeros_0f7a4_63 : decode cJ6_numberOfLeadingZeros_0f7a4 63 = .ok (.if_icmp .lt 10, 3) := by decide +kernel
theorem dJ6_numberOfLeadingZeros_0f7a4_66 : decode cJ6_numberOfLeadingZeros_0f7a4 66 = .ok (.iinc 1 (-2), 3) := by decide +kernel
theorem dJ6_numberOfLeadingZeros_0f7a4_69 : decode cJ6_numberOfLeadingZeros_0f7a4 69 = .ok (.iload_n 0, 1) := by decide +kernel
theorem dJ6_numberOfLeadingZeros_0f7a4_70 : decode cJ6_numberOfLeadingZeros_0f7a4 70 = .ok (.iconst 2, 1) := by decide +kernel
theorem dJ6_numberOfLeadingZeros_0f7a4_71 : decode cJ6_numberOfLeadingZeros_0f7a4 71 = .ok (.iushr, 1) := by decide +kernel
theorem dJ6_numberOfLeadingZeros_0f7a4_72 : decode cJ6_numberOfLeadingZeros_0f7a4 72 = .ok (.istore_n 0, 1) := by decide +kernel
theorem dJ6_numberOfLeadingZeros_0f7a4_73 : decode cJ6_numberOfLeadingZeros_0f7a4 73 = .ok (.iload_n 1, 1) := by decide +kernel
theorem dJ6_numberOfLeadingZeros_0f7a4_74 : decode cJ6_numberOfLeadingZeros_0f7a4 74 = .ok (.iload_n 0, 1) := by decide +kernel
theorem dJ6_numberOfLeadingZeros_0f7a4_75 : decode cJ6_numberOfLeadingZeros_0f7a4 75 = .ok (.iconst 1, 1) := by decide +kernel
theorem dJ6_numberOfLeadingZeros_0f7a4_76 : decode cJ6_numberOfLeadingZeros_0f7a4 76 = .ok (.iushr, 1) := by decide +kernel
theorem dJ6_numberOfLeadingZeros_0f7a4_77 : decode cJ6_numberOfLeadingZeros_0f7a4 77 = .ok (.isub, 1) := by decide +kernel
theorem dJ6_numberOfLeadingZeros_0f7a4_78 : decode cJ6_numberOfLeadingZeros_0f7a4 78 = .ok (.ireturn, 1) := by decide +kernel
theorem dJ9_max_7cf53_0 : decode cJ9_max_7cf53 0 = .ok (.iload_n 0, 1) := by decide +kernel
theorem dJ9_max_7cf53_1 : decode cJ9_max_7cf53 1 = .ok (.iload_n 1, 1) := by decide +kernel
theorem dJ9_max_7cf53_2 : decode cJ9_max_7cf53 2 = .ok (.if_icmp .lt 7, 3) := by decide +kernel
theorem dJ9_max_7cf53_5 : decode cJ9_max_7cf53 5 = .ok (.iload_n 0, 1) := by decide +kernel
theorem dJ9_max_7cf53_6 : decode cJ9_max_7cf53 6 = .ok (.goto 4, 3) := by decide +kernel
theorem dJ9_max_7cf53_9 : decode cJ9_max_7cf53 9 = .ok (.iload_n 1, 1) := by decide +kernel
theorem dJ9_max_7cf53_10 : decode cJ9_max_7cf53 10 = .ok (.ireturn, 1) := by decide +kernel
theorem dJ9_min_7cf53_0 : decode cJ9_min_7cf53 0 = .ok (.iload_n 0, 1) := by decide +kernel
theorem dJ9_min_7cf53_1 : decode cJ9_min_7cf53 1 = .ok (.iload_n 1, 1) := by decide +kernel
theorem dJ9_min_7cf53_2 : decode cJ9_min_7cf53 2 = .ok (.if_icmp .gt 7, 3) := by decide +kernel
theorem dJ9_min_7cf53_5 : decode cJ9_min_7cf53 5 = .ok (.iload_n 0, 1) := by decide +kernel
theorem dJ9_min_7cf53_6 : decode cJ9_min_7cf53 6 = .ok (.goto 4, 3) := by decide +kernel
theorem dJ9_min_7cf53_9 : decode cJ9_min_7cf53 9 = .ok (.iload_n 1, 1) := by decide +kernel
theorem dJ9_min_7cf53_10 : decode cJ9_min_7cf53 10 = .ok (.ireturn, 1) := by decide +kernel
theorem dJ7_rangeCheck_23922_0 : decode cJ7_rangeCheck_23922 0 = .ok (.iload_n 1, 1) := by decide +kernel
theorem dJ7_rangeCheck_23922_1 : decode cJ7_rangeCheck_23922 1 = .ok (.iload_n 2, 1) := by decide +kernel
theorem dJ7_rangeCheck_23922_2 : decode cJ7_rangeCheck_23922 2 = .ok (.if_icmp .le 44, 3) := by decide +kernel
theorem dJ7_rangeCheck_23922_5 : decode cJ7_rangeCheck_23922 5 = .ok (.new 43, 3) := by decide +kernel
theorem dJ7_rangeCheck_23922_8 : decode cJ7_rangeCheck_23922 8 = .ok (.dup, 1) := by decide +kernel
theorem dJ7_rangeCheck_23922_9 : decode cJ7_rangeCheck_23922 9 = .ok (.new 45, 3) := by decide +kernel
theorem dJ7_rangeCheck_23922_12 : decode cJ7_rangeCheck_23922 12 = .ok (.dup, 1) := by decide +kernel
theorem dJ7_rangeCheck_23922_13 : decode cJ7_rangeCheck_23922 13 = .ok (.invokespecial 47, 3) := by decide +kernel
theorem dJ7_rangeCheck_23922_16 : decode cJ7_rangeCheck_23922 16 = .ok (.ldc 48, 2) := by decide +kernel
theorem dJ7_rangeCheck_23922_18 : decode cJ7_rangeCheck_23922 18 = .ok (.invokevirtual 50, 3) := by decide +kernel
theorem dJ7_rangeCheck_23922_21 : decode cJ7_rangeCheck_23922 21 = .ok (.iload_n 1, 1) := by decide +kernel
theorem dJ7_rangeCheck_23922_22 : decode cJ7_rangeCheck_23922 22 = .ok (.invokevirtual 54, 3) := by decide +kernel
theorem dJ7_rangeCheck_23922_25 : decode cJ7_rangeCheck_23922 25 = .ok (.ldc 57, 2) := by decide +kernel
theorem dJ7_rangeCheck_23922_27 : decode cJ7_rangeCheck_23922 27 = .ok (.invokevirtual 50, 3) := by decide +kernel
theorem dJ7_rangeCheck_23922_30 : decode cJ7_rangeCheck_23922 30 = .ok (.iload_n 2, 1) := by decide +kernel
theorem dJ7_rangeCheck_23922_31 : decode cJ7_rangeCheck_23922 31 = .ok (.invokevirtual 54, 3) := by decide +kernel
theorem dJ7_rangeCheck_23922_34 : decode cJ7_rangeCheck_23922 34 = .ok (.ldc 59, 2) := by decide +kernel
theorem dJ7_rangeCheck_23922_36 : decode cJ7_rangeCheck_23922 36 = .ok (.invokevirtual 50, 3) := by decide +kernel
theorem dJ7_rangeCheck_23922_39 : decode cJ7_rangeCheck_23922 39 = .ok (.invokevirtual 61, 3) := by decide +kernel
theorem dJ7_rangeCheck_23922_42 : decode cJ7_rangeCheck_23922 42 = .ok (.invokespecial 65, 3) := by decide +kernel
theorem dJ7_rangeCheck_23922_45 : decode cJ7_rangeCheck_23922 45 = .ok (.athrow, 1) := by decide +kernel
theorem dJ7_rangeCheck_23922_46 : decode cJ7_rangeCheck_23922 46 = .ok (.iload_n 1, 1) := by decide +kernel
theorem dJ7_rangeCheck_23922_47 : decode cJ7_rangeCheck_23922 47 = .ok (.ifCond .ge 12, 3) := by decide +kernel
theorem dJ7_rangeCheck_23922_50 : decode cJ7_rangeCheck_23922 50 = .ok (.new 68, 3) := by decide +kernel
theorem dJ7_rangeCheck_23922_53 : decode cJ7_rangeCheck_23922 53 = .ok (.dup, 1) := by decide +kernel
theorem dJ7_rangeCheck_23922_54 : decode cJ7_rangeCheck_23922 54 = .ok (.iload_n 1, 1) := by decide +kernel
theorem dJ7_rangeCheck_23922_55 : decode cJ7_rangeCheck_23922 55 = .ok (.invokespecial 70, 3) := by decide +kernel
theorem dJ7_rangeCheck_23922_58 : decode cJ7_rangeCheck_23922 58 = .ok (.athrow, 1) := by decide +kernel
theorem dJ7_rangeCheck_23922_59 : decode cJ7_rangeCheck_23922 59 = .ok (.iload_n 2, 1) := by decide +kernel
theorem dJ7_rangeCheck_23922_60 : decode cJ7_rangeCheck_23922 60 = .ok (.iload_n 0, 1) := by decide +kernel
theorem dJ7_rangeCheck_23922_61 : decode cJ7_rangeCheck_23922 61 = .ok (.if_icmp .le 12, 3) := by decide +kernel
theorem dJ7_rangeCheck_23922_64 : decode cJ7_rangeCheck_23922 64 = .ok (.new 68, 3) := by decide +kernel
theorem dJ7_rangeCheck_23922_67 : decode cJ7_rangeCheck_23922 67 = .ok (.dup, 1) := by decide +kernel
theorem dJ7_rangeCheck_23922_68 : decode cJ7_rangeCheck_23922 68 = .ok (.iload_n 2, 1) := by decide +kernel
theorem dJ7_rangeCheck_23922_69 : decode cJ7_rangeCheck_23922 69 = .ok (.invokespecial 70, 3) := by decide +kernel
theorem dJ7_rangeCheck_23922_72 : decode cJ7_rangeCheck_23922 72 = .ok (.athrow, 1) := by decide +kernel
theorem dJ7_rangeCheck_23922_73 : decode cJ7_rangeCheck_23922 73 = .ok (.return_, 1) := by decide +kernel
theorem dJ7_fill_53178_0 : decode cJ7_fill_53178 0 = .ok (.iconst 0, 1) := by decide +kernel
theorem dJ7_fill_53178_1 : decode cJ7_fill_53178 1 = .ok (.istore_n 2, 1) := by decide +kernel
theorem dJ7_fill_53178_2 : decode cJ7_fill_53178 2 = .ok (.aload_n 0, 1) := by decide +kernel
theorem dJ7_fill_53178_3 : decode cJ7_fill_53178 3 = .ok (.arraylength, 1) := by decide +kernel
theorem dJ7_fill_53178_4 : decode cJ7_fill_53178 4 = .ok (.istore_n 3, 1) := by decide +kernel
theorem dJ7_fill_53178_5 : decode cJ7_fill_53178 5 = .ok (.iload_n 2, 1) := by decide +kernel
theorem dJ7_fill_53178_6 : decode cJ7_fill_53178 6 = .ok (.iload_n 3, 1) := by decide +kernel
theorem dJ7_fill_53178_7 : decode cJ7_fill_53178 7 = .ok (.if_icmp .ge 13, 3) := by decide +kernel
theorem dJ7_fill_53178_10 : decode cJ7_fill_53178 10 = .ok (.aload_n 0, 1) := by decide +kernel
theorem dJ7_fill_53178_11 : decode cJ7_fill_53178 11 = .ok (.iload_n 2, 1) := by decide +kernel
theorem dJ7_fill_53178_12 : decode cJ7_fill_53178 12 = .ok (.iload_n 1, 1) := by decide +kernel
theorem dJ7_fill_53178_13 : decode cJ7_fill_53178 13 = .ok (.iastore, 1) := by decide +kernel
theorem dJ7_fill_53178_14 : decode cJ7_fill_53178 14 = .ok (.iinc 2 1, 3) := by decide +kernel
theorem dJ7_fill_53178_17 : decode cJ7_fill_53178 17 = .ok (.goto (-12), 3) := by decide +kernel
theorem dJ7_fill_53178_20 : decode cJ7_fill_53178 20 = .ok (.return_, 1) := by decide +kernel
set_option maxRecDepth 20000 in
theorem ggJ7_fill_fda19_J7_rangeCheck_23922 : GoodIn wsJ7_fill_fda19 wsJ7_rangeCheck_23922 := goodIn_r _ [4] (by decide +kernel) (by decide +kernel)
set_option maxRecDepth 20000 in
theorem gJ7_fill_fda19_J7_rangeCheck_23922 : GoodIn wsJ7_fill_fda19 (va_wsS RJ7 13 yJ7_rangeCheck_23922 wsJ7_rangeCheck_23922) := goodIn_app (goodIn_of _ (by decide +kernel)) ggJ7_fill_fda19_J7_rangeCheck_23922
theorem dJ7_fill_fda19_0 : decode cJ7_fill_fda19 0 = .ok (.aload_n 0, 1) := by decide +kernel
theorem dJ7_fill_fda19_1 : decode cJ7_fill_fda19 1 = .ok (.arraylength, 1) := by decide +kernel
theorem dJ7_fill_fda19_2 : decode cJ7_fill_fda19 2 = .ok (.iload_n 1, 1) := by decide +kernel
theorem dJ7_fill_fda19_3 : decode cJ7_fill_fda19 3 = .ok (.iload_n 2, 1) := by decide +kernel
theorem dJ7_fill_fda19_4 : decode cJ7_fill_fda19 4 = .ok (.invokestatic 13, 3) := by decide +kernel
theorem dJ7_fill_fda19_7 : decode cJ7_fill_fda19 7 = .ok (.iload_n 1, 1) := by decide +kernel
theorem dJ7_fill_fda19_8 : decode cJ7_fill_fda19 8 = .ok (.istore 4, 2) := by decide +kernel
theorem dJ7_fill_fda19_10 : decode cJ7_fill_fda19 10 = .ok (.iload 4, 2) := by decide +kernel
theorem dJ7_fill_fda19_12 : decode cJ7_fill_fda19 12 = .ok (.iload_n 2, 1) := by decide +kernel
theorem dJ7_fill_fda19_13 : decode cJ7_fill_fda19 13 = .ok (.if_icmp .ge 14, 3) := by decide +kernel
theorem dJ7_fill_fda19_16 : decode cJ7_fill_fda19 16 = .ok (.aload_n 0, 1) := by decide +kernel
theorem dJ7_fill_fda19_17 : decode cJ7_fill_fda19 17 = .ok (.iload 4, 2) := by decide +kernel
theorem dJ7_fill_fda19_19 : decode cJ7_fill_fda19 19 = .ok (.iload_n 3, 1) := by decide +kernel
theorem dJ7_fill_fda19_20 : decode cJ7_fill_fda19 20 = .ok (.iastore, 1) := by decide +kernel
theorem dJ7_fill_fda19_21 : decode cJ7_fill_fda19 21 = .ok (.iinc 4 1, 3) := by decide +kernel
theorem dJ7_fill_fda19_24 : decode cJ7_fill_fda19 24 = .ok (.goto (-14), 3) := by decide +kernel
theorem dJ7_fill_fda19_27 : decode cJ7_fill_fda19 27 = .ok (.return_, 1) := by decide +kernel
theorem dX2_right_0 : decode cX2_right 0 = .ok (.iload_n 0, 1) := by decide +kernel
theorem dX2_right_1 : decode cX2_right 1 = .ok (.iload_n 1, 1) := by decide +kernel
theorem dX2_right_2 : decode cX2_right 2 = .ok (.iushr, 1) := by decide +kernel
theorem dX2_right_3 : decode cX2_right 3 = .ok (.iload_n 0, 1) := by decide +kernel
theorem dX2_right_4 : decode cX2_right 4 = .ok (.bipush 32, 2) := by decide +kernel
theorem dX2_right_6 : decode cX2_right 6 = .ok (.iload_n 1, 1) := by decide +kernel
theorem dX2_right_7 : decode cX2_right 7 = .ok (.isub, 1) := by decide +kernel
theorem dX2_right_8 : decode cX2_right 8 = .ok (.ishl, 1) := by decide +kernel
theorem dX2_right_9 : decode cX2_right 9 = .ok (.ior, 1) := by decide +kernel
theorem dX2_right_10 : decode cX2_right 10 = .ok (.ireturn, 1) := by decide +kernel
end
section
/-! What every method takes along: the class's two static tables, four links of private members, the tables of classes. -/
abbrev gG : Type := va_G × (Nat × Nat) × (ClassId × ClassId)
abbrev gT (G : gG) : List (ClassId × FieldType) := [(G.2.2.1, .int), (G.2.2.2, .boolean)]
def st_S (j : Nat) : Int32 := ([1779033703, -1150833019, 1013904242, -1521486534, 1359893119, -1694144372, 528734635, 1541459225] : List Int32).getD j 0
def st_K (j : Nat) : Int32 := ([1116352408, 1899447441, -1245643825, -373957723, 961987163, 1508970993, -1841331548, -1424204075, -670586216, 310598401, 607225278, 1426881987, 1925078388, -2132889090, -1680079193, -1046744716, -459576895, -272742522, 264347078, 604807628, 770255983, 1249150122, 1555081692, 1996064986, -1740746414, -1473132947, -1341970488, -1084653625, -958395405, -710438585, 113926993, 338241895, 666307205, 773529912, 1294757372, 1396182291, 1695183700, 1986661051, -2117940946, -1838011259, -1564481375, -1474664885, -1035236496, -949202525, -778901479, -694614492, -200395387, 275423344, 430227734, 506948616, 659060556, 883997877, 958139571, 1322822218, 1537002063, 1747873779, 1955562222, 2024104815, -2067236844, -1933114872, -1866530822, -1538233109, -1090935817, -965641998] : List Int32).getD j 0
def st_X (G : gG) (A : Nat → Prop) (U : State) (H : Heap) : Prop :=
  va_Z "MinedLedger$Hasher" "START" "[I" (.ref G.2.1.1) A U H ∧ va_T .int G.2.1.1 8 (fun j => .int (st_S j)) A U H ∧ va_Z "MinedLedger$Hasher" "K" "[I" (.ref G.2.1.2) A U H ∧ va_T .int G.2.1.2 64 (fun j => .int (st_K j)) A U H ∧
  va_Nw (.methodLinkNest RX1 57 yX2_right RX2) U ∧ va_Nw (.methodLinkNest RX0 28 yX2_right RX2) U ∧ va_Nw (.methodLinkNest RX2 9 yX1_init RX2) U ∧ va_Nw (.methodLinkNest RX2 18 yX0_init RX2) U
theorem st_X.go {G : gG} {A B : Nat → Prop} {u U : State} {H H1 : Heap} (h : st_X G A u H) (hW : u.WarmedH U.vm) (hq : ∀ a : Nat, a < H.size → ¬ A a → H1[a]? = H[a]?) (hAB : ∀ q, B q → A q) : st_X G B U H1 :=
  ⟨((h.1.kept hq).moved hW.alike).narrow hAB, ((h.2.1.kept hq).moved hW.alike).narrow hAB, ((h.2.2.1.kept hq).moved hW.alike).narrow hAB, ((h.2.2.2.1.kept hq).moved hW.alike).narrow hAB, va_Nw.warmM hW h.2.2.2.2.1, va_Nw.warmM hW h.2.2.2.2.2.1, va_Nw.warmM hW h.2.2.2.2.2.2.1, va_Nw.warmM hW h.2.2.2.2.2.2.2⟩
theorem st_X.calling {G : gG} {A : Nat → Prop} {U : State} {H : Heap} (h : st_X G A U H) (g : JFrame) (mk : MethodId) (a : Array Value) : st_X G A (U.calling g mk a) H :=
  ⟨h.1.moved (Vm.Alike.refl U.vm), h.2.1.moved (Vm.Alike.refl U.vm), h.2.2.1.moved (Vm.Alike.refl U.vm), h.2.2.2.1.moved (Vm.Alike.refl U.vm), va_Nw.same rfl rfl h.2.2.2.2.1, va_Nw.same rfl rfl h.2.2.2.2.2.1, va_Nw.same rfl rfl h.2.2.2.2.2.2.1, va_Nw.same rfl rfl h.2.2.2.2.2.2.2⟩
/-- a method's start and its end, in one form for all of them: G, the cells w, the heap's size sz -/
def cP (G : gG) (w : va_W) (sz : Nat) (U : State) : Prop := U.heap.size = sz ∧ va_P G.1 vwCl w U.heap ∧ va_K G.1 vwCl (gT G) U ∧ va_D (fun _ => True) w ∧ st_X G (va_A w sz) U U.heap
def cB (G : gG) (w : va_W) (sz : Nat) {S : Type} (wv : S → va_W) (u : S) (t : State) : Prop := va_P G.1 vwCl (wv u) t.heap ∧ va_K G.1 vwCl (gT G) t ∧ va_D (va_A w sz) (wv u)
abbrev MetI (l : Launch) (y : MethodName) (ws : List Cond) (rm : Room) (av : List Value) (G : gG) (w : va_W) (sz : Nat) {S : Type} (wv : S → va_W) (post : Int32 → S → Prop) : Prop :=
  Met l y ws rm (va_Pc av (cP G w sz)) (va_Qi post (cB G w sz wv) (va_A w sz)) 0 0 (va_A w sz)
abbrev MetV (l : Launch) (y : MethodName) (ws : List Cond) (rm : Room) (av : List Value) (G : gG) (w : va_W) (sz : Nat) {S : Type} (wv : S → va_W) (post : S → Prop) : Prop :=
  Met l y ws rm (va_Pc av (cP G w sz)) (va_Qv post (cB G w sz wv) (va_A w sz)) 0 0 (va_A w sz)
theorem ent_i {l : Launch} {y : MethodName} {ws : List Cond} (ws' : List Cond) {rm : Room} (cc : ByteArray) (maxL : Nat) {av : List Value} {G : gG} {w : va_W} {sz : Nat} {S : Type} {wv : S → va_W} {post : Int32 → S → Prop} (own : String)
    (hy : plainName y.cls = true) (ho : y.cls = own) (hw : ws = Cond.code y cc maxL (some .int) :: ws') (hlen : (lg_sl av).length ≤ maxL)
    (body : ∀ (p : Program) (e : Env) (s : State) (m : MethodId) (args : Array Value) (below : List Frame) (meth : Method) (c : Code) (A : Nat → Prop) (Q : State → Prop) (ls : Array Slot),
      p.tables.exec = Jvm.exec → c.code = cc → c.maxLocals = maxL → (∀ w ∈ ws, w.before args s = true) → s.vm.findClass own = some m.cls → (∀ q : Nat, s.heap.size ≤ q → A q) → va_K G.1 vwCl (gT G) s → st_X G A s s.heap →
      (∀ (pc : Nat) (ls : Array Slot) (H : Heap) (locs : List Loc) (r : Int32) (u : S), decode cc pc = .ok (.ireturn, 1) → post r u → va_P G.1 vwCl (wv u) H → va_D A (wv u) → va_S A s.heap H locs → W p l e rm s m args below meth c H locs 0 0 Q (F0 m pc ls [.int r])) →
      lv_has ls maxL (lv_args 0 av) → va_P G.1 vwCl w s.heap → va_D A w → va_S A s.heap s.heap [] → W p l e rm s m args below meth c s.heap [] 0 0 Q (F0 m 0 ls [])) : MetI l y ws rm av G w sz wv post := by
  refine Met.ofW (cc := cc) (maxL := maxL) (ret := some .int) hy hw ?_
  intro p e s m args below meth c s₁ B hml hv
  obtain ⟨rfl, hsz, hP, hK, hD0, hX⟩ := hv
  have hx := B.exec
  have hb := B.bytes
  have hr := B.returns
  have hts := atoms_spec (ws := ws) B.pre
  have hown : s.vm.findClass own = some m.cls := by rw [← ho]; exact findClass_of_methodNamed B.named
  have hlocks := B.notSynchronized
  subst hsz
  have hl := lv_entry av (n := maxL) hlen
  rw [lg_entry_eq]
  refine body p e s m _ below meth c (va_A w s.heap.size) _ _ hx hb hml hts hown (fun q h => Or.inr h) hK hX ?_ hl hP hD0.self va_S.rf
  intro pc ls H locs r u hd hp hP hD hS
  exact W.iret hx hb hr (fun t ht hW => ⟨⟨r, u, rfl, hp, by rw [ht]; exact hP, va_K.moved hW.alike hK, hD⟩, hS.F ht⟩) hS.2.2 hd
theorem ent_z {l : Launch} {y : MethodName} {ws : List Cond} (ws' : List Cond) {rm : Room} (cc : ByteArray) (maxL : Nat) {av : List Value} {G : gG} {w : va_W} {sz : Nat} {S : Type} {wv : S → va_W} {post : Int32 → S → Prop} (own : String)
    (hy : plainName y.cls = true) (ho : y.cls = own) (hw : ws = Cond.code y cc maxL (some .boolean) :: ws') (hlen : (lg_sl av).length ≤ maxL)
    (body : ∀ (p : Program) (e : Env) (s : State) (m : MethodId) (args : Array Value) (below : List Frame) (meth : Method) (c : Code) (A : Nat → Prop) (Q : State → Prop) (ls : Array Slot),
      p.tables.exec = Jvm.exec → c.code = cc → c.maxLocals = maxL → (∀ w ∈ ws, w.before args s = true) → s.vm.findClass own = some m.cls → (∀ q : Nat, s.heap.size ≤ q → A q) → va_K G.1 vwCl (gT G) s → st_X G A s s.heap →
      (∀ (pc : Nat) (ls : Array Slot) (H : Heap) (locs : List Loc) (r : Int32) (u : S), decode cc pc = .ok (.ireturn, 1) → (r = 0 ∨ r = 1) → post r u → va_P G.1 vwCl (wv u) H → va_D A (wv u) → va_S A s.heap H locs → W p l e rm s m args below meth c H locs 0 0 Q (F0 m pc ls [.int r])) →
      lv_has ls maxL (lv_args 0 av) → va_P G.1 vwCl w s.heap → va_D A w → va_S A s.heap s.heap [] → W p l e rm s m args below meth c s.heap [] 0 0 Q (F0 m 0 ls [])) : MetI l y ws rm av G w sz wv post := by
  refine Met.ofW (cc := cc) (maxL := maxL) (ret := some .boolean) hy hw ?_
  intro p e s m args below meth c s₁ B hml hv
  obtain ⟨rfl, hsz, hP, hK, hD0, hX⟩ := hv
  have hx := B.exec
  have hb := B.bytes
  have hr := B.returns
  have hts := atoms_spec (ws := ws) B.pre
  have hown : s.vm.findClass own = some m.cls := by rw [← ho]; exact findClass_of_methodNamed B.named
  have hlocks := B.notSynchronized
  subst hsz
  have hl := lv_entry av (n := maxL) hlen
  rw [lg_entry_eq]
  refine body p e s m _ below meth c (va_A w s.heap.size) _ _ hx hb hml hts hown (fun q h => Or.inr h) hK hX ?_ hl hP hD0.self va_S.rf
  intro pc ls H locs r u hd h01 hp hP hD hS
  exact W.zret hx hb hr (by rcases h01 with rfl | rfl <;> rfl) (fun t ht hW => ⟨⟨r, u, rfl, hp, by rw [ht]; exact hP, va_K.moved hW.alike hK, hD⟩, hS.F ht⟩) hS.2.2 hd
theorem ent_v {l : Launch} {y : MethodName} {ws : List Cond} (ws' : List Cond) {rm : Room} (cc : ByteArray) (maxL : Nat) {av : List Value} {G : gG} {w : va_W} {sz : Nat} {S : Type} {wv : S → va_W} {post : S → Prop} (own : String)
    (hy : plainName y.cls = true) (ho : y.cls = own) (hw : ws = Cond.code y cc maxL none :: ws') (hlen : (lg_sl av).length ≤ maxL)
    (body : ∀ (p : Program) (e : Env) (s : State) (m : MethodId) (args : Array Value) (below : List Frame) (meth : Method) (c : Code) (A : Nat → Prop) (Q : State → Prop) (ls : Array Slot),
      p.tables.exec = Jvm.exec → c.code = cc → c.maxLocals = maxL → (∀ w ∈ ws, w.before args s = true) → s.vm.findClass own = some m.cls → (∀ q : Nat, s.heap.size ≤ q → A q) → va_K G.1 vwCl (gT G) s → st_X G A s s.heap →
      (∀ (pc : Nat) (ls : Array Slot) (H : Heap) (locs : List Loc) (u : S), decode cc pc = .ok (.return_, 1) → post u → va_P G.1 vwCl (wv u) H → va_D A (wv u) → va_S A s.heap H locs → W p l e rm s m args below meth c H locs 0 0 Q (F0 m pc ls [])) →
      lv_has ls maxL (lv_args 0 av) → va_P G.1 vwCl w s.heap → va_D A w → va_S A s.heap s.heap [] → W p l e rm s m args below meth c s.heap [] 0 0 Q (F0 m 0 ls [])) : MetV l y ws rm av G w sz wv post := by
  refine Met.ofW (cc := cc) (maxL := maxL) (ret := none) hy hw ?_
  intro p e s m args below meth c s₁ B hml hv
  obtain ⟨rfl, hsz, hP, hK, hD0, hX⟩ := hv
  have hx := B.exec
  have hb := B.bytes
  have hr := B.returns
  have hts := atoms_spec (ws := ws) B.pre
  have hown : s.vm.findClass own = some m.cls := by rw [← ho]; exact findClass_of_methodNamed B.named
  have hlocks := B.notSynchronized
  subst hsz
  have hl := lv_entry av (n := maxL) hlen
  rw [lg_entry_eq]
  refine body p e s m _ below meth c (va_A w s.heap.size) _ _ hx hb hml hts hown (fun q h => Or.inr h) hK hX ?_ hl hP hD0.self va_S.rf
  intro pc ls H locs u hd hp hP hD hS
  exact W.vret hx hb hr (fun t ht hW => ⟨⟨u, rfl, hp, by rw [ht]; exact hP, va_K.moved hW.alike hK, hD⟩, hS.F ht⟩) hS.2.2 hd
theorem fm_of {α : Type} {is : List Nat} {w wc : List α} (h : is.map (fun i => w[i]?) = wc.map some) : is.filterMap (fun i => w[i]?) = wc := by
  have e : is.filterMap (fun i => w[i]?) = (is.map (fun i => w[i]?)).filterMap id := by rw [List.filterMap_map]; rfl
  rw [e, h, List.filterMap_map]
  exact List.filterMap_some
section RWS
variable {p : Program} {l : Launch} {e : Env} {R : Room} {s : State} {m : MethodId} {args : Array Value} {below : List Frame} {meth : Method} {c : Code} {H : Heap} {locs : List Loc} {cells slots : Nat} {Q : State → Prop}
variable {cc : ByteArray} {pc : Nat} {ls : Array Slot} {rest : List Value} {G : gG} {A : Nat → Prop} {a : Nat} {w : va_W}
theorem cP_blind (av : List Value) (wc : va_W) (sz : Nat) : FrameBlind (va_Pc av (cP G wc sz)) := by
  intro a U g mk q
  obtain ⟨q0, q1, qP, qK, qD, qX⟩ := q
  exact ⟨q0, q1, qP, va_K.moved (u := U) (U := U.calling g mk a) (Vm.Alike.refl U.vm) qK, qD, qX.calling g mk a⟩
theorem cP_at {wc : va_W} (av : List Value) (hK : va_K G.1 vwCl (gT G) s) (hX : st_X G A s s.heap) (hA : ∀ q : Nat, s.heap.size ≤ q → A q) (hP : va_P G.1 vwCl w H) (hD : va_D A w) (hS : va_S A s.heap H locs) (isC : List Nat) (hC : isC.map (fun i => w[i]?) = wc.map some) (hnC : va_nd isC = true) :
    ∀ U : State, U.heap = H → s.WarmedH U.vm → va_Pc av (cP G wc H.size) av.toArray U := by
  intro U hU hW
  have hF := va_free (wc := wc) hD hS hA isC hC
  refine ⟨rfl, by rw [hU], ?_, va_K.moved hW.alike hK, (hD.sub isC hnC hC).weaken (fun _ _ _ _ => trivial), ?_⟩
  · rw [hU]; exact hP.sub isC (fm_of hC)
  · rw [hU]; exact hX.go hW (fun q h1 h2 => hS.2.1 q h1 h2) hF
theorem aft_i {S : Type} {post : Int32 → S → Prop} {wv : S → va_W} {wc wr : va_W} {st0 : List Value} {ar : Array Value} (hA : ∀ q : Nat, s.heap.size ≤ q → A q) (hP : va_P G.1 vwCl w H) (hD : va_D A w) (hS : va_S A s.heap H locs) (isC isR : List Nat) (hC : isC.map (fun i => w[i]?) = wc.map some) (hR : isR.map (fun i => w[i]?) = wr.map some) (hn : va_nd isR = true) (hdis : ∀ i ∈ isR, i ∉ isC)
    (hr : va_Run p l e R s m args below meth c H locs cells slots 0 0 (F0 m pc ls st0) rest (va_Qi post (cB G wc H.size wv) (va_A wc H.size) ar) (va_A wc H.size))
    (kk : ∀ (r : Int32) (u : S) (H1 : Heap) (locs1 : List Loc), post r u → va_P G.1 vwCl (wr ++ wv u) H1 → va_D A (wr ++ wv u) → va_S A s.heap H1 locs1 → W p l e R s m args below meth c H1 locs1 cells slots Q (F0 m (pc + 3) ls (.int r :: rest))) : W p l e R s m args below meth c H locs cells slots Q (F0 m pc ls st0) := by
  have hF := va_free (wc := wc) hD hS hA isC hC
  refine va_calli hr hS (fun q _ h => hF q h) hF (fun r u t H1 locs1 ht hvm hw hB hz1 hk1 hS1 => ?_)
  obtain ⟨hP1, hK1, hD1⟩ := hB
  rw [ht] at hP1
  obtain ⟨hP2, hD2⟩ := va_join hP hD isC isR hC hR hn hdis hk1 hF hP1 hD1
  exact kk r u H1 locs1 hw hP2 hD2 hS1
theorem aft_v {S : Type} {post : S → Prop} {wv : S → va_W} {wc wr : va_W} {st0 : List Value} {ar : Array Value} (hA : ∀ q : Nat, s.heap.size ≤ q → A q) (hP : va_P G.1 vwCl w H) (hD : va_D A w) (hS : va_S A s.heap H locs) (isC isR : List Nat) (hC : isC.map (fun i => w[i]?) = wc.map some) (hR : isR.map (fun i => w[i]?) = wr.map some) (hn : va_nd isR = true) (hdis : ∀ i ∈ isR, i ∉ isC)
    (hr : va_Run p l e R s m args below meth c H locs cells slots 0 0 (F0 m pc ls st0) rest (va_Qv post (cB G wc H.size wv) (va_A wc H.size) ar) (va_A wc H.size))
    (kk : ∀ (u : S) (H1 : Heap) (locs1 : List Loc), post u → va_P G.1 vwCl (wr ++ wv u) H1 → va_D A (wr ++ wv u) → va_S A s.heap H1 locs1 → W p l e R s m args below meth c H1 locs1 cells slots Q (F0 m (pc + 3) ls rest)) : W p l e R s m args below meth c H locs cells slots Q (F0 m pc ls st0) := by
  have hF := va_free (wc := wc) hD hS hA isC hC
  refine va_callv hr hS (fun q _ h => hF q h) hF (fun u t H1 locs1 ht hvm hw hB hz1 hk1 hS1 => ?_)
  obtain ⟨hP1, hK1, hD1⟩ := hB
  rw [ht] at hP1
  obtain ⟨hP2, hD2⟩ := va_join hP hD isC isR hC hR hn hdis hk1 hF hP1 hD1
  exact kk u H1 locs1 hw hP2 hD2 hS1
variable {y : MethodName} {bytes : ByteArray} {maxL nL n index : Nat} {ret : Option FieldType} {ws : List Cond} {rm : Room} {Ts : List Cond} {own C host : String} {b : Addr} {S : Type} {wv : S → va_W} {wc wr : va_W}
/-- calls: the callee's cells are those of the places isC, the others' places isR -/
theorem call_Vi {post : Int32 → S → Prop} (As rest : List Value) (sx : CallFix p m c cc nL s args Ts own) (hK : va_K G.1 vwCl (gT G) s) (hX : st_X G A s s.heap) (hA : ∀ q : Nat, s.heap.size ≤ q → A q) (hP : va_P G.1 vwCl w H) (hD : va_D A w) (hS : va_S A s.heap H locs)
    (hM : MetI l y ws rm (.ref b :: As) G wc H.size wv post) (cw : CallW R s args own C index y bytes maxL ret ws rm 0 0 n) (ci q0 : Nat) {q : vw_C} {fs : List Value} (hc : vwCl[ci]? = some q) (hq : q.1 = C) (he : w[q0]? = some (b, .inr (ci, fs)))
    (isC isR : List Nat) (hC : isC.map (fun i => w[i]?) = wc.map some) (hR : isR.map (fun i => w[i]?) = wr.map some) (hnC : va_nd isC = true) (hn : va_nd isR = true) (hdis : ∀ i ∈ isR, i ∉ isC)
    (hln : As.length = n) (hsize : ls.size = nL) (hW : (rest.map fun v => v.category).sum ≤ 8) (hdg : decode cc pc = .ok (.invokevirtual index, 3)) (hf : cells ≤ R.cells ∧ slots ≤ R.slots)
    (kk : ∀ (r : Int32) (u : S) (H1 : Heap) (locs1 : List Loc), post r u → va_P G.1 vwCl (wr ++ wv u) H1 → va_D A (wr ++ wv u) → va_S A s.heap H1 locs1 → W p l e R s m args below meth c H1 locs1 cells slots Q (F0 m (pc + 3) ls (.int r :: rest))) : W p l e R s m args below meth c H locs cells slots Q (F0 m pc ls (As.reverse ++ .ref b :: rest)) := by
  refine aft_i hA hP hD hS isC isR hC hR hn hdis (va_runV (As := As) (rest := rest) sx hM cw ⟨cP_blind _ _ _, ?_, cP_at (.ref b :: As) hK hX hA hP hD hS isC hC hnC⟩ rfl hln hsize rfl (lv_room hW) hdg hf) kk
  rw [← hq]; exact va_recv hK hP hc he
theorem call_Vv {post : S → Prop} (As rest : List Value) (sx : CallFix p m c cc nL s args Ts own) (hK : va_K G.1 vwCl (gT G) s) (hX : st_X G A s s.heap) (hA : ∀ q : Nat, s.heap.size ≤ q → A q) (hP : va_P G.1 vwCl w H) (hD : va_D A w) (hS : va_S A s.heap H locs)
    (hM : MetV l y ws rm (.ref b :: As) G wc H.size wv post) (cw : CallW R s args own C index y bytes maxL ret ws rm 0 0 n) (ci q0 : Nat) {q : vw_C} {fs : List Value} (hc : vwCl[ci]? = some q) (hq : q.1 = C) (he : w[q0]? = some (b, .inr (ci, fs)))
    (isC isR : List Nat) (hC : isC.map (fun i => w[i]?) = wc.map some) (hR : isR.map (fun i => w[i]?) = wr.map some) (hnC : va_nd isC = true) (hn : va_nd isR = true) (hdis : ∀ i ∈ isR, i ∉ isC)
    (hln : As.length = n) (hsize : ls.size = nL) (hW : (rest.map fun v => v.category).sum ≤ 8) (hdg : decode cc pc = .ok (.invokevirtual index, 3)) (hf : cells ≤ R.cells ∧ slots ≤ R.slots)
    (kk : ∀ (u : S) (H1 : Heap) (locs1 : List Loc), post u → va_P G.1 vwCl (wr ++ wv u) H1 → va_D A (wr ++ wv u) → va_S A s.heap H1 locs1 → W p l e R s m args below meth c H1 locs1 cells slots Q (F0 m (pc + 3) ls rest)) : W p l e R s m args below meth c H locs cells slots Q (F0 m pc ls (As.reverse ++ .ref b :: rest)) := by
  refine aft_v hA hP hD hS isC isR hC hR hn hdis (va_runV (As := As) (rest := rest) sx hM cw ⟨cP_blind _ _ _, ?_, cP_at (.ref b :: As) hK hX hA hP hD hS isC hC hnC⟩ rfl hln hsize rfl (lv_room hW) hdg hf) kk
  rw [← hq]; exact va_recv hK hP hc he
theorem call_Si {post : Int32 → S → Prop} (As rest : List Value) (sx : CallFix p m c cc nL s args Ts own) (hK : va_K G.1 vwCl (gT G) s) (hX : st_X G A s s.heap) (hA : ∀ q : Nat, s.heap.size ≤ q → A q) (hP : va_P G.1 vwCl w H) (hD : va_D A w) (hS : va_S A s.heap H locs)
    (hM : MetI l y ws rm As G wc H.size wv post) (cw : CallB R s args own index y bytes maxL ret ws rm 0 0 n ∧ (Cond.static y).before args s = true)
    (isC isR : List Nat) (hC : isC.map (fun i => w[i]?) = wc.map some) (hR : isR.map (fun i => w[i]?) = wr.map some) (hnC : va_nd isC = true) (hn : va_nd isR = true) (hdis : ∀ i ∈ isR, i ∉ isC)
    (hln : As.length = n) (hsize : ls.size = nL) (hW : (rest.map fun v => v.category).sum ≤ 8) (hdg : decode cc pc = .ok (.invokestatic index, 3)) (hf : cells ≤ R.cells ∧ slots ≤ R.slots)
    (kk : ∀ (r : Int32) (u : S) (H1 : Heap) (locs1 : List Loc), post r u → va_P G.1 vwCl (wr ++ wv u) H1 → va_D A (wr ++ wv u) → va_S A s.heap H1 locs1 → W p l e R s m args below meth c H1 locs1 cells slots Q (F0 m (pc + 3) ls (.int r :: rest))) : W p l e R s m args below meth c H locs cells slots Q (F0 m pc ls (As.reverse ++ rest)) :=
  aft_i hA hP hD hS isC isR hC hR hn hdis (va_runS (As := As) (rest := rest) sx hM cw ⟨cP_blind _ _ _, cP_at As hK hX hA hP hD hS isC hC hnC⟩ rfl hln hsize rfl (lv_room hW) hdg hf) kk
theorem call_Sv {post : S → Prop} (As rest : List Value) (sx : CallFix p m c cc nL s args Ts own) (hK : va_K G.1 vwCl (gT G) s) (hX : st_X G A s s.heap) (hA : ∀ q : Nat, s.heap.size ≤ q → A q) (hP : va_P G.1 vwCl w H) (hD : va_D A w) (hS : va_S A s.heap H locs)
    (hM : MetV l y ws rm As G wc H.size wv post) (cw : CallB R s args own index y bytes maxL ret ws rm 0 0 n ∧ (Cond.static y).before args s = true)
    (isC isR : List Nat) (hC : isC.map (fun i => w[i]?) = wc.map some) (hR : isR.map (fun i => w[i]?) = wr.map some) (hnC : va_nd isC = true) (hn : va_nd isR = true) (hdis : ∀ i ∈ isR, i ∉ isC)
    (hln : As.length = n) (hsize : ls.size = nL) (hW : (rest.map fun v => v.category).sum ≤ 8) (hdg : decode cc pc = .ok (.invokestatic index, 3)) (hf : cells ≤ R.cells ∧ slots ≤ R.slots)
    (kk : ∀ (u : S) (H1 : Heap) (locs1 : List Loc), post u → va_P G.1 vwCl (wr ++ wv u) H1 → va_D A (wr ++ wv u) → va_S A s.heap H1 locs1 → W p l e R s m args below meth c H1 locs1 cells slots Q (F0 m (pc + 3) ls rest)) : W p l e R s m args below meth c H locs cells slots Q (F0 m pc ls (As.reverse ++ rest)) :=
  aft_v hA hP hD hS isC isR hC hR hn hdis (va_runS (As := As) (rest := rest) sx hM cw ⟨cP_blind _ _ _, cP_at As hK hX hA hP hD hS isC hC hnC⟩ rfl hln hsize rfl (lv_room hW) hdg hf) kk
/-- a static method of a nest mate that touches no cell -/
theorem call_Ni {post : Int32 → S → Prop} (As rest : List Value) (sx : CallFix p m c cc nL s args Ts own) (hK : va_K G.1 vwCl (gT G) s) (hX : st_X G A s s.heap) (hA : ∀ q : Nat, s.heap.size ≤ q → A q) (hP : va_P G.1 vwCl w H) (hD : va_D A w) (hS : va_S A s.heap H locs)
    (hM : MetI l y ws rm As G wc H.size wv post) (cw : va_CN R s args own index y host bytes maxL ret ws rm 0 0 n ∧ (Cond.static y).before args s = true ∧ True)
    (isC isR : List Nat) (hC : isC.map (fun i => w[i]?) = wc.map some) (hR : isR.map (fun i => w[i]?) = wr.map some) (hnC : va_nd isC = true) (hn : va_nd isR = true) (hdis : ∀ i ∈ isR, i ∉ isC)
    (hln : As.length = n) (hsize : ls.size = nL) (hW : (rest.map fun v => v.category).sum ≤ 8) (hdg : decode cc pc = .ok (.invokestatic index, 3)) (hf : cells ≤ R.cells ∧ slots ≤ R.slots)
    (kk : ∀ (r : Int32) (u : S) (H1 : Heap) (locs1 : List Loc), post r u → va_P G.1 vwCl (wr ++ wv u) H1 → va_D A (wr ++ wv u) → va_S A s.heap H1 locs1 → W p l e R s m args below meth c H1 locs1 cells slots Q (F0 m (pc + 3) ls (.int r :: rest))) : W p l e R s m args below meth c H locs cells slots Q (F0 m pc ls (As.reverse ++ rest)) :=
  aft_i hA hP hD hS isC isR hC hR hn hdis (va_runSN (As := As) (rest := rest) sx hM cw ⟨cP_blind _ _ _, cP_at As hK hX hA hP hD hS isC hC hnC⟩ rfl hln hsize rfl (lv_room hW) hdg hf) kk
/-- the number on top by another name -/
theorem top_i {x : Int32} (v : Int32) (h : x = v) (k : W p l e R s m args below meth c H locs cells slots Q (F0 m pc ls (.int v :: rest))) : W p l e R s m args below meth c H locs cells slots Q (F0 m pc ls (.int x :: rest)) := h ▸ k
theorem top_2 {x : Int32} {z : Value} (v : Int32) (h : x = v) (k : W p l e R s m args below meth c H locs cells slots Q (F0 m pc ls (z :: .int v :: rest))) : W p l e R s m args below meth c H locs cells slots Q (F0 m pc ls (z :: .int x :: rest)) := h ▸ k
theorem cl_nI {n N : Nat} (h : n < N) (hN : N ≤ 2147483648) : (nI n).toNatClampNeg = n := nI_clamp (by omega)
theorem rd_i (hexec : p.tables.exec = Jvm.exec) (hb : c.code = cc) (hK : va_K G.1 vwCl (gT G) s) (hP : va_P G.1 vwCl w H) (q0 : Nat) {N : Nat} {f : Nat → Int32} (ha : w[q0]? = some (a, .inl (G.2.2.1, N, .inl f))) (k : Nat) (hk : k < N) (hN : N ≤ 65536) (hdg : decode cc pc = .ok (.iaload, 1))
    (kk : W p l e R s m args below meth c H locs cells slots Q (F0 m (pc + 1) ls (.int (f k) :: rest))) : W p l e R s m args below meth c H locs cells slots Q (F0 m pc ls (.int (nI k) :: .ref a :: rest)) := by
  refine va_iald hexec hb hK hP q0 0 ha rfl (vp_in_nI hk (by omega)) hdg ?_
  rw [cl_nI hk (by omega)]; exact kk
theorem wr_i (hexec : p.tables.exec = Jvm.exec) (hb : c.code = cc) (hK : va_K G.1 vwCl (gT G) s) (hP : va_P G.1 vwCl w H) (hD : va_D A w) (hS : va_S A s.heap H locs) (q0 : Nat) {N : Nat} {f : Nat → Int32} (ha : w[q0]? = some (a, .inl (G.2.2.1, N, .inl f))) (k : Nat) {x : Int32} (hk : k < N) (hN : N ≤ 65536) (hdg : decode cc pc = .ok (.iastore, 1))
    (kk : ∀ (H1 : Heap) (locs1 : List Loc), va_P G.1 vwCl (w.set q0 (a, .inl (G.2.2.1, N, .inl (upd f k x)))) H1 → va_D A (w.set q0 (a, .inl (G.2.2.1, N, .inl (upd f k x)))) → va_S A s.heap H1 locs1 → W p l e R s m args below meth c H1 locs1 cells slots Q (F0 m (pc + 1) ls rest)) : W p l e R s m args below meth c H locs cells slots Q (F0 m pc ls (.int x :: .int (nI k) :: .ref a :: rest)) := by
  refine va_iast hexec hb hK hP hD hS q0 0 ha rfl (vp_in_nI hk (by omega)) hdg ?_
  rw [cl_nI hk (by omega)]; exact kk
theorem rd_z (hexec : p.tables.exec = Jvm.exec) (hb : c.code = cc) (hK : va_K G.1 vwCl (gT G) s) (hP : va_P G.1 vwCl w H) (q0 : Nat) {N : Nat} {f : Nat → Int32} (ha : w[q0]? = some (a, .inl (G.2.2.2, N, .inl f))) (k : Nat) (hk : k < N) (hN : N ≤ 65536) (hdg : decode cc pc = .ok (.baload, 1))
    (kk : W p l e R s m args below meth c H locs cells slots Q (F0 m (pc + 1) ls (.int (f k) :: rest))) : W p l e R s m args below meth c H locs cells slots Q (F0 m pc ls (.int (nI k) :: .ref a :: rest)) := by
  refine va_zald hexec hb hK hP q0 1 ha rfl (vp_in_nI hk (by omega)) hdg ?_
  rw [cl_nI hk (by omega)]; exact kk
theorem cmp_lt (hexec : p.tables.exec = Jvm.exec) (hb : c.code = cc) (x y : Nat) {off : Int} (tgt : Nat) (hx : x < 2147483648) (hy : y < 2147483648) (hdg : decode cc pc = .ok (.if_icmp .lt off, 3)) (ht : (pc : Int) + off = (tgt : Int)) (kt : x < y → W p l e R s m args below meth c H locs cells slots Q (F0 m tgt ls rest)) (kf : y ≤ x → W p l e R s m args below meth c H locs cells slots Q (F0 m (pc + 3) ls rest)) : W p l e R s m args below meth c H locs cells slots Q (F0 m pc ls (.int (nI y) :: .int (nI x) :: rest)) :=
  lv_icmp_lt hexec hb hdg ht (fun h => kt ((nI_ltI hx hy).mp h)) (fun h => kf (Nat.le_of_not_lt fun q => h ((nI_ltI hx hy).mpr q)))
theorem cmp_ge (hexec : p.tables.exec = Jvm.exec) (hb : c.code = cc) (x y : Nat) {off : Int} (tgt : Nat) (hx : x < 2147483648) (hy : y < 2147483648) (hdg : decode cc pc = .ok (.if_icmp .ge off, 3)) (ht : (pc : Int) + off = (tgt : Int)) (kt : y ≤ x → W p l e R s m args below meth c H locs cells slots Q (F0 m tgt ls rest)) (kf : x < y → W p l e R s m args below meth c H locs cells slots Q (F0 m (pc + 3) ls rest)) : W p l e R s m args below meth c H locs cells slots Q (F0 m pc ls (.int (nI y) :: .int (nI x) :: rest)) :=
  lv_icmp_ge hexec hb hdg ht (fun h => kt ((nI_leI hy hx).mp h)) (fun h => kf (Nat.lt_of_not_le fun q => h ((nI_leI hy hx).mpr q)))
theorem cmp_gt (hexec : p.tables.exec = Jvm.exec) (hb : c.code = cc) (x y : Nat) {off : Int} (tgt : Nat) (hx : x < 2147483648) (hy : y < 2147483648) (hdg : decode cc pc = .ok (.if_icmp .gt off, 3)) (ht : (pc : Int) + off = (tgt : Int)) (kt : y < x → W p l e R s m args below meth c H locs cells slots Q (F0 m tgt ls rest)) (kf : x ≤ y → W p l e R s m args below meth c H locs cells slots Q (F0 m (pc + 3) ls rest)) : W p l e R s m args below meth c H locs cells slots Q (F0 m pc ls (.int (nI y) :: .int (nI x) :: rest)) :=
  lv_icmp_gt hexec hb hdg ht (fun h => kt ((nI_ltI hy hx).mp h)) (fun h => kf (Nat.le_of_not_lt fun q => h ((nI_ltI hy hx).mpr q)))
theorem cmp_le (hexec : p.tables.exec = Jvm.exec) (hb : c.code = cc) (x y : Nat) {off : Int} (tgt : Nat) (hx : x < 2147483648) (hy : y < 2147483648) (hdg : decode cc pc = .ok (.if_icmp .le off, 3)) (ht : (pc : Int) + off = (tgt : Int)) (kt : x ≤ y → W p l e R s m args below meth c H locs cells slots Q (F0 m tgt ls rest)) (kf : y < x → W p l e R s m args below meth c H locs cells slots Q (F0 m (pc + 3) ls rest)) : W p l e R s m args below meth c H locs cells slots Q (F0 m pc ls (.int (nI y) :: .int (nI x) :: rest)) :=
  lv_icmp_le hexec hb hdg ht (fun h => kt ((nI_leI hx hy).mp h)) (fun h => kf (Nat.lt_of_not_le fun q => h ((nI_leI hx hy).mpr q)))
theorem cmp_eq (hexec : p.tables.exec = Jvm.exec) (hb : c.code = cc) (x y : Nat) {off : Int} (tgt : Nat) (hx : x < 2147483648) (hy : y < 2147483648) (hdg : decode cc pc = .ok (.if_icmp .eq off, 3)) (ht : (pc : Int) + off = (tgt : Int)) (kt : x = y → W p l e R s m args below meth c H locs cells slots Q (F0 m tgt ls rest)) (kf : x ≠ y → W p l e R s m args below meth c H locs cells slots Q (F0 m (pc + 3) ls rest)) : W p l e R s m args below meth c H locs cells slots Q (F0 m pc ls (.int (nI y) :: .int (nI x) :: rest)) :=
  lv_icmp_eq hexec hb hdg ht (fun h => kt ((nI_eq hx hy).mp h)) (fun h => kf fun q => h ((nI_eq hx hy).mpr q))
theorem cmp_ne (hexec : p.tables.exec = Jvm.exec) (hb : c.code = cc) (x y : Nat) {off : Int} (tgt : Nat) (hx : x < 2147483648) (hy : y < 2147483648) (hdg : decode cc pc = .ok (.if_icmp .ne off, 3)) (ht : (pc : Int) + off = (tgt : Int)) (kt : x ≠ y → W p l e R s m args below meth c H locs cells slots Q (F0 m tgt ls rest)) (kf : x = y → W p l e R s m args below meth c H locs cells slots Q (F0 m (pc + 3) ls rest)) : W p l e R s m args below meth c H locs cells slots Q (F0 m pc ls (.int (nI y) :: .int (nI x) :: rest)) :=
  lv_icmp_ne hexec hb hdg ht (fun h => kt fun q => h ((nI_eq hx hy).mpr q)) (fun h => kf ((nI_eq hx hy).mp h))
end RWS
end
section
def p_ush (x y : Int32) : Int32 := (x.toUInt32 >>> (y.toUInt32 &&& Int32.toUInt32 31)).toInt32
theorem inc_N (a b : Nat) : nI a + Int32.ofInt (b : Int) = nI (a + b) := by
  have e : Int32.ofInt (b : Int) = nI b := rfl
  rw [e, nI_add]
theorem dec_N (a b : Nat) (h : b ≤ a) : nI a + Int32.ofInt (-(b : Int)) = nI (a - b) := by
  have e : Int32.ofInt (-(b : Int)) = - nI b := by
    apply Int32.toBitVec_inj.mp
    simp [nI, Int32.toBitVec_neg]
  rw [e, ← pk_sub h, Int32.sub_eq_add_neg]
theorem max_N {a b : Nat} (ha : a < 2147483648) (hb : b < 2147483648) : (if nI a < nI b then nI b else nI a) = nI (max a b) := by
  by_cases h : a < b
  · rw [if_pos ((nI_ltI ha hb).mpr h), Nat.max_eq_right (Nat.le_of_lt h)]
  · rw [if_neg (fun q => h ((nI_ltI ha hb).mp q)), Nat.max_eq_left (Nat.le_of_not_lt h)]
theorem min_N {a b : Nat} (ha : a < 2147483648) (hb : b < 2147483648) : (if nI b < nI a then nI b else nI a) = nI (min a b) := by
  by_cases h : b < a
  · rw [if_pos ((nI_ltI hb ha).mpr h), Nat.min_eq_right (Nat.le_of_lt h)]
  · rw [if_neg (fun q => h ((nI_ltI hb ha).mp q)), Nat.min_eq_left (Nat.le_of_not_lt h)]
theorem tI_lt {x y : Int32} : x < y ↔ x.toInt < y.toInt := Int32.lt_iff_toInt_lt
theorem tI_le {x y : Int32} : x ≤ y ↔ x.toInt ≤ y.toInt := Int32.le_iff_toInt_le
theorem tI_N {n : Nat} (h : n < 2147483648) : (nI n).toInt = (n : Int) := nI_toInt h
/-- a number that isn't below 0 is one of the counting ones -/
theorem of_nn {x : Int32} (h : 0 ≤ x.toInt) : ∃ j : Nat, j < 2147483648 ∧ x = nI j := nI_of (fun q => by have := tI_lt.mp q; have e : (0 : Int32).toInt = 0 := rfl; omega)
section RWT
variable {p : Program} {l : Launch} {e : Env} {R : Room} {s : State} {m : MethodId} {args : Array Value} {below : List Frame} {meth : Method} {c : Code} {H : Heap} {locs : List Loc} {cells slots : Nat} {Q : State → Prop}
variable {cc : ByteArray} {pc : Nat} {ls : Array Slot} {rest : List Value} {G : gG} {A : Nat → Prop} {a : Nat} {w : va_W}
theorem ad_N (hexec : p.tables.exec = Jvm.exec) (hb : c.code = cc) (x y : Nat) (hdg : decode cc pc = .ok (.iadd, 1)) (k : W p l e R s m args below meth c H locs cells slots Q (F0 m (pc + 1) ls (.int (nI (x + y)) :: rest))) : W p l e R s m args below meth c H locs cells slots Q (F0 m pc ls (.int (nI y) :: .int (nI x) :: rest)) :=
  lv_iadd hexec hb hdg (by rw [nI_add]; exact k)
theorem mu_N (hexec : p.tables.exec = Jvm.exec) (hb : c.code = cc) (x y : Nat) (hdg : decode cc pc = .ok (.imul, 1)) (k : W p l e R s m args below meth c H locs cells slots Q (F0 m (pc + 1) ls (.int (nI (x * y)) :: rest))) : W p l e R s m args below meth c H locs cells slots Q (F0 m pc ls (.int (nI y) :: .int (nI x) :: rest)) :=
  lv_imul hexec hb hdg (by rw [pk_mul]; exact k)
theorem su_N (hexec : p.tables.exec = Jvm.exec) (hb : c.code = cc) (x y : Nat) (h : y ≤ x) (hdg : decode cc pc = .ok (.isub, 1)) (k : W p l e R s m args below meth c H locs cells slots Q (F0 m (pc + 1) ls (.int (nI (x - y)) :: rest))) : W p l e R s m args below meth c H locs cells slots Q (F0 m pc ls (.int (nI y) :: .int (nI x) :: rest)) :=
  lv_isub hexec hb hdg (by rw [pk_sub h]; exact k)
theorem wr_z (hexec : p.tables.exec = Jvm.exec) (hb : c.code = cc) (hK : va_K G.1 vwCl (gT G) s) (hP : va_P G.1 vwCl w H) (hD : va_D A w) (hS : va_S A s.heap H locs) (q0 : Nat) {N : Nat} {f : Nat → Int32} (ha : w[q0]? = some (a, .inl (G.2.2.2, N, .inl f))) (k : Nat) (x : Int32) (hx : x = 0 ∨ x = 1) (hk : k < N) (hN : N ≤ 65536) (hdg : decode cc pc = .ok (.bastore, 1))
    (kk : ∀ (H1 : Heap) (locs1 : List Loc), va_P G.1 vwCl (w.set q0 (a, .inl (G.2.2.2, N, .inl (upd f k x)))) H1 → va_D A (w.set q0 (a, .inl (G.2.2.2, N, .inl (upd f k x)))) → va_S A s.heap H1 locs1 → W p l e R s m args below meth c H1 locs1 cells slots Q (F0 m (pc + 1) ls rest)) : W p l e R s m args below meth c H locs cells slots Q (F0 m pc ls (.int x :: .int (nI k) :: .ref a :: rest)) := by
  refine va_zast hexec hb hK hP hD hS q0 1 ha rfl (vp_in_nI hk (by omega)) hdg ?_
  have e : vp_nar .boolean x = x := by rcases hx with rfl | rfl <;> rfl
  rw [cl_nI hk (by omega), e]; exact kk
theorem cpy_i (hexec : p.tables.exec = Jvm.exec) (hb : c.code = cc) (hml : c.maxLocals = ls.size) {own : String} {index : Nat} (hown : s.vm.findClass own = some m.cls) (hlink : (Cond.methodLink own index arraycopyName).before args s = true) (hnat : (Cond.native arraycopyName).before args s = true) (hstat : (Cond.static arraycopyName).before args s = true) (hini : (Cond.initialized "java/lang/System").before args s = true)
    (hK : va_K G.1 vwCl (gT G) s) (hP : va_P G.1 vwCl w H) (hD : va_D A w) (hS : va_S A s.heap H locs) (q0 q1 : Nat) {a0 : Nat} {n0 n1 : Nat} {f g : Nat → Int32} (ha0 : w[q0]? = some (a0, .inl (G.2.2.1, n0, .inl f))) (ha1 : w[q1]? = some (a, .inl (G.2.2.1, n1, .inl g))) (sp dp n : Nat) (h4 : sp + n ≤ n0) (h5 : dp + n ≤ n1) (h6 : sp + n + dp ≤ 1000000)
    (hframes : 1 ≤ R.frames) (hlocals : (rest.map fun v => v.category).sum + (nativeFrameWords "java/lang/System" "arraycopy" 5 + 11) ≤ R.locals) (hdg : decode cc pc = .ok (.invokestatic index, 3))
    (kk : ∀ (H1 : Heap) (locs1 : List Loc), va_P G.1 vwCl (w.set q1 (a, .inl (G.2.2.1, n1, .inl (va_cpy f g sp dp n)))) H1 → va_D A (w.set q1 (a, .inl (G.2.2.1, n1, .inl (va_cpy f g sp dp n)))) → va_S A s.heap H1 locs1 → W p l e R s m args below meth c H1 locs1 cells slots Q (F0 m (pc + 3) ls rest)) : W p l e R s m args below meth c H locs cells slots Q (F0 m pc ls (.int (nI n) :: .int (nI dp) :: .ref a :: .int (nI sp) :: .ref a0 :: rest)) := by
  have e1 : (nI sp).toNatClampNeg = sp := nI_clamp (by omega)
  have e2 : (nI dp).toNatClampNeg = dp := nI_clamp (by omega)
  have e3 : (nI n).toNatClampNeg = n := nI_clamp (by omega)
  refine va_copyi hexec hb hml hown hlink hnat hstat hini hK hP hD hS q0 q1 0 0 (ty := .int) ha0 ha1 rfl rfl rfl (nI_pos (by omega)) (nI_pos (by omega)) (nI_pos (by omega)) (by rw [e1, e3]; exact h4) (by rw [e2, e3]; exact h5) (fun i _ => rfl) hframes hlocals hdg ?_
  rw [e1, e2, e3]; exact kk
theorem cpt_i (hexec : p.tables.exec = Jvm.exec) (hb : c.code = cc) (hml : c.maxLocals = ls.size) {own : String} {index : Nat} (hown : s.vm.findClass own = some m.cls) (hlink : (Cond.methodLink own index arraycopyName).before args s = true) (hnat : (Cond.native arraycopyName).before args s = true) (hstat : (Cond.static arraycopyName).before args s = true) (hini : (Cond.initialized "java/lang/System").before args s = true)
    (hK : va_K G.1 vwCl (gT G) s) (hP : va_P G.1 vwCl w H) (hD : va_D A w) (hS : va_S A s.heap H locs) {b0 n0 : Nat} {f : Nat → Int32} (hX : va_T .int b0 n0 (fun j => .int (f j)) A s s.heap) (q1 : Nat) {n1 : Nat} {g : Nat → Int32} (ha1 : w[q1]? = some (a, .inl (G.2.2.1, n1, .inl g))) (sp dp n : Nat) (h4 : sp + n ≤ n0) (h5 : dp + n ≤ n1) (h6 : sp + n + dp ≤ 1000000)
    (hframes : 1 ≤ R.frames) (hlocals : (rest.map fun v => v.category).sum + (nativeFrameWords "java/lang/System" "arraycopy" 5 + 11) ≤ R.locals) (hdg : decode cc pc = .ok (.invokestatic index, 3))
    (kk : ∀ (H1 : Heap) (locs1 : List Loc), va_P G.1 vwCl (w.set q1 (a, .inl (G.2.2.1, n1, .inl (va_cpy f g sp dp n)))) H1 → va_D A (w.set q1 (a, .inl (G.2.2.1, n1, .inl (va_cpy f g sp dp n)))) → va_S A s.heap H1 locs1 → W p l e R s m args below meth c H1 locs1 cells slots Q (F0 m (pc + 3) ls rest)) : W p l e R s m args below meth c H locs cells slots Q (F0 m pc ls (.int (nI n) :: .int (nI dp) :: .ref a :: .int (nI sp) :: .ref b0 :: rest)) := by
  have c1 : (nI sp).toNatClampNeg = sp := nI_clamp (by omega)
  have c2 : (nI dp).toNatClampNeg = dp := nI_clamp (by omega)
  have c3 : (nI n).toNatClampNeg = n := nI_clamp (by omega)
  have t1 : (nI sp).toInt = (sp : Int) := nI_toInt (by omega)
  have t2 : (nI dp).toInt = (dp : Int) := nI_toInt (by omega)
  have t3 : (nI n).toInt = (n : Int) := nI_toInt (by omega)
  intro T hT X
  obtain ⟨scr, hs1, hs2, hs3, hs4, -, hs5, hs7⟩ := hX
  have hc0 : H[b0]? = some scr := by rw [hS.2.1 b0 (Array.getElem?_eq_some_iff.mp hs1).1 hs7]; exact hs1
  have hc1 : H[a]? = some (vp_cell G.2.2.1 (n1, .inl g)) := hP q1 _ ha1
  obtain ⟨hs6, k0, hk0, cm0, hkk0⟩ := hs2
  obtain ⟨-, k1, hk1, cm1, hkk1⟩ := (hK.2 0 (G.2.2.1, .int) rfl).1 n1 (fun j => .int (g j))
  obtain ⟨vm', X', step⟩ := X.arraycopy hexec hown hlink hnat hstat hini (src := b0) (dst := a) (cs := scr) (cd := vp_cell G.2.2.1 (n1, .inl g)) (srcPos := nI sp) (destPos := nI dp) (n := nI n) (by rw [hT]; exact hc0) (by rw [hT]; exact hc1)
    hs6 (fun _ h => by cases h) hs3 (fun h => by cases h) hk0 hk1 hkk0 hkk1 (by simp [refKind]) (nI_pos (by omega)) (nI_pos (by omega)) (nI_pos (by omega))
    (by rw [t1, t3]; omega)
    (by rw [t2, t3]; show ¬ _ > ((arrV G.2.2.1 n1 (fun j => .int (g j))).slots.size : Int); rw [arrV_size]; omega)
    (fun vm₁ _ i hi => by
      have e : scr.slots.getD ((nI sp).toNatClampNeg + i) .null = .int (f ((nI sp).toNatClampNeg + i)) := by
        rw [Array.getD_eq_getD_getElem?, hs5 _ (by omega)]
        rfl
      refine ⟨?_, ?_⟩
      · rw [e]
        rfl
      · rw [e]
        exact trivial)
    (g := F0 m pc ls (.int (nI n) :: .int (nI dp) :: .ref a :: .int (nI sp) :: .ref b0 :: rest)) rfl (by rw [hml]) (rest := rest) rfl (by rw [hb]; exact hdg) hframes (by show 2 * 0 + _ + _ ≤ _; omega)
  have e1 : copied scr (vp_cell G.2.2.1 (n1, .inl g)) (nI sp) (nI dp) (nI n) = vp_cell G.2.2.1 (n1, .inl (va_cpy f g sp dp n)) := by
    have q := va_copiedX (sp := (nI sp).toNatClampNeg) (dp := (nI dp).toNatClampNeg) (n := (nI n).toNatClampNeg) (n1 := n1) (fun z => Value.int z) scr G.2.2.1 f g hs5 (by rw [c1, c3]; exact h4)
    rw [show va_cpy f g sp dp n = va_cpy f g (nI sp).toNatClampNeg (nI dp).toNatClampNeg (nI n).toNatClampNeg by rw [c1, c2, c3]]
    exact q
  rw [e1] at X' step
  have hl : a < H.size := (Array.getElem?_eq_some_iff.mp hc1).1
  have hheap : ((T.setVm vm').setCell a (vp_cell G.2.2.1 (n1, .inl (va_cpy f g sp dp n)))).heap = H.setIfInBounds a (vp_cell G.2.2.1 (n1, .inl (va_cpy f g sp dp n))) := by rw [← hT]; rfl
  have oq : ∀ q : Nat, q ≠ a → (H.setIfInBounds a (vp_cell G.2.2.1 (n1, .inl (va_cpy f g sp dp n))))[q]? = H[q]? := fun q hq => by simp [Array.getElem?_setIfInBounds, Ne.symm hq]
  obtain ⟨t, a1, b1⟩ := kk _ _ (hP.set hD ha1 (show (H.setIfInBounds a _)[a]? = some _ by simp [Array.getElem?_setIfInBounds, hl]) oq) (hD.set ha1) ⟨by simp; exact hS.1, fun q g1 g2 => by
      rw [oq q (fun e => g2 (by rw [e]; exact hD.2 q1 _ ha1))]
      exact hS.2.1 q g1 g2, fun q hq => by
      rcases List.mem_append.mp hq with h | h
      · exact hS.2.2 q h
      · obtain ⟨z, -, hz⟩ := List.mem_map.mp h
        rw [← hz]
        exact hD.2 q1 _ ha1⟩ _ hheap X'
  exact ⟨t, step t a1, b1⟩
theorem ifz_lt (hexec : p.tables.exec = Jvm.exec) (hb : c.code = cc) (x : Int32) {off : Int} (tgt : Nat) (hdg : decode cc pc = .ok (.ifCond .lt off, 3)) (ht : (pc : Int) + off = (tgt : Int)) (kt : x.toInt < 0 → W p l e R s m args below meth c H locs cells slots Q (F0 m tgt ls rest)) (kf : 0 ≤ x.toInt → W p l e R s m args below meth c H locs cells slots Q (F0 m (pc + 3) ls rest)) : W p l e R s m args below meth c H locs cells slots Q (F0 m pc ls (.int x :: rest)) :=
  lv_if_lt hexec hb hdg ht (fun h => kt (tI_lt.mp h)) (fun h => kf (Int.not_lt.mp fun q => h (tI_lt.mpr q)))
theorem ifz_ge (hexec : p.tables.exec = Jvm.exec) (hb : c.code = cc) (x : Int32) {off : Int} (tgt : Nat) (hdg : decode cc pc = .ok (.ifCond .ge off, 3)) (ht : (pc : Int) + off = (tgt : Int)) (kt : 0 ≤ x.toInt → W p l e R s m args below meth c H locs cells slots Q (F0 m tgt ls rest)) (kf : x.toInt < 0 → W p l e R s m args below meth c H locs cells slots Q (F0 m (pc + 3) ls rest)) : W p l e R s m args below meth c H locs cells slots Q (F0 m pc ls (.int x :: rest)) :=
  lv_if_ge hexec hb hdg ht (fun h => kt (tI_le.mp h)) (fun h => kf (Int.not_le.mp fun q => h (tI_le.mpr q)))
theorem ifz_gt (hexec : p.tables.exec = Jvm.exec) (hb : c.code = cc) (x : Int32) {off : Int} (tgt : Nat) (hdg : decode cc pc = .ok (.ifCond .gt off, 3)) (ht : (pc : Int) + off = (tgt : Int)) (kt : 0 < x.toInt → W p l e R s m args below meth c H locs cells slots Q (F0 m tgt ls rest)) (kf : x.toInt ≤ 0 → W p l e R s m args below meth c H locs cells slots Q (F0 m (pc + 3) ls rest)) : W p l e R s m args below meth c H locs cells slots Q (F0 m pc ls (.int x :: rest)) :=
  lv_if_gt hexec hb hdg ht (fun h => kt (tI_lt.mp h)) (fun h => kf (Int.not_lt.mp fun q => h (tI_lt.mpr q)))
theorem ifz_le (hexec : p.tables.exec = Jvm.exec) (hb : c.code = cc) (x : Int32) {off : Int} (tgt : Nat) (hdg : decode cc pc = .ok (.ifCond .le off, 3)) (ht : (pc : Int) + off = (tgt : Int)) (kt : x.toInt ≤ 0 → W p l e R s m args below meth c H locs cells slots Q (F0 m tgt ls rest)) (kf : 0 < x.toInt → W p l e R s m args below meth c H locs cells slots Q (F0 m (pc + 3) ls rest)) : W p l e R s m args below meth c H locs cells slots Q (F0 m pc ls (.int x :: rest)) :=
  lv_if_le hexec hb hdg ht (fun h => kt (tI_le.mp h)) (fun h => kf (Int.not_le.mp fun q => h (tI_le.mpr q)))
theorem if0_lt (hexec : p.tables.exec = Jvm.exec) (hb : c.code = cc) (x : Nat) {off : Int} (tgt : Nat) (hx : x < 2147483648) (hdg : decode cc pc = .ok (.ifCond .lt off, 3)) (ht : (pc : Int) + off = (tgt : Int)) (kf : W p l e R s m args below meth c H locs cells slots Q (F0 m (pc + 3) ls rest)) : W p l e R s m args below meth c H locs cells slots Q (F0 m pc ls (.int (nI x) :: rest)) :=
  ifz_lt hexec hb _ tgt hdg ht (fun h => by rw [tI_N hx] at h; omega) (fun _ => kf)
theorem if0_ge (hexec : p.tables.exec = Jvm.exec) (hb : c.code = cc) (x : Nat) {off : Int} (tgt : Nat) (hx : x < 2147483648) (hdg : decode cc pc = .ok (.ifCond .ge off, 3)) (ht : (pc : Int) + off = (tgt : Int)) (kt : W p l e R s m args below meth c H locs cells slots Q (F0 m tgt ls rest)) : W p l e R s m args below meth c H locs cells slots Q (F0 m pc ls (.int (nI x) :: rest)) :=
  ifz_ge hexec hb _ tgt hdg ht (fun _ => kt) (fun h => by rw [tI_N hx] at h; omega)
theorem if0_eq (hexec : p.tables.exec = Jvm.exec) (hb : c.code = cc) (x : Nat) {off : Int} (tgt : Nat) (hx : x < 2147483648) (hdg : decode cc pc = .ok (.ifCond .eq off, 3)) (ht : (pc : Int) + off = (tgt : Int)) (kt : x = 0 → W p l e R s m args below meth c H locs cells slots Q (F0 m tgt ls rest)) (kf : 0 < x → W p l e R s m args below meth c H locs cells slots Q (F0 m (pc + 3) ls rest)) : W p l e R s m args below meth c H locs cells slots Q (F0 m pc ls (.int (nI x) :: rest)) :=
  lv_if_eq hexec hb hdg ht (fun h => kt ((nI_eq hx (by omega)).mp (h.trans nI_0.symm))) (fun h => kf (Nat.pos_of_ne_zero fun q => h (by rw [q]; rfl)))
theorem if0_ne (hexec : p.tables.exec = Jvm.exec) (hb : c.code = cc) (x : Nat) {off : Int} (tgt : Nat) (hx : x < 2147483648) (hdg : decode cc pc = .ok (.ifCond .ne off, 3)) (ht : (pc : Int) + off = (tgt : Int)) (kt : 0 < x → W p l e R s m args below meth c H locs cells slots Q (F0 m tgt ls rest)) (kf : x = 0 → W p l e R s m args below meth c H locs cells slots Q (F0 m (pc + 3) ls rest)) : W p l e R s m args below meth c H locs cells slots Q (F0 m pc ls (.int (nI x) :: rest)) :=
  lv_if_ne hexec hb hdg ht (fun h => kt (Nat.pos_of_ne_zero fun q => h (by rw [q]; rfl))) (fun h => kf ((nI_eq hx (by omega)).mp (h.trans nI_0.symm)))
theorem if0_gt (hexec : p.tables.exec = Jvm.exec) (hb : c.code = cc) (x : Nat) {off : Int} (tgt : Nat) (hx : x < 2147483648) (hdg : decode cc pc = .ok (.ifCond .gt off, 3)) (ht : (pc : Int) + off = (tgt : Int)) (kt : 0 < x → W p l e R s m args below meth c H locs cells slots Q (F0 m tgt ls rest)) (kf : x = 0 → W p l e R s m args below meth c H locs cells slots Q (F0 m (pc + 3) ls rest)) : W p l e R s m args below meth c H locs cells slots Q (F0 m pc ls (.int (nI x) :: rest)) :=
  ifz_gt hexec hb _ tgt hdg ht (fun h => kt (by rw [tI_N hx] at h; omega)) (fun h => kf (by rw [tI_N hx] at h; omega))
theorem if0_le (hexec : p.tables.exec = Jvm.exec) (hb : c.code = cc) (x : Nat) {off : Int} (tgt : Nat) (hx : x < 2147483648) (hdg : decode cc pc = .ok (.ifCond .le off, 3)) (ht : (pc : Int) + off = (tgt : Int)) (kt : x = 0 → W p l e R s m args below meth c H locs cells slots Q (F0 m tgt ls rest)) (kf : 0 < x → W p l e R s m args below meth c H locs cells slots Q (F0 m (pc + 3) ls rest)) : W p l e R s m args below meth c H locs cells slots Q (F0 m pc ls (.int (nI x) :: rest)) :=
  ifz_le hexec hb _ tgt hdg ht (fun h => kt (by rw [tI_N hx] at h; omega)) (fun h => kf (by rw [tI_N hx] at h; omega))
theorem cmz_ltzz (hexec : p.tables.exec = Jvm.exec) (hb : c.code = cc) (x : Int32) (y : Int32) {off : Int} (tgt : Nat) (hdg : decode cc pc = .ok (.if_icmp .lt off, 3)) (ht : (pc : Int) + off = (tgt : Int)) (kt : x.toInt < y.toInt → W p l e R s m args below meth c H locs cells slots Q (F0 m tgt ls rest)) (kf : y.toInt ≤ x.toInt → W p l e R s m args below meth c H locs cells slots Q (F0 m (pc + 3) ls rest)) : W p l e R s m args below meth c H locs cells slots Q (F0 m pc ls (.int y :: .int x :: rest)) :=
  lv_icmp_lt hexec hb hdg ht (fun h => kt (by have q := tI_lt.mp h; exact q)) (fun h => kf (Int.not_lt.mp fun q => h (tI_lt.mpr (by exact q))))
theorem cmz_ltzn (hexec : p.tables.exec = Jvm.exec) (hb : c.code = cc) (x : Int32) (y : Nat) {off : Int} (tgt : Nat) (hn : y < 2147483648) (hdg : decode cc pc = .ok (.if_icmp .lt off, 3)) (ht : (pc : Int) + off = (tgt : Int)) (kt : x.toInt < (y : Int) → W p l e R s m args below meth c H locs cells slots Q (F0 m tgt ls rest)) (kf : (y : Int) ≤ x.toInt → W p l e R s m args below meth c H locs cells slots Q (F0 m (pc + 3) ls rest)) : W p l e R s m args below meth c H locs cells slots Q (F0 m pc ls (.int (nI y) :: .int x :: rest)) :=
  lv_icmp_lt hexec hb hdg ht (fun h => kt (by have q := tI_lt.mp h; rw [tI_N hn] at q; exact q)) (fun h => kf (Int.not_lt.mp fun q => h (tI_lt.mpr (by rw [tI_N hn]; exact q))))
theorem cmz_ltnz (hexec : p.tables.exec = Jvm.exec) (hb : c.code = cc) (x : Nat) (y : Int32) {off : Int} (tgt : Nat) (hn : x < 2147483648) (hdg : decode cc pc = .ok (.if_icmp .lt off, 3)) (ht : (pc : Int) + off = (tgt : Int)) (kt : (x : Int) < y.toInt → W p l e R s m args below meth c H locs cells slots Q (F0 m tgt ls rest)) (kf : y.toInt ≤ (x : Int) → W p l e R s m args below meth c H locs cells slots Q (F0 m (pc + 3) ls rest)) : W p l e R s m args below meth c H locs cells slots Q (F0 m pc ls (.int y :: .int (nI x) :: rest)) :=
  lv_icmp_lt hexec hb hdg ht (fun h => kt (by have q := tI_lt.mp h; rw [tI_N hn] at q; exact q)) (fun h => kf (Int.not_lt.mp fun q => h (tI_lt.mpr (by rw [tI_N hn]; exact q))))
theorem cmz_gezz (hexec : p.tables.exec = Jvm.exec) (hb : c.code = cc) (x : Int32) (y : Int32) {off : Int} (tgt : Nat) (hdg : decode cc pc = .ok (.if_icmp .ge off, 3)) (ht : (pc : Int) + off = (tgt : Int)) (kt : y.toInt ≤ x.toInt → W p l e R s m args below meth c H locs cells slots Q (F0 m tgt ls rest)) (kf : x.toInt < y.toInt → W p l e R s m args below meth c H locs cells slots Q (F0 m (pc + 3) ls rest)) : W p l e R s m args below meth c H locs cells slots Q (F0 m pc ls (.int y :: .int x :: rest)) :=
  lv_icmp_ge hexec hb hdg ht (fun h => kt (by have q := tI_le.mp h; exact q)) (fun h => kf (Int.not_le.mp fun q => h (tI_le.mpr (by exact q))))
theorem cmz_gezn (hexec : p.tables.exec = Jvm.exec) (hb : c.code = cc) (x : Int32) (y : Nat) {off : Int} (tgt : Nat) (hn : y < 2147483648) (hdg : decode cc pc = .ok (.if_icmp .ge off, 3)) (ht : (pc : Int) + off = (tgt : Int)) (kt : (y : Int) ≤ x.toInt → W p l e R s m args below meth c H locs cells slots Q (F0 m tgt ls rest)) (kf : x.toInt < (y : Int) → W p l e R s m args below meth c H locs cells slots Q (F0 m (pc + 3) ls rest)) : W p l e R s m args below meth c H locs cells slots Q (F0 m pc ls (.int (nI y) :: .int x :: rest)) :=
  lv_icmp_ge hexec hb hdg ht (fun h => kt (by have q := tI_le.mp h; rw [tI_N hn] at q; exact q)) (fun h => kf (Int.not_le.mp fun q => h (tI_le.mpr (by rw [tI_N hn]; exact q))))
theorem cmz_genz (hexec : p.tables.exec = Jvm.exec) (hb : c.code = cc) (x : Nat) (y : Int32) {off : Int} (tgt : Nat) (hn : x < 2147483648) (hdg : decode cc pc = .ok (.if_icmp .ge off, 3)) (ht : (pc : Int) + off = (tgt : Int)) (kt : y.toInt ≤ (x : Int) → W p l e R s m args below meth c H locs cells slots Q (F0 m tgt ls rest)) (kf : (x : Int) < y.toInt → W p l e R s m args below meth c H locs cells slots Q (F0 m (pc + 3) ls rest)) : W p l e R s m args below meth c H locs cells slots Q (F0 m pc ls (.int y :: .int (nI x) :: rest)) :=
  lv_icmp_ge hexec hb hdg ht (fun h => kt (by have q := tI_le.mp h; rw [tI_N hn] at q; exact q)) (fun h => kf (Int.not_le.mp fun q => h (tI_le.mpr (by rw [tI_N hn]; exact q))))
theorem cmz_gtzz (hexec : p.tables.exec = Jvm.exec) (hb : c.code = cc) (x : Int32) (y : Int32) {off : Int} (tgt : Nat) (hdg : decode cc pc = .ok (.if_icmp .gt off, 3)) (ht : (pc : Int) + off = (tgt : Int)) (kt : y.toInt < x.toInt → W p l e R s m args below meth c H locs cells slots Q (F0 m tgt ls rest)) (kf : x.toInt ≤ y.toInt → W p l e R s m args below meth c H locs cells slots Q (F0 m (pc + 3) ls rest)) : W p l e R s m args below meth c H locs cells slots Q (F0 m pc ls (.int y :: .int x :: rest)) :=
  lv_icmp_gt hexec hb hdg ht (fun h => kt (by have q := tI_lt.mp h; exact q)) (fun h => kf (Int.not_lt.mp fun q => h (tI_lt.mpr (by exact q))))
theorem cmz_gtzn (hexec : p.tables.exec = Jvm.exec) (hb : c.code = cc) (x : Int32) (y : Nat) {off : Int} (tgt : Nat) (hn : y < 2147483648) (hdg : decode cc pc = .ok (.if_icmp .gt off, 3)) (ht : (pc : Int) + off = (tgt : Int)) (kt : (y : Int) < x.toInt → W p l e R s m args below meth c H locs cells slots Q (F0 m tgt ls rest)) (kf : x.toInt ≤ (y : Int) → W p l e R s m args below meth c H locs cells slots Q (F0 m (pc + 3) ls rest)) : W p l e R s m args below meth c H locs cells slots Q (F0 m pc ls (.int (nI y) :: .int x :: rest)) :=
  lv_icmp_gt hexec hb hdg ht (fun h => kt (by have q := tI_lt.mp h; rw [tI_N hn] at q; exact q)) (fun h => kf (Int.not_lt.mp fun q => h (tI_lt.mpr (by rw [tI_N hn]; exact q))))
theorem cmz_gtnz (hexec : p.tables.exec = Jvm.exec) (hb : c.code = cc) (x : Nat) (y : Int32) {off : Int} (tgt : Nat) (hn : x < 2147483648) (hdg : decode cc pc = .ok (.if_icmp .gt off, 3)) (ht : (pc : Int) + off = (tgt : Int)) (kt : y.toInt < (x : Int) → W p l e R s m args below meth c H locs cells slots Q (F0 m tgt ls rest)) (kf : (x : Int) ≤ y.toInt → W p l e R s m args below meth c H locs cells slots Q (F0 m (pc + 3) ls rest)) : W p l e R s m args below meth c H locs cells slots Q (F0 m pc ls (.int y :: .int (nI x) :: rest)) :=
  lv_icmp_gt hexec hb hdg ht (fun h => kt (by have q := tI_lt.mp h; rw [tI_N hn] at q; exact q)) (fun h => kf (Int.not_lt.mp fun q => h (tI_lt.mpr (by rw [tI_N hn]; exact q))))
theorem cmz_lezz (hexec : p.tables.exec = Jvm.exec) (hb : c.code = cc) (x : Int32) (y : Int32) {off : Int} (tgt : Nat) (hdg : decode cc pc = .ok (.if_icmp .le off, 3)) (ht : (pc : Int) + off = (tgt : Int)) (kt : x.toInt ≤ y.toInt → W p l e R s m args below meth c H locs cells slots Q (F0 m tgt ls rest)) (kf : y.toInt < x.toInt → W p l e R s m args below meth c H locs cells slots Q (F0 m (pc + 3) ls rest)) : W p l e R s m args below meth c H locs cells slots Q (F0 m pc ls (.int y :: .int x :: rest)) :=
  lv_icmp_le hexec hb hdg ht (fun h => kt (by have q := tI_le.mp h; exact q)) (fun h => kf (Int.not_le.mp fun q => h (tI_le.mpr (by exact q))))
theorem cmz_lezn (hexec : p.tables.exec = Jvm.exec) (hb : c.code = cc) (x : Int32) (y : Nat) {off : Int} (tgt : Nat) (hn : y < 2147483648) (hdg : decode cc pc = .ok (.if_icmp .le off, 3)) (ht : (pc : Int) + off = (tgt : Int)) (kt : x.toInt ≤ (y : Int) → W p l e R s m args below meth c H locs cells slots Q (F0 m tgt ls rest)) (kf : (y : Int) < x.toInt → W p l e R s m args below meth c H locs cells slots Q (F0 m (pc + 3) ls rest)) : W p l e R s m args below meth c H locs cells slots Q (F0 m pc ls (.int (nI y) :: .int x :: rest)) :=
  lv_icmp_le hexec hb hdg ht (fun h => kt (by have q := tI_le.mp h; rw [tI_N hn] at q; exact q)) (fun h => kf (Int.not_le.mp fun q => h (tI_le.mpr (by rw [tI_N hn]; exact q))))
theorem cmz_lenz (hexec : p.tables.exec = Jvm.exec) (hb : c.code = cc) (x : Nat) (y : Int32) {off : Int} (tgt : Nat) (hn : x < 2147483648) (hdg : decode cc pc = .ok (.if_icmp .le off, 3)) (ht : (pc : Int) + off = (tgt : Int)) (kt : (x : Int) ≤ y.toInt → W p l e R s m args below meth c H locs cells slots Q (F0 m tgt ls rest)) (kf : y.toInt < (x : Int) → W p l e R s m args below meth c H locs cells slots Q (F0 m (pc + 3) ls rest)) : W p l e R s m args below meth c H locs cells slots Q (F0 m pc ls (.int y :: .int (nI x) :: rest)) :=
  lv_icmp_le hexec hb hdg ht (fun h => kt (by have q := tI_le.mp h; rw [tI_N hn] at q; exact q)) (fun h => kf (Int.not_le.mp fun q => h (tI_le.mpr (by rw [tI_N hn]; exact q))))
end RWT
end
section
/-! Pure words for what the methods do. -/
def bI (b : Bool) : Int32 := if b then nI 1 else nI 0
def allN (p : Nat → Bool) : Nat → Bool
  | 0 => true
  | n + 1 => allN p n && p n
theorem allN_iff {p : Nat → Bool} : ∀ {n : Nat}, allN p n = true ↔ ∀ i, i < n → p i = true
  | 0 => ⟨fun _ i h => absurd h (Nat.not_lt_zero i), fun _ => rfl⟩
  | n + 1 => by
    rw [allN, Bool.and_eq_true, allN_iff]
    constructor
    · intro h i hi
      rcases Nat.lt_or_ge i n with q | q
      · exact h.1 i q
      · rw [show i = n by omega]; exact h.2
    · intro h
      exact ⟨fun i hi => h i (by omega), h n (by omega)⟩
theorem al_T {p : Nat → Bool} {n : Nat} (h : ∀ i, i < n → p i = true) : nI 1 = bI (allN p n) := by rw [allN_iff.mpr h]; rfl
theorem al_F {p : Nat → Bool} {n i : Nat} (hi : i < n) (h : ¬ p i = true) : nI 0 = bI (allN p n) := by
  have e : allN p n = false := by
    cases q : allN p n with
    | false => rfl
    | true => exact absurd (allN_iff.mp q i hi) h
  rw [e]; rfl
theorem bI_z {b : Bool} (h : bI b = 0) : b = false := by cases b with
  | false => rfl
  | true => exact absurd h (by decide)
theorem bI_n {b : Bool} (h : ¬ bI b = 0) : b = true := by cases b with
  | false => exact absurd rfl h
  | true => rfl
def p_rot (x k : Int32) : Int32 := p_ush x k ||| (x <<< ((nI 32 - k) &&& 31))
def p_st1 (x s : Int32) : Int32 := s ^^^ (p_rot (x * (-862048943)) (nI 17) * nI 461845907)
def p_st2 (h : Int32) : Int32 := ((p_rot h (nI 19) * nI 5) + (-430675100)) ^^^ nI 4
def p_st3 (h : Int32) : Int32 := (h ^^^ p_ush h (nI 16)) * (-2048144789)
def p_st4 (h : Int32) : Int32 := (h ^^^ p_ush h (nI 13)) * (-1028477387)
def p_stir (x s : Int32) : Int32 := p_st4 (p_st3 (p_st2 (p_st1 x s))) ^^^ p_ush (p_st4 (p_st3 (p_st2 (p_st1 x s)))) (nI 16)
def p_bit (w i : Int32) : Nat := (p_stir w (nI 0) + i * p_stir w (-1756908916)).toBitVec.toNat % 1024
theorem p_bit_lt (w i : Int32) : p_bit w i < 1024 := Nat.mod_lt _ (by decide)
theorem p_bit_eq (w i : Int32) : (p_stir w (nI 0) + (i * p_stir w (-1756908916))) &&& nI 1023 = nI (p_bit w i) := pk_and _ 10 (by decide)
def p_msk (b : Nat) : Int32 := nI 1 <<< ((nI b &&& nI 31) &&& 31)
def p_set (f : Nat → Int32) (b : Nat) : Nat → Int32 := upd f (b / 32) (f (b / 32) ||| p_msk b)
def p_incN (f : Nat → Int32) (w : Int32) : Nat → Nat → Int32
  | 0 => f
  | i + 1 => p_set (p_incN f w i) (p_bit w (nI i))
def p_has (f : Nat → Int32) (w : Int32) (i : Nat) : Bool := !decide ((f (p_bit w (nI i) / 32) &&& p_msk (p_bit w (nI i))) = 0)
theorem ush5 {b : Nat} (h : b < 1024) : p_ush (nI b) (nI 5) = nI (b / 32) := pk_ushrN (by omega) (nI 5) 5 (by decide)
/-- SHA-256 -/
def p_nw (w : Nat → Int32) (t : Nat) : Int32 := w (t - 16) + ((p_rot (w (t - 15)) (nI 7) ^^^ p_rot (w (t - 15)) (nI 18)) ^^^ p_ush (w (t - 15)) (nI 3)) + w (t - 7) + ((p_rot (w (t - 2)) (nI 17) ^^^ p_rot (w (t - 2)) (nI 19)) ^^^ p_ush (w (t - 2)) (nI 10))
def p_sprN (w : Nat → Int32) : Nat → Nat → Int32
  | 0 => w
  | k + 1 => upd (p_sprN w k) (16 + k) (p_nw (p_sprN w k) (16 + k))
abbrev p_w (w : Nat → Int32) : Nat → Int32 := p_sprN w 48
abbrev p_T : Type := Int32 × Int32 × Int32 × Int32 × Int32 × Int32 × Int32 × Int32
def p_x (e f g h k w : Int32) : Int32 := h + ((p_rot e (nI 6) ^^^ p_rot e (nI 11)) ^^^ p_rot e (nI 25)) + ((e &&& f) ^^^ ((e ^^^ (-1)) &&& g)) + k + w
def p_y (a b c : Int32) : Int32 := ((p_rot a (nI 2) ^^^ p_rot a (nI 13)) ^^^ p_rot a (nI 22)) + (((a &&& b) ^^^ (a &&& c)) ^^^ (b &&& c))
def p_rnd (k w : Int32) (s : p_T) : p_T := match s with
  | (a, b, c, d, e, f, g, h) => (p_x e f g h k w + p_y a b c, a, b, c, d + p_x e f g h k w, e, f, g)
def p_rs (w : Nat → Int32) (s : p_T) : Nat → p_T
  | 0 => s
  | n + 1 => p_rnd (st_K n) (w n) (p_rs w s n)
def p_tup (h : Nat → Int32) : p_T := (h 0, h 1, h 2, h 3, h 4, h 5, h 6, h 7)
def p_add (h : Nat → Int32) (s : p_T) : Nat → Int32 := upd (upd (upd (upd (upd (upd (upd (upd h 0 (h 0 + s.1)) 1 (h 1 + s.2.1)) 2 (h 2 + s.2.2.1)) 3 (h 3 + s.2.2.2.1)) 4 (h 4 + s.2.2.2.2.1)) 5 (h 5 + s.2.2.2.2.2.1)) 6 (h 6 + s.2.2.2.2.2.2.1)) 7 (h 7 + s.2.2.2.2.2.2.2)
def p_mix (h w : Nat → Int32) : Nat → Int32 := p_add h (p_rs (p_w w) (p_tup h) 64)
end
section
/-! worlds of one array -/
abbrev wA (G : gG) (q n : Nat) (f : Nat → Int32) : va_W := [(q, .inl (G.2.2.1, n, .inl f))]
def p_fill (f : Nat → Int32) (a b : Nat) (v : Int32) : Nat → Int32 := fun j => if a ≤ j ∧ j < b then v else f j
theorem p_fill_0 (f : Nat → Int32) (a : Nat) (v : Int32) : p_fill f a a v = f := by funext j; simp only [p_fill]; rw [if_neg (by omega)]
theorem p_fill_s {f : Nat → Int32} {a b : Nat} {v : Int32} (h : a ≤ b) : upd (p_fill f a b v) b v = p_fill f a (b + 1) v := by
  funext j
  by_cases q : j = b
  · subst q; rw [pk_us]; simp only [p_fill]; rw [if_pos (by omega)]
  · rw [pk_un q]; simp only [p_fill]; by_cases z : a ≤ j ∧ j < b
    · rw [if_pos z, if_pos (by omega)]
    · rw [if_neg z, if_neg (by omega)]
set_option maxHeartbeats 4000000 in
set_option maxRecDepth 100000 in
theorem c_right (l : Launch) (G : gG) (sz : Nat) (x k : Int32)  : MetI l yX2_right wsX2_right ({ frames := 0, cells := 0, slots := 0, locals := 0 } : Room) [.int x, .int k] G (([] : va_W)) sz (fun _ : Unit => []) (fun r _ => r = p_rot x k) := by
  refine ent_i _ cX2_right 2 RX2 (by decide) rfl rfl (Nat.le_of_ble_eq_true rfl) ?_
  intro p e s m args below meth c A Q ls hx hb hml hts hown hA hK hX ret hl hP hD hS
  have hl : lv_has ls 2 [(0, .int x), (1, .int k)] := hl
  refine lv_iload_n hx hb dX2_right_0 rfl (lv_at hl 0 rfl) ?_
  refine lv_iload_n hx hb dX2_right_1 rfl (lv_at hl 1 rfl) ?_
  refine lv_iushr (v := (p_ush x k)) hx hb dX2_right_2 rfl ?_
  refine lv_iload_n hx hb dX2_right_3 rfl (lv_at hl 0 rfl) ?_
  refine lv_bipush (v := nI 32) hx hb dX2_right_4 (by decide) ?_
  refine lv_iload_n hx hb dX2_right_6 rfl (lv_at hl 1 rfl) ?_
  refine lv_isub hx hb dX2_right_7 ?_
  refine lv_ishl hx hb dX2_right_8 ?_
  refine lv_ior hx hb dX2_right_9 ?_
  exact ret 10 _ _ _ ((p_ush x k) ||| (x <<< ((nI 32 - k) &&& 31))) () dX2_right_10 (rfl) hP hD hS
set_option maxHeartbeats 4000000 in
set_option maxRecDepth 100000 in
theorem c_rangeCheck (l : Launch) (G : gG) (sz : Nat) (n a b : Nat) (h1 : a ≤ b) (h2 : b ≤ n) (h3 : n ≤ 65536) : MetV l yJ7_rangeCheck_23922 wsJ7_rangeCheck_23922 ({ frames := 0, cells := 0, slots := 0, locals := 0 } : Room) [.int (nI n), .int (nI a), .int (nI b)] G (([] : va_W)) sz (fun _ : Unit => []) (fun _ => True) := by
  refine ent_v _ cJ7_rangeCheck_23922 3 RJ7 (by decide) rfl rfl (Nat.le_of_ble_eq_true rfl) ?_
  intro p e s m args below meth c A Q ls hx hb hml hts hown hA hK hX ret hl hP hD hS
  have hl : lv_has ls 3 [(0, .int (nI n)), (1, .int (nI a)), (2, .int (nI b))] := hl
  refine lv_iload_n hx hb dJ7_rangeCheck_23922_0 rfl (lv_at hl 1 rfl) ?_
  refine lv_iload_n hx hb dJ7_rangeCheck_23922_1 rfl (lv_at hl 2 rfl) ?_
  refine cmp_le hx hb a b 46 (by omega) (by omega) dJ7_rangeCheck_23922_2 (by decide) (fun c2 => ?_) (fun c2 => ?_)
  · refine lv_iload_n hx hb dJ7_rangeCheck_23922_46 rfl (lv_at hl 1 rfl) ?_
    refine if0_ge hx hb a 59 (by omega) dJ7_rangeCheck_23922_47 (by decide) ?_
    refine lv_iload_n hx hb dJ7_rangeCheck_23922_59 rfl (lv_at hl 2 rfl) ?_
    refine lv_iload_n hx hb dJ7_rangeCheck_23922_60 rfl (lv_at hl 0 rfl) ?_
    refine cmp_le hx hb b n 73 (by omega) (by omega) dJ7_rangeCheck_23922_61 (by decide) (fun c61 => ?_) (fun c61 => ?_)
    · exact ret 73 _ _ _ () dJ7_rangeCheck_23922_73 (trivial) hP hD hS
    · exfalso; omega
  · exfalso; omega
set_option maxHeartbeats 4000000 in
set_option maxRecDepth 100000 in
theorem c_fill4 (l : Launch) (G : gG) (sz : Nat) (q n a b : Nat) (f : Nat → Int32) (v : Int32) (h1 : a ≤ b) (h2 : b ≤ n) (h3 : n ≤ 65536) : MetV l yJ7_fill_fda19 wsJ7_fill_fda19 ({ frames := 1, cells := 0, slots := 0, locals := 22 } : Room) [.ref q, .int (nI a), .int (nI b), .int v] G (wA G q n f) sz (fun _ : Unit => wA G q n (p_fill f a b v)) (fun _ => True) := by
  refine ent_v _ cJ7_fill_fda19 5 RJ7 (by decide) rfl rfl (Nat.le_of_ble_eq_true rfl) ?_
  intro p e s m args below meth c A Q ls hx hb hml hts hown hA hK hX ret hl hP hD hS
  have hl : lv_has ls 5 [(0, .ref q), (1, .int (nI a)), (2, .int (nI b)), (3, .int v)] := hl
  refine lv_aload_n hx hb dJ7_fill_fda19_0 rfl (lv_at hl 0 rfl) ?_
  refine va_alen hx hb hK hP 0 0 rfl rfl (v := nI n) rfl dJ7_fill_fda19_1 ?_
  refine lv_iload_n hx hb dJ7_fill_fda19_2 rfl (lv_at hl 1 rfl) ?_
  refine lv_iload_n hx hb dJ7_fill_fda19_3 rfl (lv_at hl 2 rfl) ?_
  refine call_Sv (wr := ([(q, .inl (G.2.2.1, n, .inl f))] : va_W)) [.int (nI n), .int (nI a), .int (nI b)] [] ⟨hx, hb, hml, hown, hts⟩ hK hX hA hP hD hS (c_rangeCheck l G _ n a b (by omega) (by omega) (by omega)) (va_cwS 3 hts gJ7_fill_fda19_J7_rangeCheck_23922 rfl rfl rfl (by decide +kernel) ⟨Nat.le_of_ble_eq_true rfl, Nat.le_of_ble_eq_true rfl⟩) [] [0] rfl rfl (by decide) (by decide) (by decide) rfl hl.1 (Nat.le_of_ble_eq_true rfl) dJ7_fill_fda19_4 ⟨Nat.zero_le _, Nat.zero_le _⟩ (fun u H locs hw hP hD hS => ?_)
  have hP : va_P G.1 vwCl (wA G q n f) H := hP
  have hD : va_D A (wA G q n f) := hD
  refine lv_iload_n hx hb dJ7_fill_fda19_7 rfl (lv_at hl 1 rfl) ?_
  have hP : va_P G.1 vwCl (wA G q n (p_fill f a a v)) H := by rw [p_fill_0]; exact hP
  have hD : va_D A (wA G q n (p_fill f a a v)) := by rw [p_fill_0]; exact hD
  refine lv_istore (lv' := [(4, .int (nI a)), (0, .ref q), (1, .int (nI a)), (2, .int (nI b)), (3, .int v)]) hx hb dJ7_fill_fda19_8 hl (by decide) rfl (fun ls hl => ?_)
  suffices hloop1 : ∀ (fu1 : Nat) (i : Nat), (a ≤ i) → (i ≤ b) → b - i < fu1 → ∀ (H : Heap) (locs : List Loc) (ls : Array Slot), va_P G.1 vwCl (wA G q n (p_fill f a i v)) H → va_D A (wA G q n (p_fill f a i v)) → va_S A s.heap H locs → lv_has ls 5 [(0, .ref q), (1, .int (nI a)), (2, .int (nI b)), (3, .int v), (4, .int (nI i))] → W p l e ({ frames := 1, cells := 0, slots := 0, locals := 22 } : Room) s m args below meth c H locs 0 0 Q (F0 m 10 ls []) from hloop1 _ a (Nat.le_refl _) h1 (Nat.lt_succ_self _) _ _ _ hP hD hS (lv_sub hl [1, 2, 3, 4, 0] rfl)
  clear hP hD hS hl
  intro fu1
  induction fu1 with
  | zero => intro i hi1 hi2 hfu; exact absurd hfu (Nat.not_lt_zero _)
  | succ fu1 ih1 =>
    intro i hi1 hi2 hfu1 H locs ls hP hD hS hl
    refine lv_iload hx hb dJ7_fill_fda19_10 (lv_at hl 4 rfl) ?_
    refine lv_iload_n hx hb dJ7_fill_fda19_12 rfl (lv_at hl 2 rfl) ?_
    refine cmp_ge hx hb i b 27 (by omega) (by omega) dJ7_fill_fda19_13 (by decide) (fun c13 => ?_) (fun c13 => ?_)
    · have e27 : i = b := by omega
      subst e27
      exact ret 27 _ _ _ () dJ7_fill_fda19_27 (trivial) hP hD hS
    · refine lv_aload_n hx hb dJ7_fill_fda19_16 rfl (lv_at hl 0 rfl) ?_
      refine lv_iload hx hb dJ7_fill_fda19_17 (lv_at hl 4 rfl) ?_
      refine lv_iload_n hx hb dJ7_fill_fda19_19 rfl (lv_at hl 3 rfl) ?_
      refine wr_i hx hb hK hP hD hS 0 rfl i (by omega) (by omega) dJ7_fill_fda19_20 (fun H locs hP hD hS => ?_)
      have hP : va_P G.1 vwCl (wA G q n (upd (p_fill f a i v) i v)) H := hP
      have hD : va_D A (wA G q n (upd (p_fill f a i v) i v)) := hD
      rw [p_fill_s hi1] at hP hD
      refine lv_iinc (v := nI (i + 1)) (lv' := [(4, .int (nI (i + 1))), (0, .ref q), (1, .int (nI a)), (2, .int (nI b)), (3, .int v)]) hx hb dJ7_fill_fda19_21 hl (k := 4) rfl (inc_N i 1) (by decide) rfl (fun ls hl => ?_)
      refine lv_goto (tgt := 10) hx hb dJ7_fill_fda19_24 (by decide) ?_
      exact ih1 (i + 1) (by omega) (by omega) (by omega) _ _ _ hP hD hS (lv_sub hl [1, 2, 3, 4, 0] rfl)
set_option maxHeartbeats 4000000 in
set_option maxRecDepth 100000 in
theorem c_fill2 (l : Launch) (G : gG) (sz : Nat) (q n : Nat) (f : Nat → Int32) (v : Int32) (h3 : n ≤ 65536) : MetV l yJ7_fill_53178 wsJ7_fill_53178 ({ frames := 0, cells := 0, slots := 0, locals := 0 } : Room) [.ref q, .int v] G (wA G q n f) sz (fun _ : Unit => wA G q n (p_fill f 0 n v)) (fun _ => True) := by
  refine ent_v _ cJ7_fill_53178 4 RJ7 (by decide) rfl rfl (Nat.le_of_ble_eq_true rfl) ?_
  intro p e s m args below meth c A Q ls hx hb hml hts hown hA hK hX ret hl hP hD hS
  have hl : lv_has ls 4 [(0, .ref q), (1, .int v)] := hl
  refine lv_iconst (v := nI 0) hx hb dJ7_fill_53178_0 (by decide) ?_
  refine lv_istore_n (lv' := [(2, .int (nI 0)), (0, .ref q), (1, .int v)]) hx hb dJ7_fill_53178_1 rfl hl (by decide) rfl (fun ls hl => ?_)
  refine lv_aload_n hx hb dJ7_fill_53178_2 rfl (lv_at hl 1 rfl) ?_
  refine va_alen hx hb hK hP 0 0 rfl rfl (v := nI n) rfl dJ7_fill_53178_3 ?_
  have hP : va_P G.1 vwCl (wA G q n (p_fill f 0 0 v)) s.heap := by rw [p_fill_0]; exact hP
  have hD : va_D A (wA G q n (p_fill f 0 0 v)) := by rw [p_fill_0]; exact hD
  refine lv_istore_n (lv' := [(3, .int (nI n)), (2, .int (nI 0)), (0, .ref q), (1, .int v)]) hx hb dJ7_fill_53178_4 rfl hl (by decide) rfl (fun ls hl => ?_)
  suffices hloop1 : ∀ (fu1 : Nat) (i : Nat), (i ≤ n) → n - i < fu1 → ∀ (H : Heap) (locs : List Loc) (ls : Array Slot), va_P G.1 vwCl (wA G q n (p_fill f 0 i v)) H → va_D A (wA G q n (p_fill f 0 i v)) → va_S A s.heap H locs → lv_has ls 4 [(0, .ref q), (1, .int v), (2, .int (nI i)), (3, .int (nI n))] → W p l e ({ frames := 0, cells := 0, slots := 0, locals := 0 } : Room) s m args below meth c H locs 0 0 Q (F0 m 5 ls []) from hloop1 _ 0 (Nat.zero_le _) (Nat.lt_succ_self _) _ _ _ hP hD hS (lv_sub hl [2, 3, 1, 0] rfl)
  clear hP hD hS hl
  intro fu1
  induction fu1 with
  | zero => intro i hi2 hfu; exact absurd hfu (Nat.not_lt_zero _)
  | succ fu1 ih1 =>
    intro i hi2 hfu1 H locs ls hP hD hS hl
    refine lv_iload_n hx hb dJ7_fill_53178_5 rfl (lv_at hl 2 rfl) ?_
    refine lv_iload_n hx hb dJ7_fill_53178_6 rfl (lv_at hl 3 rfl) ?_
    refine cmp_ge hx hb i n 20 (by omega) (by omega) dJ7_fill_53178_7 (by decide) (fun c7 => ?_) (fun c7 => ?_)
    · have e20 : i = n := by omega
      subst e20
      exact ret 20 _ _ _ () dJ7_fill_53178_20 (trivial) hP hD hS
    · refine lv_aload_n hx hb dJ7_fill_53178_10 rfl (lv_at hl 0 rfl) ?_
      refine lv_iload_n hx hb dJ7_fill_53178_11 rfl (lv_at hl 2 rfl) ?_
      refine lv_iload_n hx hb dJ7_fill_53178_12 rfl (lv_at hl 1 rfl) ?_
      refine wr_i hx hb hK hP hD hS 0 rfl i (by omega) (by omega) dJ7_fill_53178_13 (fun H locs hP hD hS => ?_)
      have hP : va_P G.1 vwCl (wA G q n (upd (p_fill f 0 i v) i v)) H := hP
      have hD : va_D A (wA G q n (upd (p_fill f 0 i v) i v)) := hD
      rw [p_fill_s (Nat.zero_le _)] at hP hD
      refine lv_iinc (v := nI (i + 1)) (lv' := [(2, .int (nI (i + 1))), (0, .ref q), (1, .int v), (3, .int (nI n))]) hx hb dJ7_fill_53178_14 hl (k := 2) rfl (inc_N i 1) (by decide) rfl (fun ls hl => ?_)
      refine lv_goto (tgt := 5) hx hb dJ7_fill_53178_17 (by decide) ?_
      exact ih1 (i + 1) (by omega) (by omega) _ _ _ hP hD hS (lv_sub hl [1, 2, 0, 3] rfl)
set_option maxHeartbeats 4000000 in
set_option maxRecDepth 100000 in
theorem c_stirred (l : Launch) (G : gG) (sz : Nat) (x y : Int32)  : MetI l yX0_stirred wsX0_stirred ({ frames := 1, cells := 0, slots := 0, locals := 21 } : Room) [.int x, .int y] G (([] : va_W)) sz (fun _ : Unit => []) (fun r _ => r = p_stir x y) := by
  refine ent_i _ cX0_stirred 4 RX0 (by decide) rfl rfl (Nat.le_of_ble_eq_true rfl) ?_
  intro p e s m args below meth c A Q ls hx hb hml hts hown hA hK hX ret hl hP hD hS
  have hl : lv_has ls 4 [(0, .int x), (1, .int y)] := hl
  refine lv_iload_n hx hb dX0_stirred_0 rfl (lv_at hl 0 rfl) ?_
  refine lv_ldc (v := -862048943) hx hb hown (hts (.constant RX0 27 (-862048943)) (by decide +kernel)) dX0_stirred_1 ?_
  refine lv_imul hx hb dX0_stirred_3 ?_
  refine lv_istore_n (lv' := [(2, .int (x * (-862048943))), (0, .int x), (1, .int y)]) hx hb dX0_stirred_4 rfl hl (by decide) rfl (fun ls hl => ?_)
  refine lv_iload_n hx hb dX0_stirred_5 rfl (lv_at hl 0 rfl) ?_
  refine lv_bipush (v := nI 17) hx hb dX0_stirred_6 (by decide) ?_
  refine call_Ni (wr := ([] : va_W)) [.int (x * (-862048943)), .int (nI 17)] [] ⟨hx, hb, hml, hown, hts⟩ hK hX hA hP hD hS (c_right l G _ (x * (-862048943)) (nI 17)) ⟨va_cnB 2 hts gX0_stirred_X2_right_n28 rfl rfl rfl hX.2.2.2.2.2.1 (hts (.initialized RX2) (by decide +kernel)) (by decide +kernel) ⟨Nat.le_of_ble_eq_true rfl, Nat.le_of_ble_eq_true rfl⟩, hts (.static yX2_right) (by decide +kernel), trivial⟩ [] [] rfl rfl (by decide) (by decide) (by decide) rfl hl.1 (Nat.le_of_ble_eq_true rfl) dX0_stirred_8 ⟨Nat.zero_le _, Nat.zero_le _⟩ (fun r_1 u H locs hw hP hD hS => ?_)
  obtain rfl := hw
  have hP : va_P G.1 vwCl (([] : va_W)) H := hP
  have hD : va_D A (([] : va_W)) := hD
  refine lv_ldc (v := 461845907) hx hb hown (hts (.constant RX0 33 (461845907)) (by decide +kernel)) dX0_stirred_11 ?_
  refine top_i (nI 461845907) (by decide) ?_
  refine lv_imul hx hb dX0_stirred_13 ?_
  refine lv_istore_n (lv' := [(2, .int ((p_rot (x * (-862048943)) (nI 17)) * nI 461845907)), (0, .int x), (1, .int y)]) hx hb dX0_stirred_14 rfl hl (by decide) rfl (fun ls hl => ?_)
  refine lv_iload_n hx hb dX0_stirred_15 rfl (lv_at hl 2 rfl) ?_
  refine lv_iload_n hx hb dX0_stirred_16 rfl (lv_at hl 0 rfl) ?_
  refine lv_ixor hx hb dX0_stirred_17 ?_
  refine lv_istore_n (lv' := [(3, .int (y ^^^ ((p_rot (x * (-862048943)) (nI 17)) * nI 461845907))), (2, .int ((p_rot (x * (-862048943)) (nI 17)) * nI 461845907)), (0, .int x), (1, .int y)]) hx hb dX0_stirred_18 rfl hl (by decide) rfl (fun ls hl => ?_)
  refine lv_iload_n hx hb dX0_stirred_19 rfl (lv_at hl 0 rfl) ?_
  refine lv_bipush (v := nI 19) hx hb dX0_stirred_20 (by decide) ?_
  refine call_Ni (wr := ([] : va_W)) [.int (y ^^^ ((p_rot (x * (-862048943)) (nI 17)) * nI 461845907)), .int (nI 19)] [] ⟨hx, hb, hml, hown, hts⟩ hK hX hA hP hD hS (c_right l G _ (y ^^^ ((p_rot (x * (-862048943)) (nI 17)) * nI 461845907)) (nI 19)) ⟨va_cnB 2 hts gX0_stirred_X2_right_n28 rfl rfl rfl hX.2.2.2.2.2.1 (hts (.initialized RX2) (by decide +kernel)) (by decide +kernel) ⟨Nat.le_of_ble_eq_true rfl, Nat.le_of_ble_eq_true rfl⟩, hts (.static yX2_right) (by decide +kernel), trivial⟩ [] [] rfl rfl (by decide) (by decide) (by decide) rfl hl.1 (Nat.le_of_ble_eq_true rfl) dX0_stirred_22 ⟨Nat.zero_le _, Nat.zero_le _⟩ (fun r_2 u H locs hw hP hD hS => ?_)
  obtain rfl := hw
  have hP : va_P G.1 vwCl (([] : va_W)) H := hP
  have hD : va_D A (([] : va_W)) := hD
  refine lv_iconst (v := nI 5) hx hb dX0_stirred_25 (by decide) ?_
  refine lv_imul hx hb dX0_stirred_26 ?_
  refine lv_ldc (v := -430675100) hx hb hown (hts (.constant RX0 34 (-430675100)) (by decide +kernel)) dX0_stirred_27 ?_
  refine lv_iadd hx hb dX0_stirred_29 ?_
  refine lv_istore_n (lv' := [(3, .int (((p_rot (y ^^^ ((p_rot (x * (-862048943)) (nI 17)) * nI 461845907)) (nI 19)) * nI 5) + (-430675100))), (2, .int ((p_rot (x * (-862048943)) (nI 17)) * nI 461845907)), (0, .int x), (1, .int y)]) hx hb dX0_stirred_30 rfl hl (by decide) rfl (fun ls hl => ?_)
  refine lv_iload_n hx hb dX0_stirred_31 rfl (lv_at hl 0 rfl) ?_
  refine lv_iconst (v := nI 4) hx hb dX0_stirred_32 (by decide) ?_
  refine lv_ixor hx hb dX0_stirred_33 ?_
  refine lv_istore_n (lv' := [(3, .int ((((p_rot (y ^^^ ((p_rot (x * (-862048943)) (nI 17)) * nI 461845907)) (nI 19)) * nI 5) + (-430675100)) ^^^ nI 4)), (2, .int ((p_rot (x * (-862048943)) (nI 17)) * nI 461845907)), (0, .int x), (1, .int y)]) hx hb dX0_stirred_34 rfl hl (by decide) rfl (fun ls hl => ?_)
  refine lv_iload_n hx hb dX0_stirred_35 rfl (lv_at hl 0 rfl) ?_
  refine lv_iload_n hx hb dX0_stirred_36 rfl (lv_at hl 0 rfl) ?_
  refine lv_bipush (v := nI 16) hx hb dX0_stirred_37 (by decide) ?_
  refine lv_iushr (v := (p_ush ((((p_rot (y ^^^ ((p_rot (x * (-862048943)) (nI 17)) * nI 461845907)) (nI 19)) * nI 5) + (-430675100)) ^^^ nI 4) (nI 16))) hx hb dX0_stirred_39 rfl ?_
  refine lv_ixor hx hb dX0_stirred_40 ?_
  refine lv_ldc (v := -2048144789) hx hb hown (hts (.constant RX0 35 (-2048144789)) (by decide +kernel)) dX0_stirred_41 ?_
  refine lv_imul hx hb dX0_stirred_43 ?_
  refine lv_istore_n (lv' := [(3, .int ((((((p_rot (y ^^^ ((p_rot (x * (-862048943)) (nI 17)) * nI 461845907)) (nI 19)) * nI 5) + (-430675100)) ^^^ nI 4) ^^^ (p_ush ((((p_rot (y ^^^ ((p_rot (x * (-862048943)) (nI 17)) * nI 461845907)) (nI 19)) * nI 5) + (-430675100)) ^^^ nI 4) (nI 16))) * (-2048144789))), (2, .int ((p_rot (x * (-862048943)) (nI 17)) * nI 461845907)), (0, .int x), (1, .int y)]) hx hb dX0_stirred_44 rfl hl (by decide) rfl (fun ls hl => ?_)
  refine lv_iload_n hx hb dX0_stirred_45 rfl (lv_at hl 0 rfl) ?_
  refine lv_iload_n hx hb dX0_stirred_46 rfl (lv_at hl 0 rfl) ?_
  refine lv_bipush (v := nI 13) hx hb dX0_stirred_47 (by decide) ?_
  refine lv_iushr (v := (p_ush ((((((p_rot (y ^^^ ((p_rot (x * (-862048943)) (nI 17)) * nI 461845907)) (nI 19)) * nI 5) + (-430675100)) ^^^ nI 4) ^^^ (p_ush ((((p_rot (y ^^^ ((p_rot (x * (-862048943)) (nI 17)) * nI 461845907)) (nI 19)) * nI 5) + (-430675100)) ^^^ nI 4) (nI 16))) * (-2048144789)) (nI 13))) hx hb dX0_stirred_49 rfl ?_
  refine lv_ixor hx hb dX0_stirred_50 ?_
  refine lv_ldc (v := -1028477387) hx hb hown (hts (.constant RX0 36 (-1028477387)) (by decide +kernel)) dX0_stirred_51 ?_
  refine lv_imul hx hb dX0_stirred_53 ?_
  refine lv_istore_n (lv' := [(3, .int ((((((((p_rot (y ^^^ ((p_rot (x * (-862048943)) (nI 17)) * nI 461845907)) (nI 19)) * nI 5) + (-430675100)) ^^^ nI 4) ^^^ (p_ush ((((p_rot (y ^^^ ((p_rot (x * (-862048943)) (nI 17)) * nI 461845907)) (nI 19)) * nI 5) + (-430675100)) ^^^ nI 4) (nI 16))) * (-2048144789)) ^^^ (p_ush ((((((p_rot (y ^^^ ((p_rot (x * (-862048943)) (nI 17)) * nI 461845907)) (nI 19)) * nI 5) + (-430675100)) ^^^ nI 4) ^^^ (p_ush ((((p_rot (y ^^^ ((p_rot (x * (-862048943)) (nI 17)) * nI 461845907)) (nI 19)) * nI 5) + (-430675100)) ^^^ nI 4) (nI 16))) * (-2048144789)) (nI 13))) * (-1028477387))), (2, .int ((p_rot (x * (-862048943)) (nI 17)) * nI 461845907)), (0, .int x), (1, .int y)]) hx hb dX0_stirred_54 rfl hl (by decide) rfl (fun ls hl => ?_)
  refine lv_iload_n hx hb dX0_stirred_55 rfl (lv_at hl 0 rfl) ?_
  refine lv_iload_n hx hb dX0_stirred_56 rfl (lv_at hl 0 rfl) ?_
  refine lv_bipush (v := nI 16) hx hb dX0_stirred_57 (by decide) ?_
  refine lv_iushr (v := (p_ush ((((((((p_rot (y ^^^ ((p_rot (x * (-862048943)) (nI 17)) * nI 461845907)) (nI 19)) * nI 5) + (-430675100)) ^^^ nI 4) ^^^ (p_ush ((((p_rot (y ^^^ ((p_rot (x * (-862048943)) (nI 17)) * nI 461845907)) (nI 19)) * nI 5) + (-430675100)) ^^^ nI 4) (nI 16))) * (-2048144789)) ^^^ (p_ush ((((((p_rot (y ^^^ ((p_rot (x * (-862048943)) (nI 17)) * nI 461845907)) (nI 19)) * nI 5) + (-430675100)) ^^^ nI 4) ^^^ (p_ush ((((p_rot (y ^^^ ((p_rot (x * (-862048943)) (nI 17)) * nI 461845907)) (nI 19)) * nI 5) + (-430675100)) ^^^ nI 4) (nI 16))) * (-2048144789)) (nI 13))) * (-1028477387)) (nI 16))) hx hb dX0_stirred_59 rfl ?_
  refine lv_ixor hx hb dX0_stirred_60 ?_
  exact ret 61 _ _ _ (((((((((p_rot (y ^^^ ((p_rot (x * (-862048943)) (nI 17)) * nI 461845907)) (nI 19)) * nI 5) + (-430675100)) ^^^ nI 4) ^^^ (p_ush ((((p_rot (y ^^^ ((p_rot (x * (-862048943)) (nI 17)) * nI 461845907)) (nI 19)) * nI 5) + (-430675100)) ^^^ nI 4) (nI 16))) * (-2048144789)) ^^^ (p_ush ((((((p_rot (y ^^^ ((p_rot (x * (-862048943)) (nI 17)) * nI 461845907)) (nI 19)) * nI 5) + (-430675100)) ^^^ nI 4) ^^^ (p_ush ((((p_rot (y ^^^ ((p_rot (x * (-862048943)) (nI 17)) * nI 461845907)) (nI 19)) * nI 5) + (-430675100)) ^^^ nI 4) (nI 16))) * (-2048144789)) (nI 13))) * (-1028477387)) ^^^ (p_ush ((((((((p_rot (y ^^^ ((p_rot (x * (-862048943)) (nI 17)) * nI 461845907)) (nI 19)) * nI 5) + (-430675100)) ^^^ nI 4) ^^^ (p_ush ((((p_rot (y ^^^ ((p_rot (x * (-862048943)) (nI 17)) * nI 461845907)) (nI 19)) * nI 5) + (-430675100)) ^^^ nI 4) (nI 16))) * (-2048144789)) ^^^ (p_ush ((((((p_rot (y ^^^ ((p_rot (x * (-862048943)) (nI 17)) * nI 461845907)) (nI 19)) * nI 5) + (-430675100)) ^^^ nI 4) ^^^ (p_ush ((((p_rot (y ^^^ ((p_rot (x * (-862048943)) (nI 17)) * nI 461845907)) (nI 19)) * nI 5) + (-430675100)) ^^^ nI 4) (nI 16))) * (-2048144789)) (nI 13))) * (-1028477387)) (nI 16))) () dX0_stirred_61 (rfl) hP hD hS
set_option maxHeartbeats 4000000 in
set_option maxRecDepth 100000 in
theorem c_bitOf (l : Launch) (G : gG) (sz : Nat) (x y : Int32)  : MetI l yX0_bitOf wsX0_bitOf ({ frames := 2, cells := 0, slots := 0, locals := 44 } : Room) [.int x, .int y] G (([] : va_W)) sz (fun _ : Unit => []) (fun r _ => r = nI (p_bit x y)) := by
  refine ent_i _ cX0_bitOf 2 RX0 (by decide) rfl rfl (Nat.le_of_ble_eq_true rfl) ?_
  intro p e s m args below meth c A Q ls hx hb hml hts hown hA hK hX ret hl hP hD hS
  have hl : lv_has ls 2 [(0, .int x), (1, .int y)] := hl
  refine lv_iload_n hx hb dX0_bitOf_0 rfl (lv_at hl 0 rfl) ?_
  refine lv_iconst (v := nI 0) hx hb dX0_bitOf_1 (by decide) ?_
  refine call_Si (wr := ([] : va_W)) [.int x, .int (nI 0)] [] ⟨hx, hb, hml, hown, hts⟩ hK hX hA hP hD hS (c_stirred l G _ x (nI 0)) (va_cwS 2 hts gX0_bitOf_X0_stirred rfl rfl rfl (by decide +kernel) ⟨Nat.le_of_ble_eq_true rfl, Nat.le_of_ble_eq_true rfl⟩) [] [] rfl rfl (by decide) (by decide) (by decide) rfl hl.1 (Nat.le_of_ble_eq_true rfl) dX0_bitOf_2 ⟨Nat.zero_le _, Nat.zero_le _⟩ (fun r_1 u H locs hw hP hD hS => ?_)
  obtain rfl := hw
  have hP : va_P G.1 vwCl (([] : va_W)) H := hP
  have hD : va_D A (([] : va_W)) := hD
  refine lv_iload_n hx hb dX0_bitOf_5 rfl (lv_at hl 1 rfl) ?_
  refine lv_iload_n hx hb dX0_bitOf_6 rfl (lv_at hl 0 rfl) ?_
  refine lv_ldc (v := -1756908916) hx hb hown (hts (.constant RX0 26 (-1756908916)) (by decide +kernel)) dX0_bitOf_7 ?_
  refine call_Si (wr := ([] : va_W)) [.int x, .int (-1756908916)] [.int y, .int (p_stir x (nI 0))] ⟨hx, hb, hml, hown, hts⟩ hK hX hA hP hD hS (c_stirred l G _ x (-1756908916)) (va_cwS 2 hts gX0_bitOf_X0_stirred rfl rfl rfl (by decide +kernel) ⟨Nat.le_of_ble_eq_true rfl, Nat.le_of_ble_eq_true rfl⟩) [] [] rfl rfl (by decide) (by decide) (by decide) rfl hl.1 (Nat.le_of_ble_eq_true rfl) dX0_bitOf_9 ⟨Nat.zero_le _, Nat.zero_le _⟩ (fun r_2 u H locs hw hP hD hS => ?_)
  obtain rfl := hw
  have hP : va_P G.1 vwCl (([] : va_W)) H := hP
  have hD : va_D A (([] : va_W)) := hD
  refine lv_imul hx hb dX0_bitOf_12 ?_
  refine lv_iadd hx hb dX0_bitOf_13 ?_
  refine lv_sipush (v := nI 1023) hx hb dX0_bitOf_14 (by decide) ?_
  refine lv_iand hx hb dX0_bitOf_17 ?_
  exact ret 18 _ _ _ (((p_stir x (nI 0)) + (y * (p_stir x (-1756908916)))) &&& nI 1023) () dX0_bitOf_18 (p_bit_eq x y) hP hD hS
abbrev wF (G : gG) (o q : Nat) (f : Nat → Int32) : va_W := [(o, .inr (0, [.ref q])), (q, .inl (G.2.2.1, 32, .inl f))]
end
section
theorem dX1_init_0 : decode cX1_init 0 = .ok (.aload_n 0, 1) := by decide +kernel
theorem dX1_init_1 : decode cX1_init 1 = .ok (.invokespecial 3, 3) := by decide +kernel
theorem dX1_init_4 : decode cX1_init 4 = .ok (.aload_n 0, 1) := by decide +kernel
theorem dX1_init_5 : decode cX1_init 5 = .ok (.bipush 8, 2) := by decide +kernel
theorem dX1_init_7 : decode cX1_init 7 = .ok (.newarray .int, 2) := by decide +kernel
theorem dX1_init_9 : decode cX1_init 9 = .ok (.putfield 9, 3) := by decide +kernel
theorem dX1_init_12 : decode cX1_init 12 = .ok (.aload_n 0, 1) := by decide +kernel
theorem dX1_init_13 : decode cX1_init 13 = .ok (.bipush 8, 2) := by decide +kernel
theorem dX1_init_15 : decode cX1_init 15 = .ok (.newarray .int, 2) := by decide +kernel
theorem dX1_init_17 : decode cX1_init 17 = .ok (.putfield 15, 3) := by decide +kernel
theorem dX1_init_20 : decode cX1_init 20 = .ok (.aload_n 0, 1) := by decide +kernel
theorem dX1_init_21 : decode cX1_init 21 = .ok (.bipush 64, 2) := by decide +kernel
theorem dX1_init_23 : decode cX1_init 23 = .ok (.newarray .int, 2) := by decide +kernel
theorem dX1_init_25 : decode cX1_init 25 = .ok (.putfield 18, 3) := by decide +kernel
theorem dX1_init_28 : decode cX1_init 28 = .ok (.return_, 1) := by decide +kernel
set_option maxRecDepth 20000 in
theorem ggX1_takeAll_X1_takeFirst : GoodIn wsX1_takeAll wsX1_takeFirst := goodIn_r _ [5, 6, 7, 8, 9, 10, 11, 12, 13, 14, 15, 4, 16, 17, 18, 19, 20, 21, 22, 23, 24, 38, 39, 40] (by decide +kernel) (by decide +kernel)
set_option maxRecDepth 20000 in
theorem gX1_takeAll_X1_takeFirst : GoodIn wsX1_takeAll (wsV RX1 21 RX1 yX1_takeFirst wsX1_takeFirst) := goodIn_app (goodIn_of _ (by decide +kernel)) ggX1_takeAll_X1_takeFirst
set_option maxRecDepth 20000 in
theorem ggX1_takeAll_X1_takeRest : GoodIn wsX1_takeAll wsX1_takeRest := goodIn_r _ [28, 7, 29, 8, 9, 10, 11, 12, 30, 31, 32, 33, 34, 35, 36, 37, 13, 14, 15, 4, 16, 17, 18, 19, 20, 21, 22, 23, 24, 38, 39, 40] (by decide +kernel) (by decide +kernel)
set_option maxRecDepth 20000 in
theorem gX1_takeAll_X1_takeRest : GoodIn wsX1_takeAll (wsV RX1 25 RX1 yX1_takeRest wsX1_takeRest) := goodIn_app (goodIn_of _ (by decide +kernel)) ggX1_takeAll_X1_takeRest
theorem dX1_takeAll_0 : decode cX1_takeAll 0 = .ok (.aload_n 0, 1) := by decide +kernel
theorem dX1_takeAll_1 : decode cX1_takeAll 1 = .ok (.aload_n 1, 1) := by decide +kernel
theorem dX1_takeAll_2 : decode cX1_takeAll 2 = .ok (.iload_n 2, 1) := by decide +kernel
theorem dX1_takeAll_3 : decode cX1_takeAll 3 = .ok (.invokevirtual 21, 3) := by decide +kernel
theorem dX1_takeAll_6 : decode cX1_takeAll 6 = .ok (.aload_n 0, 1) := by decide +kernel
theorem dX1_takeAll_7 : decode cX1_takeAll 7 = .ok (.aload_n 1, 1) := by decide +kernel
theorem dX1_takeAll_8 : decode cX1_takeAll 8 = .ok (.iload_n 2, 1) := by decide +kernel
theorem dX1_takeAll_9 : decode cX1_takeAll 9 = .ok (.invokevirtual 25, 3) := by decide +kernel
theorem dX1_takeAll_12 : decode cX1_takeAll 12 = .ok (.return_, 1) := by decide +kernel
set_option maxRecDepth 20000 in
theorem ggX1_takeFirst_X1_mixInto : GoodIn wsX1_takeFirst wsX1_mixInto := goodIn_r _ [12, 13, 7, 14, 15, 16, 11, 17, 18, 19, 20, 21, 22, 23] (by decide +kernel) (by decide +kernel)
set_option maxRecDepth 20000 in
theorem gX1_takeFirst_X1_mixInto : GoodIn wsX1_takeFirst (wsV RX1 37 RX1 yX1_mixInto wsX1_mixInto) := goodIn_app (goodIn_of _ (by decide +kernel)) ggX1_takeFirst_X1_mixInto
theorem dX1_takeFirst_0 : decode cX1_takeFirst 0 = .ok (.getstatic 28, 3) := by decide +kernel
theorem dX1_takeFirst_3 : decode cX1_takeFirst 3 = .ok (.iconst 0, 1) := by decide +kernel
theorem dX1_takeFirst_4 : decode cX1_takeFirst 4 = .ok (.aload_n 0, 1) := by decide +kernel
theorem dX1_takeFirst_5 : decode cX1_takeFirst 5 = .ok (.getfield 9, 3) := by decide +kernel
theorem dX1_takeFirst_8 : decode cX1_takeFirst 8 = .ok (.iconst 0, 1) := by decide +kernel
theorem dX1_takeFirst_9 : decode cX1_takeFirst 9 = .ok (.bipush 8, 2) := by decide +kernel
theorem dX1_takeFirst_11 : decode cX1_takeFirst 11 = .ok (.invokestatic 31, 3) := by decide +kernel
theorem dX1_takeFirst_14 : decode cX1_takeFirst 14 = .ok (.aload_n 1, 1) := by decide +kernel
theorem dX1_takeFirst_15 : decode cX1_takeFirst 15 = .ok (.iload_n 2, 1) := by decide +kernel
theorem dX1_takeFirst_16 : decode cX1_takeFirst 16 = .ok (.aload_n 0, 1) := by decide +kernel
theorem dX1_takeFirst_17 : decode cX1_takeFirst 17 = .ok (.getfield 18, 3) := by decide +kernel
theorem dX1_takeFirst_20 : decode cX1_takeFirst 20 = .ok (.iconst 0, 1) := by decide +kernel
theorem dX1_takeFirst_21 : decode cX1_takeFirst 21 = .ok (.bipush 16, 2) := by decide +kernel
theorem dX1_takeFirst_23 : decode cX1_takeFirst 23 = .ok (.invokestatic 31, 3) := by decide +kernel
theorem dX1_takeFirst_26 : decode cX1_takeFirst 26 = .ok (.aload_n 0, 1) := by decide +kernel
theorem dX1_takeFirst_27 : decode cX1_takeFirst 27 = .ok (.aload_n 0, 1) := by decide +kernel
theorem dX1_takeFirst_28 : decode cX1_takeFirst 28 = .ok (.getfield 9, 3) := by decide +kernel
theorem dX1_takeFirst_31 : decode cX1_takeFirst 31 = .ok (.invokevirtual 37, 3) := by decide +kernel
theorem dX1_takeFirst_34 : decode cX1_takeFirst 34 = .ok (.return_, 1) := by decide +kernel
set_option maxRecDepth 20000 in
theorem ggX1_takeRest_J7_fill_fda19 : GoodIn wsX1_takeRest wsJ7_fill_fda19 := goodIn_r _ [12, 13, 14, 11, 15] (by decide +kernel) (by decide +kernel)
set_option maxRecDepth 20000 in
theorem gX1_takeRest_J7_fill_fda19 : GoodIn wsX1_takeRest (va_wsS RX1 42 yJ7_fill_fda19 wsJ7_fill_fda19) := goodIn_app (goodIn_of _ (by decide +kernel)) ggX1_takeRest_J7_fill_fda19
set_option maxRecDepth 20000 in
theorem ggX1_takeRest_X1_mixInto : GoodIn wsX1_takeRest wsX1_mixInto := goodIn_r _ [20, 21, 7, 22, 23, 24, 19, 25, 26, 27, 28, 29, 30, 31] (by decide +kernel) (by decide +kernel)
set_option maxRecDepth 20000 in
theorem gX1_takeRest_X1_mixInto : GoodIn wsX1_takeRest (wsV RX1 37 RX1 yX1_mixInto wsX1_mixInto) := goodIn_app (goodIn_of _ (by decide +kernel)) ggX1_takeRest_X1_mixInto
theorem dX1_takeRest_0 : decode cX1_takeRest 0 = .ok (.bipush 10, 2) := by decide +kernel
theorem dX1_takeRest_2 : decode cX1_takeRest 2 = .ok (.istore_n 3, 1) := by decide +kernel
theorem dX1_takeRest_3 : decode cX1_takeRest 3 = .ok (.aload_n 0, 1) := by decide +kernel
theorem dX1_takeRest_4 : decode cX1_takeRest 4 = .ok (.getfield 9, 3) := by decide +kernel
theorem dX1_takeRest_7 : decode cX1_takeRest 7 = .ok (.iconst 0, 1) := by decide +kernel
theorem dX1_takeRest_8 : decode cX1_takeRest 8 = .ok (.aload_n 0, 1) := by decide +kernel
theorem dX1_takeRest_9 : decode cX1_takeRest 9 = .ok (.getfield 15, 3) := by decide +kernel
theorem dX1_takeRest_12 : decode cX1_takeRest 12 = .ok (.iconst 0, 1) := by decide +kernel
theorem dX1_takeRest_13 : decode cX1_takeRest 13 = .ok (.bipush 8, 2) := by decide +kernel
theorem dX1_takeRest_15 : decode cX1_takeRest 15 = .ok (.invokestatic 31, 3) := by decide +kernel
theorem dX1_takeRest_18 : decode cX1_takeRest 18 = .ok (.aload_n 1, 1) := by decide +kernel
theorem dX1_takeRest_19 : decode cX1_takeRest 19 = .ok (.iload_n 2, 1) := by decide +kernel
theorem dX1_takeRest_20 : decode cX1_takeRest 20 = .ok (.bipush 16, 2) := by decide +kernel
theorem dX1_takeRest_22 : decode cX1_takeRest 22 = .ok (.iadd, 1) := by decide +kernel
theorem dX1_takeRest_23 : decode cX1_takeRest 23 = .ok (.aload_n 0, 1) := by decide +kernel
theorem dX1_takeRest_24 : decode cX1_takeRest 24 = .ok (.getfield 18, 3) := by decide +kernel
theorem dX1_takeRest_27 : decode cX1_takeRest 27 = .ok (.iconst 0, 1) := by decide +kernel
theorem dX1_takeRest_28 : decode cX1_takeRest 28 = .ok (.iload_n 3, 1) := by decide +kernel
theorem dX1_takeRest_29 : decode cX1_takeRest 29 = .ok (.invokestatic 31, 3) := by decide +kernel
theorem dX1_takeRest_32 : decode cX1_takeRest 32 = .ok (.aload_n 0, 1) := by decide +kernel
theorem dX1_takeRest_33 : decode cX1_takeRest 33 = .ok (.getfield 18, 3) := by decide +kernel
theorem dX1_takeRest_36 : decode cX1_takeRest 36 = .ok (.iload_n 3, 1) := by decide +kernel
theorem dX1_takeRest_37 : decode cX1_takeRest 37 = .ok (.ldc 41, 2) := by decide +kernel
theorem dX1_takeRest_39 : decode cX1_takeRest 39 = .ok (.iastore, 1) := by decide +kernel
theorem dX1_takeRest_40 : decode cX1_takeRest 40 = .ok (.aload_n 0, 1) := by decide +kernel
theorem dX1_takeRest_41 : decode cX1_takeRest 41 = .ok (.getfield 18, 3) := by decide +kernel
theorem dX1_takeRest_44 : decode cX1_takeRest 44 = .ok (.iload_n 3, 1) := by decide +kernel
theorem dX1_takeRest_45 : decode cX1_takeRest 45 = .ok (.iconst 1, 1) := by decide +kernel
theorem dX1_takeRest_46 : decode cX1_takeRest 46 = .ok (.iadd, 1) := by decide +kernel
theorem dX1_takeRest_47 : decode cX1_takeRest 47 = .ok (.bipush 15, 2) := by decide +kernel
theorem dX1_takeRest_49 : decode cX1_takeRest 49 = .ok (.iconst 0, 1) := by decide +kernel
theorem dX1_takeRest_50 : decode cX1_takeRest 50 = .ok (.invokestatic 42, 3) := by decide +kernel
theorem dX1_takeRest_53 : decode cX1_takeRest 53 = .ok (.aload_n 0, 1) := by decide +kernel
theorem dX1_takeRest_54 : decode cX1_takeRest 54 = .ok (.getfield 18, 3) := by decide +kernel
theorem dX1_takeRest_57 : decode cX1_takeRest 57 = .ok (.bipush 15, 2) := by decide +kernel
theorem dX1_takeRest_59 : decode cX1_takeRest 59 = .ok (.sipush 832, 3) := by decide +kernel
theorem dX1_takeRest_62 : decode cX1_takeRest 62 = .ok (.iastore, 1) := by decide +kernel
theorem dX1_takeRest_63 : decode cX1_takeRest 63 = .ok (.aload_n 0, 1) := by decide +kernel
theorem dX1_takeRest_64 : decode cX1_takeRest 64 = .ok (.aload_n 0, 1) := by decide +kernel
theorem dX1_takeRest_65 : decode cX1_takeRest 65 = .ok (.getfield 15, 3) := by decide +kernel
theorem dX1_takeRest_68 : decode cX1_takeRest 68 = .ok (.invokevirtual 37, 3) := by decide +kernel
theorem dX1_takeRest_71 : decode cX1_takeRest 71 = .ok (.return_, 1) := by decide +kernel
theorem dX1_isAt_0 : decode cX1_isAt 0 = .ok (.iconst 0, 1) := by decide +kernel
theorem dX1_isAt_1 : decode cX1_isAt 1 = .ok (.istore_n 3, 1) := by decide +kernel
theorem dX1_isAt_2 : decode cX1_isAt 2 = .ok (.iload_n 3, 1) := by decide +kernel
theorem dX1_isAt_3 : decode cX1_isAt 3 = .ok (.bipush 8, 2) := by decide +kernel
theorem dX1_isAt_5 : decode cX1_isAt 5 = .ok (.if_icmp .ge 25, 3) := by decide +kernel
theorem dX1_isAt_8 : decode cX1_isAt 8 = .ok (.aload_n 1, 1) := by decide +kernel
theorem dX1_isAt_9 : decode cX1_isAt 9 = .ok (.iload_n 2, 1) := by decide +kernel
theorem dX1_isAt_10 : decode cX1_isAt 10 = .ok (.iload_n 3, 1) := by decide +kernel
theorem dX1_isAt_11 : decode cX1_isAt 11 = .ok (.iadd, 1) := by decide +kernel
theorem dX1_isAt_12 : decode cX1_isAt 12 = .ok (.iaload, 1) := by decide +kernel
theorem dX1_isAt_13 : decode cX1_isAt 13 = .ok (.aload_n 0, 1) := by decide +kernel
theorem dX1_isAt_14 : decode cX1_isAt 14 = .ok (.getfield 15, 3) := by decide +kernel
theorem dX1_isAt_17 : decode cX1_isAt 17 = .ok (.iload_n 3, 1) := by decide +kernel
theorem dX1_isAt_18 : decode cX1_isAt 18 = .ok (.iaload, 1) := by decide +kernel
theorem dX1_isAt_19 : decode cX1_isAt 19 = .ok (.if_icmp .eq 5, 3) := by decide +kernel
theorem dX1_isAt_22 : decode cX1_isAt 22 = .ok (.iconst 0, 1) := by decide +kernel
theorem dX1_isAt_23 : decode cX1_isAt 23 = .ok (.ireturn, 1) := by decide +kernel
theorem dX1_isAt_24 : decode cX1_isAt 24 = .ok (.iinc 3 1, 3) := by decide +kernel
theorem dX1_isAt_27 : decode cX1_isAt 27 = .ok (.goto (-25), 3) := by decide +kernel
theorem dX1_isAt_30 : decode cX1_isAt 30 = .ok (.iconst 1, 1) := by decide +kernel
theorem dX1_isAt_31 : decode cX1_isAt 31 = .ok (.ireturn, 1) := by decide +kernel
theorem dX1_copyTo_0 : decode cX1_copyTo 0 = .ok (.aload_n 0, 1) := by decide +kernel
theorem dX1_copyTo_1 : decode cX1_copyTo 1 = .ok (.getfield 15, 3) := by decide +kernel
theorem dX1_copyTo_4 : decode cX1_copyTo 4 = .ok (.iconst 0, 1) := by decide +kernel
theorem dX1_copyTo_5 : decode cX1_copyTo 5 = .ok (.aload_n 1, 1) := by decide +kernel
theorem dX1_copyTo_6 : decode cX1_copyTo 6 = .ok (.iload_n 2, 1) := by decide +kernel
theorem dX1_copyTo_7 : decode cX1_copyTo 7 = .ok (.bipush 8, 2) := by decide +kernel
theorem dX1_copyTo_9 : decode cX1_copyTo 9 = .ok (.invokestatic 31, 3) := by decide +kernel
theorem dX1_copyTo_12 : decode cX1_copyTo 12 = .ok (.return_, 1) := by decide +kernel
set_option maxRecDepth 20000 in
theorem ggX1_zeros_J6_numberOfLeadingZeros_0f7a4 : GoodIn wsX1_zeros wsJ6_numberOfLeadingZeros_0f7a4 := goodIn_r _ [5, 6] (by decide +kernel) (by decide +kernel)
set_option maxRecDepth 20000 in
theorem gX1_zeros_J6_numberOfLeadingZeros_0f7a4 : GoodIn wsX1_zeros (va_wsS RX1 48 yJ6_numberOfLeadingZeros_0f7a4 wsJ6_numberOfLeadingZeros_0f7a4) := goodIn_app (goodIn_of _ (by decide +kernel)) ggX1_zeros_J6_numberOfLeadingZeros_0f7a4
theorem dX1_zeros_0 : decode cX1_zeros 0 = .ok (.iconst 0, 1) := by decide +kernel
theorem dX1_zeros_1 : decode cX1_zeros 1 = .ok (.istore_n 1, 1) := by decide +kernel
theorem dX1_zeros_2 : decode cX1_zeros 2 = .ok (.iload_n 1, 1) := by decide +kernel
theorem dX1_zeros_3 : decode cX1_zeros 3 = .ok (.bipush 8, 2) := by decide +kernel
theorem dX1_zeros_5 : decode cX1_zeros 5 = .ok (.if_icmp .ge 33, 3) := by decide +kernel
theorem dX1_zeros_8 : decode cX1_zeros 8 = .ok (.aload_n 0, 1) := by decide +kernel
theorem dX1_zeros_9 : decode cX1_zeros 9 = .ok (.getfield 15, 3) := by decide +kernel
theorem dX1_zeros_12 : decode cX1_zeros 12 = .ok (.iload_n 1, 1) := by decide +kernel
theorem dX1_zeros_13 : decode cX1_zeros 13 = .ok (.iaload, 1) := by decide +kernel
theorem dX1_zeros_14 : decode cX1_zeros 14 = .ok (.ifCond .eq 18, 3) := by decide +kernel
theorem dX1_zeros_17 : decode cX1_zeros 17 = .ok (.bipush 32, 2) := by decide +kernel
theorem dX1_zeros_19 : decode cX1_zeros 19 = .ok (.iload_n 1, 1) := by decide +kernel
theorem dX1_zeros_20 : decode cX1_zeros 20 = .ok (.imul, 1) := by decide +kernel
theorem dX1_zeros_21 : decode cX1_zeros 21 = .ok (.aload_n 0, 1) := by decide +kernel
theorem dX1_zeros_22 : decode cX1_zeros 22 = .ok (.getfield 15, 3) := by decide +kernel
theorem dX1_zeros_25 : decode cX1_zeros 25 = .ok (.iload_n 1, 1) := by decide +kernel
theorem dX1_zeros_26 : decode cX1_zeros 26 = .ok (.iaload, 1) := by decide +kernel
theorem dX1_zeros_27 : decode cX1_zeros 27 = .ok (.invokestatic 48, 3) := by decide +kernel
theorem dX1_zeros_30 : decode cX1_zeros 30 = .ok (.iadd, 1) := by decide +kernel
theorem dX1_zeros_31 : decode cX1_zeros 31 = .ok (.ireturn, 1) := by decide +kernel
theorem dX1_zeros_32 : decode cX1_zeros 32 = .ok (.iinc 1 1, 3) := by decide +kernel
theorem dX1_zeros_35 : decode cX1_zeros 35 = .ok (.goto (-33), 3) := by decide +kernel
theorem dX1_zeros_38 : decode cX1_zeros 38 = .ok (.sipush 256, 3) := by decide +kernel
theorem dX1_zeros_41 : decode cX1_zeros 41 = .ok (.ireturn, 1) := by decide +kernel
set_option maxRecDepth 20000 in
theorem ggX1_mixInto_X1_spread : GoodIn wsX1_mixInto wsX1_spread := goodIn_r _ [7, 2, 8, 9, 10, 11, 12, 13] (by decide +kernel) (by decide +kernel)
set_option maxRecDepth 20000 in
theorem gX1_mixInto_X1_spread : GoodIn wsX1_mixInto (wsV RX1 54 RX1 yX1_spread wsX1_spread) := goodIn_app (goodIn_of _ (by decide +kernel)) ggX1_mixInto_X1_spread
set_option maxRecDepth 20000 in
theorem ggX1_mixInto_X2_right : GoodIn wsX1_mixInto wsX2_right := goodIn_r _ [10] (by decide +kernel) (by decide +kernel)
set_option maxRecDepth 20000 in
theorem gX1_mixInto_X2_right_n57 : GoodIn wsX1_mixInto (wsX2_right) := ggX1_mixInto_X2_right
theorem dX1_mixInto_0 : decode cX1_mixInto 0 = .ok (.aload_n 0, 1) := by decide +kernel
theorem dX1_mixInto_1 : decode cX1_mixInto 1 = .ok (.invokevirtual 54, 3) := by decide +kernel
theorem dX1_mixInto_4 : decode cX1_mixInto 4 = .ok (.aload_n 1, 1) := by decide +kernel
theorem dX1_mixInto_5 : decode cX1_mixInto 5 = .ok (.iconst 0, 1) := by decide +kernel
theorem dX1_mixInto_6 : decode cX1_mixInto 6 = .ok (.iaload, 1) := by decide +kernel
theorem dX1_mixInto_7 : decode cX1_mixInto 7 = .ok (.istore_n 2, 1) := by decide +kernel
theorem dX1_mixInto_8 : decode cX1_mixInto 8 = .ok (.aload_n 1, 1) := by decide +kernel
theorem dX1_mixInto_9 : decode cX1_mixInto 9 = .ok (.iconst 1, 1) := by decide +kernel
theorem dX1_mixInto_10 : decode cX1_mixInto 10 = .ok (.iaload, 1) := by decide +kernel
theorem dX1_mixInto_11 : decode cX1_mixInto 11 = .ok (.istore_n 3, 1) := by decide +kernel
theorem dX1_mixInto_12 : decode cX1_mixInto 12 = .ok (.aload_n 1, 1) := by decide +kernel
theorem dX1_mixInto_13 : decode cX1_mixInto 13 = .ok (.iconst 2, 1) := by decide +kernel
theorem dX1_mixInto_14 : decode cX1_mixInto 14 = .ok (.iaload, 1) := by decide +kernel
theorem dX1_mixInto_15 : decode cX1_mixInto 15 = .ok (.istore 4, 2) := by decide +kernel
theorem dX1_mixInto_17 : decode cX1_mixInto 17 = .ok (.aload_n 1, 1) := by decide +kernel
theorem dX1_mixInto_18 : decode cX1_mixInto 18 = .ok (.iconst 3, 1) := by decide +kernel
theorem dX1_mixInto_19 : decode cX1_mixInto 19 = .ok (.iaload, 1) := by decide +kernel
theorem dX1_mixInto_20 : decode cX1_mixInto 20 = .ok (.istore 5, 2) := by decide +kernel
theorem dX1_mixInto_22 : decode cX1_mixInto 22 = .ok (.aload_n 1, 1) := by decide +kernel
theorem dX1_mixInto_23 : decode cX1_mixInto 23 = .ok (.iconst 4, 1) := by decide +kernel
theorem dX1_mixInto_24 : decode cX1_mixInto 24 = .ok (.iaload, 1) := by decide +kernel
theorem dX1_mixInto_25 : decode cX1_mixInto 25 = .ok (.istore 6, 2) := by decide +kernel
theorem dX1_mixInto_27 : decode cX1_mixInto 27 = .ok (.aload_n 1, 1) := by decide +kernel
theorem dX1_mixInto_28 : decode cX1_mixInto 28 = .ok (.iconst 5, 1) := by decide +kernel
theorem dX1_mixInto_29 : decode cX1_mixInto 29 = .ok (.iaload, 1) := by decide +kernel
theorem dX1_mixInto_30 : decode cX1_mixInto 30 = .ok (.istore 7, 2) := by decide +kernel
theorem dX1_mixInto_32 : decode cX1_mixInto 32 = .ok (.aload_n 1, 1) := by decide +kernel
theorem dX1_mixInto_33 : decode cX1_mixInto 33 = .ok (.bipush 6, 2) := by decide +kernel
theorem dX1_mixInto_35 : decode cX1_mixInto 35 = .ok (.iaload, 1) := by decide +kernel
theorem dX1_mixInto_36 : decode cX1_mixInto 36 = .ok (.istore 8, 2) := by decide +kernel
theorem dX1_mixInto_38 : decode cX1_mixInto 38 = .ok (.aload_n 1, 1) := by decide +kernel
theorem dX1_mixInto_39 : decode cX1_mixInto 39 = .ok (.bipush 7, 2) := by decide +kernel
theorem dX1_mixInto_41 : decode cX1_mixInto 41 = .ok (.iaload, 1) := by decide +kernel
theorem dX1_mixInto_42 : decode cX1_mixInto 42 = .ok (.istore 9, 2) := by decide +kernel
theorem dX1_mixInto_44 : decode cX1_mixInto 44 = .ok (.iconst 0, 1) := by decide +kernel
theorem dX1_mixInto_45 : decode cX1_mixInto 45 = .ok (.istore 10, 2) := by decide +kernel
theorem dX1_mixInto_47 : decode cX1_mixInto 47 = .ok (.iload 10, 2) := by decide +kernel
theorem dX1_mixInto_49 : decode cX1_mixInto 49 = .ok (.bipush 64, 2) := by decide +kernel
theorem dX1_mixInto_51 : decode cX1_mixInto 51 = .ok (.if_icmp .ge 135, 3) := by decide +kernel
theorem dX1_mixInto_54 : decode cX1_mixInto 54 = .ok (.iload 9, 2) := by decide +kernel
theorem dX1_mixInto_56 : decode cX1_mixInto 56 = .ok (.iload 6, 2) := by decide +kernel
theorem dX1_mixInto_58 : decode cX1_mixInto 58 = .ok (.bipush 6, 2) := by decide +kernel
theorem dX1_mixInto_60 : decode cX1_mixInto 60 = .ok (.invokestatic 57, 3) := by decide +kernel
theorem dX1_mixInto_63 : decode cX1_mixInto 63 = .ok (.iload 6, 2) := by decide +kernel
theorem dX1_mixInto_65 : decode cX1_mixInto 65 = .ok (.bipush 11, 2) := by decide +kernel
theorem dX1_mixInto_67 : decode cX1_mixInto 67 = .ok (.invokestatic 57, 3) := by decide +kernel
theorem dX1_mixInto_70 : decode cX1_mixInto 70 = .ok (.ixor, 1) := by decide +kernel
theorem dX1_mixInto_71 : decode cX1_mixInto 71 = .ok (.iload 6, 2) := by decide +kernel
theorem dX1_mixInto_73 : decode cX1_mixInto 73 = .ok (.bipush 25, 2) := by decide +kernel
theorem dX1_mixInto_75 : decode cX1_mixInto 75 = .ok (.invokestatic 57, 3) := by decide +kernel
theorem dX1_mixInto_78 : decode cX1_mixInto 78 = .ok (.ixor, 1) := by decide +kernel
theorem dX1_mixInto_79 : decode cX1_mixInto 79 = .ok (.iadd, 1) := by decide +kernel
theorem dX1_mixInto_80 : decode cX1_mixInto 80 = .ok (.iload 6, 2) := by decide +kernel
theorem dX1_mixInto_82 : decode cX1_mixInto 82 = .ok (.iload 7, 2) := by decide +kernel
theorem dX1_mixInto_84 : decode cX1_mixInto 84 = .ok (.iand, 1) := by decide +kernel
theorem dX1_mixInto_85 : decode cX1_mixInto 85 = .ok (.iload 6, 2) := by decide +kernel
theorem dX1_mixInto_87 : decode cX1_mixInto 87 = .ok (.iconst (-1), 1) := by decide +kernel
theorem dX1_mixInto_88 : decode cX1_mixInto 88 = .ok (.ixor, 1) := by decide +kernel
theorem dX1_mixInto_89 : decode cX1_mixInto 89 = .ok (.iload 8, 2) := by decide +kernel
theorem dX1_mixInto_91 : decode cX1_mixInto 91 = .ok (.iand, 1) := by decide +kernel
theorem dX1_mixInto_92 : decode cX1_mixInto 92 = .ok (.ixor, 1) := by decide +kernel
theorem dX1_mixInto_93 : decode cX1_mixInto 93 = .ok (.iadd, 1) := by decide +kernel
theorem dX1_mixInto_94 : decode cX1_mixInto 94 = .ok (.getstatic 61, 3) := by decide +kernel
theorem dX1_mixInto_97 : decode cX1_mixInto 97 = .ok (.iload 10, 2) := by decide +kernel
theorem dX1_mixInto_99 : decode cX1_mixInto 99 = .ok (.iaload, 1) := by decide +kernel
theorem dX1_mixInto_100 : decode cX1_mixInto 100 = .ok (.iadd, 1) := by decide +kernel
theorem dX1_mixInto_101 : decode cX1_mixInto 101 = .ok (.aload_n 0, 1) := by decide +kernel
theorem dX1_mixInto_102 : decode cX1_mixInto 102 = .ok (.getfield 18, 3) := by decide +kernel
theorem dX1_mixInto_105 : decode cX1_mixInto 105 = .ok (.iload 10, 2) := by decide +kernel
theorem dX1_mixInto_107 : decode cX1_mixInto 107 = .ok (.iaload, 1) := by decide +kernel
theorem dX1_mixInto_108 : decode cX1_mixInto 108 = .ok (.iadd, 1) := by decide +kernel
theorem dX1_mixInto_109 : decode cX1_mixInto 109 = .ok (.istore 11, 2) := by decide +kernel
theorem dX1_mixInto_111 : decode cX1_mixInto 111 = .ok (.iload_n 2, 1) := by decide +kernel
theorem dX1_mixInto_112 : decode cX1_mixInto 112 = .ok (.iconst 2, 1) := by decide +kernel
theorem dX1_mixInto_113 : decode cX1_mixInto 113 = .ok (.invokestatic 57, 3) := by decide +kernel
theorem dX1_mixInto_116 : decode cX1_mixInto 116 = .ok (.iload_n 2, 1) := by decide +kernel
theorem dX1_mixInto_117 : decode cX1_mixInto 117 = .ok (.bipush 13, 2) := by decide +kernel
theorem dX1_mixInto_119 : decode cX1_mixInto 119 = .ok (.invokestatic 57, 3) := by decide +kernel
theorem dX1_mixInto_122 : decode cX1_mixInto 122 = .ok (.ixor, 1) := by decide +kernel
theorem dX1_mixInto_123 : decode cX1_mixInto 123 = .ok (.iload_n 2, 1) := by decide +kernel
theorem dX1_mixInto_124 : decode cX1_mixInto 124 = .ok (.bipush 22, 2) := by decide +kernel
theorem dX1_mixInto_126 : decode cX1_mixInto 126 = .ok (.invokestatic 57, 3) := by decide +kernel
theorem dX1_mixInto_129 : decode cX1_mixInto 129 = .ok (.ixor, 1) := by decide +kernel
theorem dX1_mixInto_130 : decode cX1_mixInto 130 = .ok (.iload_n 2, 1) := by decide +kernel
theorem dX1_mixInto_131 : decode cX1_mixInto 131 = .ok (.iload_n 3, 1) := by decide +kernel
theorem dX1_mixInto_132 : decode cX1_mixInto 132 = .ok (.iand, 1) := by decide +kernel
theorem dX1_mixInto_133 : decode cX1_mixInto 133 = .ok (.iload_n 2, 1) := by decide +kernel
theorem dX1_mixInto_134 : decode cX1_mixInto 134 = .ok (.iload 4, 2) := by decide +kernel
theorem dX1_mixInto_136 : decode cX1_mixInto 136 = .ok (.iand, 1) := by decide +kernel
theorem dX1_mixInto_137 : decode cX1_mixInto 137 = .ok (.ixor, 1) := by decide +kernel
theorem dX1_mixInto_138 : decode cX1_mixInto 138 = .ok (.iload_n 3, 1) := by decide +kernel
theorem dX1_mixInto_139 : decode cX1_mixInto 139 = .ok (.iload 4, 2) := by decide +kernel
theorem dX1_mixInto_141 : decode cX1_mixInto 141 = .ok (.iand, 1) := by decide +kernel
theorem dX1_mixInto_142 : decode cX1_mixInto 142 = .ok (.ixor, 1) := by decide +kernel
theorem dX1_mixInto_143 : decode cX1_mixInto 143 = .ok (.iadd, 1) := by decide +kernel
theorem dX1_mixInto_144 : decode cX1_mixInto 144 = .ok (.istore 12, 2) := by decide +kernel
theorem dX1_mixInto_146 : decode cX1_mixInto 146 = .ok (.iload 8, 2) := by decide +kernel
theorem dX1_mixInto_148 : decode cX1_mixInto 148 = .ok (.istore 9, 2) := by decide +kernel
theorem dX1_mixInto_150 : decode cX1_mixInto 150 = .ok (.iload 7, 2) := by decide +kernel
theorem dX1_mixInto_152 : decode cX1_mixInto 152 = .ok (.istore 8, 2) := by decide +kernel
theorem dX1_mixInto_154 : decode cX1_mixInto 154 = .ok (.iload 6, 2) := by decide +kernel
theorem dX1_mixInto_156 : decode cX1_mixInto 156 = .ok (.istore 7, 2) := by decide +kernel
theorem dX1_mixInto_158 : decode cX1_mixInto 158 = .ok (.iload 5, 2) := by decide +kernel
theorem dX1_mixInto_160 : decode cX1_mixInto 160 = .ok (.iload 11, 2) := by decide +kernel
theorem dX1_mixInto_162 : decode cX1_mixInto 162 = .ok (.iadd, 1) := by decide +kernel
theorem dX1_mixInto_163 : decode cX1_mixInto 163 = .ok (.istore 6, 2) := by decide +kernel
theorem dX1_mixInto_165 : decode cX1_mixInto 165 = .ok (.iload 4, 2) := by decide +kernel
theorem dX1_mixInto_167 : decode cX1_mixInto 167 = .ok (.istore 5, 2) := by decide +kernel
theorem dX1_mixInto_169 : decode cX1_mixInto 169 = .ok (.iload_n 3, 1) := by decide +kernel
theorem dX1_mixInto_170 : decode cX1_mixInto 170 = .ok (.istore 4, 2) := by decide +kernel
theorem dX1_mixInto_172 : decode cX1_mixInto 172 = .ok (.iload_n 2, 1) := by decide +kernel
theorem dX1_mixInto_173 : decode cX1_mixInto 173 = .ok (.istore_n 3, 1) := by decide +kernel
theorem dX1_mixInto_174 : decode cX1_mixInto 174 = .ok (.iload 11, 2) := by decide +kernel
theorem dX1_mixInto_176 : decode cX1_mixInto 176 = .ok (.iload 12, 2) := by decide +kernel
theorem dX1_mixInto_178 : decode cX1_mixInto 178 = .ok (.iadd, 1) := by decide +kernel
theorem dX1_mixInto_179 : decode cX1_mixInto 179 = .ok (.istore_n 2, 1) := by decide +kernel
theorem dX1_mixInto_180 : decode cX1_mixInto 180 = .ok (.iinc 10 1, 3) := by decide +kernel
theorem dX1_mixInto_183 : decode cX1_mixInto 183 = .ok (.goto (-136), 3) := by decide +kernel
theorem dX1_mixInto_186 : decode cX1_mixInto 186 = .ok (.aload_n 1, 1) := by decide +kernel
theorem dX1_mixInto_187 : decode cX1_mixInto 187 = .ok (.iconst 0, 1) := by decide +kernel
theorem dX1_mixInto_188 : decode cX1_mixInto 188 = .ok (.dup2, 1) := by decide +kernel
theorem dX1_mixInto_189 : decode cX1_mixInto 189 = .ok (.iaload, 1) := by decide +kernel
theorem dX1_mixInto_190 : decode cX1_mixInto 190 = .ok (.iload_n 2, 1) := by decide +kernel
theorem dX1_mixInto_191 : decode cX1_mixInto 191 = .ok (.iadd, 1) := by decide +kernel
theorem dX1_mixInto_192 : decode cX1_mixInto 192 = .ok (.iastore, 1) := by decide +kernel
theorem dX1_mixInto_193 : decode cX1_mixInto 193 = .ok (.aload_n 1, 1) := by decide +kernel
theorem dX1_mixInto_194 : decode cX1_mixInto 194 = .ok (.iconst 1, 1) := by decide +kernel
theorem dX1_mixInto_195 : decode cX1_mixInto 195 = .ok (.dup2, 1) := by decide +kernel
theorem dX1_mixInto_196 : decode cX1_mixInto 196 = .ok (.iaload, 1) := by decide +kernel
theorem dX1_mixInto_197 : decode cX1_mixInto 197 = .ok (.iload_n 3, 1) := by decide +kernel
theorem dX1_mixInto_198 : decode cX1_mixInto 198 = .ok (.iadd, 1) := by decide +kernel
theorem dX1_mixInto_199 : decode cX1_mixInto 199 = .ok (.iastore, 1) := by decide +kernel
theorem dX1_mixInto_200 : decode cX1_mixInto 200 = .ok (.aload_n 1, 1) := by decide +kernel
theorem dX1_mixInto_201 : decode cX1_mixInto 201 = .ok (.iconst 2, 1) := by decide +kernel
theorem dX1_mixInto_202 : decode cX1_mixInto 202 = .ok (.dup2, 1) := by decide +kernel
theorem dX1_mixInto_203 : decode cX1_mixInto 203 = .ok (.iaload, 1) := by decide +kernel
theorem dX1_mixInto_204 : decode cX1_mixInto 204 = .ok (.iload 4, 2) := by decide +kernel
theorem dX1_mixInto_206 : decode cX1_mixInto 206 = .ok (.iadd, 1) := by decide +kernel
theorem dX1_mixInto_207 : decode cX1_mixInto 207 = .ok (.iastore, 1) := by decide +kernel
theorem dX1_mixInto_208 : decode cX1_mixInto 208 = .ok (.aload_n 1, 1) := by decide +kernel
theorem dX1_mixInto_209 : decode cX1_mixInto 209 = .ok (.iconst 3, 1) := by decide +kernel
theorem dX1_mixInto_210 : decode cX1_mixInto 210 = .ok (.dup2, 1) := by decide +kernel
theorem dX1_mixInto_211 : decode cX1_mixInto 211 = .ok (.iaload, 1) := by decide +kernel
theorem dX1_mixInto_212 : decode cX1_mixInto 212 = .ok (.iload 5, 2) := by decide +kernel
theorem dX1_mixInto_214 : decode cX1_mixInto 214 = .ok (.iadd, 1) := by decide +kernel
theorem dX1_mixInto_215 : decode cX1_mixInto 215 = .ok (.iastore, 1) := by decide +kernel
theorem dX1_mixInto_216 : decode cX1_mixInto 216 = .ok (.aload_n 1, 1) := by decide +kernel
theorem dX1_mixInto_217 : decode cX1_mixInto 217 = .ok (.iconst 4, 1) := by decide +kernel
theorem dX1_mixInto_218 : decode cX1_mixInto 218 = .ok (.dup2, 1) := by decide +kernel
theorem dX1_mixInto_219 : decode cX1_mixInto 219 = .ok (.iaload, 1) := by decide +kernel
theorem dX1_mixInto_220 : decode cX1_mixInto 220 = .ok (.iload 6, 2) := by decide +kernel
theorem dX1_mixInto_222 : decode cX1_mixInto 222 = .ok (.iadd, 1) := by decide +kernel
theorem dX1_mixInto_223 : decode cX1_mixInto 223 = .ok (.iastore, 1) := by decide +kernel
theorem dX1_mixInto_224 : decode cX1_mixInto 224 = .ok (.aload_n 1, 1) := by decide +kernel
theorem dX1_mixInto_225 : decode cX1_mixInto 225 = .ok (.iconst 5, 1) := by decide +kernel
theorem dX1_mixInto_226 : decode cX1_mixInto 226 = .ok (.dup2, 1) := by decide +kernel
theorem dX1_mixInto_227 : decode cX1_mixInto 227 = .ok (.iaload, 1) := by decide +kernel
theorem dX1_mixInto_228 : decode cX1_mixInto 228 = .ok (.iload 7, 2) := by decide +kernel
theorem dX1_mixInto_230 : decode cX1_mixInto 230 = .ok (.iadd, 1) := by decide +kernel
theorem dX1_mixInto_231 : decode cX1_mixInto 231 = .ok (.iastore, 1) := by decide +kernel
theorem dX1_mixInto_232 : decode cX1_mixInto 232 = .ok (.aload_n 1, 1) := by decide +kernel
theorem dX1_mixInto_233 : decode cX1_mixInto 233 = .ok (.bipush 6, 2) := by decide +kernel
theorem dX1_mixInto_235 : decode cX1_mixInto 235 = .ok (.dup2, 1) := by decide +kernel
theorem dX1_mixInto_236 : decode cX1_mixInto 236 = .ok (.iaload, 1) := by decide +kernel
theorem dX1_mixInto_237 : decode cX1_mixInto 237 = .ok (.iload 8, 2) := by decide +kernel
theorem dX1_mixInto_239 : decode cX1_mixInto 239 = .ok (.iadd, 1) := by decide +kernel
theorem dX1_mixInto_240 : decode cX1_mixInto 240 = .ok (.iastore, 1) := by decide +kernel
theorem dX1_mixInto_241 : decode cX1_mixInto 241 = .ok (.aload_n 1, 1) := by decide +kernel
theorem dX1_mixInto_242 : decode cX1_mixInto 242 = .ok (.bipush 7, 2) := by decide +kernel
theorem dX1_mixInto_244 : decode cX1_mixInto 244 = .ok (.dup2, 1) := by decide +kernel
theorem dX1_mixInto_245 : decode cX1_mixInto 245 = .ok (.iaload, 1) := by decide +kernel
theorem dX1_mixInto_246 : decode cX1_mixInto 246 = .ok (.iload 9, 2) := by decide +kernel
theorem dX1_mixInto_248 : decode cX1_mixInto 248 = .ok (.iadd, 1) := by decide +kernel
theorem dX1_mixInto_249 : decode cX1_mixInto 249 = .ok (.iastore, 1) := by decide +kernel
theorem dX1_mixInto_250 : decode cX1_mixInto 250 = .ok (.return_, 1) := by decide +kernel
set_option maxRecDepth 20000 in
theorem ggX1_spread_X2_right : GoodIn wsX1_spread wsX2_right := goodIn_r _ [4] (by decide +kernel) (by decide +kernel)
set_option maxRecDepth 20000 in
theorem gX1_spread_X2_right_n57 : GoodIn wsX1_spread (wsX2_right) := ggX1_spread_X2_right
theorem dX1_spread_0 : decode cX1_spread 0 = .ok (.bipush 16, 2) := by decide +kernel
theorem dX1_spread_2 : decode cX1_spread 2 = .ok (.istore_n 1, 1) := by decide +kernel
theorem dX1_spread_3 : decode cX1_spread 3 = .ok (.iload_n 1, 1) := by decide +kernel
theorem dX1_spread_4 : decode cX1_spread 4 = .ok (.bipush 64, 2) := by decide +kernel
theorem dX1_spread_6 : decode cX1_spread 6 = .ok (.if_icmp .ge 90, 3) := by decide +kernel
theorem dX1_spread_9 : decode cX1_spread 9 = .ok (.aload_n 0, 1) := by decide +kernel
theorem dX1_spread_10 : decode cX1_spread 10 = .ok (.getfield 18, 3) := by decide +kernel
theorem dX1_spread_13 : decode cX1_spread 13 = .ok (.iload_n 1, 1) := by decide +kernel
theorem dX1_spread_14 : decode cX1_spread 14 = .ok (.bipush 15, 2) := by decide +kernel
theorem dX1_spread_16 : decode cX1_spread 16 = .ok (.isub, 1) := by decide +kernel
theorem dX1_spread_17 : decode cX1_spread 17 = .ok (.iaload, 1) := by decide +kernel
theorem dX1_spread_18 : decode cX1_spread 18 = .ok (.istore_n 2, 1) := by decide +kernel
theorem dX1_spread_19 : decode cX1_spread 19 = .ok (.aload_n 0, 1) := by decide +kernel
theorem dX1_spread_20 : decode cX1_spread 20 = .ok (.getfield 18, 3) := by decide +kernel
theorem dX1_spread_23 : decode cX1_spread 23 = .ok (.iload_n 1, 1) := by decide +kernel
theorem dX1_spread_24 : decode cX1_spread 24 = .ok (.iconst 2, 1) := by decide +kernel
theorem dX1_spread_25 : decode cX1_spread 25 = .ok (.isub, 1) := by decide +kernel
theorem dX1_spread_26 : decode cX1_spread 26 = .ok (.iaload, 1) := by decide +kernel
theorem dX1_spread_27 : decode cX1_spread 27 = .ok (.istore_n 3, 1) := by decide +kernel
theorem dX1_spread_28 : decode cX1_spread 28 = .ok (.aload_n 0, 1) := by decide +kernel
theorem dX1_spread_29 : decode cX1_spread 29 = .ok (.getfield 18, 3) := by decide +kernel
theorem dX1_spread_32 : decode cX1_spread 32 = .ok (.iload_n 1, 1) := by decide +kernel
theorem dX1_spread_33 : decode cX1_spread 33 = .ok (.aload_n 0, 1) := by decide +kernel
theorem dX1_spread_34 : decode cX1_spread 34 = .ok (.getfield 18, 3) := by decide +kernel
theorem dX1_spread_37 : decode cX1_spread 37 = .ok (.iload_n 1, 1) := by decide +kernel
theorem dX1_spread_38 : decode cX1_spread 38 = .ok (.bipush 16, 2) := by decide +kernel
theorem dX1_spread_40 : decode cX1_spread 40 = .ok (.isub, 1) := by decide +kernel
theorem dX1_spread_41 : decode cX1_spread 41 = .ok (.iaload, 1) := by decide +kernel
theorem dX1_spread_42 : decode cX1_spread 42 = .ok (.iload_n 2, 1) := by decide +kernel
theorem dX1_spread_43 : decode cX1_spread 43 = .ok (.bipush 7, 2) := by decide +kernel
theorem dX1_spread_45 : decode cX1_spread 45 = .ok (.invokestatic 57, 3) := by decide +kernel
theorem dX1_spread_48 : decode cX1_spread 48 = .ok (.iload_n 2, 1) := by decide +kernel
theorem dX1_spread_49 : decode cX1_spread 49 = .ok (.bipush 18, 2) := by decide +kernel
theorem dX1_spread_51 : decode cX1_spread 51 = .ok (.invokestatic 57, 3) := by decide +kernel
theorem dX1_spread_54 : decode cX1_spread 54 = .ok (.ixor, 1) := by decide +kernel
theorem dX1_spread_55 : decode cX1_spread 55 = .ok (.iload_n 2, 1) := by decide +kernel
theorem dX1_spread_56 : decode cX1_spread 56 = .ok (.iconst 3, 1) := by decide +kernel
theorem dX1_spread_57 : decode cX1_spread 57 = .ok (.iushr, 1) := by decide +kernel
theorem dX1_spread_58 : decode cX1_spread 58 = .ok (.ixor, 1) := by decide +kernel
theorem dX1_spread_59 : decode cX1_spread 59 = .ok (.iadd, 1) := by decide +kernel
theorem dX1_spread_60 : decode cX1_spread 60 = .ok (.aload_n 0, 1) := by decide +kernel
theorem dX1_spread_61 : decode cX1_spread 61 = .ok (.getfield 18, 3) := by decide +kernel
theorem dX1_spread_64 : decode cX1_spread 64 = .ok (.iload_n 1, 1) := by decide +kernel
theorem dX1_spread_65 : decode cX1_spread 65 = .ok (.bipush 7, 2) := by decide +kernel
theorem dX1_spread_67 : decode cX1_spread 67 = .ok (.isub, 1) := by decide +kernel
theorem dX1_spread_68 : decode cX1_spread 68 = .ok (.iaload, 1) := by decide +kernel
theorem dX1_spread_69 : decode cX1_spread 69 = .ok (.iadd, 1) := by decide +kernel
theorem dX1_spread_70 : decode cX1_spread 70 = .ok (.iload_n 3, 1) := by decide +kernel
theorem dX1_spread_71 : decode cX1_spread 71 = .ok (.bipush 17, 2) := by decide +kernel
theorem dX1_spread_73 : decode cX1_spread 73 = .ok (.invokestatic 57, 3) := by decide +kernel
theorem dX1_spread_76 : decode cX1_spread 76 = .ok (.iload_n 3, 1) := by decide +kernel
theorem dX1_spread_77 : decode cX1_spread 77 = .ok (.bipush 19, 2) := by decide +kernel
theorem dX1_spread_79 : decode cX1_spread 79 = .ok (.invokestatic 57, 3) := by decide +kernel
theorem dX1_spread_82 : decode cX1_spread 82 = .ok (.ixor, 1) := by decide +kernel
theorem dX1_spread_83 : decode cX1_spread 83 = .ok (.iload_n 3, 1) := by decide +kernel
theorem dX1_spread_84 : decode cX1_spread 84 = .ok (.bipush 10, 2) := by decide +kernel
theorem dX1_spread_86 : decode cX1_spread 86 = .ok (.iushr, 1) := by decide +kernel
theorem dX1_spread_87 : decode cX1_spread 87 = .ok (.ixor, 1) := by decide +kernel
theorem dX1_spread_88 : decode cX1_spread 88 = .ok (.iadd, 1) := by decide +kernel
theorem dX1_spread_89 : decode cX1_spread 89 = .ok (.iastore, 1) := by decide +kernel
theorem dX1_spread_90 : decode cX1_spread 90 = .ok (.iinc 1 1, 3) := by decide +kernel
theorem dX1_spread_93 : decode cX1_spread 93 = .ok (.goto (-90), 3) := by decide +kernel
theorem dX1_spread_96 : decode cX1_spread 96 = .ok (.return_, 1) := by decide +kernel
end
section
theorem p_has_T {f : Nat → Int32} {w : Int32} {i : Nat} (h : ¬ (f (p_bit w (nI i) / 32) &&& p_msk (p_bit w (nI i))) = 0) : p_has f w i = true := by simp [p_has, h]
theorem p_has_F {f : Nat → Int32} {w : Int32} {i : Nat} (h : (f (p_bit w (nI i) / 32) &&& p_msk (p_bit w (nI i))) = 0) : ¬ p_has f w i = true := by simp [p_has, h]
set_option maxHeartbeats 4000000 in
set_option maxRecDepth 100000 in
theorem c_include (l : Launch) (G : gG) (sz : Nat) (o q : Nat) (f : Nat → Int32) (x : Int32)  : MetV l yX0_include wsX0_include ({ frames := 3, cells := 0, slots := 0, locals := 65 } : Room) [.ref o, .int x] G (wF G o q f) sz (fun _ : Unit => wF G o q (p_incN f x 4)) (fun _ => True) := by
  refine ent_v _ cX0_include 4 RX0 (by decide) rfl rfl (Nat.le_of_ble_eq_true rfl) ?_
  intro p e s m args below meth c A Q ls hx hb hml hts hown hA hK hX ret hl hP hD hS
  have hl : lv_has ls 4 [(0, .ref o), (1, .int x)] := hl
  have lk9 := hts (.fieldLink RX0 9 "MinedLedger$Filter" "bits" "[I") (by decide +kernel)
  have hiX0 : ∀ w ∈ wsX00, w ∈ wsX0_include := by decide +kernel
  refine lv_iconst (v := nI 0) hx hb dX0_include_0 (by decide) ?_
  refine lv_istore_n (lv' := [(2, .int (nI 0)), (0, .ref o), (1, .int x)]) hx hb dX0_include_1 rfl hl (by decide) rfl (fun ls hl => ?_)
  suffices hloop1 : ∀ (fu1 : Nat) (i : Nat), (i ≤ 4) → 4 - i < fu1 → ∀ (H : Heap) (locs : List Loc) (ls : Array Slot), va_P G.1 vwCl (wF G o q (p_incN f x i)) H → va_D A (wF G o q (p_incN f x i)) → va_S A s.heap H locs → lv_has ls 4 [(0, .ref o), (1, .int x), (2, .int (nI i))] → W p l e ({ frames := 3, cells := 0, slots := 0, locals := 65 } : Room) s m args below meth c H locs 0 0 Q (F0 m 2 ls []) from hloop1 _ 0 (Nat.zero_le _) (Nat.lt_succ_self _) _ _ _ hP hD hS (lv_sub hl [1, 2, 0] rfl)
  clear hP hD hS hl
  intro fu1
  induction fu1 with
  | zero => intro i hi hfu; exact absurd hfu (Nat.not_lt_zero _)
  | succ fu1 ih1 =>
    intro i hi hfu1 H locs ls hP hD hS hl
    refine lv_iload_n hx hb dX0_include_2 rfl (lv_at hl 2 rfl) ?_
    refine lv_iconst (v := nI 4) hx hb dX0_include_3 (by decide) ?_
    refine cmp_ge hx hb i 4 36 (by omega) (by omega) dX0_include_4 (by decide) (fun c4 => ?_) (fun c4 => ?_)
    · have e36 : i = 4 := by omega
      subst e36
      exact ret 36 _ _ _ () dX0_include_36 (trivial) hP hD hS
    · refine lv_iload_n hx hb dX0_include_7 rfl (lv_at hl 1 rfl) ?_
      refine lv_iload_n hx hb dX0_include_8 rfl (lv_at hl 2 rfl) ?_
      refine call_Si (wr := ([(o, .inr (0, [.ref q])), (q, .inl (G.2.2.1, 32, .inl (p_incN f x i)))] : va_W)) [.int x, .int (nI i)] [] ⟨hx, hb, hml, hown, hts⟩ hK hX hA hP hD hS (c_bitOf l G _ x (nI i)) (va_cwS 2 hts gX0_include_X0_bitOf rfl rfl rfl (by decide +kernel) ⟨Nat.le_of_ble_eq_true rfl, Nat.le_of_ble_eq_true rfl⟩) [] [0, 1] rfl rfl (by decide) (by decide) (by decide) rfl hl.1 (Nat.le_of_ble_eq_true rfl) dX0_include_9 ⟨Nat.zero_le _, Nat.zero_le _⟩ (fun r_2 u H locs hw hP hD hS => ?_)
      obtain rfl := hw
      have hP : va_P G.1 vwCl (wF G o q (p_incN f x i)) H := hP
      have hD : va_D A (wF G o q (p_incN f x i)) := hD
      refine lv_istore_n (lv' := [(3, .int (nI (p_bit x (nI i)))), (0, .ref o), (1, .int x), (2, .int (nI i))]) hx hb dX0_include_12 rfl hl (by decide) rfl (fun ls hl => ?_)
      refine lv_aload_n hx hb dX0_include_13 rfl (lv_at hl 1 rfl) ?_
      refine va_get (D := G.1) (ci := 0) (v := .ref q) (C := RX0) (T := TX0) (N := 1) hx hb hts hiX0 hown hK hP 0 rfl rfl 0 (by decide) lk9 (fun _ h9 => h9) rfl dX0_include_14 ?_
      refine lv_iload_n hx hb dX0_include_17 rfl (lv_at hl 0 rfl) ?_
      refine lv_iconst (v := nI 5) hx hb dX0_include_18 (by decide) ?_
      refine lv_iushr (v := (p_ush (nI (p_bit x (nI i))) (nI 5))) hx hb dX0_include_19 rfl ?_
      refine top_i (nI ((p_bit x (nI i)) / 32)) (ush5 (p_bit_lt _ _)) ?_
      have hbl := p_bit_lt x (nI i)
      refine lv_dup2_11 hx hb dX0_include_20 rfl rfl ?_
      refine rd_i hx hb hK hP 1 rfl ((p_bit x (nI i)) / 32) (by omega) (by omega) dX0_include_21 ?_
      refine lv_iconst (v := nI 1) hx hb dX0_include_22 (by decide) ?_
      refine lv_iload_n hx hb dX0_include_23 rfl (lv_at hl 0 rfl) ?_
      refine lv_bipush (v := nI 31) hx hb dX0_include_24 (by decide) ?_
      refine lv_iand hx hb dX0_include_26 ?_
      refine lv_ishl hx hb dX0_include_27 ?_
      refine lv_ior hx hb dX0_include_28 ?_
      refine wr_i hx hb hK hP hD hS 1 rfl ((p_bit x (nI i)) / 32) (by omega) (by omega) dX0_include_29 (fun H locs hP hD hS => ?_)
      have hP : va_P G.1 vwCl (wF G o q (upd (p_incN f x i) ((p_bit x (nI i)) / 32) (((p_incN f x i) ((p_bit x (nI i)) / 32)) ||| (nI 1 <<< ((nI (p_bit x (nI i)) &&& nI 31) &&& 31))))) H := hP
      have hD : va_D A (wF G o q (upd (p_incN f x i) ((p_bit x (nI i)) / 32) (((p_incN f x i) ((p_bit x (nI i)) / 32)) ||| (nI 1 <<< ((nI (p_bit x (nI i)) &&& nI 31) &&& 31))))) := hD
      have hP : va_P G.1 vwCl (wF G o q (p_incN f x (i + 1))) H := hP
      have hD : va_D A (wF G o q (p_incN f x (i + 1))) := hD
      refine lv_iinc (v := nI (i + 1)) (lv' := [(2, .int (nI (i + 1))), (3, .int (nI (p_bit x (nI i)))), (0, .ref o), (1, .int x)]) hx hb dX0_include_30 hl (k := 3) rfl (inc_N i 1) (by decide) rfl (fun ls hl => ?_)
      refine lv_goto (tgt := 2) hx hb dX0_include_33 (by decide) ?_
      exact ih1 (i + 1) (by omega) (by omega) _ _ _ hP hD hS (lv_sub hl [2, 3, 0] rfl)
set_option maxHeartbeats 4000000 in
set_option maxRecDepth 100000 in
theorem c_mayHave (l : Launch) (G : gG) (sz : Nat) (o q : Nat) (f : Nat → Int32) (x : Int32)  : MetI l yX0_mayHave wsX0_mayHave ({ frames := 3, cells := 0, slots := 0, locals := 65 } : Room) [.ref o, .int x] G (wF G o q f) sz (fun _ : Unit => wF G o q f) (fun r _ => r = bI (allN (p_has f x) 4)) := by
  refine ent_z _ cX0_mayHave 4 RX0 (by decide) rfl rfl (Nat.le_of_ble_eq_true rfl) ?_
  intro p e s m args below meth c A Q ls hx hb hml hts hown hA hK hX ret hl hP hD hS
  have hl : lv_has ls 4 [(0, .ref o), (1, .int x)] := hl
  have lk9 := hts (.fieldLink RX0 9 "MinedLedger$Filter" "bits" "[I") (by decide +kernel)
  have hiX0 : ∀ w ∈ wsX00, w ∈ wsX0_mayHave := by decide +kernel
  refine lv_iconst (v := nI 0) hx hb dX0_mayHave_0 (by decide) ?_
  refine lv_istore_n (lv' := [(2, .int (nI 0)), (0, .ref o), (1, .int x)]) hx hb dX0_mayHave_1 rfl hl (by decide) rfl (fun ls hl => ?_)
  suffices hloop1 : ∀ (fu1 : Nat) (i : Nat), (i ≤ 4) → (∀ j, j < i → p_has f x j = true) → 4 - i < fu1 → ∀ (H : Heap) (locs : List Loc) (ls : Array Slot), va_P G.1 vwCl (wF G o q f) H → va_D A (wF G o q f) → va_S A s.heap H locs → lv_has ls 4 [(0, .ref o), (1, .int x), (2, .int (nI i))] → W p l e ({ frames := 3, cells := 0, slots := 0, locals := 65 } : Room) s m args below meth c H locs 0 0 Q (F0 m 2 ls []) from hloop1 _ 0 (Nat.zero_le _) (fun j h => absurd h (Nat.not_lt_zero j)) (Nat.lt_succ_self _) _ _ _ hP hD hS (lv_sub hl [1, 2, 0] rfl)
  clear hP hD hS hl
  intro fu1
  induction fu1 with
  | zero => intro i hi hm hfu; exact absurd hfu (Nat.not_lt_zero _)
  | succ fu1 ih1 =>
    intro i hi hm hfu1 H locs ls hP hD hS hl
    refine lv_iload_n hx hb dX0_mayHave_2 rfl (lv_at hl 2 rfl) ?_
    refine lv_iconst (v := nI 4) hx hb dX0_mayHave_3 (by decide) ?_
    refine cmp_ge hx hb i 4 39 (by omega) (by omega) dX0_mayHave_4 (by decide) (fun c4 => ?_) (fun c4 => ?_)
    · have e39 : i = 4 := by omega
      subst e39
      refine lv_iconst (v := nI 1) hx hb dX0_mayHave_39 (by decide) ?_
      exact ret 40 _ _ _ (nI 1) () dX0_mayHave_40 (by first | exact Or.inl rfl | exact Or.inr rfl) (al_T hm) hP hD hS
    · refine lv_iload_n hx hb dX0_mayHave_7 rfl (lv_at hl 1 rfl) ?_
      refine lv_iload_n hx hb dX0_mayHave_8 rfl (lv_at hl 2 rfl) ?_
      refine call_Si (wr := ([(o, .inr (0, [.ref q])), (q, .inl (G.2.2.1, 32, .inl f))] : va_W)) [.int x, .int (nI i)] [] ⟨hx, hb, hml, hown, hts⟩ hK hX hA hP hD hS (c_bitOf l G _ x (nI i)) (va_cwS 2 hts gX0_mayHave_X0_bitOf rfl rfl rfl (by decide +kernel) ⟨Nat.le_of_ble_eq_true rfl, Nat.le_of_ble_eq_true rfl⟩) [] [0, 1] rfl rfl (by decide) (by decide) (by decide) rfl hl.1 (Nat.le_of_ble_eq_true rfl) dX0_mayHave_9 ⟨Nat.zero_le _, Nat.zero_le _⟩ (fun r_2 u H locs hw hP hD hS => ?_)
      obtain rfl := hw
      have hP : va_P G.1 vwCl (wF G o q f) H := hP
      have hD : va_D A (wF G o q f) := hD
      refine lv_istore_n (lv' := [(3, .int (nI (p_bit x (nI i)))), (0, .ref o), (1, .int x), (2, .int (nI i))]) hx hb dX0_mayHave_12 rfl hl (by decide) rfl (fun ls hl => ?_)
      refine lv_aload_n hx hb dX0_mayHave_13 rfl (lv_at hl 1 rfl) ?_
      refine va_get (D := G.1) (ci := 0) (v := .ref q) (C := RX0) (T := TX0) (N := 1) hx hb hts hiX0 hown hK hP 0 rfl rfl 0 (by decide) lk9 (fun _ h9 => h9) rfl dX0_mayHave_14 ?_
      refine lv_iload_n hx hb dX0_mayHave_17 rfl (lv_at hl 0 rfl) ?_
      refine lv_iconst (v := nI 5) hx hb dX0_mayHave_18 (by decide) ?_
      refine lv_iushr (v := (p_ush (nI (p_bit x (nI i))) (nI 5))) hx hb dX0_mayHave_19 rfl ?_
      refine top_i (nI ((p_bit x (nI i)) / 32)) (ush5 (p_bit_lt _ _)) ?_
      have hbl := p_bit_lt x (nI i)
      refine rd_i hx hb hK hP 1 rfl ((p_bit x (nI i)) / 32) (by omega) (by omega) dX0_mayHave_20 ?_
      refine lv_iconst (v := nI 1) hx hb dX0_mayHave_21 (by decide) ?_
      refine lv_iload_n hx hb dX0_mayHave_22 rfl (lv_at hl 0 rfl) ?_
      refine lv_bipush (v := nI 31) hx hb dX0_mayHave_23 (by decide) ?_
      refine lv_iand hx hb dX0_mayHave_25 ?_
      refine lv_ishl hx hb dX0_mayHave_26 ?_
      refine lv_iand hx hb dX0_mayHave_27 ?_
      refine lv_if_ne (tgt := 33) hx hb dX0_mayHave_28 (by decide) (fun c28 => ?_) (fun c28 => ?_)
      · refine lv_iinc (v := nI (i + 1)) (lv' := [(2, .int (nI (i + 1))), (3, .int (nI (p_bit x (nI i)))), (0, .ref o), (1, .int x)]) hx hb dX0_mayHave_33 hl (k := 3) rfl (inc_N i 1) (by decide) rfl (fun ls hl => ?_)
        refine lv_goto (tgt := 2) hx hb dX0_mayHave_36 (by decide) ?_
        exact ih1 (i + 1) (by omega) (lt_s hm (p_has_T c28)) (by omega) _ _ _ hP hD hS (lv_sub hl [2, 3, 0] rfl)
      · refine lv_iconst (v := nI 0) hx hb dX0_mayHave_31 (by decide) ?_
        exact ret 32 _ _ _ (nI 0) () dX0_mayHave_32 (by first | exact Or.inl rfl | exact Or.inr rfl) (al_F (i := i) (by omega) (p_has_F c28)) hP hD hS
set_option maxHeartbeats 4000000 in
set_option maxRecDepth 100000 in
theorem c_clear (l : Launch) (G : gG) (sz : Nat) (o q : Nat) (f : Nat → Int32)  : MetV l yX0_clear wsX0_clear ({ frames := 1, cells := 0, slots := 0, locals := 23 } : Room) [.ref o] G (wF G o q f) sz (fun _ : Unit => wF G o q (p_fill f 0 32 (nI 0))) (fun _ => True) := by
  refine ent_v _ cX0_clear 1 RX0 (by decide) rfl rfl (Nat.le_of_ble_eq_true rfl) ?_
  intro p e s m args below meth c A Q ls hx hb hml hts hown hA hK hX ret hl hP hD hS
  have hl : lv_has ls 1 [(0, .ref o)] := hl
  have lk9 := hts (.fieldLink RX0 9 "MinedLedger$Filter" "bits" "[I") (by decide +kernel)
  have hiX0 : ∀ w ∈ wsX00, w ∈ wsX0_clear := by decide +kernel
  refine lv_aload_n hx hb dX0_clear_0 rfl (lv_at hl 0 rfl) ?_
  refine va_get (D := G.1) (ci := 0) (v := .ref q) (C := RX0) (T := TX0) (N := 1) hx hb hts hiX0 hown hK hP 0 rfl rfl 0 (by decide) lk9 (fun _ h9 => h9) rfl dX0_clear_1 ?_
  refine lv_iconst (v := nI 0) hx hb dX0_clear_4 (by decide) ?_
  refine call_Sv (wr := ([(o, .inr (0, [.ref q]))] : va_W)) [.ref q, .int (nI 0)] [] ⟨hx, hb, hml, hown, hts⟩ hK hX hA hP hD hS (c_fill2 l G _ q 32 f (nI 0) (by omega)) (va_cwS 2 hts gX0_clear_J7_fill_53178 rfl rfl rfl (by decide +kernel) ⟨Nat.le_of_ble_eq_true rfl, Nat.le_of_ble_eq_true rfl⟩) [1] [0] rfl rfl (by decide) (by decide) (by decide) rfl hl.1 (Nat.le_of_ble_eq_true rfl) dX0_clear_5 ⟨Nat.zero_le _, Nat.zero_le _⟩ (fun u H locs hw hP hD hS => ?_)
  have hP : va_P G.1 vwCl (wF G o q (p_fill f 0 32 (nI 0))) H := hP
  have hD : va_D A (wF G o q (p_fill f 0 32 (nI 0))) := hD
  exact ret 8 _ _ _ () dX0_clear_8 (trivial) hP hD hS
abbrev wSp (G : gG) (o x y z : Nat) (f : Nat → Int32) : va_W := [(o, .inr (1, [.ref x, .ref y, .ref z])), (z, .inl (G.2.2.1, 64, .inl f))]
set_option maxHeartbeats 4000000 in
set_option maxRecDepth 100000 in
theorem c_spread (l : Launch) (G : gG) (sz : Nat) (o x y z : Nat) (f : Nat → Int32)  : MetV l yX1_spread wsX1_spread ({ frames := 1, cells := 0, slots := 0, locals := 21 } : Room) [.ref o] G (wSp G o x y z f) sz (fun _ : Unit => wSp G o x y z (p_w f)) (fun _ => True) := by
  refine ent_v _ cX1_spread 4 RX1 (by decide) rfl rfl (Nat.le_of_ble_eq_true rfl) ?_
  intro p e s m args below meth c A Q ls hx hb hml hts hown hA hK hX ret hl hP hD hS
  have hl : lv_has ls 4 [(0, .ref o)] := hl
  have lk18 := hts (.fieldLink RX1 18 "MinedLedger$Hasher" "w" "[I") (by decide +kernel)
  have hiX1 : ∀ w ∈ wsX10, w ∈ wsX1_spread := by decide +kernel
  refine lv_bipush (v := nI 16) hx hb dX1_spread_0 (by decide) ?_
  refine lv_istore_n (lv' := [(1, .int (nI 16)), (0, .ref o)]) hx hb dX1_spread_2 rfl hl (by decide) rfl (fun ls hl => ?_)
  suffices hloop1 : ∀ (fu1 : Nat) (k : Nat), (k ≤ 48) → 48 - k < fu1 → ∀ (H : Heap) (locs : List Loc) (ls : Array Slot), va_P G.1 vwCl (wSp G o x y z (p_sprN f k)) H → va_D A (wSp G o x y z (p_sprN f k)) → va_S A s.heap H locs → lv_has ls 4 [(0, .ref o), (1, .int (nI (16 + k)))] → W p l e ({ frames := 1, cells := 0, slots := 0, locals := 21 } : Room) s m args below meth c H locs 0 0 Q (F0 m 3 ls []) from hloop1 _ 0 (Nat.zero_le _) (Nat.lt_succ_self _) _ _ _ hP hD hS (lv_sub hl [1, 0] rfl)
  clear hP hD hS hl
  intro fu1
  induction fu1 with
  | zero => intro k hk hfu; exact absurd hfu (Nat.not_lt_zero _)
  | succ fu1 ih1 =>
    intro k hk hfu1 H locs ls hP hD hS hl
    refine lv_iload_n hx hb dX1_spread_3 rfl (lv_at hl 1 rfl) ?_
    refine lv_bipush (v := nI 64) hx hb dX1_spread_4 (by decide) ?_
    refine cmp_ge hx hb (16 + k) 64 96 (by omega) (by omega) dX1_spread_6 (by decide) (fun c6 => ?_) (fun c6 => ?_)
    · have e96 : k = 48 := by omega
      subst e96
      exact ret 96 _ _ _ () dX1_spread_96 (trivial) hP hD hS
    · refine lv_aload_n hx hb dX1_spread_9 rfl (lv_at hl 0 rfl) ?_
      refine va_get (D := G.1) (ci := 1) (v := .ref z) (C := RX1) (T := TX1) (N := 3) hx hb hts hiX1 hown hK hP 0 rfl rfl 2 (by decide) lk18 (fun _ h9 => h9) rfl dX1_spread_10 ?_
      refine lv_iload_n hx hb dX1_spread_13 rfl (lv_at hl 1 rfl) ?_
      refine lv_bipush (v := nI 15) hx hb dX1_spread_14 (by decide) ?_
      refine su_N hx hb (16 + k) 15 (by omega) dX1_spread_16 ?_
      refine rd_i hx hb hK hP 1 rfl ((16 + k) - 15) (by omega) (by omega) dX1_spread_17 ?_
      refine lv_istore_n (lv' := [(2, .int ((p_sprN f k) ((16 + k) - 15))), (0, .ref o), (1, .int (nI (16 + k)))]) hx hb dX1_spread_18 rfl hl (by decide) rfl (fun ls hl => ?_)
      refine lv_aload_n hx hb dX1_spread_19 rfl (lv_at hl 1 rfl) ?_
      refine va_get (D := G.1) (ci := 1) (v := .ref z) (C := RX1) (T := TX1) (N := 3) hx hb hts hiX1 hown hK hP 0 rfl rfl 2 (by decide) lk18 (fun _ h9 => h9) rfl dX1_spread_20 ?_
      refine lv_iload_n hx hb dX1_spread_23 rfl (lv_at hl 2 rfl) ?_
      refine lv_iconst (v := nI 2) hx hb dX1_spread_24 (by decide) ?_
      refine su_N hx hb (16 + k) 2 (by omega) dX1_spread_25 ?_
      refine rd_i hx hb hK hP 1 rfl ((16 + k) - 2) (by omega) (by omega) dX1_spread_26 ?_
      refine lv_istore_n (lv' := [(3, .int ((p_sprN f k) ((16 + k) - 2))), (2, .int ((p_sprN f k) ((16 + k) - 15))), (0, .ref o), (1, .int (nI (16 + k)))]) hx hb dX1_spread_27 rfl hl (by decide) rfl (fun ls hl => ?_)
      refine lv_aload_n hx hb dX1_spread_28 rfl (lv_at hl 2 rfl) ?_
      refine va_get (D := G.1) (ci := 1) (v := .ref z) (C := RX1) (T := TX1) (N := 3) hx hb hts hiX1 hown hK hP 0 rfl rfl 2 (by decide) lk18 (fun _ h9 => h9) rfl dX1_spread_29 ?_
      refine lv_iload_n hx hb dX1_spread_32 rfl (lv_at hl 3 rfl) ?_
      refine lv_aload_n hx hb dX1_spread_33 rfl (lv_at hl 2 rfl) ?_
      refine va_get (D := G.1) (ci := 1) (v := .ref z) (C := RX1) (T := TX1) (N := 3) hx hb hts hiX1 hown hK hP 0 rfl rfl 2 (by decide) lk18 (fun _ h9 => h9) rfl dX1_spread_34 ?_
      refine lv_iload_n hx hb dX1_spread_37 rfl (lv_at hl 3 rfl) ?_
      refine lv_bipush (v := nI 16) hx hb dX1_spread_38 (by decide) ?_
      refine su_N hx hb (16 + k) 16 (by omega) dX1_spread_40 ?_
      refine rd_i hx hb hK hP 1 rfl ((16 + k) - 16) (by omega) (by omega) dX1_spread_41 ?_
      refine lv_iload_n hx hb dX1_spread_42 rfl (lv_at hl 1 rfl) ?_
      refine lv_bipush (v := nI 7) hx hb dX1_spread_43 (by decide) ?_
      refine call_Ni (wr := ([(o, .inr (1, [.ref x, .ref y, .ref z])), (z, .inl (G.2.2.1, 64, .inl (p_sprN f k)))] : va_W)) [.int ((p_sprN f k) ((16 + k) - 15)), .int (nI 7)] [.int ((p_sprN f k) ((16 + k) - 16)), .int (nI (16 + k)), .ref z] ⟨hx, hb, hml, hown, hts⟩ hK hX hA hP hD hS (c_right l G _ ((p_sprN f k) ((16 + k) - 15)) (nI 7)) ⟨va_cnB 2 hts gX1_spread_X2_right_n57 rfl rfl rfl hX.2.2.2.2.1 (hts (.initialized RX2) (by decide +kernel)) (by decide +kernel) ⟨Nat.le_of_ble_eq_true rfl, Nat.le_of_ble_eq_true rfl⟩, hts (.static yX2_right) (by decide +kernel), trivial⟩ [] [0, 1] rfl rfl (by decide) (by decide) (by decide) rfl hl.1 (Nat.le_of_ble_eq_true rfl) dX1_spread_45 ⟨Nat.zero_le _, Nat.zero_le _⟩ (fun r_2 u H locs hw hP hD hS => ?_)
      obtain rfl := hw
      have hP : va_P G.1 vwCl (wSp G o x y z (p_sprN f k)) H := hP
      have hD : va_D A (wSp G o x y z (p_sprN f k)) := hD
      refine lv_iload_n hx hb dX1_spread_48 rfl (lv_at hl 1 rfl) ?_
      refine lv_bipush (v := nI 18) hx hb dX1_spread_49 (by decide) ?_
      refine call_Ni (wr := ([(o, .inr (1, [.ref x, .ref y, .ref z])), (z, .inl (G.2.2.1, 64, .inl (p_sprN f k)))] : va_W)) [.int ((p_sprN f k) ((16 + k) - 15)), .int (nI 18)] [.int (p_rot ((p_sprN f k) ((16 + k) - 15)) (nI 7)), .int ((p_sprN f k) ((16 + k) - 16)), .int (nI (16 + k)), .ref z] ⟨hx, hb, hml, hown, hts⟩ hK hX hA hP hD hS (c_right l G _ ((p_sprN f k) ((16 + k) - 15)) (nI 18)) ⟨va_cnB 2 hts gX1_spread_X2_right_n57 rfl rfl rfl hX.2.2.2.2.1 (hts (.initialized RX2) (by decide +kernel)) (by decide +kernel) ⟨Nat.le_of_ble_eq_true rfl, Nat.le_of_ble_eq_true rfl⟩, hts (.static yX2_right) (by decide +kernel), trivial⟩ [] [0, 1] rfl rfl (by decide) (by decide) (by decide) rfl hl.1 (Nat.le_of_ble_eq_true rfl) dX1_spread_51 ⟨Nat.zero_le _, Nat.zero_le _⟩ (fun r_3 u H locs hw hP hD hS => ?_)
      obtain rfl := hw
      have hP : va_P G.1 vwCl (wSp G o x y z (p_sprN f k)) H := hP
      have hD : va_D A (wSp G o x y z (p_sprN f k)) := hD
      refine lv_ixor hx hb dX1_spread_54 ?_
      refine lv_iload_n hx hb dX1_spread_55 rfl (lv_at hl 1 rfl) ?_
      refine lv_iconst (v := nI 3) hx hb dX1_spread_56 (by decide) ?_
      refine lv_iushr (v := (p_ush ((p_sprN f k) ((16 + k) - 15)) (nI 3))) hx hb dX1_spread_57 rfl ?_
      refine lv_ixor hx hb dX1_spread_58 ?_
      refine lv_iadd hx hb dX1_spread_59 ?_
      refine lv_aload_n hx hb dX1_spread_60 rfl (lv_at hl 2 rfl) ?_
      refine va_get (D := G.1) (ci := 1) (v := .ref z) (C := RX1) (T := TX1) (N := 3) hx hb hts hiX1 hown hK hP 0 rfl rfl 2 (by decide) lk18 (fun _ h9 => h9) rfl dX1_spread_61 ?_
      refine lv_iload_n hx hb dX1_spread_64 rfl (lv_at hl 3 rfl) ?_
      refine lv_bipush (v := nI 7) hx hb dX1_spread_65 (by decide) ?_
      refine su_N hx hb (16 + k) 7 (by omega) dX1_spread_67 ?_
      refine rd_i hx hb hK hP 1 rfl ((16 + k) - 7) (by omega) (by omega) dX1_spread_68 ?_
      refine lv_iadd hx hb dX1_spread_69 ?_
      refine lv_iload_n hx hb dX1_spread_70 rfl (lv_at hl 0 rfl) ?_
      refine lv_bipush (v := nI 17) hx hb dX1_spread_71 (by decide) ?_
      refine call_Ni (wr := ([(o, .inr (1, [.ref x, .ref y, .ref z])), (z, .inl (G.2.2.1, 64, .inl (p_sprN f k)))] : va_W)) [.int ((p_sprN f k) ((16 + k) - 2)), .int (nI 17)] [.int ((((p_sprN f k) ((16 + k) - 16)) + (((p_rot ((p_sprN f k) ((16 + k) - 15)) (nI 7)) ^^^ (p_rot ((p_sprN f k) ((16 + k) - 15)) (nI 18))) ^^^ (p_ush ((p_sprN f k) ((16 + k) - 15)) (nI 3)))) + ((p_sprN f k) ((16 + k) - 7))), .int (nI (16 + k)), .ref z] ⟨hx, hb, hml, hown, hts⟩ hK hX hA hP hD hS (c_right l G _ ((p_sprN f k) ((16 + k) - 2)) (nI 17)) ⟨va_cnB 2 hts gX1_spread_X2_right_n57 rfl rfl rfl hX.2.2.2.2.1 (hts (.initialized RX2) (by decide +kernel)) (by decide +kernel) ⟨Nat.le_of_ble_eq_true rfl, Nat.le_of_ble_eq_true rfl⟩, hts (.static yX2_right) (by decide +kernel), trivial⟩ [] [0, 1] rfl rfl (by decide) (by decide) (by decide) rfl hl.1 (Nat.le_of_ble_eq_true rfl) dX1_spread_73 ⟨Nat.zero_le _, Nat.zero_le _⟩ (fun r_4 u H locs hw hP hD hS => ?_)
      obtain rfl := hw
      have hP : va_P G.1 vwCl (wSp G o x y z (p_sprN f k)) H := hP
      have hD : va_D A (wSp G o x y z (p_sprN f k)) := hD
      refine lv_iload_n hx hb dX1_spread_76 rfl (lv_at hl 0 rfl) ?_
      refine lv_bipush (v := nI 19) hx hb dX1_spread_77 (by decide) ?_
      refine call_Ni (wr := ([(o, .inr (1, [.ref x, .ref y, .ref z])), (z, .inl (G.2.2.1, 64, .inl (p_sprN f k)))] : va_W)) [.int ((p_sprN f k) ((16 + k) - 2)), .int (nI 19)] [.int (p_rot ((p_sprN f k) ((16 + k) - 2)) (nI 17)), .int ((((p_sprN f k) ((16 + k) - 16)) + (((p_rot ((p_sprN f k) ((16 + k) - 15)) (nI 7)) ^^^ (p_rot ((p_sprN f k) ((16 + k) - 15)) (nI 18))) ^^^ (p_ush ((p_sprN f k) ((16 + k) - 15)) (nI 3)))) + ((p_sprN f k) ((16 + k) - 7))), .int (nI (16 + k)), .ref z] ⟨hx, hb, hml, hown, hts⟩ hK hX hA hP hD hS (c_right l G _ ((p_sprN f k) ((16 + k) - 2)) (nI 19)) ⟨va_cnB 2 hts gX1_spread_X2_right_n57 rfl rfl rfl hX.2.2.2.2.1 (hts (.initialized RX2) (by decide +kernel)) (by decide +kernel) ⟨Nat.le_of_ble_eq_true rfl, Nat.le_of_ble_eq_true rfl⟩, hts (.static yX2_right) (by decide +kernel), trivial⟩ [] [0, 1] rfl rfl (by decide) (by decide) (by decide) rfl hl.1 (Nat.le_of_ble_eq_true rfl) dX1_spread_79 ⟨Nat.zero_le _, Nat.zero_le _⟩ (fun r_5 u H locs hw hP hD hS => ?_)
      obtain rfl := hw
      have hP : va_P G.1 vwCl (wSp G o x y z (p_sprN f k)) H := hP
      have hD : va_D A (wSp G o x y z (p_sprN f k)) := hD
      refine lv_ixor hx hb dX1_spread_82 ?_
      refine lv_iload_n hx hb dX1_spread_83 rfl (lv_at hl 0 rfl) ?_
      refine lv_bipush (v := nI 10) hx hb dX1_spread_84 (by decide) ?_
      refine lv_iushr (v := (p_ush ((p_sprN f k) ((16 + k) - 2)) (nI 10))) hx hb dX1_spread_86 rfl ?_
      refine lv_ixor hx hb dX1_spread_87 ?_
      refine lv_iadd hx hb dX1_spread_88 ?_
      refine wr_i hx hb hK hP hD hS 1 rfl (16 + k) (by omega) (by omega) dX1_spread_89 (fun H locs hP hD hS => ?_)
      have hP : va_P G.1 vwCl (wSp G o x y z (upd (p_sprN f k) (16 + k) (((((p_sprN f k) ((16 + k) - 16)) + (((p_rot ((p_sprN f k) ((16 + k) - 15)) (nI 7)) ^^^ (p_rot ((p_sprN f k) ((16 + k) - 15)) (nI 18))) ^^^ (p_ush ((p_sprN f k) ((16 + k) - 15)) (nI 3)))) + ((p_sprN f k) ((16 + k) - 7))) + (((p_rot ((p_sprN f k) ((16 + k) - 2)) (nI 17)) ^^^ (p_rot ((p_sprN f k) ((16 + k) - 2)) (nI 19))) ^^^ (p_ush ((p_sprN f k) ((16 + k) - 2)) (nI 10)))))) H := hP
      have hD : va_D A (wSp G o x y z (upd (p_sprN f k) (16 + k) (((((p_sprN f k) ((16 + k) - 16)) + (((p_rot ((p_sprN f k) ((16 + k) - 15)) (nI 7)) ^^^ (p_rot ((p_sprN f k) ((16 + k) - 15)) (nI 18))) ^^^ (p_ush ((p_sprN f k) ((16 + k) - 15)) (nI 3)))) + ((p_sprN f k) ((16 + k) - 7))) + (((p_rot ((p_sprN f k) ((16 + k) - 2)) (nI 17)) ^^^ (p_rot ((p_sprN f k) ((16 + k) - 2)) (nI 19))) ^^^ (p_ush ((p_sprN f k) ((16 + k) - 2)) (nI 10)))))) := hD
      have hP : va_P G.1 vwCl (wSp G o x y z (p_sprN f (k + 1))) H := hP
      have hD : va_D A (wSp G o x y z (p_sprN f (k + 1))) := hD
      refine lv_iinc (v := nI (16 + k + 1)) (lv' := [(1, .int (nI (16 + k + 1))), (3, .int ((p_sprN f k) ((16 + k) - 2))), (2, .int ((p_sprN f k) ((16 + k) - 15))), (0, .ref o)]) hx hb dX1_spread_90 hl (k := 3) rfl (inc_N (16 + k) 1) (by decide) rfl (fun ls hl => ?_)
      refine lv_goto (tgt := 3) hx hb dX1_spread_93 (by decide) ?_
      exact ih1 (k + 1) (by omega) (by omega) _ _ _ hP hD hS (lv_sub hl [3, 0] rfl)
end
section
def p_h1 (f : Nat → Int32) (k : Nat) : Nat → Int32 := p_mix st_S (fun i => f (k + i))
def p_b2 (f : Nat → Int32) (k : Nat) : Nat → Int32 := fun j => if j < 10 then f (k + 16 + j) else if j = 10 then (-2147483648) else if j = 15 then nI 832 else nI 0
def p_hash (f : Nat → Int32) (k : Nat) : Nat → Int32 := p_mix (p_h1 f k) (p_b2 f k)
def p_is (g f : Nat → Int32) (k : Nat) (i : Nat) : Bool := decide (f (k + i) = g i)
theorem p_spr_congr {w v : Nat → Int32} (h : ∀ j, j < 16 → w j = v j) : ∀ k j, j < 16 + k → p_sprN w k j = p_sprN v k j
  | 0, j, hj => h j (by omega)
  | k + 1, j, hj => by
    have ih := p_spr_congr h k
    by_cases q : j = 16 + k
    · subst q
      show upd _ _ _ _ = upd _ _ _ _
      rw [pk_us, pk_us]
      simp only [p_nw]
      rw [ih (16 + k - 16) (by omega), ih (16 + k - 15) (by omega), ih (16 + k - 7) (by omega), ih (16 + k - 2) (by omega)]
    · show upd _ _ _ _ = upd _ _ _ _
      rw [pk_un q, pk_un q]
      exact ih j (by omega)
theorem p_rs_congr {w v : Nat → Int32} (s : p_T) (N : Nat) (h : ∀ j, j < N → w j = v j) : ∀ n, n ≤ N → p_rs w s n = p_rs v s n
  | 0, _ => rfl
  | n + 1, hn => by
    show p_rnd _ _ _ = p_rnd _ _ _
    rw [p_rs_congr s N h n (by omega), h n (by omega)]
theorem p_mix_congr {h g w v : Nat → Int32} (hh : ∀ j, j < 8 → h j = g j) (hw : ∀ j, j < 16 → w j = v j) : ∀ j, j < 8 → p_mix h w j = p_mix g v j := by
  have et : p_tup h = p_tup g := by
    simp only [p_tup]
    rw [hh 0 (by decide), hh 1 (by decide), hh 2 (by decide), hh 3 (by decide), hh 4 (by decide), hh 5 (by decide), hh 6 (by decide), hh 7 (by decide)]
  have er : p_rs (p_w w) (p_tup h) 64 = p_rs (p_w v) (p_tup g) 64 := by
    rw [et]
    exact p_rs_congr _ 64 (fun j hj => p_spr_congr hw 48 j (by omega)) 64 (Nat.le_refl _)
  intro j hj
  simp only [p_mix]
  rw [er]
  generalize p_rs (p_w v) (p_tup g) 64 = t
  have e := hh j hj
  match j, hj, e with
  | 0, _, e => simp [p_add, upd, e]
  | 1, _, e => simp [p_add, upd, e]
  | 2, _, e => simp [p_add, upd, e]
  | 3, _, e => simp [p_add, upd, e]
  | 4, _, e => simp [p_add, upd, e]
  | 5, _, e => simp [p_add, upd, e]
  | 6, _, e => simp [p_add, upd, e]
  | 7, _, e => simp [p_add, upd, e]
theorem p_b2_ok (f g : Nat → Int32) (k : Nat) : ∀ j, j < 16 → upd (p_fill (upd (va_cpy f g (k + 16) 0 10) 10 (-2147483648)) (10 + 1) 15 (nI 0)) 15 (nI 832) j = p_b2 f k j := by
  intro j hj
  by_cases h15 : j = 15
  · subst h15; rw [pk_us]; rfl
  · rw [pk_un h15]
    simp only [p_fill]
    by_cases h11 : 10 + 1 ≤ j ∧ j < 15
    · rw [if_pos h11]
      simp only [p_b2]
      rw [if_neg (by omega), if_neg (by omega), if_neg h15]
    · rw [if_neg h11]
      by_cases h10 : j = 10
      · subst h10; rw [pk_us]; rfl
      · rw [pk_un h10, pk_cpy_in (Nat.zero_le _) (by omega)]
        simp only [p_b2]
        rw [if_pos (by omega)]
        congr 1
/-- leading zeros -/
def p_lz (x : Int32) : Nat := if x.toBitVec.toNat = 0 then 32 else 31 - Nat.log2 x.toBitVec.toNat
def p_zr (h : Nat → Int32) : Nat → Nat → Nat
  | 0, i => 32 * i
  | n + 1, i => if h i = 0 then p_zr h n (i + 1) else 32 * i + p_lz (h i)
def p_zeros (h : Nat → Int32) : Nat := p_zr h 8 0
theorem p_zr_skip {h : Nat → Int32} : ∀ (i n k : Nat), (∀ j, j < i → h (k + j) = 0) → p_zr h (i + n) k = p_zr h n (k + i)
  | 0, n, k, _ => by rw [Nat.zero_add, Nat.add_zero]
  | i + 1, n, k, hz => by
    rw [show i + 1 + n = (i + n) + 1 by omega, p_zr, if_pos (by have := hz 0 (by omega); rwa [Nat.add_zero] at this), p_zr_skip i n (k + 1) (fun j hj => by rw [show k + 1 + j = k + (j + 1) by omega]; exact hz (j + 1) (by omega)), show k + 1 + i = k + (i + 1) by omega]
theorem zeros_at {h : Nat → Int32} {i : Nat} (hi : i < 8) (hz : ∀ j, j < i → h j = 0) (hn : ¬ h i = 0) : nI (32 * i + p_lz (h i)) = nI (p_zeros h) := by
  have e := p_zr_skip (h := h) i (8 - i) 0 (fun j hj => by rw [Nat.zero_add]; exact hz j hj)
  rw [show i + (8 - i) = 8 by omega, Nat.zero_add] at e
  rw [p_zeros, e, show 8 - i = (7 - i) + 1 by omega, p_zr, if_neg hn]
theorem zeros_all {h : Nat → Int32} (hz : ∀ j, j < 8 → h j = 0) : nI 256 = nI (p_zeros h) := by
  have e := p_zr_skip (h := h) 8 0 0 (fun j hj => by rw [Nat.zero_add]; exact hz j hj)
  rw [p_zeros, e]; rfl
theorem lz_log {v k : Nat} {q : Nat} (hq : v / 2 ^ k = q) (h1 : 1 ≤ q) (h2 : q < 4) : Nat.log2 v = k + q / 2 := by
  have hv : v ≠ 0 := by intro z; rw [z, Nat.zero_div] at hq; omega
  have hp : 0 < 2 ^ k := Nat.two_pow_pos k
  have lo : 2 ^ k * q ≤ v := by rw [← hq]; exact Nat.mul_div_le v (2 ^ k)
  have up : v < 2 ^ k * (q + 1) := by rw [← hq]; exact Nat.lt_mul_div_succ v hp
  apply (Nat.log2_eq_iff hv).mpr
  rcases (show q = 1 ∨ q = 2 ∨ q = 3 by omega) with rfl | rfl | rfl
  · refine ⟨by simpa using lo, ?_⟩
    rw [show k + 1 / 2 + 1 = k + 1 by omega, Nat.pow_succ]; omega
  · refine ⟨?_, ?_⟩
    · rw [show k + 2 / 2 = k + 1 by omega, Nat.pow_succ]; omega
    · rw [show k + 2 / 2 + 1 = k + 1 + 1 by omega, Nat.pow_succ, Nat.pow_succ]; omega
  · refine ⟨?_, ?_⟩
    · rw [show k + 3 / 2 = k + 1 by omega, Nat.pow_succ]; omega
    · rw [show k + 3 / 2 + 1 = k + 1 + 1 by omega, Nat.pow_succ, Nat.pow_succ]; omega
theorem lz_N {v : Nat} (h0 : 0 < v) (hv : v < 2147483648) : p_lz (nI v) = 31 - Nat.log2 v := by
  simp only [p_lz]
  rw [pk_tn (by omega), if_neg (by omega)]
theorem lz_leaf {v k : Nat} (hv : 0 < v ∧ v < 2147483648) (q : Nat) {n : Nat} (hq : q = v / 2 ^ k ∧ n = 31 - k) (h1 : 1 ≤ q) (h2 : q < 4) : nI (n - q / 2) = nI (p_lz (nI v)) := by
  rw [lz_N hv.1 hv.2, lz_log hq.1.symm h1 h2, hq.2]
  congr 1
  omega
theorem lz_0 {x : Int32} (h : x = 0) : nI 32 = nI (p_lz x) := by subst h; rfl
theorem lz_neg {x : Int32} (h : x.toInt ≤ 0) (h0 : ¬ x = 0) : nI 0 = nI (p_lz x) := by
  have ht : x.toBitVec.toNat ≠ 0 := by
    intro z
    exact h0 (Int32.toBitVec_inj.mp (BitVec.eq_of_toNat_eq (by rw [z]; rfl)))
  have hlt : x.toBitVec.toNat < 2 ^ 32 := x.toBitVec.isLt
  have hge : 2 ^ 31 ≤ x.toBitVec.toNat := by
    have e : x.toInt = x.toBitVec.toInt := rfl
    rw [e, BitVec.toInt_eq_toNat_cond] at h
    split at h <;> omega
  have hl : Nat.log2 x.toBitVec.toNat = 31 := (Nat.log2_eq_iff ht).mpr ⟨hge, hlt⟩
  simp only [p_lz]
  rw [if_neg ht, hl]
theorem cpy_0 {f g : Nat → Int32} {k n j : Nat} (h : j < n) : va_cpy f g k 0 n j = f (k + j) := by
  rw [pk_cpy_in (Nat.zero_le _) (by omega), Nat.sub_zero]
theorem cpy_00 {f g : Nat → Int32} {n j : Nat} (h : j < n) : va_cpy f g 0 0 n j = f j := by rw [cpy_0 h, Nat.zero_add]
end
section
abbrev wMx (G : gG) (o x y z q : Nat) (f g : Nat → Int32) : va_W := [(o, .inr (1, [.ref x, .ref y, .ref z])), (z, .inl (G.2.2.1, 64, .inl f)), (q, .inl (G.2.2.1, 8, .inl g))]
set_option maxHeartbeats 4000000 in
set_option maxRecDepth 100000 in
theorem c_mixInto (l : Launch) (G : gG) (sz : Nat) (o x y z q : Nat) (f g : Nat → Int32)  : MetV l yX1_mixInto wsX1_mixInto ({ frames := 2, cells := 0, slots := 0, locals := 44 } : Room) [.ref o, .ref q] G (wMx G o x y z q f g) sz (fun _ : Unit => wMx G o x y z q (p_w f) (p_mix g f)) (fun _ => True) := by
  refine ent_v _ cX1_mixInto 13 RX1 (by decide) rfl rfl (Nat.le_of_ble_eq_true rfl) ?_
  intro p e s m args below meth c A Q ls hx hb hml hts hown hA hK hX ret hl hP hD hS
  have hl : lv_has ls 13 [(0, .ref o), (1, .ref q)] := hl
  have lk18 := hts (.fieldLink RX1 18 "MinedLedger$Hasher" "w" "[I") (by decide +kernel)
  have lk61 := hts (.fieldLink RX1 61 "MinedLedger$Hasher" "K" "[I") (by decide +kernel)
  have hiX1 : ∀ w ∈ wsX10, w ∈ wsX1_mixInto := by decide +kernel
  refine lv_aload_n hx hb dX1_mixInto_0 rfl (lv_at hl 0 rfl) ?_
  refine call_Vv (wr := ([(q, .inl (G.2.2.1, 8, .inl g))] : va_W)) [] [] ⟨hx, hb, hml, hown, hts⟩ hK hX hA hP hD hS (c_spread l G _ o x y z f) (cwV 0 hts gX1_mixInto_X1_spread rfl rfl rfl (by decide +kernel) ⟨Nat.le_of_ble_eq_true rfl, Nat.le_of_ble_eq_true rfl⟩) 1 0 rfl rfl rfl [0, 1] [2] rfl rfl (by decide) (by decide) (by decide) rfl hl.1 (Nat.le_of_ble_eq_true rfl) dX1_mixInto_1 ⟨Nat.zero_le _, Nat.zero_le _⟩ (fun u H locs hw hP hD hS => ?_)
  have hP : va_P G.1 vwCl (wMx G o x y z q (p_w f) g) H := hP.sub [1, 2, 0] rfl
  have hD : va_D A (wMx G o x y z q (p_w f) g) := hD.sub [1, 2, 0] (by decide) rfl
  refine lv_aload_n hx hb dX1_mixInto_4 rfl (lv_at hl 1 rfl) ?_
  refine lv_iconst (v := nI 0) hx hb dX1_mixInto_5 (by decide) ?_
  refine rd_i hx hb hK hP 2 rfl 0 (by omega) (by omega) dX1_mixInto_6 ?_
  refine lv_istore_n (lv' := [(2, .int (g 0)), (0, .ref o), (1, .ref q)]) hx hb dX1_mixInto_7 rfl hl (by decide) rfl (fun ls hl => ?_)
  refine lv_aload_n hx hb dX1_mixInto_8 rfl (lv_at hl 2 rfl) ?_
  refine lv_iconst (v := nI 1) hx hb dX1_mixInto_9 (by decide) ?_
  refine rd_i hx hb hK hP 2 rfl 1 (by omega) (by omega) dX1_mixInto_10 ?_
  refine lv_istore_n (lv' := [(3, .int (g 1)), (2, .int (g 0)), (0, .ref o), (1, .ref q)]) hx hb dX1_mixInto_11 rfl hl (by decide) rfl (fun ls hl => ?_)
  refine lv_aload_n hx hb dX1_mixInto_12 rfl (lv_at hl 3 rfl) ?_
  refine lv_iconst (v := nI 2) hx hb dX1_mixInto_13 (by decide) ?_
  refine rd_i hx hb hK hP 2 rfl 2 (by omega) (by omega) dX1_mixInto_14 ?_
  refine lv_istore (lv' := [(4, .int (g 2)), (3, .int (g 1)), (2, .int (g 0)), (0, .ref o), (1, .ref q)]) hx hb dX1_mixInto_15 hl (by decide) rfl (fun ls hl => ?_)
  refine lv_aload_n hx hb dX1_mixInto_17 rfl (lv_at hl 4 rfl) ?_
  refine lv_iconst (v := nI 3) hx hb dX1_mixInto_18 (by decide) ?_
  refine rd_i hx hb hK hP 2 rfl 3 (by omega) (by omega) dX1_mixInto_19 ?_
  refine lv_istore (lv' := [(5, .int (g 3)), (4, .int (g 2)), (3, .int (g 1)), (2, .int (g 0)), (0, .ref o), (1, .ref q)]) hx hb dX1_mixInto_20 hl (by decide) rfl (fun ls hl => ?_)
  refine lv_aload_n hx hb dX1_mixInto_22 rfl (lv_at hl 5 rfl) ?_
  refine lv_iconst (v := nI 4) hx hb dX1_mixInto_23 (by decide) ?_
  refine rd_i hx hb hK hP 2 rfl 4 (by omega) (by omega) dX1_mixInto_24 ?_
  refine lv_istore (lv' := [(6, .int (g 4)), (5, .int (g 3)), (4, .int (g 2)), (3, .int (g 1)), (2, .int (g 0)), (0, .ref o), (1, .ref q)]) hx hb dX1_mixInto_25 hl (by decide) rfl (fun ls hl => ?_)
  refine lv_aload_n hx hb dX1_mixInto_27 rfl (lv_at hl 6 rfl) ?_
  refine lv_iconst (v := nI 5) hx hb dX1_mixInto_28 (by decide) ?_
  refine rd_i hx hb hK hP 2 rfl 5 (by omega) (by omega) dX1_mixInto_29 ?_
  refine lv_istore (lv' := [(7, .int (g 5)), (6, .int (g 4)), (5, .int (g 3)), (4, .int (g 2)), (3, .int (g 1)), (2, .int (g 0)), (0, .ref o), (1, .ref q)]) hx hb dX1_mixInto_30 hl (by decide) rfl (fun ls hl => ?_)
  refine lv_aload_n hx hb dX1_mixInto_32 rfl (lv_at hl 7 rfl) ?_
  refine lv_bipush (v := nI 6) hx hb dX1_mixInto_33 (by decide) ?_
  refine rd_i hx hb hK hP 2 rfl 6 (by omega) (by omega) dX1_mixInto_35 ?_
  refine lv_istore (lv' := [(8, .int (g 6)), (7, .int (g 5)), (6, .int (g 4)), (5, .int (g 3)), (4, .int (g 2)), (3, .int (g 1)), (2, .int (g 0)), (0, .ref o), (1, .ref q)]) hx hb dX1_mixInto_36 hl (by decide) rfl (fun ls hl => ?_)
  refine lv_aload_n hx hb dX1_mixInto_38 rfl (lv_at hl 8 rfl) ?_
  refine lv_bipush (v := nI 7) hx hb dX1_mixInto_39 (by decide) ?_
  refine rd_i hx hb hK hP 2 rfl 7 (by omega) (by omega) dX1_mixInto_41 ?_
  refine lv_istore (lv' := [(9, .int (g 7)), (8, .int (g 6)), (7, .int (g 5)), (6, .int (g 4)), (5, .int (g 3)), (4, .int (g 2)), (3, .int (g 1)), (2, .int (g 0)), (0, .ref o), (1, .ref q)]) hx hb dX1_mixInto_42 hl (by decide) rfl (fun ls hl => ?_)
  refine lv_iconst (v := nI 0) hx hb dX1_mixInto_44 (by decide) ?_
  refine lv_istore (lv' := [(10, .int (nI 0)), (9, .int (g 7)), (8, .int (g 6)), (7, .int (g 5)), (6, .int (g 4)), (5, .int (g 3)), (4, .int (g 2)), (3, .int (g 1)), (2, .int (g 0)), (0, .ref o), (1, .ref q)]) hx hb dX1_mixInto_45 hl (by decide) rfl (fun ls hl => ?_)
  suffices hloop1 : ∀ (fu1 : Nat) (t : Nat) (v1 : Int32) (v2 : Int32) (v3 : Int32) (v4 : Int32) (v5 : Int32) (v6 : Int32) (v7 : Int32) (v8 : Int32), (t ≤ 64) → ((v1, v2, v3, v4, v5, v6, v7, v8) = p_rs (p_w f) (p_tup g) t) → 64 - t < fu1 → ∀ (H : Heap) (locs : List Loc) (ls : Array Slot), va_P G.1 vwCl (wMx G o x y z q (p_w f) g) H → va_D A (wMx G o x y z q (p_w f) g) → va_S A s.heap H locs → lv_has ls 13 [(0, .ref o), (1, .ref q), (2, .int v1), (3, .int v2), (4, .int v3), (5, .int v4), (6, .int v5), (7, .int v6), (8, .int v7), (9, .int v8), (10, .int (nI t))] → W p l e ({ frames := 2, cells := 0, slots := 0, locals := 44 } : Room) s m args below meth c H locs 0 0 Q (F0 m 47 ls []) from hloop1 _ 0 (g 0) (g 1) (g 2) (g 3) (g 4) (g 5) (g 6) (g 7) (Nat.zero_le _) rfl (Nat.lt_succ_self _) _ _ _ hP hD hS (lv_sub hl [9, 10, 8, 7, 6, 5, 4, 3, 2, 1, 0] rfl)
  clear hP hD hS hl
  intro fu1
  induction fu1 with
  | zero => intro t v1 v2 v3 v4 v5 v6 v7 v8 ht hst hfu; exact absurd hfu (Nat.not_lt_zero _)
  | succ fu1 ih1 =>
    intro t v1 v2 v3 v4 v5 v6 v7 v8 ht hst hfu1 H locs ls hP hD hS hl
    refine lv_iload hx hb dX1_mixInto_47 (lv_at hl 10 rfl) ?_
    refine lv_bipush (v := nI 64) hx hb dX1_mixInto_49 (by decide) ?_
    refine cmp_ge hx hb t 64 186 (by omega) (by omega) dX1_mixInto_51 (by decide) (fun c51 => ?_) (fun c51 => ?_)
    · have e186 : t = 64 := by omega
      subst e186
      refine lv_aload_n hx hb dX1_mixInto_186 rfl (lv_at hl 1 rfl) ?_
      refine lv_iconst (v := nI 0) hx hb dX1_mixInto_187 (by decide) ?_
      refine lv_dup2_11 hx hb dX1_mixInto_188 rfl rfl ?_
      refine rd_i hx hb hK hP 2 rfl 0 (by omega) (by omega) dX1_mixInto_189 ?_
      refine top_i (g 0) rfl ?_
      refine lv_iload_n hx hb dX1_mixInto_190 rfl (lv_at hl 2 rfl) ?_
      refine lv_iadd hx hb dX1_mixInto_191 ?_
      refine wr_i hx hb hK hP hD hS 2 rfl 0 (by omega) (by omega) dX1_mixInto_192 (fun H locs hP hD hS => ?_)
      have hP : va_P G.1 vwCl (wMx G o x y z q (p_w f) (upd g 0 ((g 0) + v1))) H := hP
      have hD : va_D A (wMx G o x y z q (p_w f) (upd g 0 ((g 0) + v1))) := hD
      refine lv_aload_n hx hb dX1_mixInto_193 rfl (lv_at hl 1 rfl) ?_
      refine lv_iconst (v := nI 1) hx hb dX1_mixInto_194 (by decide) ?_
      refine lv_dup2_11 hx hb dX1_mixInto_195 rfl rfl ?_
      refine rd_i hx hb hK hP 2 rfl 1 (by omega) (by omega) dX1_mixInto_196 ?_
      refine top_i (g 1) rfl ?_
      refine lv_iload_n hx hb dX1_mixInto_197 rfl (lv_at hl 3 rfl) ?_
      refine lv_iadd hx hb dX1_mixInto_198 ?_
      refine wr_i hx hb hK hP hD hS 2 rfl 1 (by omega) (by omega) dX1_mixInto_199 (fun H locs hP hD hS => ?_)
      have hP : va_P G.1 vwCl (wMx G o x y z q (p_w f) (upd (upd g 0 ((g 0) + v1)) 1 ((g 1) + v2))) H := hP
      have hD : va_D A (wMx G o x y z q (p_w f) (upd (upd g 0 ((g 0) + v1)) 1 ((g 1) + v2))) := hD
      refine lv_aload_n hx hb dX1_mixInto_200 rfl (lv_at hl 1 rfl) ?_
      refine lv_iconst (v := nI 2) hx hb dX1_mixInto_201 (by decide) ?_
      refine lv_dup2_11 hx hb dX1_mixInto_202 rfl rfl ?_
      refine rd_i hx hb hK hP 2 rfl 2 (by omega) (by omega) dX1_mixInto_203 ?_
      refine top_i (g 2) rfl ?_
      refine lv_iload hx hb dX1_mixInto_204 (lv_at hl 4 rfl) ?_
      refine lv_iadd hx hb dX1_mixInto_206 ?_
      refine wr_i hx hb hK hP hD hS 2 rfl 2 (by omega) (by omega) dX1_mixInto_207 (fun H locs hP hD hS => ?_)
      have hP : va_P G.1 vwCl (wMx G o x y z q (p_w f) (upd (upd (upd g 0 ((g 0) + v1)) 1 ((g 1) + v2)) 2 ((g 2) + v3))) H := hP
      have hD : va_D A (wMx G o x y z q (p_w f) (upd (upd (upd g 0 ((g 0) + v1)) 1 ((g 1) + v2)) 2 ((g 2) + v3))) := hD
      refine lv_aload_n hx hb dX1_mixInto_208 rfl (lv_at hl 1 rfl) ?_
      refine lv_iconst (v := nI 3) hx hb dX1_mixInto_209 (by decide) ?_
      refine lv_dup2_11 hx hb dX1_mixInto_210 rfl rfl ?_
      refine rd_i hx hb hK hP 2 rfl 3 (by omega) (by omega) dX1_mixInto_211 ?_
      refine top_i (g 3) rfl ?_
      refine lv_iload hx hb dX1_mixInto_212 (lv_at hl 5 rfl) ?_
      refine lv_iadd hx hb dX1_mixInto_214 ?_
      refine wr_i hx hb hK hP hD hS 2 rfl 3 (by omega) (by omega) dX1_mixInto_215 (fun H locs hP hD hS => ?_)
      have hP : va_P G.1 vwCl (wMx G o x y z q (p_w f) (upd (upd (upd (upd g 0 ((g 0) + v1)) 1 ((g 1) + v2)) 2 ((g 2) + v3)) 3 ((g 3) + v4))) H := hP
      have hD : va_D A (wMx G o x y z q (p_w f) (upd (upd (upd (upd g 0 ((g 0) + v1)) 1 ((g 1) + v2)) 2 ((g 2) + v3)) 3 ((g 3) + v4))) := hD
      refine lv_aload_n hx hb dX1_mixInto_216 rfl (lv_at hl 1 rfl) ?_
      refine lv_iconst (v := nI 4) hx hb dX1_mixInto_217 (by decide) ?_
      refine lv_dup2_11 hx hb dX1_mixInto_218 rfl rfl ?_
      refine rd_i hx hb hK hP 2 rfl 4 (by omega) (by omega) dX1_mixInto_219 ?_
      refine top_i (g 4) rfl ?_
      refine lv_iload hx hb dX1_mixInto_220 (lv_at hl 6 rfl) ?_
      refine lv_iadd hx hb dX1_mixInto_222 ?_
      refine wr_i hx hb hK hP hD hS 2 rfl 4 (by omega) (by omega) dX1_mixInto_223 (fun H locs hP hD hS => ?_)
      have hP : va_P G.1 vwCl (wMx G o x y z q (p_w f) (upd (upd (upd (upd (upd g 0 ((g 0) + v1)) 1 ((g 1) + v2)) 2 ((g 2) + v3)) 3 ((g 3) + v4)) 4 ((g 4) + v5))) H := hP
      have hD : va_D A (wMx G o x y z q (p_w f) (upd (upd (upd (upd (upd g 0 ((g 0) + v1)) 1 ((g 1) + v2)) 2 ((g 2) + v3)) 3 ((g 3) + v4)) 4 ((g 4) + v5))) := hD
      refine lv_aload_n hx hb dX1_mixInto_224 rfl (lv_at hl 1 rfl) ?_
      refine lv_iconst (v := nI 5) hx hb dX1_mixInto_225 (by decide) ?_
      refine lv_dup2_11 hx hb dX1_mixInto_226 rfl rfl ?_
      refine rd_i hx hb hK hP 2 rfl 5 (by omega) (by omega) dX1_mixInto_227 ?_
      refine top_i (g 5) rfl ?_
      refine lv_iload hx hb dX1_mixInto_228 (lv_at hl 7 rfl) ?_
      refine lv_iadd hx hb dX1_mixInto_230 ?_
      refine wr_i hx hb hK hP hD hS 2 rfl 5 (by omega) (by omega) dX1_mixInto_231 (fun H locs hP hD hS => ?_)
      have hP : va_P G.1 vwCl (wMx G o x y z q (p_w f) (upd (upd (upd (upd (upd (upd g 0 ((g 0) + v1)) 1 ((g 1) + v2)) 2 ((g 2) + v3)) 3 ((g 3) + v4)) 4 ((g 4) + v5)) 5 ((g 5) + v6))) H := hP
      have hD : va_D A (wMx G o x y z q (p_w f) (upd (upd (upd (upd (upd (upd g 0 ((g 0) + v1)) 1 ((g 1) + v2)) 2 ((g 2) + v3)) 3 ((g 3) + v4)) 4 ((g 4) + v5)) 5 ((g 5) + v6))) := hD
      refine lv_aload_n hx hb dX1_mixInto_232 rfl (lv_at hl 1 rfl) ?_
      refine lv_bipush (v := nI 6) hx hb dX1_mixInto_233 (by decide) ?_
      refine lv_dup2_11 hx hb dX1_mixInto_235 rfl rfl ?_
      refine rd_i hx hb hK hP 2 rfl 6 (by omega) (by omega) dX1_mixInto_236 ?_
      refine top_i (g 6) rfl ?_
      refine lv_iload hx hb dX1_mixInto_237 (lv_at hl 8 rfl) ?_
      refine lv_iadd hx hb dX1_mixInto_239 ?_
      refine wr_i hx hb hK hP hD hS 2 rfl 6 (by omega) (by omega) dX1_mixInto_240 (fun H locs hP hD hS => ?_)
      have hP : va_P G.1 vwCl (wMx G o x y z q (p_w f) (upd (upd (upd (upd (upd (upd (upd g 0 ((g 0) + v1)) 1 ((g 1) + v2)) 2 ((g 2) + v3)) 3 ((g 3) + v4)) 4 ((g 4) + v5)) 5 ((g 5) + v6)) 6 ((g 6) + v7))) H := hP
      have hD : va_D A (wMx G o x y z q (p_w f) (upd (upd (upd (upd (upd (upd (upd g 0 ((g 0) + v1)) 1 ((g 1) + v2)) 2 ((g 2) + v3)) 3 ((g 3) + v4)) 4 ((g 4) + v5)) 5 ((g 5) + v6)) 6 ((g 6) + v7))) := hD
      refine lv_aload_n hx hb dX1_mixInto_241 rfl (lv_at hl 1 rfl) ?_
      refine lv_bipush (v := nI 7) hx hb dX1_mixInto_242 (by decide) ?_
      refine lv_dup2_11 hx hb dX1_mixInto_244 rfl rfl ?_
      refine rd_i hx hb hK hP 2 rfl 7 (by omega) (by omega) dX1_mixInto_245 ?_
      refine top_i (g 7) rfl ?_
      refine lv_iload hx hb dX1_mixInto_246 (lv_at hl 9 rfl) ?_
      refine lv_iadd hx hb dX1_mixInto_248 ?_
      refine wr_i hx hb hK hP hD hS 2 rfl 7 (by omega) (by omega) dX1_mixInto_249 (fun H locs hP hD hS => ?_)
      have hP : va_P G.1 vwCl (wMx G o x y z q (p_w f) (upd (upd (upd (upd (upd (upd (upd (upd g 0 ((g 0) + v1)) 1 ((g 1) + v2)) 2 ((g 2) + v3)) 3 ((g 3) + v4)) 4 ((g 4) + v5)) 5 ((g 5) + v6)) 6 ((g 6) + v7)) 7 ((g 7) + v8))) H := hP
      have hD : va_D A (wMx G o x y z q (p_w f) (upd (upd (upd (upd (upd (upd (upd (upd g 0 ((g 0) + v1)) 1 ((g 1) + v2)) 2 ((g 2) + v3)) 3 ((g 3) + v4)) 4 ((g 4) + v5)) 5 ((g 5) + v6)) 6 ((g 6) + v7)) 7 ((g 7) + v8))) := hD
      have em : p_mix g f = p_add g (v1, v2, v3, v4, v5, v6, v7, v8) := by rw [hst]; rfl
      have hP : va_P G.1 vwCl (wMx G o x y z q (p_w f) (p_mix g f)) H := by rw [em]; exact hP
      have hD : va_D A (wMx G o x y z q (p_w f) (p_mix g f)) := by rw [em]; exact hD
      exact ret 250 _ _ _ () dX1_mixInto_250 (trivial) hP hD hS
    · refine lv_iload hx hb dX1_mixInto_54 (lv_at hl 9 rfl) ?_
      refine lv_iload hx hb dX1_mixInto_56 (lv_at hl 6 rfl) ?_
      refine lv_bipush (v := nI 6) hx hb dX1_mixInto_58 (by decide) ?_
      refine call_Ni (wr := ([(o, .inr (1, [.ref x, .ref y, .ref z])), (z, .inl (G.2.2.1, 64, .inl (p_w f))), (q, .inl (G.2.2.1, 8, .inl g))] : va_W)) [.int v5, .int (nI 6)] [.int v8] ⟨hx, hb, hml, hown, hts⟩ hK hX hA hP hD hS (c_right l G _ v5 (nI 6)) ⟨va_cnB 2 hts gX1_mixInto_X2_right_n57 rfl rfl rfl hX.2.2.2.2.1 (hts (.initialized RX2) (by decide +kernel)) (by decide +kernel) ⟨Nat.le_of_ble_eq_true rfl, Nat.le_of_ble_eq_true rfl⟩, hts (.static yX2_right) (by decide +kernel), trivial⟩ [] [0, 1, 2] rfl rfl (by decide) (by decide) (by decide) rfl hl.1 (Nat.le_of_ble_eq_true rfl) dX1_mixInto_60 ⟨Nat.zero_le _, Nat.zero_le _⟩ (fun r_3 u H locs hw hP hD hS => ?_)
      obtain rfl := hw
      have hP : va_P G.1 vwCl (wMx G o x y z q (p_w f) g) H := hP
      have hD : va_D A (wMx G o x y z q (p_w f) g) := hD
      refine lv_iload hx hb dX1_mixInto_63 (lv_at hl 6 rfl) ?_
      refine lv_bipush (v := nI 11) hx hb dX1_mixInto_65 (by decide) ?_
      refine call_Ni (wr := ([(o, .inr (1, [.ref x, .ref y, .ref z])), (z, .inl (G.2.2.1, 64, .inl (p_w f))), (q, .inl (G.2.2.1, 8, .inl g))] : va_W)) [.int v5, .int (nI 11)] [.int (p_rot v5 (nI 6)), .int v8] ⟨hx, hb, hml, hown, hts⟩ hK hX hA hP hD hS (c_right l G _ v5 (nI 11)) ⟨va_cnB 2 hts gX1_mixInto_X2_right_n57 rfl rfl rfl hX.2.2.2.2.1 (hts (.initialized RX2) (by decide +kernel)) (by decide +kernel) ⟨Nat.le_of_ble_eq_true rfl, Nat.le_of_ble_eq_true rfl⟩, hts (.static yX2_right) (by decide +kernel), trivial⟩ [] [0, 1, 2] rfl rfl (by decide) (by decide) (by decide) rfl hl.1 (Nat.le_of_ble_eq_true rfl) dX1_mixInto_67 ⟨Nat.zero_le _, Nat.zero_le _⟩ (fun r_4 u H locs hw hP hD hS => ?_)
      obtain rfl := hw
      have hP : va_P G.1 vwCl (wMx G o x y z q (p_w f) g) H := hP
      have hD : va_D A (wMx G o x y z q (p_w f) g) := hD
      refine lv_ixor hx hb dX1_mixInto_70 ?_
      refine lv_iload hx hb dX1_mixInto_71 (lv_at hl 6 rfl) ?_
      refine lv_bipush (v := nI 25) hx hb dX1_mixInto_73 (by decide) ?_
      refine call_Ni (wr := ([(o, .inr (1, [.ref x, .ref y, .ref z])), (z, .inl (G.2.2.1, 64, .inl (p_w f))), (q, .inl (G.2.2.1, 8, .inl g))] : va_W)) [.int v5, .int (nI 25)] [.int ((p_rot v5 (nI 6)) ^^^ (p_rot v5 (nI 11))), .int v8] ⟨hx, hb, hml, hown, hts⟩ hK hX hA hP hD hS (c_right l G _ v5 (nI 25)) ⟨va_cnB 2 hts gX1_mixInto_X2_right_n57 rfl rfl rfl hX.2.2.2.2.1 (hts (.initialized RX2) (by decide +kernel)) (by decide +kernel) ⟨Nat.le_of_ble_eq_true rfl, Nat.le_of_ble_eq_true rfl⟩, hts (.static yX2_right) (by decide +kernel), trivial⟩ [] [0, 1, 2] rfl rfl (by decide) (by decide) (by decide) rfl hl.1 (Nat.le_of_ble_eq_true rfl) dX1_mixInto_75 ⟨Nat.zero_le _, Nat.zero_le _⟩ (fun r_5 u H locs hw hP hD hS => ?_)
      obtain rfl := hw
      have hP : va_P G.1 vwCl (wMx G o x y z q (p_w f) g) H := hP
      have hD : va_D A (wMx G o x y z q (p_w f) g) := hD
      refine lv_ixor hx hb dX1_mixInto_78 ?_
      refine lv_iadd hx hb dX1_mixInto_79 ?_
      refine lv_iload hx hb dX1_mixInto_80 (lv_at hl 6 rfl) ?_
      refine lv_iload hx hb dX1_mixInto_82 (lv_at hl 7 rfl) ?_
      refine lv_iand hx hb dX1_mixInto_84 ?_
      refine lv_iload hx hb dX1_mixInto_85 (lv_at hl 6 rfl) ?_
      refine lv_iconst (v := (-1)) hx hb dX1_mixInto_87 (by decide) ?_
      refine lv_ixor hx hb dX1_mixInto_88 ?_
      refine lv_iload hx hb dX1_mixInto_89 (lv_at hl 8 rfl) ?_
      refine lv_iand hx hb dX1_mixInto_91 ?_
      refine lv_ixor hx hb dX1_mixInto_92 ?_
      refine lv_iadd hx hb dX1_mixInto_93 ?_
      refine va_gets (v := .ref G.2.1.2) hx hb hX.2.2.1 hS hown lk61 (fun _ h9 => h9) dX1_mixInto_94 ?_
      refine lv_iload hx hb dX1_mixInto_97 (lv_at hl 10 rfl) ?_
      refine va_ti hx hb hX.2.2.2.1 hS (vp_in_nI (n := t) (N := 64) (by omega) (by omega)) (v := .int (st_K t)) (by rw [cl_nI (n := t) (N := 64) (by omega) (by omega)]) dX1_mixInto_99 ?_
      refine lv_iadd hx hb dX1_mixInto_100 ?_
      refine lv_aload_n hx hb dX1_mixInto_101 rfl (lv_at hl 0 rfl) ?_
      refine va_get (D := G.1) (ci := 1) (v := .ref z) (C := RX1) (T := TX1) (N := 3) hx hb hts hiX1 hown hK hP 0 rfl rfl 2 (by decide) lk18 (fun _ h9 => h9) rfl dX1_mixInto_102 ?_
      refine lv_iload hx hb dX1_mixInto_105 (lv_at hl 10 rfl) ?_
      refine rd_i hx hb hK hP 1 rfl t (by omega) (by omega) dX1_mixInto_107 ?_
      refine lv_iadd hx hb dX1_mixInto_108 ?_
      refine lv_istore (lv' := [(11, .int ((((v8 + (((p_rot v5 (nI 6)) ^^^ (p_rot v5 (nI 11))) ^^^ (p_rot v5 (nI 25)))) + ((v5 &&& v6) ^^^ ((v5 ^^^ (-1)) &&& v7))) + (st_K t)) + ((p_w f) t))), (0, .ref o), (1, .ref q), (2, .int v1), (3, .int v2), (4, .int v3), (5, .int v4), (6, .int v5), (7, .int v6), (8, .int v7), (9, .int v8), (10, .int (nI t))]) hx hb dX1_mixInto_109 hl (by decide) rfl (fun ls hl => ?_)
      refine lv_iload_n hx hb dX1_mixInto_111 rfl (lv_at hl 3 rfl) ?_
      refine lv_iconst (v := nI 2) hx hb dX1_mixInto_112 (by decide) ?_
      refine call_Ni (wr := ([(o, .inr (1, [.ref x, .ref y, .ref z])), (z, .inl (G.2.2.1, 64, .inl (p_w f))), (q, .inl (G.2.2.1, 8, .inl g))] : va_W)) [.int v1, .int (nI 2)] [] ⟨hx, hb, hml, hown, hts⟩ hK hX hA hP hD hS (c_right l G _ v1 (nI 2)) ⟨va_cnB 2 hts gX1_mixInto_X2_right_n57 rfl rfl rfl hX.2.2.2.2.1 (hts (.initialized RX2) (by decide +kernel)) (by decide +kernel) ⟨Nat.le_of_ble_eq_true rfl, Nat.le_of_ble_eq_true rfl⟩, hts (.static yX2_right) (by decide +kernel), trivial⟩ [] [0, 1, 2] rfl rfl (by decide) (by decide) (by decide) rfl hl.1 (Nat.le_of_ble_eq_true rfl) dX1_mixInto_113 ⟨Nat.zero_le _, Nat.zero_le _⟩ (fun r_6 u H locs hw hP hD hS => ?_)
      obtain rfl := hw
      have hP : va_P G.1 vwCl (wMx G o x y z q (p_w f) g) H := hP
      have hD : va_D A (wMx G o x y z q (p_w f) g) := hD
      refine lv_iload_n hx hb dX1_mixInto_116 rfl (lv_at hl 3 rfl) ?_
      refine lv_bipush (v := nI 13) hx hb dX1_mixInto_117 (by decide) ?_
      refine call_Ni (wr := ([(o, .inr (1, [.ref x, .ref y, .ref z])), (z, .inl (G.2.2.1, 64, .inl (p_w f))), (q, .inl (G.2.2.1, 8, .inl g))] : va_W)) [.int v1, .int (nI 13)] [.int (p_rot v1 (nI 2))] ⟨hx, hb, hml, hown, hts⟩ hK hX hA hP hD hS (c_right l G _ v1 (nI 13)) ⟨va_cnB 2 hts gX1_mixInto_X2_right_n57 rfl rfl rfl hX.2.2.2.2.1 (hts (.initialized RX2) (by decide +kernel)) (by decide +kernel) ⟨Nat.le_of_ble_eq_true rfl, Nat.le_of_ble_eq_true rfl⟩, hts (.static yX2_right) (by decide +kernel), trivial⟩ [] [0, 1, 2] rfl rfl (by decide) (by decide) (by decide) rfl hl.1 (Nat.le_of_ble_eq_true rfl) dX1_mixInto_119 ⟨Nat.zero_le _, Nat.zero_le _⟩ (fun r_7 u H locs hw hP hD hS => ?_)
      obtain rfl := hw
      have hP : va_P G.1 vwCl (wMx G o x y z q (p_w f) g) H := hP
      have hD : va_D A (wMx G o x y z q (p_w f) g) := hD
      refine lv_ixor hx hb dX1_mixInto_122 ?_
      refine lv_iload_n hx hb dX1_mixInto_123 rfl (lv_at hl 3 rfl) ?_
      refine lv_bipush (v := nI 22) hx hb dX1_mixInto_124 (by decide) ?_
      refine call_Ni (wr := ([(o, .inr (1, [.ref x, .ref y, .ref z])), (z, .inl (G.2.2.1, 64, .inl (p_w f))), (q, .inl (G.2.2.1, 8, .inl g))] : va_W)) [.int v1, .int (nI 22)] [.int ((p_rot v1 (nI 2)) ^^^ (p_rot v1 (nI 13)))] ⟨hx, hb, hml, hown, hts⟩ hK hX hA hP hD hS (c_right l G _ v1 (nI 22)) ⟨va_cnB 2 hts gX1_mixInto_X2_right_n57 rfl rfl rfl hX.2.2.2.2.1 (hts (.initialized RX2) (by decide +kernel)) (by decide +kernel) ⟨Nat.le_of_ble_eq_true rfl, Nat.le_of_ble_eq_true rfl⟩, hts (.static yX2_right) (by decide +kernel), trivial⟩ [] [0, 1, 2] rfl rfl (by decide) (by decide) (by decide) rfl hl.1 (Nat.le_of_ble_eq_true rfl) dX1_mixInto_126 ⟨Nat.zero_le _, Nat.zero_le _⟩ (fun r_8 u H locs hw hP hD hS => ?_)
      obtain rfl := hw
      have hP : va_P G.1 vwCl (wMx G o x y z q (p_w f) g) H := hP
      have hD : va_D A (wMx G o x y z q (p_w f) g) := hD
      refine lv_ixor hx hb dX1_mixInto_129 ?_
      refine lv_iload_n hx hb dX1_mixInto_130 rfl (lv_at hl 3 rfl) ?_
      refine lv_iload_n hx hb dX1_mixInto_131 rfl (lv_at hl 4 rfl) ?_
      refine lv_iand hx hb dX1_mixInto_132 ?_
      refine lv_iload_n hx hb dX1_mixInto_133 rfl (lv_at hl 3 rfl) ?_
      refine lv_iload hx hb dX1_mixInto_134 (lv_at hl 5 rfl) ?_
      refine lv_iand hx hb dX1_mixInto_136 ?_
      refine lv_ixor hx hb dX1_mixInto_137 ?_
      refine lv_iload_n hx hb dX1_mixInto_138 rfl (lv_at hl 4 rfl) ?_
      refine lv_iload hx hb dX1_mixInto_139 (lv_at hl 5 rfl) ?_
      refine lv_iand hx hb dX1_mixInto_141 ?_
      refine lv_ixor hx hb dX1_mixInto_142 ?_
      refine lv_iadd hx hb dX1_mixInto_143 ?_
      refine lv_istore (lv' := [(12, .int ((((p_rot v1 (nI 2)) ^^^ (p_rot v1 (nI 13))) ^^^ (p_rot v1 (nI 22))) + (((v1 &&& v2) ^^^ (v1 &&& v3)) ^^^ (v2 &&& v3)))), (11, .int ((((v8 + (((p_rot v5 (nI 6)) ^^^ (p_rot v5 (nI 11))) ^^^ (p_rot v5 (nI 25)))) + ((v5 &&& v6) ^^^ ((v5 ^^^ (-1)) &&& v7))) + (st_K t)) + ((p_w f) t))), (0, .ref o), (1, .ref q), (2, .int v1), (3, .int v2), (4, .int v3), (5, .int v4), (6, .int v5), (7, .int v6), (8, .int v7), (9, .int v8), (10, .int (nI t))]) hx hb dX1_mixInto_144 hl (by decide) rfl (fun ls hl => ?_)
      refine lv_iload hx hb dX1_mixInto_146 (lv_at hl 10 rfl) ?_
      refine lv_istore (lv' := [(9, .int v7), (12, .int ((((p_rot v1 (nI 2)) ^^^ (p_rot v1 (nI 13))) ^^^ (p_rot v1 (nI 22))) + (((v1 &&& v2) ^^^ (v1 &&& v3)) ^^^ (v2 &&& v3)))), (11, .int ((((v8 + (((p_rot v5 (nI 6)) ^^^ (p_rot v5 (nI 11))) ^^^ (p_rot v5 (nI 25)))) + ((v5 &&& v6) ^^^ ((v5 ^^^ (-1)) &&& v7))) + (st_K t)) + ((p_w f) t))), (0, .ref o), (1, .ref q), (2, .int v1), (3, .int v2), (4, .int v3), (5, .int v4), (6, .int v5), (7, .int v6), (8, .int v7), (10, .int (nI t))]) hx hb dX1_mixInto_148 hl (by decide) rfl (fun ls hl => ?_)
      refine lv_iload hx hb dX1_mixInto_150 (lv_at hl 10 rfl) ?_
      refine lv_istore (lv' := [(8, .int v6), (9, .int v7), (12, .int ((((p_rot v1 (nI 2)) ^^^ (p_rot v1 (nI 13))) ^^^ (p_rot v1 (nI 22))) + (((v1 &&& v2) ^^^ (v1 &&& v3)) ^^^ (v2 &&& v3)))), (11, .int ((((v8 + (((p_rot v5 (nI 6)) ^^^ (p_rot v5 (nI 11))) ^^^ (p_rot v5 (nI 25)))) + ((v5 &&& v6) ^^^ ((v5 ^^^ (-1)) &&& v7))) + (st_K t)) + ((p_w f) t))), (0, .ref o), (1, .ref q), (2, .int v1), (3, .int v2), (4, .int v3), (5, .int v4), (6, .int v5), (7, .int v6), (10, .int (nI t))]) hx hb dX1_mixInto_152 hl (by decide) rfl (fun ls hl => ?_)
      refine lv_iload hx hb dX1_mixInto_154 (lv_at hl 10 rfl) ?_
      refine lv_istore (lv' := [(7, .int v5), (8, .int v6), (9, .int v7), (12, .int ((((p_rot v1 (nI 2)) ^^^ (p_rot v1 (nI 13))) ^^^ (p_rot v1 (nI 22))) + (((v1 &&& v2) ^^^ (v1 &&& v3)) ^^^ (v2 &&& v3)))), (11, .int ((((v8 + (((p_rot v5 (nI 6)) ^^^ (p_rot v5 (nI 11))) ^^^ (p_rot v5 (nI 25)))) + ((v5 &&& v6) ^^^ ((v5 ^^^ (-1)) &&& v7))) + (st_K t)) + ((p_w f) t))), (0, .ref o), (1, .ref q), (2, .int v1), (3, .int v2), (4, .int v3), (5, .int v4), (6, .int v5), (10, .int (nI t))]) hx hb dX1_mixInto_156 hl (by decide) rfl (fun ls hl => ?_)
      refine lv_iload hx hb dX1_mixInto_158 (lv_at hl 10 rfl) ?_
      refine lv_iload hx hb dX1_mixInto_160 (lv_at hl 4 rfl) ?_
      refine lv_iadd hx hb dX1_mixInto_162 ?_
      refine lv_istore (lv' := [(6, .int (v4 + ((((v8 + (((p_rot v5 (nI 6)) ^^^ (p_rot v5 (nI 11))) ^^^ (p_rot v5 (nI 25)))) + ((v5 &&& v6) ^^^ ((v5 ^^^ (-1)) &&& v7))) + (st_K t)) + ((p_w f) t)))), (7, .int v5), (8, .int v6), (9, .int v7), (12, .int ((((p_rot v1 (nI 2)) ^^^ (p_rot v1 (nI 13))) ^^^ (p_rot v1 (nI 22))) + (((v1 &&& v2) ^^^ (v1 &&& v3)) ^^^ (v2 &&& v3)))), (11, .int ((((v8 + (((p_rot v5 (nI 6)) ^^^ (p_rot v5 (nI 11))) ^^^ (p_rot v5 (nI 25)))) + ((v5 &&& v6) ^^^ ((v5 ^^^ (-1)) &&& v7))) + (st_K t)) + ((p_w f) t))), (0, .ref o), (1, .ref q), (2, .int v1), (3, .int v2), (4, .int v3), (5, .int v4), (10, .int (nI t))]) hx hb dX1_mixInto_163 hl (by decide) rfl (fun ls hl => ?_)
      refine lv_iload hx hb dX1_mixInto_165 (lv_at hl 10 rfl) ?_
      refine lv_istore (lv' := [(5, .int v3), (6, .int (v4 + ((((v8 + (((p_rot v5 (nI 6)) ^^^ (p_rot v5 (nI 11))) ^^^ (p_rot v5 (nI 25)))) + ((v5 &&& v6) ^^^ ((v5 ^^^ (-1)) &&& v7))) + (st_K t)) + ((p_w f) t)))), (7, .int v5), (8, .int v6), (9, .int v7), (12, .int ((((p_rot v1 (nI 2)) ^^^ (p_rot v1 (nI 13))) ^^^ (p_rot v1 (nI 22))) + (((v1 &&& v2) ^^^ (v1 &&& v3)) ^^^ (v2 &&& v3)))), (11, .int ((((v8 + (((p_rot v5 (nI 6)) ^^^ (p_rot v5 (nI 11))) ^^^ (p_rot v5 (nI 25)))) + ((v5 &&& v6) ^^^ ((v5 ^^^ (-1)) &&& v7))) + (st_K t)) + ((p_w f) t))), (0, .ref o), (1, .ref q), (2, .int v1), (3, .int v2), (4, .int v3), (10, .int (nI t))]) hx hb dX1_mixInto_167 hl (by decide) rfl (fun ls hl => ?_)
      refine lv_iload_n hx hb dX1_mixInto_169 rfl (lv_at hl 10 rfl) ?_
      refine lv_istore (lv' := [(4, .int v2), (5, .int v3), (6, .int (v4 + ((((v8 + (((p_rot v5 (nI 6)) ^^^ (p_rot v5 (nI 11))) ^^^ (p_rot v5 (nI 25)))) + ((v5 &&& v6) ^^^ ((v5 ^^^ (-1)) &&& v7))) + (st_K t)) + ((p_w f) t)))), (7, .int v5), (8, .int v6), (9, .int v7), (12, .int ((((p_rot v1 (nI 2)) ^^^ (p_rot v1 (nI 13))) ^^^ (p_rot v1 (nI 22))) + (((v1 &&& v2) ^^^ (v1 &&& v3)) ^^^ (v2 &&& v3)))), (11, .int ((((v8 + (((p_rot v5 (nI 6)) ^^^ (p_rot v5 (nI 11))) ^^^ (p_rot v5 (nI 25)))) + ((v5 &&& v6) ^^^ ((v5 ^^^ (-1)) &&& v7))) + (st_K t)) + ((p_w f) t))), (0, .ref o), (1, .ref q), (2, .int v1), (3, .int v2), (10, .int (nI t))]) hx hb dX1_mixInto_170 hl (by decide) rfl (fun ls hl => ?_)
      refine lv_iload_n hx hb dX1_mixInto_172 rfl (lv_at hl 10 rfl) ?_
      refine lv_istore_n (lv' := [(3, .int v1), (4, .int v2), (5, .int v3), (6, .int (v4 + ((((v8 + (((p_rot v5 (nI 6)) ^^^ (p_rot v5 (nI 11))) ^^^ (p_rot v5 (nI 25)))) + ((v5 &&& v6) ^^^ ((v5 ^^^ (-1)) &&& v7))) + (st_K t)) + ((p_w f) t)))), (7, .int v5), (8, .int v6), (9, .int v7), (12, .int ((((p_rot v1 (nI 2)) ^^^ (p_rot v1 (nI 13))) ^^^ (p_rot v1 (nI 22))) + (((v1 &&& v2) ^^^ (v1 &&& v3)) ^^^ (v2 &&& v3)))), (11, .int ((((v8 + (((p_rot v5 (nI 6)) ^^^ (p_rot v5 (nI 11))) ^^^ (p_rot v5 (nI 25)))) + ((v5 &&& v6) ^^^ ((v5 ^^^ (-1)) &&& v7))) + (st_K t)) + ((p_w f) t))), (0, .ref o), (1, .ref q), (2, .int v1), (10, .int (nI t))]) hx hb dX1_mixInto_173 rfl hl (by decide) rfl (fun ls hl => ?_)
      refine lv_iload hx hb dX1_mixInto_174 (lv_at hl 8 rfl) ?_
      refine lv_iload hx hb dX1_mixInto_176 (lv_at hl 7 rfl) ?_
      refine lv_iadd hx hb dX1_mixInto_178 ?_
      refine lv_istore_n (lv' := [(2, .int (((((v8 + (((p_rot v5 (nI 6)) ^^^ (p_rot v5 (nI 11))) ^^^ (p_rot v5 (nI 25)))) + ((v5 &&& v6) ^^^ ((v5 ^^^ (-1)) &&& v7))) + (st_K t)) + ((p_w f) t)) + ((((p_rot v1 (nI 2)) ^^^ (p_rot v1 (nI 13))) ^^^ (p_rot v1 (nI 22))) + (((v1 &&& v2) ^^^ (v1 &&& v3)) ^^^ (v2 &&& v3))))), (3, .int v1), (4, .int v2), (5, .int v3), (6, .int (v4 + ((((v8 + (((p_rot v5 (nI 6)) ^^^ (p_rot v5 (nI 11))) ^^^ (p_rot v5 (nI 25)))) + ((v5 &&& v6) ^^^ ((v5 ^^^ (-1)) &&& v7))) + (st_K t)) + ((p_w f) t)))), (7, .int v5), (8, .int v6), (9, .int v7), (12, .int ((((p_rot v1 (nI 2)) ^^^ (p_rot v1 (nI 13))) ^^^ (p_rot v1 (nI 22))) + (((v1 &&& v2) ^^^ (v1 &&& v3)) ^^^ (v2 &&& v3)))), (11, .int ((((v8 + (((p_rot v5 (nI 6)) ^^^ (p_rot v5 (nI 11))) ^^^ (p_rot v5 (nI 25)))) + ((v5 &&& v6) ^^^ ((v5 ^^^ (-1)) &&& v7))) + (st_K t)) + ((p_w f) t))), (0, .ref o), (1, .ref q), (10, .int (nI t))]) hx hb dX1_mixInto_179 rfl hl (by decide) rfl (fun ls hl => ?_)
      refine lv_iinc (v := nI (t + 1)) (lv' := [(10, .int (nI (t + 1))), (2, .int (((((v8 + (((p_rot v5 (nI 6)) ^^^ (p_rot v5 (nI 11))) ^^^ (p_rot v5 (nI 25)))) + ((v5 &&& v6) ^^^ ((v5 ^^^ (-1)) &&& v7))) + (st_K t)) + ((p_w f) t)) + ((((p_rot v1 (nI 2)) ^^^ (p_rot v1 (nI 13))) ^^^ (p_rot v1 (nI 22))) + (((v1 &&& v2) ^^^ (v1 &&& v3)) ^^^ (v2 &&& v3))))), (3, .int v1), (4, .int v2), (5, .int v3), (6, .int (v4 + ((((v8 + (((p_rot v5 (nI 6)) ^^^ (p_rot v5 (nI 11))) ^^^ (p_rot v5 (nI 25)))) + ((v5 &&& v6) ^^^ ((v5 ^^^ (-1)) &&& v7))) + (st_K t)) + ((p_w f) t)))), (7, .int v5), (8, .int v6), (9, .int v7), (12, .int ((((p_rot v1 (nI 2)) ^^^ (p_rot v1 (nI 13))) ^^^ (p_rot v1 (nI 22))) + (((v1 &&& v2) ^^^ (v1 &&& v3)) ^^^ (v2 &&& v3)))), (11, .int ((((v8 + (((p_rot v5 (nI 6)) ^^^ (p_rot v5 (nI 11))) ^^^ (p_rot v5 (nI 25)))) + ((v5 &&& v6) ^^^ ((v5 ^^^ (-1)) &&& v7))) + (st_K t)) + ((p_w f) t))), (0, .ref o), (1, .ref q)]) hx hb dX1_mixInto_180 hl (k := 12) rfl (inc_N t 1) (by decide) rfl (fun ls hl => ?_)
      refine lv_goto (tgt := 47) hx hb dX1_mixInto_183 (by decide) ?_
      exact ih1 (t + 1) (((((v8 + (((p_rot v5 (nI 6)) ^^^ (p_rot v5 (nI 11))) ^^^ (p_rot v5 (nI 25)))) + ((v5 &&& v6) ^^^ ((v5 ^^^ (-1)) &&& v7))) + (st_K t)) + ((p_w f) t)) + ((((p_rot v1 (nI 2)) ^^^ (p_rot v1 (nI 13))) ^^^ (p_rot v1 (nI 22))) + (((v1 &&& v2) ^^^ (v1 &&& v3)) ^^^ (v2 &&& v3)))) v1 v2 v3 (v4 + ((((v8 + (((p_rot v5 (nI 6)) ^^^ (p_rot v5 (nI 11))) ^^^ (p_rot v5 (nI 25)))) + ((v5 &&& v6) ^^^ ((v5 ^^^ (-1)) &&& v7))) + (st_K t)) + ((p_w f) t))) v5 v6 v7 (by omega) (by show _ = p_rnd (st_K t) (p_w f t) (p_rs (p_w f) (p_tup g) t); rw [← hst]; rfl) (by omega) _ _ _ hP hD hS (lv_sub hl [11, 12, 1, 2, 3, 4, 5, 6, 7, 8, 0] rfl)
abbrev wHq (G : gG) (o x y z q n : Nat) (fm fh fw f : Nat → Int32) : va_W := [(o, .inr (1, [.ref x, .ref y, .ref z])), (x, .inl (G.2.2.1, 8, .inl fm)), (y, .inl (G.2.2.1, 8, .inl fh)), (z, .inl (G.2.2.1, 64, .inl fw)), (q, .inl (G.2.2.1, n, .inl f))]
set_option maxHeartbeats 4000000 in
set_option maxRecDepth 100000 in
theorem c_takeFirst (l : Launch) (G : gG) (sz : Nat) (o x y z q n k : Nat) (fm fh fw f : Nat → Int32) (hk : k + 26 ≤ n) (hn : n ≤ 65536) : MetV l yX1_takeFirst wsX1_takeFirst ({ frames := 3, cells := 0, slots := 0, locals := 76 } : Room) [.ref o, .ref q, .int (nI k)] G (wHq G o x y z q n fm fh fw f) sz (fun u : (Nat → Int32) × (Nat → Int32) => wHq G o x y z q n u.1 fh u.2 f) (fun u => ∀ j, j < 8 → u.1 j = p_h1 f k j) := by
  refine ent_v _ cX1_takeFirst 3 RX1 (by decide) rfl rfl (Nat.le_of_ble_eq_true rfl) ?_
  intro p e s m args below meth c A Q ls hx hb hml hts hown hA hK hX ret hl hP hD hS
  have hl : lv_has ls 3 [(0, .ref o), (1, .ref q), (2, .int (nI k))] := hl
  have lk9 := hts (.fieldLink RX1 9 "MinedLedger$Hasher" "middle" "[I") (by decide +kernel)
  have lk18 := hts (.fieldLink RX1 18 "MinedLedger$Hasher" "w" "[I") (by decide +kernel)
  have lk28 := hts (.fieldLink RX1 28 "MinedLedger$Hasher" "START" "[I") (by decide +kernel)
  have hiX1 : ∀ w ∈ wsX10, w ∈ wsX1_takeFirst := by decide +kernel
  refine va_gets (v := .ref G.2.1.1) hx hb hX.1 hS hown lk28 (fun _ h9 => h9) dX1_takeFirst_0 ?_
  refine lv_iconst (v := nI 0) hx hb dX1_takeFirst_3 (by decide) ?_
  refine lv_aload_n hx hb dX1_takeFirst_4 rfl (lv_at hl 0 rfl) ?_
  refine va_get (D := G.1) (ci := 1) (v := .ref x) (C := RX1) (T := TX1) (N := 3) hx hb hts hiX1 hown hK hP 0 rfl rfl 0 (by decide) lk9 (fun _ h9 => h9) rfl dX1_takeFirst_5 ?_
  refine lv_iconst (v := nI 0) hx hb dX1_takeFirst_8 (by decide) ?_
  refine lv_bipush (v := nI 8) hx hb dX1_takeFirst_9 (by decide) ?_
  refine cpt_i hx hb (by rw [hml]; exact hl.1.symm) hown (hts (.methodLink RX1 31 arraycopyName) (by decide +kernel)) (hts (.native arraycopyName) (by decide +kernel)) (hts (.static arraycopyName) (by decide +kernel)) (hts (.initialized "java/lang/System") (by decide +kernel)) hK hP hD hS hX.2.1 1 rfl 0 0 8 (by omega) (by omega) (by omega) (Nat.le_of_ble_eq_true rfl) (Nat.le_of_ble_eq_true rfl) dX1_takeFirst_11 (fun H locs hP hD hS => ?_)
  have hP : va_P G.1 vwCl (wHq G o x y z q n (va_cpy st_S fm 0 0 8) fh fw f) H := hP
  have hD : va_D A (wHq G o x y z q n (va_cpy st_S fm 0 0 8) fh fw f) := hD
  refine lv_aload_n hx hb dX1_takeFirst_14 rfl (lv_at hl 1 rfl) ?_
  refine lv_iload_n hx hb dX1_takeFirst_15 rfl (lv_at hl 2 rfl) ?_
  refine lv_aload_n hx hb dX1_takeFirst_16 rfl (lv_at hl 0 rfl) ?_
  refine va_get (D := G.1) (ci := 1) (v := .ref z) (C := RX1) (T := TX1) (N := 3) hx hb hts hiX1 hown hK hP 0 rfl rfl 2 (by decide) lk18 (fun _ h9 => h9) rfl dX1_takeFirst_17 ?_
  refine lv_iconst (v := nI 0) hx hb dX1_takeFirst_20 (by decide) ?_
  refine lv_bipush (v := nI 16) hx hb dX1_takeFirst_21 (by decide) ?_
  refine cpy_i hx hb (by rw [hml]; exact hl.1.symm) hown (hts (.methodLink RX1 31 arraycopyName) (by decide +kernel)) (hts (.native arraycopyName) (by decide +kernel)) (hts (.static arraycopyName) (by decide +kernel)) (hts (.initialized "java/lang/System") (by decide +kernel)) hK hP hD hS 4 3 rfl rfl k 0 16 (by omega) (by omega) (by omega) (Nat.le_of_ble_eq_true rfl) (Nat.le_of_ble_eq_true rfl) dX1_takeFirst_23 (fun H locs hP hD hS => ?_)
  have hP : va_P G.1 vwCl (wHq G o x y z q n (va_cpy st_S fm 0 0 8) fh (va_cpy f fw k 0 16) f) H := hP
  have hD : va_D A (wHq G o x y z q n (va_cpy st_S fm 0 0 8) fh (va_cpy f fw k 0 16) f) := hD
  refine lv_aload_n hx hb dX1_takeFirst_26 rfl (lv_at hl 0 rfl) ?_
  refine lv_aload_n hx hb dX1_takeFirst_27 rfl (lv_at hl 0 rfl) ?_
  refine va_get (D := G.1) (ci := 1) (v := .ref x) (C := RX1) (T := TX1) (N := 3) hx hb hts hiX1 hown hK hP 0 rfl rfl 0 (by decide) lk9 (fun _ h9 => h9) rfl dX1_takeFirst_28 ?_
  refine call_Vv (wr := ([(y, .inl (G.2.2.1, 8, .inl fh)), (q, .inl (G.2.2.1, n, .inl f))] : va_W)) [.ref x] [] ⟨hx, hb, hml, hown, hts⟩ hK hX hA hP hD hS (c_mixInto l G _ o x y z x (va_cpy f fw k 0 16) (va_cpy st_S fm 0 0 8)) (cwV 1 hts gX1_takeFirst_X1_mixInto rfl rfl rfl (by decide +kernel) ⟨Nat.le_of_ble_eq_true rfl, Nat.le_of_ble_eq_true rfl⟩) 1 0 rfl rfl rfl [0, 3, 1] [2, 4] rfl rfl (by decide) (by decide) (by decide) rfl hl.1 (Nat.le_of_ble_eq_true rfl) dX1_takeFirst_31 ⟨Nat.zero_le _, Nat.zero_le _⟩ (fun u H locs hw hP hD hS => ?_)
  have hP : va_P G.1 vwCl (wHq G o x y z q n (p_mix (va_cpy st_S fm 0 0 8) (va_cpy f fw k 0 16)) fh (p_w (va_cpy f fw k 0 16)) f) H := hP.sub [2, 4, 0, 3, 1] rfl
  have hD : va_D A (wHq G o x y z q n (p_mix (va_cpy st_S fm 0 0 8) (va_cpy f fw k 0 16)) fh (p_w (va_cpy f fw k 0 16)) f) := hD.sub [2, 4, 0, 3, 1] (by decide) rfl
  exact ret 34 _ _ _ (p_mix (va_cpy st_S fm 0 0 8) (va_cpy f fw k 0 16), p_w (va_cpy f fw k 0 16)) dX1_takeFirst_34 (p_mix_congr (fun j h => cpy_00 h) (fun j h => cpy_0 h)) hP hD hS
set_option maxHeartbeats 4000000 in
set_option maxRecDepth 100000 in
theorem c_takeRest (l : Launch) (G : gG) (sz : Nat) (o x y z q n k : Nat) (fm fh fw f : Nat → Int32) (hk : k + 26 ≤ n) (hn : n ≤ 65536) : MetV l yX1_takeRest wsX1_takeRest ({ frames := 3, cells := 0, slots := 0, locals := 76 } : Room) [.ref o, .ref q, .int (nI k)] G (wHq G o x y z q n fm fh fw f) sz (fun u : (Nat → Int32) × (Nat → Int32) => wHq G o x y z q n fm u.1 u.2 f) (fun u => ∀ j, j < 8 → u.1 j = p_mix fm (p_b2 f k) j) := by
  refine ent_v _ cX1_takeRest 4 RX1 (by decide) rfl rfl (Nat.le_of_ble_eq_true rfl) ?_
  intro p e s m args below meth c A Q ls hx hb hml hts hown hA hK hX ret hl hP hD hS
  have hl : lv_has ls 4 [(0, .ref o), (1, .ref q), (2, .int (nI k))] := hl
  have lk9 := hts (.fieldLink RX1 9 "MinedLedger$Hasher" "middle" "[I") (by decide +kernel)
  have lk15 := hts (.fieldLink RX1 15 "MinedLedger$Hasher" "hash" "[I") (by decide +kernel)
  have lk18 := hts (.fieldLink RX1 18 "MinedLedger$Hasher" "w" "[I") (by decide +kernel)
  have hiX1 : ∀ w ∈ wsX10, w ∈ wsX1_takeRest := by decide +kernel
  refine lv_bipush (v := nI 10) hx hb dX1_takeRest_0 (by decide) ?_
  refine lv_istore_n (lv' := [(3, .int (nI 10)), (0, .ref o), (1, .ref q), (2, .int (nI k))]) hx hb dX1_takeRest_2 rfl hl (by decide) rfl (fun ls hl => ?_)
  refine lv_aload_n hx hb dX1_takeRest_3 rfl (lv_at hl 1 rfl) ?_
  refine va_get (D := G.1) (ci := 1) (v := .ref x) (C := RX1) (T := TX1) (N := 3) hx hb hts hiX1 hown hK hP 0 rfl rfl 0 (by decide) lk9 (fun _ h9 => h9) rfl dX1_takeRest_4 ?_
  refine lv_iconst (v := nI 0) hx hb dX1_takeRest_7 (by decide) ?_
  refine lv_aload_n hx hb dX1_takeRest_8 rfl (lv_at hl 1 rfl) ?_
  refine va_get (D := G.1) (ci := 1) (v := .ref y) (C := RX1) (T := TX1) (N := 3) hx hb hts hiX1 hown hK hP 0 rfl rfl 1 (by decide) lk15 (fun _ h9 => h9) rfl dX1_takeRest_9 ?_
  refine lv_iconst (v := nI 0) hx hb dX1_takeRest_12 (by decide) ?_
  refine lv_bipush (v := nI 8) hx hb dX1_takeRest_13 (by decide) ?_
  refine cpy_i hx hb (by rw [hml]; exact hl.1.symm) hown (hts (.methodLink RX1 31 arraycopyName) (by decide +kernel)) (hts (.native arraycopyName) (by decide +kernel)) (hts (.static arraycopyName) (by decide +kernel)) (hts (.initialized "java/lang/System") (by decide +kernel)) hK hP hD hS 1 2 rfl rfl 0 0 8 (by omega) (by omega) (by omega) (Nat.le_of_ble_eq_true rfl) (Nat.le_of_ble_eq_true rfl) dX1_takeRest_15 (fun H locs hP hD hS => ?_)
  have hP : va_P G.1 vwCl (wHq G o x y z q n fm (va_cpy fm fh 0 0 8) fw f) H := hP
  have hD : va_D A (wHq G o x y z q n fm (va_cpy fm fh 0 0 8) fw f) := hD
  refine lv_aload_n hx hb dX1_takeRest_18 rfl (lv_at hl 2 rfl) ?_
  refine lv_iload_n hx hb dX1_takeRest_19 rfl (lv_at hl 3 rfl) ?_
  refine lv_bipush (v := nI 16) hx hb dX1_takeRest_20 (by decide) ?_
  refine ad_N hx hb k 16 dX1_takeRest_22 ?_
  refine lv_aload_n hx hb dX1_takeRest_23 rfl (lv_at hl 1 rfl) ?_
  refine va_get (D := G.1) (ci := 1) (v := .ref z) (C := RX1) (T := TX1) (N := 3) hx hb hts hiX1 hown hK hP 0 rfl rfl 2 (by decide) lk18 (fun _ h9 => h9) rfl dX1_takeRest_24 ?_
  refine lv_iconst (v := nI 0) hx hb dX1_takeRest_27 (by decide) ?_
  refine lv_iload_n hx hb dX1_takeRest_28 rfl (lv_at hl 0 rfl) ?_
  refine cpy_i hx hb (by rw [hml]; exact hl.1.symm) hown (hts (.methodLink RX1 31 arraycopyName) (by decide +kernel)) (hts (.native arraycopyName) (by decide +kernel)) (hts (.static arraycopyName) (by decide +kernel)) (hts (.initialized "java/lang/System") (by decide +kernel)) hK hP hD hS 4 3 rfl rfl (k + 16) 0 10 (by omega) (by omega) (by omega) (Nat.le_of_ble_eq_true rfl) (Nat.le_of_ble_eq_true rfl) dX1_takeRest_29 (fun H locs hP hD hS => ?_)
  have hP : va_P G.1 vwCl (wHq G o x y z q n fm (va_cpy fm fh 0 0 8) (va_cpy f fw (k + 16) 0 10) f) H := hP
  have hD : va_D A (wHq G o x y z q n fm (va_cpy fm fh 0 0 8) (va_cpy f fw (k + 16) 0 10) f) := hD
  refine lv_aload_n hx hb dX1_takeRest_32 rfl (lv_at hl 1 rfl) ?_
  refine va_get (D := G.1) (ci := 1) (v := .ref z) (C := RX1) (T := TX1) (N := 3) hx hb hts hiX1 hown hK hP 0 rfl rfl 2 (by decide) lk18 (fun _ h9 => h9) rfl dX1_takeRest_33 ?_
  refine lv_iload_n hx hb dX1_takeRest_36 rfl (lv_at hl 0 rfl) ?_
  refine lv_ldc (v := -2147483648) hx hb hown (hts (.constant RX1 41 (-2147483648)) (by decide +kernel)) dX1_takeRest_37 ?_
  refine wr_i hx hb hK hP hD hS 3 rfl 10 (by omega) (by omega) dX1_takeRest_39 (fun H locs hP hD hS => ?_)
  have hP : va_P G.1 vwCl (wHq G o x y z q n fm (va_cpy fm fh 0 0 8) (upd (va_cpy f fw (k + 16) 0 10) 10 (-2147483648)) f) H := hP
  have hD : va_D A (wHq G o x y z q n fm (va_cpy fm fh 0 0 8) (upd (va_cpy f fw (k + 16) 0 10) 10 (-2147483648)) f) := hD
  refine lv_aload_n hx hb dX1_takeRest_40 rfl (lv_at hl 1 rfl) ?_
  refine va_get (D := G.1) (ci := 1) (v := .ref z) (C := RX1) (T := TX1) (N := 3) hx hb hts hiX1 hown hK hP 0 rfl rfl 2 (by decide) lk18 (fun _ h9 => h9) rfl dX1_takeRest_41 ?_
  refine lv_iload_n hx hb dX1_takeRest_44 rfl (lv_at hl 0 rfl) ?_
  refine lv_iconst (v := nI 1) hx hb dX1_takeRest_45 (by decide) ?_
  refine ad_N hx hb 10 1 dX1_takeRest_46 ?_
  refine lv_bipush (v := nI 15) hx hb dX1_takeRest_47 (by decide) ?_
  refine lv_iconst (v := nI 0) hx hb dX1_takeRest_49 (by decide) ?_
  refine call_Sv (wr := ([(o, .inr (1, [.ref x, .ref y, .ref z])), (x, .inl (G.2.2.1, 8, .inl fm)), (y, .inl (G.2.2.1, 8, .inl (va_cpy fm fh 0 0 8))), (q, .inl (G.2.2.1, n, .inl f))] : va_W)) [.ref z, .int (nI (10 + 1)), .int (nI 15), .int (nI 0)] [] ⟨hx, hb, hml, hown, hts⟩ hK hX hA hP hD hS (c_fill4 l G _ z 64 (10 + 1) 15 (upd (va_cpy f fw (k + 16) 0 10) 10 (-2147483648)) (nI 0) (by omega) (by omega) (by omega)) (va_cwS 4 hts gX1_takeRest_J7_fill_fda19 rfl rfl rfl (by decide +kernel) ⟨Nat.le_of_ble_eq_true rfl, Nat.le_of_ble_eq_true rfl⟩) [3] [0, 1, 2, 4] rfl rfl (by decide) (by decide) (by decide) rfl hl.1 (Nat.le_of_ble_eq_true rfl) dX1_takeRest_50 ⟨Nat.zero_le _, Nat.zero_le _⟩ (fun u H locs hw hP hD hS => ?_)
  have hP : va_P G.1 vwCl (wHq G o x y z q n fm (va_cpy fm fh 0 0 8) (p_fill (upd (va_cpy f fw (k + 16) 0 10) 10 (-2147483648)) (10 + 1) 15 (nI 0)) f) H := hP.sub [0, 1, 2, 4, 3] rfl
  have hD : va_D A (wHq G o x y z q n fm (va_cpy fm fh 0 0 8) (p_fill (upd (va_cpy f fw (k + 16) 0 10) 10 (-2147483648)) (10 + 1) 15 (nI 0)) f) := hD.sub [0, 1, 2, 4, 3] (by decide) rfl
  refine lv_aload_n hx hb dX1_takeRest_53 rfl (lv_at hl 1 rfl) ?_
  refine va_get (D := G.1) (ci := 1) (v := .ref z) (C := RX1) (T := TX1) (N := 3) hx hb hts hiX1 hown hK hP 0 rfl rfl 2 (by decide) lk18 (fun _ h9 => h9) rfl dX1_takeRest_54 ?_
  refine lv_bipush (v := nI 15) hx hb dX1_takeRest_57 (by decide) ?_
  refine lv_sipush (v := nI 832) hx hb dX1_takeRest_59 (by decide) ?_
  refine wr_i hx hb hK hP hD hS 3 rfl 15 (by omega) (by omega) dX1_takeRest_62 (fun H locs hP hD hS => ?_)
  have hP : va_P G.1 vwCl (wHq G o x y z q n fm (va_cpy fm fh 0 0 8) (upd (p_fill (upd (va_cpy f fw (k + 16) 0 10) 10 (-2147483648)) (10 + 1) 15 (nI 0)) 15 (nI 832)) f) H := hP
  have hD : va_D A (wHq G o x y z q n fm (va_cpy fm fh 0 0 8) (upd (p_fill (upd (va_cpy f fw (k + 16) 0 10) 10 (-2147483648)) (10 + 1) 15 (nI 0)) 15 (nI 832)) f) := hD
  refine lv_aload_n hx hb dX1_takeRest_63 rfl (lv_at hl 1 rfl) ?_
  refine lv_aload_n hx hb dX1_takeRest_64 rfl (lv_at hl 1 rfl) ?_
  refine va_get (D := G.1) (ci := 1) (v := .ref y) (C := RX1) (T := TX1) (N := 3) hx hb hts hiX1 hown hK hP 0 rfl rfl 1 (by decide) lk15 (fun _ h9 => h9) rfl dX1_takeRest_65 ?_
  refine call_Vv (wr := ([(x, .inl (G.2.2.1, 8, .inl fm)), (q, .inl (G.2.2.1, n, .inl f))] : va_W)) [.ref y] [] ⟨hx, hb, hml, hown, hts⟩ hK hX hA hP hD hS (c_mixInto l G _ o x y z y (upd (p_fill (upd (va_cpy f fw (k + 16) 0 10) 10 (-2147483648)) (10 + 1) 15 (nI 0)) 15 (nI 832)) (va_cpy fm fh 0 0 8)) (cwV 1 hts gX1_takeRest_X1_mixInto rfl rfl rfl (by decide +kernel) ⟨Nat.le_of_ble_eq_true rfl, Nat.le_of_ble_eq_true rfl⟩) 1 0 rfl rfl rfl [0, 3, 2] [1, 4] rfl rfl (by decide) (by decide) (by decide) rfl hl.1 (Nat.le_of_ble_eq_true rfl) dX1_takeRest_68 ⟨Nat.zero_le _, Nat.zero_le _⟩ (fun u H locs hw hP hD hS => ?_)
  have hP : va_P G.1 vwCl (wHq G o x y z q n fm (p_mix (va_cpy fm fh 0 0 8) (upd (p_fill (upd (va_cpy f fw (k + 16) 0 10) 10 (-2147483648)) (10 + 1) 15 (nI 0)) 15 (nI 832))) (p_w (upd (p_fill (upd (va_cpy f fw (k + 16) 0 10) 10 (-2147483648)) (10 + 1) 15 (nI 0)) 15 (nI 832))) f) H := hP.sub [2, 0, 4, 3, 1] rfl
  have hD : va_D A (wHq G o x y z q n fm (p_mix (va_cpy fm fh 0 0 8) (upd (p_fill (upd (va_cpy f fw (k + 16) 0 10) 10 (-2147483648)) (10 + 1) 15 (nI 0)) 15 (nI 832))) (p_w (upd (p_fill (upd (va_cpy f fw (k + 16) 0 10) 10 (-2147483648)) (10 + 1) 15 (nI 0)) 15 (nI 832))) f) := hD.sub [2, 0, 4, 3, 1] (by decide) rfl
  exact ret 71 _ _ _ (p_mix (va_cpy fm fh 0 0 8) (upd (p_fill (upd (va_cpy f fw (k + 16) 0 10) 10 (-2147483648)) (10 + 1) 15 (nI 0)) 15 (nI 832)), p_w (upd (p_fill (upd (va_cpy f fw (k + 16) 0 10) 10 (-2147483648)) (10 + 1) 15 (nI 0)) 15 (nI 832))) dX1_takeRest_71 (p_mix_congr (fun j h => cpy_00 h) (p_b2_ok f fw k)) hP hD hS
set_option maxHeartbeats 4000000 in
set_option maxRecDepth 100000 in
theorem c_takeAll (l : Launch) (G : gG) (sz : Nat) (o x y z q n k : Nat) (fm fh fw f : Nat → Int32) (hk : k + 26 ≤ n) (hn : n ≤ 65536) : MetV l yX1_takeAll wsX1_takeAll ({ frames := 4, cells := 0, slots := 0, locals := 99 } : Room) [.ref o, .ref q, .int (nI k)] G (wHq G o x y z q n fm fh fw f) sz (fun u : (Nat → Int32) × (Nat → Int32) × (Nat → Int32) => wHq G o x y z q n u.1 u.2.1 u.2.2 f) (fun u => ∀ j, j < 8 → u.2.1 j = p_hash f k j) := by
  refine ent_v _ cX1_takeAll 3 RX1 (by decide) rfl rfl (Nat.le_of_ble_eq_true rfl) ?_
  intro p e s m args below meth c A Q ls hx hb hml hts hown hA hK hX ret hl hP hD hS
  have hl : lv_has ls 3 [(0, .ref o), (1, .ref q), (2, .int (nI k))] := hl
  refine lv_aload_n hx hb dX1_takeAll_0 rfl (lv_at hl 0 rfl) ?_
  refine lv_aload_n hx hb dX1_takeAll_1 rfl (lv_at hl 1 rfl) ?_
  refine lv_iload_n hx hb dX1_takeAll_2 rfl (lv_at hl 2 rfl) ?_
  refine call_Vv (wr := ([] : va_W)) [.ref q, .int (nI k)] [] ⟨hx, hb, hml, hown, hts⟩ hK hX hA hP hD hS (c_takeFirst l G _ o x y z q n k fm fh fw f (by omega) (by omega)) (cwV 2 hts gX1_takeAll_X1_takeFirst rfl rfl rfl (by decide +kernel) ⟨Nat.le_of_ble_eq_true rfl, Nat.le_of_ble_eq_true rfl⟩) 1 0 rfl rfl rfl [0, 1, 2, 3, 4] [] rfl rfl (by decide) (by decide) (by decide) rfl hl.1 (Nat.le_of_ble_eq_true rfl) dX1_takeAll_3 ⟨Nat.zero_le _, Nat.zero_le _⟩ (fun u H locs hw hP hD hS => ?_)
  obtain ⟨mu_2, wu_2⟩ := u
  have hu_2 : ∀ j, j < 8 → mu_2 j = p_h1 f k j := hw
  have hP : va_P G.1 vwCl (wHq G o x y z q n mu_2 fh wu_2 f) H := hP
  have hD : va_D A (wHq G o x y z q n mu_2 fh wu_2 f) := hD
  refine lv_aload_n hx hb dX1_takeAll_6 rfl (lv_at hl 0 rfl) ?_
  refine lv_aload_n hx hb dX1_takeAll_7 rfl (lv_at hl 1 rfl) ?_
  refine lv_iload_n hx hb dX1_takeAll_8 rfl (lv_at hl 2 rfl) ?_
  refine call_Vv (wr := ([] : va_W)) [.ref q, .int (nI k)] [] ⟨hx, hb, hml, hown, hts⟩ hK hX hA hP hD hS (c_takeRest l G _ o x y z q n k mu_2 fh wu_2 f (by omega) (by omega)) (cwV 2 hts gX1_takeAll_X1_takeRest rfl rfl rfl (by decide +kernel) ⟨Nat.le_of_ble_eq_true rfl, Nat.le_of_ble_eq_true rfl⟩) 1 0 rfl rfl rfl [0, 1, 2, 3, 4] [] rfl rfl (by decide) (by decide) (by decide) rfl hl.1 (Nat.le_of_ble_eq_true rfl) dX1_takeAll_9 ⟨Nat.zero_le _, Nat.zero_le _⟩ (fun u H locs hw hP hD hS => ?_)
  obtain ⟨yu_4, wu_4⟩ := u
  have hu_4 : ∀ j, j < 8 → yu_4 j = p_mix mu_2 (p_b2 f k) j := hw
  have hP : va_P G.1 vwCl (wHq G o x y z q n mu_2 yu_4 wu_4 f) H := hP
  have hD : va_D A (wHq G o x y z q n mu_2 yu_4 wu_4 f) := hD
  exact ret 12 _ _ _ (mu_2, yu_4, wu_4) dX1_takeAll_12 (fun j h => (hu_4 j h).trans (p_mix_congr hu_2 (fun _ _ => rfl) j h)) hP hD hS
abbrev wIs (G : gG) (o x y z q n : Nat) (fh f : Nat → Int32) : va_W := [(o, .inr (1, [.ref x, .ref y, .ref z])), (y, .inl (G.2.2.1, 8, .inl fh)), (q, .inl (G.2.2.1, n, .inl f))]
set_option maxHeartbeats 4000000 in
set_option maxRecDepth 100000 in
theorem c_isAt (l : Launch) (G : gG) (sz : Nat) (o x y z q n k : Nat) (fh f : Nat → Int32) (hk : k + 8 ≤ n) (hn : n ≤ 65536) : MetI l yX1_isAt wsX1_isAt ({ frames := 0, cells := 0, slots := 0, locals := 0 } : Room) [.ref o, .ref q, .int (nI k)] G (wIs G o x y z q n fh f) sz (fun _ : Unit => wIs G o x y z q n fh f) (fun r _ => r = bI (allN (p_is fh f k) 8)) := by
  refine ent_z _ cX1_isAt 4 RX1 (by decide) rfl rfl (Nat.le_of_ble_eq_true rfl) ?_
  intro p e s m args below meth c A Q ls hx hb hml hts hown hA hK hX ret hl hP hD hS
  have hl : lv_has ls 4 [(0, .ref o), (1, .ref q), (2, .int (nI k))] := hl
  have lk15 := hts (.fieldLink RX1 15 "MinedLedger$Hasher" "hash" "[I") (by decide +kernel)
  have hiX1 : ∀ w ∈ wsX10, w ∈ wsX1_isAt := by decide +kernel
  refine lv_iconst (v := nI 0) hx hb dX1_isAt_0 (by decide) ?_
  refine lv_istore_n (lv' := [(3, .int (nI 0)), (0, .ref o), (1, .ref q), (2, .int (nI k))]) hx hb dX1_isAt_1 rfl hl (by decide) rfl (fun ls hl => ?_)
  suffices hloop1 : ∀ (fu1 : Nat) (i : Nat), (i ≤ 8) → (∀ j, j < i → p_is fh f k j = true) → 8 - i < fu1 → ∀ (H : Heap) (locs : List Loc) (ls : Array Slot), va_P G.1 vwCl (wIs G o x y z q n fh f) H → va_D A (wIs G o x y z q n fh f) → va_S A s.heap H locs → lv_has ls 4 [(0, .ref o), (1, .ref q), (2, .int (nI k)), (3, .int (nI i))] → W p l e ({ frames := 0, cells := 0, slots := 0, locals := 0 } : Room) s m args below meth c H locs 0 0 Q (F0 m 2 ls []) from hloop1 _ 0 (Nat.zero_le _) (fun j h => absurd h (Nat.not_lt_zero j)) (Nat.lt_succ_self _) _ _ _ hP hD hS (lv_sub hl [1, 2, 3, 0] rfl)
  clear hP hD hS hl
  intro fu1
  induction fu1 with
  | zero => intro i hi hm hfu; exact absurd hfu (Nat.not_lt_zero _)
  | succ fu1 ih1 =>
    intro i hi hm hfu1 H locs ls hP hD hS hl
    refine lv_iload_n hx hb dX1_isAt_2 rfl (lv_at hl 3 rfl) ?_
    refine lv_bipush (v := nI 8) hx hb dX1_isAt_3 (by decide) ?_
    refine cmp_ge hx hb i 8 30 (by omega) (by omega) dX1_isAt_5 (by decide) (fun c5 => ?_) (fun c5 => ?_)
    · have e30 : i = 8 := by omega
      subst e30
      refine lv_iconst (v := nI 1) hx hb dX1_isAt_30 (by decide) ?_
      exact ret 31 _ _ _ (nI 1) () dX1_isAt_31 (by first | exact Or.inl rfl | exact Or.inr rfl) (al_T hm) hP hD hS
    · refine lv_aload_n hx hb dX1_isAt_8 rfl (lv_at hl 1 rfl) ?_
      refine lv_iload_n hx hb dX1_isAt_9 rfl (lv_at hl 2 rfl) ?_
      refine lv_iload_n hx hb dX1_isAt_10 rfl (lv_at hl 3 rfl) ?_
      refine ad_N hx hb k i dX1_isAt_11 ?_
      refine rd_i hx hb hK hP 2 rfl (k + i) (by omega) (by omega) dX1_isAt_12 ?_
      refine lv_aload_n hx hb dX1_isAt_13 rfl (lv_at hl 0 rfl) ?_
      refine va_get (D := G.1) (ci := 1) (v := .ref y) (C := RX1) (T := TX1) (N := 3) hx hb hts hiX1 hown hK hP 0 rfl rfl 1 (by decide) lk15 (fun _ h9 => h9) rfl dX1_isAt_14 ?_
      refine lv_iload_n hx hb dX1_isAt_17 rfl (lv_at hl 3 rfl) ?_
      refine rd_i hx hb hK hP 1 rfl i (by omega) (by omega) dX1_isAt_18 ?_
      refine lv_icmp_eq (tgt := 24) hx hb dX1_isAt_19 (by decide) (fun c19 => ?_) (fun c19 => ?_)
      · refine lv_iinc (v := nI (i + 1)) (lv' := [(3, .int (nI (i + 1))), (0, .ref o), (1, .ref q), (2, .int (nI k))]) hx hb dX1_isAt_24 hl (k := 3) rfl (inc_N i 1) (by decide) rfl (fun ls hl => ?_)
        refine lv_goto (tgt := 2) hx hb dX1_isAt_27 (by decide) ?_
        exact ih1 (i + 1) (by omega) (lt_s hm (decide_eq_true c19)) (by omega) _ _ _ hP hD hS (lv_sub hl [1, 2, 3, 0] rfl)
      · refine lv_iconst (v := nI 0) hx hb dX1_isAt_22 (by decide) ?_
        exact ret 23 _ _ _ (nI 0) () dX1_isAt_23 (by first | exact Or.inl rfl | exact Or.inr rfl) (al_F (i := i) (by omega) (fun z => c19 (of_decide_eq_true z))) hP hD hS
set_option maxHeartbeats 4000000 in
set_option maxRecDepth 100000 in
theorem c_copyTo (l : Launch) (G : gG) (sz : Nat) (o x y z q n k : Nat) (fh f : Nat → Int32) (hk : k + 8 ≤ n) (hn : n ≤ 65536) : MetV l yX1_copyTo wsX1_copyTo ({ frames := 1, cells := 0, slots := 0, locals := 40 } : Room) [.ref o, .ref q, .int (nI k)] G (wIs G o x y z q n fh f) sz (fun _ : Unit => wIs G o x y z q n fh (va_cpy fh f 0 k 8)) (fun _ => True) := by
  refine ent_v _ cX1_copyTo 3 RX1 (by decide) rfl rfl (Nat.le_of_ble_eq_true rfl) ?_
  intro p e s m args below meth c A Q ls hx hb hml hts hown hA hK hX ret hl hP hD hS
  have hl : lv_has ls 3 [(0, .ref o), (1, .ref q), (2, .int (nI k))] := hl
  have lk15 := hts (.fieldLink RX1 15 "MinedLedger$Hasher" "hash" "[I") (by decide +kernel)
  have hiX1 : ∀ w ∈ wsX10, w ∈ wsX1_copyTo := by decide +kernel
  refine lv_aload_n hx hb dX1_copyTo_0 rfl (lv_at hl 0 rfl) ?_
  refine va_get (D := G.1) (ci := 1) (v := .ref y) (C := RX1) (T := TX1) (N := 3) hx hb hts hiX1 hown hK hP 0 rfl rfl 1 (by decide) lk15 (fun _ h9 => h9) rfl dX1_copyTo_1 ?_
  refine lv_iconst (v := nI 0) hx hb dX1_copyTo_4 (by decide) ?_
  refine lv_aload_n hx hb dX1_copyTo_5 rfl (lv_at hl 1 rfl) ?_
  refine lv_iload_n hx hb dX1_copyTo_6 rfl (lv_at hl 2 rfl) ?_
  refine lv_bipush (v := nI 8) hx hb dX1_copyTo_7 (by decide) ?_
  refine cpy_i hx hb (by rw [hml]; exact hl.1.symm) hown (hts (.methodLink RX1 31 arraycopyName) (by decide +kernel)) (hts (.native arraycopyName) (by decide +kernel)) (hts (.static arraycopyName) (by decide +kernel)) (hts (.initialized "java/lang/System") (by decide +kernel)) hK hP hD hS 1 2 rfl rfl 0 k 8 (by omega) (by omega) (by omega) (Nat.le_of_ble_eq_true rfl) (Nat.le_of_ble_eq_true rfl) dX1_copyTo_9 (fun H locs hP hD hS => ?_)
  have hP : va_P G.1 vwCl (wIs G o x y z q n fh (va_cpy fh f 0 k 8)) H := hP
  have hD : va_D A (wIs G o x y z q n fh (va_cpy fh f 0 k 8)) := hD
  exact ret 12 _ _ _ () dX1_copyTo_12 (trivial) hP hD hS
set_option maxHeartbeats 4000000 in
set_option maxRecDepth 100000 in
theorem c_nlz (l : Launch) (G : gG) (sz : Nat) (x : Int32)  : MetI l yJ6_numberOfLeadingZeros_0f7a4 wsJ6_numberOfLeadingZeros_0f7a4 ({ frames := 0, cells := 0, slots := 0, locals := 0 } : Room) [.int x] G (([] : va_W)) sz (fun _ : Unit => []) (fun r _ => r = nI (p_lz x)) := by
  refine ent_i _ cJ6_numberOfLeadingZeros_0f7a4 2 RJ6 (by decide) rfl rfl (Nat.le_of_ble_eq_true rfl) ?_
  intro p e s m args below meth c A Q ls hx hb hml hts hown hA hK hX ret hl hP hD hS
  have hl : lv_has ls 2 [(0, .int x)] := hl
  refine lv_iload_n hx hb dJ6_numberOfLeadingZeros_0f7a4_0 rfl (lv_at hl 0 rfl) ?_
  refine ifz_gt hx hb x 15 dJ6_numberOfLeadingZeros_0f7a4_1 (by decide) (fun c1 => ?_) (fun c1 => ?_)
  · obtain ⟨v, hv, rfl⟩ := of_nn (Int.le_of_lt c1)
    have hv0 : 0 < v := by rw [tI_N hv] at c1; omega
    have hl : lv_has ls 2 [(0, .int (nI v))] := hl
    refine lv_bipush (v := nI 31) hx hb dJ6_numberOfLeadingZeros_0f7a4_15 (by decide) ?_
    refine lv_istore_n (lv' := [(1, .int (nI 31)), (0, .int (nI v))]) hx hb dJ6_numberOfLeadingZeros_0f7a4_17 rfl hl (by decide) rfl (fun ls hl => ?_)
    refine lv_iload_n hx hb dJ6_numberOfLeadingZeros_0f7a4_18 rfl (lv_at hl 1 rfl) ?_
    refine lv_ldcw (v := 65536) hx hb hown (hts (.constant RJ6 264 (65536)) (by decide +kernel)) dJ6_numberOfLeadingZeros_0f7a4_19 ?_
    refine top_i (nI 65536) (by decide) ?_
    refine cmp_lt hx hb v 65536 33 (by omega) (by omega) dJ6_numberOfLeadingZeros_0f7a4_22 (by decide) (fun c22 => ?_) (fun c22 => ?_)
    · refine lv_iload_n hx hb dJ6_numberOfLeadingZeros_0f7a4_33 rfl (lv_at hl 1 rfl) ?_
      refine lv_sipush (v := nI 256) hx hb dJ6_numberOfLeadingZeros_0f7a4_34 (by decide) ?_
      refine cmp_lt hx hb v 256 48 (by omega) (by omega) dJ6_numberOfLeadingZeros_0f7a4_37 (by decide) (fun c37 => ?_) (fun c37 => ?_)
      · refine lv_iload_n hx hb dJ6_numberOfLeadingZeros_0f7a4_48 rfl (lv_at hl 1 rfl) ?_
        refine lv_bipush (v := nI 16) hx hb dJ6_numberOfLeadingZeros_0f7a4_49 (by decide) ?_
        refine cmp_lt hx hb v 16 61 (by omega) (by omega) dJ6_numberOfLeadingZeros_0f7a4_51 (by decide) (fun c51 => ?_) (fun c51 => ?_)
        · refine lv_iload_n hx hb dJ6_numberOfLeadingZeros_0f7a4_61 rfl (lv_at hl 1 rfl) ?_
          refine lv_iconst (v := nI 4) hx hb dJ6_numberOfLeadingZeros_0f7a4_62 (by decide) ?_
          refine cmp_lt hx hb v 4 73 (by omega) (by omega) dJ6_numberOfLeadingZeros_0f7a4_63 (by decide) (fun c63 => ?_) (fun c63 => ?_)
          · refine lv_iload_n hx hb dJ6_numberOfLeadingZeros_0f7a4_73 rfl (lv_at hl 0 rfl) ?_
            refine lv_iload_n hx hb dJ6_numberOfLeadingZeros_0f7a4_74 rfl (lv_at hl 1 rfl) ?_
            refine lv_iconst (v := nI 1) hx hb dJ6_numberOfLeadingZeros_0f7a4_75 (by decide) ?_
            refine lv_iushr (v := (p_ush (nI v) (nI 1))) hx hb dJ6_numberOfLeadingZeros_0f7a4_76 rfl ?_
            refine top_i (nI (v / 2)) (pk_ushrN (by omega) (nI 1) 1 (by decide)) ?_
            refine su_N hx hb 31 (v / 2) (by omega) dJ6_numberOfLeadingZeros_0f7a4_77 ?_
            exact ret 78 _ _ _ (nI (31 - (v / 2))) () dJ6_numberOfLeadingZeros_0f7a4_78 (lz_leaf (k := 0) (by omega) v (by omega) (by omega) (by omega)) hP hD hS
          · refine lv_iinc (v := nI (31 - 2)) (lv' := [(1, .int (nI (31 - 2))), (0, .int (nI v))]) hx hb dJ6_numberOfLeadingZeros_0f7a4_66 hl (k := 0) rfl (dec_N 31 2 (by omega)) (by decide) rfl (fun ls hl => ?_)
            refine lv_iload_n hx hb dJ6_numberOfLeadingZeros_0f7a4_69 rfl (lv_at hl 1 rfl) ?_
            refine lv_iconst (v := nI 2) hx hb dJ6_numberOfLeadingZeros_0f7a4_70 (by decide) ?_
            refine lv_iushr (v := (p_ush (nI v) (nI 2))) hx hb dJ6_numberOfLeadingZeros_0f7a4_71 rfl ?_
            refine top_i (nI (v / 4)) (pk_ushrN (by omega) (nI 2) 2 (by decide)) ?_
            refine lv_istore_n (lv' := [(0, .int (nI (v / 4))), (1, .int (nI (31 - 2)))]) hx hb dJ6_numberOfLeadingZeros_0f7a4_72 rfl hl (by decide) rfl (fun ls hl => ?_)
            refine lv_iload_n hx hb dJ6_numberOfLeadingZeros_0f7a4_73 rfl (lv_at hl 1 rfl) ?_
            refine lv_iload_n hx hb dJ6_numberOfLeadingZeros_0f7a4_74 rfl (lv_at hl 0 rfl) ?_
            refine lv_iconst (v := nI 1) hx hb dJ6_numberOfLeadingZeros_0f7a4_75 (by decide) ?_
            refine lv_iushr (v := (p_ush (nI (v / 4)) (nI 1))) hx hb dJ6_numberOfLeadingZeros_0f7a4_76 rfl ?_
            refine top_i (nI ((v / 4) / 2)) (pk_ushrN (by omega) (nI 1) 1 (by decide)) ?_
            refine su_N hx hb (31 - 2) ((v / 4) / 2) (by omega) dJ6_numberOfLeadingZeros_0f7a4_77 ?_
            exact ret 78 _ _ _ (nI ((31 - 2) - ((v / 4) / 2))) () dJ6_numberOfLeadingZeros_0f7a4_78 (lz_leaf (k := 2) (by omega) (v / 4) (by omega) (by omega) (by omega)) hP hD hS
        · refine lv_iinc (v := nI (31 - 4)) (lv' := [(1, .int (nI (31 - 4))), (0, .int (nI v))]) hx hb dJ6_numberOfLeadingZeros_0f7a4_54 hl (k := 0) rfl (dec_N 31 4 (by omega)) (by decide) rfl (fun ls hl => ?_)
          refine lv_iload_n hx hb dJ6_numberOfLeadingZeros_0f7a4_57 rfl (lv_at hl 1 rfl) ?_
          refine lv_iconst (v := nI 4) hx hb dJ6_numberOfLeadingZeros_0f7a4_58 (by decide) ?_
          refine lv_iushr (v := (p_ush (nI v) (nI 4))) hx hb dJ6_numberOfLeadingZeros_0f7a4_59 rfl ?_
          refine top_i (nI (v / 16)) (pk_ushrN (by omega) (nI 4) 4 (by decide)) ?_
          refine lv_istore_n (lv' := [(0, .int (nI (v / 16))), (1, .int (nI (31 - 4)))]) hx hb dJ6_numberOfLeadingZeros_0f7a4_60 rfl hl (by decide) rfl (fun ls hl => ?_)
          refine lv_iload_n hx hb dJ6_numberOfLeadingZeros_0f7a4_61 rfl (lv_at hl 0 rfl) ?_
          refine lv_iconst (v := nI 4) hx hb dJ6_numberOfLeadingZeros_0f7a4_62 (by decide) ?_
          refine cmp_lt hx hb (v / 16) 4 73 (by omega) (by omega) dJ6_numberOfLeadingZeros_0f7a4_63 (by decide) (fun c63 => ?_) (fun c63 => ?_)
          · refine lv_iload_n hx hb dJ6_numberOfLeadingZeros_0f7a4_73 rfl (lv_at hl 1 rfl) ?_
            refine lv_iload_n hx hb dJ6_numberOfLeadingZeros_0f7a4_74 rfl (lv_at hl 0 rfl) ?_
            refine lv_iconst (v := nI 1) hx hb dJ6_numberOfLeadingZeros_0f7a4_75 (by decide) ?_
            refine lv_iushr (v := (p_ush (nI (v / 16)) (nI 1))) hx hb dJ6_numberOfLeadingZeros_0f7a4_76 rfl ?_
            refine top_i (nI ((v / 16) / 2)) (pk_ushrN (by omega) (nI 1) 1 (by decide)) ?_
            refine su_N hx hb (31 - 4) ((v / 16) / 2) (by omega) dJ6_numberOfLeadingZeros_0f7a4_77 ?_
            exact ret 78 _ _ _ (nI ((31 - 4) - ((v / 16) / 2))) () dJ6_numberOfLeadingZeros_0f7a4_78 (lz_leaf (k := 4) (by omega) (v / 16) (by omega) (by omega) (by omega)) hP hD hS
          · refine lv_iinc (v := nI (31 - 4 - 2)) (lv' := [(1, .int (nI (31 - 4 - 2))), (0, .int (nI (v / 16)))]) hx hb dJ6_numberOfLeadingZeros_0f7a4_66 hl (k := 1) rfl (dec_N (31 - 4) 2 (by omega)) (by decide) rfl (fun ls hl => ?_)
            refine lv_iload_n hx hb dJ6_numberOfLeadingZeros_0f7a4_69 rfl (lv_at hl 1 rfl) ?_
            refine lv_iconst (v := nI 2) hx hb dJ6_numberOfLeadingZeros_0f7a4_70 (by decide) ?_
            refine lv_iushr (v := (p_ush (nI (v / 16)) (nI 2))) hx hb dJ6_numberOfLeadingZeros_0f7a4_71 rfl ?_
            refine top_i (nI ((v / 16) / 4)) (pk_ushrN (by omega) (nI 2) 2 (by decide)) ?_
            refine lv_istore_n (lv' := [(0, .int (nI ((v / 16) / 4))), (1, .int (nI (31 - 4 - 2)))]) hx hb dJ6_numberOfLeadingZeros_0f7a4_72 rfl hl (by decide) rfl (fun ls hl => ?_)
            refine lv_iload_n hx hb dJ6_numberOfLeadingZeros_0f7a4_73 rfl (lv_at hl 1 rfl) ?_
            refine lv_iload_n hx hb dJ6_numberOfLeadingZeros_0f7a4_74 rfl (lv_at hl 0 rfl) ?_
            refine lv_iconst (v := nI 1) hx hb dJ6_numberOfLeadingZeros_0f7a4_75 (by decide) ?_
            refine lv_iushr (v := (p_ush (nI ((v / 16) / 4)) (nI 1))) hx hb dJ6_numberOfLeadingZeros_0f7a4_76 rfl ?_
            refine top_i (nI (((v / 16) / 4) / 2)) (pk_ushrN (by omega) (nI 1) 1 (by decide)) ?_
            refine su_N hx hb (31 - 4 - 2) (((v / 16) / 4) / 2) (by omega) dJ6_numberOfLeadingZeros_0f7a4_77 ?_
            exact ret 78 _ _ _ (nI ((31 - 4 - 2) - (((v / 16) / 4) / 2))) () dJ6_numberOfLeadingZeros_0f7a4_78 (lz_leaf (k := 6) (by omega) ((v / 16) / 4) (by omega) (by omega) (by omega)) hP hD hS
      · refine lv_iinc (v := nI (31 - 8)) (lv' := [(1, .int (nI (31 - 8))), (0, .int (nI v))]) hx hb dJ6_numberOfLeadingZeros_0f7a4_40 hl (k := 0) rfl (dec_N 31 8 (by omega)) (by decide) rfl (fun ls hl => ?_)
        refine lv_iload_n hx hb dJ6_numberOfLeadingZeros_0f7a4_43 rfl (lv_at hl 1 rfl) ?_
        refine lv_bipush (v := nI 8) hx hb dJ6_numberOfLeadingZeros_0f7a4_44 (by decide) ?_
        refine lv_iushr (v := (p_ush (nI v) (nI 8))) hx hb dJ6_numberOfLeadingZeros_0f7a4_46 rfl ?_
        refine top_i (nI (v / 256)) (pk_ushrN (by omega) (nI 8) 8 (by decide)) ?_
        refine lv_istore_n (lv' := [(0, .int (nI (v / 256))), (1, .int (nI (31 - 8)))]) hx hb dJ6_numberOfLeadingZeros_0f7a4_47 rfl hl (by decide) rfl (fun ls hl => ?_)
        refine lv_iload_n hx hb dJ6_numberOfLeadingZeros_0f7a4_48 rfl (lv_at hl 0 rfl) ?_
        refine lv_bipush (v := nI 16) hx hb dJ6_numberOfLeadingZeros_0f7a4_49 (by decide) ?_
        refine cmp_lt hx hb (v / 256) 16 61 (by omega) (by omega) dJ6_numberOfLeadingZeros_0f7a4_51 (by decide) (fun c51 => ?_) (fun c51 => ?_)
        · refine lv_iload_n hx hb dJ6_numberOfLeadingZeros_0f7a4_61 rfl (lv_at hl 0 rfl) ?_
          refine lv_iconst (v := nI 4) hx hb dJ6_numberOfLeadingZeros_0f7a4_62 (by decide) ?_
          refine cmp_lt hx hb (v / 256) 4 73 (by omega) (by omega) dJ6_numberOfLeadingZeros_0f7a4_63 (by decide) (fun c63 => ?_) (fun c63 => ?_)
          · refine lv_iload_n hx hb dJ6_numberOfLeadingZeros_0f7a4_73 rfl (lv_at hl 1 rfl) ?_
            refine lv_iload_n hx hb dJ6_numberOfLeadingZeros_0f7a4_74 rfl (lv_at hl 0 rfl) ?_
            refine lv_iconst (v := nI 1) hx hb dJ6_numberOfLeadingZeros_0f7a4_75 (by decide) ?_
            refine lv_iushr (v := (p_ush (nI (v / 256)) (nI 1))) hx hb dJ6_numberOfLeadingZeros_0f7a4_76 rfl ?_
            refine top_i (nI ((v / 256) / 2)) (pk_ushrN (by omega) (nI 1) 1 (by decide)) ?_
            refine su_N hx hb (31 - 8) ((v / 256) / 2) (by omega) dJ6_numberOfLeadingZeros_0f7a4_77 ?_
            exact ret 78 _ _ _ (nI ((31 - 8) - ((v / 256) / 2))) () dJ6_numberOfLeadingZeros_0f7a4_78 (lz_leaf (k := 8) (by omega) (v / 256) (by omega) (by omega) (by omega)) hP hD hS
          · refine lv_iinc (v := nI (31 - 8 - 2)) (lv' := [(1, .int (nI (31 - 8 - 2))), (0, .int (nI (v / 256)))]) hx hb dJ6_numberOfLeadingZeros_0f7a4_66 hl (k := 1) rfl (dec_N (31 - 8) 2 (by omega)) (by decide) rfl (fun ls hl => ?_)
            refine lv_iload_n hx hb dJ6_numberOfLeadingZeros_0f7a4_69 rfl (lv_at hl 1 rfl) ?_
            refine lv_iconst (v := nI 2) hx hb dJ6_numberOfLeadingZeros_0f7a4_70 (by decide) ?_
            refine lv_iushr (v := (p_ush (nI (v / 256)) (nI 2))) hx hb dJ6_numberOfLeadingZeros_0f7a4_71 rfl ?_
            refine top_i (nI ((v / 256) / 4)) (pk_ushrN (by omega) (nI 2) 2 (by decide)) ?_
            refine lv_istore_n (lv' := [(0, .int (nI ((v / 256) / 4))), (1, .int (nI (31 - 8 - 2)))]) hx hb dJ6_numberOfLeadingZeros_0f7a4_72 rfl hl (by decide) rfl (fun ls hl => ?_)
            refine lv_iload_n hx hb dJ6_numberOfLeadingZeros_0f7a4_73 rfl (lv_at hl 1 rfl) ?_
            refine lv_iload_n hx hb dJ6_numberOfLeadingZeros_0f7a4_74 rfl (lv_at hl 0 rfl) ?_
            refine lv_iconst (v := nI 1) hx hb dJ6_numberOfLeadingZeros_0f7a4_75 (by decide) ?_
            refine lv_iushr (v := (p_ush (nI ((v / 256) / 4)) (nI 1))) hx hb dJ6_numberOfLeadingZeros_0f7a4_76 rfl ?_
            refine top_i (nI (((v / 256) / 4) / 2)) (pk_ushrN (by omega) (nI 1) 1 (by decide)) ?_
            refine su_N hx hb (31 - 8 - 2) (((v / 256) / 4) / 2) (by omega) dJ6_numberOfLeadingZeros_0f7a4_77 ?_
            exact ret 78 _ _ _ (nI ((31 - 8 - 2) - (((v / 256) / 4) / 2))) () dJ6_numberOfLeadingZeros_0f7a4_78 (lz_leaf (k := 10) (by omega) ((v / 256) / 4) (by omega) (by omega) (by omega)) hP hD hS
        · refine lv_iinc (v := nI (31 - 8 - 4)) (lv' := [(1, .int (nI (31 - 8 - 4))), (0, .int (nI (v / 256)))]) hx hb dJ6_numberOfLeadingZeros_0f7a4_54 hl (k := 1) rfl (dec_N (31 - 8) 4 (by omega)) (by decide) rfl (fun ls hl => ?_)
          refine lv_iload_n hx hb dJ6_numberOfLeadingZeros_0f7a4_57 rfl (lv_at hl 1 rfl) ?_
          refine lv_iconst (v := nI 4) hx hb dJ6_numberOfLeadingZeros_0f7a4_58 (by decide) ?_
          refine lv_iushr (v := (p_ush (nI (v / 256)) (nI 4))) hx hb dJ6_numberOfLeadingZeros_0f7a4_59 rfl ?_
          refine top_i (nI ((v / 256) / 16)) (pk_ushrN (by omega) (nI 4) 4 (by decide)) ?_
          refine lv_istore_n (lv' := [(0, .int (nI ((v / 256) / 16))), (1, .int (nI (31 - 8 - 4)))]) hx hb dJ6_numberOfLeadingZeros_0f7a4_60 rfl hl (by decide) rfl (fun ls hl => ?_)
          refine lv_iload_n hx hb dJ6_numberOfLeadingZeros_0f7a4_61 rfl (lv_at hl 0 rfl) ?_
          refine lv_iconst (v := nI 4) hx hb dJ6_numberOfLeadingZeros_0f7a4_62 (by decide) ?_
          refine cmp_lt hx hb ((v / 256) / 16) 4 73 (by omega) (by omega) dJ6_numberOfLeadingZeros_0f7a4_63 (by decide) (fun c63 => ?_) (fun c63 => ?_)
          · refine lv_iload_n hx hb dJ6_numberOfLeadingZeros_0f7a4_73 rfl (lv_at hl 1 rfl) ?_
            refine lv_iload_n hx hb dJ6_numberOfLeadingZeros_0f7a4_74 rfl (lv_at hl 0 rfl) ?_
            refine lv_iconst (v := nI 1) hx hb dJ6_numberOfLeadingZeros_0f7a4_75 (by decide) ?_
            refine lv_iushr (v := (p_ush (nI ((v / 256) / 16)) (nI 1))) hx hb dJ6_numberOfLeadingZeros_0f7a4_76 rfl ?_
            refine top_i (nI (((v / 256) / 16) / 2)) (pk_ushrN (by omega) (nI 1) 1 (by decide)) ?_
            refine su_N hx hb (31 - 8 - 4) (((v / 256) / 16) / 2) (by omega) dJ6_numberOfLeadingZeros_0f7a4_77 ?_
            exact ret 78 _ _ _ (nI ((31 - 8 - 4) - (((v / 256) / 16) / 2))) () dJ6_numberOfLeadingZeros_0f7a4_78 (lz_leaf (k := 12) (by omega) ((v / 256) / 16) (by omega) (by omega) (by omega)) hP hD hS
          · refine lv_iinc (v := nI (31 - 8 - 4 - 2)) (lv' := [(1, .int (nI (31 - 8 - 4 - 2))), (0, .int (nI ((v / 256) / 16)))]) hx hb dJ6_numberOfLeadingZeros_0f7a4_66 hl (k := 1) rfl (dec_N (31 - 8 - 4) 2 (by omega)) (by decide) rfl (fun ls hl => ?_)
            refine lv_iload_n hx hb dJ6_numberOfLeadingZeros_0f7a4_69 rfl (lv_at hl 1 rfl) ?_
            refine lv_iconst (v := nI 2) hx hb dJ6_numberOfLeadingZeros_0f7a4_70 (by decide) ?_
            refine lv_iushr (v := (p_ush (nI ((v / 256) / 16)) (nI 2))) hx hb dJ6_numberOfLeadingZeros_0f7a4_71 rfl ?_
            refine top_i (nI (((v / 256) / 16) / 4)) (pk_ushrN (by omega) (nI 2) 2 (by decide)) ?_
            refine lv_istore_n (lv' := [(0, .int (nI (((v / 256) / 16) / 4))), (1, .int (nI (31 - 8 - 4 - 2)))]) hx hb dJ6_numberOfLeadingZeros_0f7a4_72 rfl hl (by decide) rfl (fun ls hl => ?_)
            refine lv_iload_n hx hb dJ6_numberOfLeadingZeros_0f7a4_73 rfl (lv_at hl 1 rfl) ?_
            refine lv_iload_n hx hb dJ6_numberOfLeadingZeros_0f7a4_74 rfl (lv_at hl 0 rfl) ?_
            refine lv_iconst (v := nI 1) hx hb dJ6_numberOfLeadingZeros_0f7a4_75 (by decide) ?_
            refine lv_iushr (v := (p_ush (nI (((v / 256) / 16) / 4)) (nI 1))) hx hb dJ6_numberOfLeadingZeros_0f7a4_76 rfl ?_
            refine top_i (nI ((((v / 256) / 16) / 4) / 2)) (pk_ushrN (by omega) (nI 1) 1 (by decide)) ?_
            refine su_N hx hb (31 - 8 - 4 - 2) ((((v / 256) / 16) / 4) / 2) (by omega) dJ6_numberOfLeadingZeros_0f7a4_77 ?_
            exact ret 78 _ _ _ (nI ((31 - 8 - 4 - 2) - ((((v / 256) / 16) / 4) / 2))) () dJ6_numberOfLeadingZeros_0f7a4_78 (lz_leaf (k := 14) (by omega) (((v / 256) / 16) / 4) (by omega) (by omega) (by omega)) hP hD hS
    · refine lv_iinc (v := nI (31 - 16)) (lv' := [(1, .int (nI (31 - 16))), (0, .int (nI v))]) hx hb dJ6_numberOfLeadingZeros_0f7a4_25 hl (k := 0) rfl (dec_N 31 16 (by omega)) (by decide) rfl (fun ls hl => ?_)
      refine lv_iload_n hx hb dJ6_numberOfLeadingZeros_0f7a4_28 rfl (lv_at hl 1 rfl) ?_
      refine lv_bipush (v := nI 16) hx hb dJ6_numberOfLeadingZeros_0f7a4_29 (by decide) ?_
      refine lv_iushr (v := (p_ush (nI v) (nI 16))) hx hb dJ6_numberOfLeadingZeros_0f7a4_31 rfl ?_
      refine top_i (nI (v / 65536)) (pk_ushrN (by omega) (nI 16) 16 (by decide)) ?_
      refine lv_istore_n (lv' := [(0, .int (nI (v / 65536))), (1, .int (nI (31 - 16)))]) hx hb dJ6_numberOfLeadingZeros_0f7a4_32 rfl hl (by decide) rfl (fun ls hl => ?_)
      refine lv_iload_n hx hb dJ6_numberOfLeadingZeros_0f7a4_33 rfl (lv_at hl 0 rfl) ?_
      refine lv_sipush (v := nI 256) hx hb dJ6_numberOfLeadingZeros_0f7a4_34 (by decide) ?_
      refine cmp_lt hx hb (v / 65536) 256 48 (by omega) (by omega) dJ6_numberOfLeadingZeros_0f7a4_37 (by decide) (fun c37 => ?_) (fun c37 => ?_)
      · refine lv_iload_n hx hb dJ6_numberOfLeadingZeros_0f7a4_48 rfl (lv_at hl 0 rfl) ?_
        refine lv_bipush (v := nI 16) hx hb dJ6_numberOfLeadingZeros_0f7a4_49 (by decide) ?_
        refine cmp_lt hx hb (v / 65536) 16 61 (by omega) (by omega) dJ6_numberOfLeadingZeros_0f7a4_51 (by decide) (fun c51 => ?_) (fun c51 => ?_)
        · refine lv_iload_n hx hb dJ6_numberOfLeadingZeros_0f7a4_61 rfl (lv_at hl 0 rfl) ?_
          refine lv_iconst (v := nI 4) hx hb dJ6_numberOfLeadingZeros_0f7a4_62 (by decide) ?_
          refine cmp_lt hx hb (v / 65536) 4 73 (by omega) (by omega) dJ6_numberOfLeadingZeros_0f7a4_63 (by decide) (fun c63 => ?_) (fun c63 => ?_)
          · refine lv_iload_n hx hb dJ6_numberOfLeadingZeros_0f7a4_73 rfl (lv_at hl 1 rfl) ?_
            refine lv_iload_n hx hb dJ6_numberOfLeadingZeros_0f7a4_74 rfl (lv_at hl 0 rfl) ?_
            refine lv_iconst (v := nI 1) hx hb dJ6_numberOfLeadingZeros_0f7a4_75 (by decide) ?_
            refine lv_iushr (v := (p_ush (nI (v / 65536)) (nI 1))) hx hb dJ6_numberOfLeadingZeros_0f7a4_76 rfl ?_
            refine top_i (nI ((v / 65536) / 2)) (pk_ushrN (by omega) (nI 1) 1 (by decide)) ?_
            refine su_N hx hb (31 - 16) ((v / 65536) / 2) (by omega) dJ6_numberOfLeadingZeros_0f7a4_77 ?_
            exact ret 78 _ _ _ (nI ((31 - 16) - ((v / 65536) / 2))) () dJ6_numberOfLeadingZeros_0f7a4_78 (lz_leaf (k := 16) (by omega) (v / 65536) (by omega) (by omega) (by omega)) hP hD hS
          · refine lv_iinc (v := nI (31 - 16 - 2)) (lv' := [(1, .int (nI (31 - 16 - 2))), (0, .int (nI (v / 65536)))]) hx hb dJ6_numberOfLeadingZeros_0f7a4_66 hl (k := 1) rfl (dec_N (31 - 16) 2 (by omega)) (by decide) rfl (fun ls hl => ?_)
            refine lv_iload_n hx hb dJ6_numberOfLeadingZeros_0f7a4_69 rfl (lv_at hl 1 rfl) ?_
            refine lv_iconst (v := nI 2) hx hb dJ6_numberOfLeadingZeros_0f7a4_70 (by decide) ?_
            refine lv_iushr (v := (p_ush (nI (v / 65536)) (nI 2))) hx hb dJ6_numberOfLeadingZeros_0f7a4_71 rfl ?_
            refine top_i (nI ((v / 65536) / 4)) (pk_ushrN (by omega) (nI 2) 2 (by decide)) ?_
            refine lv_istore_n (lv' := [(0, .int (nI ((v / 65536) / 4))), (1, .int (nI (31 - 16 - 2)))]) hx hb dJ6_numberOfLeadingZeros_0f7a4_72 rfl hl (by decide) rfl (fun ls hl => ?_)
            refine lv_iload_n hx hb dJ6_numberOfLeadingZeros_0f7a4_73 rfl (lv_at hl 1 rfl) ?_
            refine lv_iload_n hx hb dJ6_numberOfLeadingZeros_0f7a4_74 rfl (lv_at hl 0 rfl) ?_
            refine lv_iconst (v := nI 1) hx hb dJ6_numberOfLeadingZeros_0f7a4_75 (by decide) ?_
            refine lv_iushr (v := (p_ush (nI ((v / 65536) / 4)) (nI 1))) hx hb dJ6_numberOfLeadingZeros_0f7a4_76 rfl ?_
            refine top_i (nI (((v / 65536) / 4) / 2)) (pk_ushrN (by omega) (nI 1) 1 (by decide)) ?_
            refine su_N hx hb (31 - 16 - 2) (((v / 65536) / 4) / 2) (by omega) dJ6_numberOfLeadingZeros_0f7a4_77 ?_
            exact ret 78 _ _ _ (nI ((31 - 16 - 2) - (((v / 65536) / 4) / 2))) () dJ6_numberOfLeadingZeros_0f7a4_78 (lz_leaf (k := 18) (by omega) ((v / 65536) / 4) (by omega) (by omega) (by omega)) hP hD hS
        · refine lv_iinc (v := nI (31 - 16 - 4)) (lv' := [(1, .int (nI (31 - 16 - 4))), (0, .int (nI (v / 65536)))]) hx hb dJ6_numberOfLeadingZeros_0f7a4_54 hl (k := 1) rfl (dec_N (31 - 16) 4 (by omega)) (by decide) rfl (fun ls hl => ?_)
          refine lv_iload_n hx hb dJ6_numberOfLeadingZeros_0f7a4_57 rfl (lv_at hl 1 rfl) ?_
          refine lv_iconst (v := nI 4) hx hb dJ6_numberOfLeadingZeros_0f7a4_58 (by decide) ?_
          refine lv_iushr (v := (p_ush (nI (v / 65536)) (nI 4))) hx hb dJ6_numberOfLeadingZeros_0f7a4_59 rfl ?_
          refine top_i (nI ((v / 65536) / 16)) (pk_ushrN (by omega) (nI 4) 4 (by decide)) ?_
          refine lv_istore_n (lv' := [(0, .int (nI ((v / 65536) / 16))), (1, .int (nI (31 - 16 - 4)))]) hx hb dJ6_numberOfLeadingZeros_0f7a4_60 rfl hl (by decide) rfl (fun ls hl => ?_)
          refine lv_iload_n hx hb dJ6_numberOfLeadingZeros_0f7a4_61 rfl (lv_at hl 0 rfl) ?_
          refine lv_iconst (v := nI 4) hx hb dJ6_numberOfLeadingZeros_0f7a4_62 (by decide) ?_
          refine cmp_lt hx hb ((v / 65536) / 16) 4 73 (by omega) (by omega) dJ6_numberOfLeadingZeros_0f7a4_63 (by decide) (fun c63 => ?_) (fun c63 => ?_)
          · refine lv_iload_n hx hb dJ6_numberOfLeadingZeros_0f7a4_73 rfl (lv_at hl 1 rfl) ?_
            refine lv_iload_n hx hb dJ6_numberOfLeadingZeros_0f7a4_74 rfl (lv_at hl 0 rfl) ?_
            refine lv_iconst (v := nI 1) hx hb dJ6_numberOfLeadingZeros_0f7a4_75 (by decide) ?_
            refine lv_iushr (v := (p_ush (nI ((v / 65536) / 16)) (nI 1))) hx hb dJ6_numberOfLeadingZeros_0f7a4_76 rfl ?_
            refine top_i (nI (((v / 65536) / 16) / 2)) (pk_ushrN (by omega) (nI 1) 1 (by decide)) ?_
            refine su_N hx hb (31 - 16 - 4) (((v / 65536) / 16) / 2) (by omega) dJ6_numberOfLeadingZeros_0f7a4_77 ?_
            exact ret 78 _ _ _ (nI ((31 - 16 - 4) - (((v / 65536) / 16) / 2))) () dJ6_numberOfLeadingZeros_0f7a4_78 (lz_leaf (k := 20) (by omega) ((v / 65536) / 16) (by omega) (by omega) (by omega)) hP hD hS
          · refine lv_iinc (v := nI (31 - 16 - 4 - 2)) (lv' := [(1, .int (nI (31 - 16 - 4 - 2))), (0, .int (nI ((v / 65536) / 16)))]) hx hb dJ6_numberOfLeadingZeros_0f7a4_66 hl (k := 1) rfl (dec_N (31 - 16 - 4) 2 (by omega)) (by decide) rfl (fun ls hl => ?_)
            refine lv_iload_n hx hb dJ6_numberOfLeadingZeros_0f7a4_69 rfl (lv_at hl 1 rfl) ?_
            refine lv_iconst (v := nI 2) hx hb dJ6_numberOfLeadingZeros_0f7a4_70 (by decide) ?_
            refine lv_iushr (v := (p_ush (nI ((v / 65536) / 16)) (nI 2))) hx hb dJ6_numberOfLeadingZeros_0f7a4_71 rfl ?_
            refine top_i (nI (((v / 65536) / 16) / 4)) (pk_ushrN (by omega) (nI 2) 2 (by decide)) ?_
            refine lv_istore_n (lv' := [(0, .int (nI (((v / 65536) / 16) / 4))), (1, .int (nI (31 - 16 - 4 - 2)))]) hx hb dJ6_numberOfLeadingZeros_0f7a4_72 rfl hl (by decide) rfl (fun ls hl => ?_)
            refine lv_iload_n hx hb dJ6_numberOfLeadingZeros_0f7a4_73 rfl (lv_at hl 1 rfl) ?_
            refine lv_iload_n hx hb dJ6_numberOfLeadingZeros_0f7a4_74 rfl (lv_at hl 0 rfl) ?_
            refine lv_iconst (v := nI 1) hx hb dJ6_numberOfLeadingZeros_0f7a4_75 (by decide) ?_
            refine lv_iushr (v := (p_ush (nI (((v / 65536) / 16) / 4)) (nI 1))) hx hb dJ6_numberOfLeadingZeros_0f7a4_76 rfl ?_
            refine top_i (nI ((((v / 65536) / 16) / 4) / 2)) (pk_ushrN (by omega) (nI 1) 1 (by decide)) ?_
            refine su_N hx hb (31 - 16 - 4 - 2) ((((v / 65536) / 16) / 4) / 2) (by omega) dJ6_numberOfLeadingZeros_0f7a4_77 ?_
            exact ret 78 _ _ _ (nI ((31 - 16 - 4 - 2) - ((((v / 65536) / 16) / 4) / 2))) () dJ6_numberOfLeadingZeros_0f7a4_78 (lz_leaf (k := 22) (by omega) (((v / 65536) / 16) / 4) (by omega) (by omega) (by omega)) hP hD hS
      · refine lv_iinc (v := nI (31 - 16 - 8)) (lv' := [(1, .int (nI (31 - 16 - 8))), (0, .int (nI (v / 65536)))]) hx hb dJ6_numberOfLeadingZeros_0f7a4_40 hl (k := 1) rfl (dec_N (31 - 16) 8 (by omega)) (by decide) rfl (fun ls hl => ?_)
        refine lv_iload_n hx hb dJ6_numberOfLeadingZeros_0f7a4_43 rfl (lv_at hl 1 rfl) ?_
        refine lv_bipush (v := nI 8) hx hb dJ6_numberOfLeadingZeros_0f7a4_44 (by decide) ?_
        refine lv_iushr (v := (p_ush (nI (v / 65536)) (nI 8))) hx hb dJ6_numberOfLeadingZeros_0f7a4_46 rfl ?_
        refine top_i (nI ((v / 65536) / 256)) (pk_ushrN (by omega) (nI 8) 8 (by decide)) ?_
        refine lv_istore_n (lv' := [(0, .int (nI ((v / 65536) / 256))), (1, .int (nI (31 - 16 - 8)))]) hx hb dJ6_numberOfLeadingZeros_0f7a4_47 rfl hl (by decide) rfl (fun ls hl => ?_)
        refine lv_iload_n hx hb dJ6_numberOfLeadingZeros_0f7a4_48 rfl (lv_at hl 0 rfl) ?_
        refine lv_bipush (v := nI 16) hx hb dJ6_numberOfLeadingZeros_0f7a4_49 (by decide) ?_
        refine cmp_lt hx hb ((v / 65536) / 256) 16 61 (by omega) (by omega) dJ6_numberOfLeadingZeros_0f7a4_51 (by decide) (fun c51 => ?_) (fun c51 => ?_)
        · refine lv_iload_n hx hb dJ6_numberOfLeadingZeros_0f7a4_61 rfl (lv_at hl 0 rfl) ?_
          refine lv_iconst (v := nI 4) hx hb dJ6_numberOfLeadingZeros_0f7a4_62 (by decide) ?_
          refine cmp_lt hx hb ((v / 65536) / 256) 4 73 (by omega) (by omega) dJ6_numberOfLeadingZeros_0f7a4_63 (by decide) (fun c63 => ?_) (fun c63 => ?_)
          · refine lv_iload_n hx hb dJ6_numberOfLeadingZeros_0f7a4_73 rfl (lv_at hl 1 rfl) ?_
            refine lv_iload_n hx hb dJ6_numberOfLeadingZeros_0f7a4_74 rfl (lv_at hl 0 rfl) ?_
            refine lv_iconst (v := nI 1) hx hb dJ6_numberOfLeadingZeros_0f7a4_75 (by decide) ?_
            refine lv_iushr (v := (p_ush (nI ((v / 65536) / 256)) (nI 1))) hx hb dJ6_numberOfLeadingZeros_0f7a4_76 rfl ?_
            refine top_i (nI (((v / 65536) / 256) / 2)) (pk_ushrN (by omega) (nI 1) 1 (by decide)) ?_
            refine su_N hx hb (31 - 16 - 8) (((v / 65536) / 256) / 2) (by omega) dJ6_numberOfLeadingZeros_0f7a4_77 ?_
            exact ret 78 _ _ _ (nI ((31 - 16 - 8) - (((v / 65536) / 256) / 2))) () dJ6_numberOfLeadingZeros_0f7a4_78 (lz_leaf (k := 24) (by omega) ((v / 65536) / 256) (by omega) (by omega) (by omega)) hP hD hS
          · refine lv_iinc (v := nI (31 - 16 - 8 - 2)) (lv' := [(1, .int (nI (31 - 16 - 8 - 2))), (0, .int (nI ((v / 65536) / 256)))]) hx hb dJ6_numberOfLeadingZeros_0f7a4_66 hl (k := 1) rfl (dec_N (31 - 16 - 8) 2 (by omega)) (by decide) rfl (fun ls hl => ?_)
            refine lv_iload_n hx hb dJ6_numberOfLeadingZeros_0f7a4_69 rfl (lv_at hl 1 rfl) ?_
            refine lv_iconst (v := nI 2) hx hb dJ6_numberOfLeadingZeros_0f7a4_70 (by decide) ?_
            refine lv_iushr (v := (p_ush (nI ((v / 65536) / 256)) (nI 2))) hx hb dJ6_numberOfLeadingZeros_0f7a4_71 rfl ?_
            refine top_i (nI (((v / 65536) / 256) / 4)) (pk_ushrN (by omega) (nI 2) 2 (by decide)) ?_
            refine lv_istore_n (lv' := [(0, .int (nI (((v / 65536) / 256) / 4))), (1, .int (nI (31 - 16 - 8 - 2)))]) hx hb dJ6_numberOfLeadingZeros_0f7a4_72 rfl hl (by decide) rfl (fun ls hl => ?_)
            refine lv_iload_n hx hb dJ6_numberOfLeadingZeros_0f7a4_73 rfl (lv_at hl 1 rfl) ?_
            refine lv_iload_n hx hb dJ6_numberOfLeadingZeros_0f7a4_74 rfl (lv_at hl 0 rfl) ?_
            refine lv_iconst (v := nI 1) hx hb dJ6_numberOfLeadingZeros_0f7a4_75 (by decide) ?_
            refine lv_iushr (v := (p_ush (nI (((v / 65536) / 256) / 4)) (nI 1))) hx hb dJ6_numberOfLeadingZeros_0f7a4_76 rfl ?_
            refine top_i (nI ((((v / 65536) / 256) / 4) / 2)) (pk_ushrN (by omega) (nI 1) 1 (by decide)) ?_
            refine su_N hx hb (31 - 16 - 8 - 2) ((((v / 65536) / 256) / 4) / 2) (by omega) dJ6_numberOfLeadingZeros_0f7a4_77 ?_
            exact ret 78 _ _ _ (nI ((31 - 16 - 8 - 2) - ((((v / 65536) / 256) / 4) / 2))) () dJ6_numberOfLeadingZeros_0f7a4_78 (lz_leaf (k := 26) (by omega) (((v / 65536) / 256) / 4) (by omega) (by omega) (by omega)) hP hD hS
        · refine lv_iinc (v := nI (31 - 16 - 8 - 4)) (lv' := [(1, .int (nI (31 - 16 - 8 - 4))), (0, .int (nI ((v / 65536) / 256)))]) hx hb dJ6_numberOfLeadingZeros_0f7a4_54 hl (k := 1) rfl (dec_N (31 - 16 - 8) 4 (by omega)) (by decide) rfl (fun ls hl => ?_)
          refine lv_iload_n hx hb dJ6_numberOfLeadingZeros_0f7a4_57 rfl (lv_at hl 1 rfl) ?_
          refine lv_iconst (v := nI 4) hx hb dJ6_numberOfLeadingZeros_0f7a4_58 (by decide) ?_
          refine lv_iushr (v := (p_ush (nI ((v / 65536) / 256)) (nI 4))) hx hb dJ6_numberOfLeadingZeros_0f7a4_59 rfl ?_
          refine top_i (nI (((v / 65536) / 256) / 16)) (pk_ushrN (by omega) (nI 4) 4 (by decide)) ?_
          refine lv_istore_n (lv' := [(0, .int (nI (((v / 65536) / 256) / 16))), (1, .int (nI (31 - 16 - 8 - 4)))]) hx hb dJ6_numberOfLeadingZeros_0f7a4_60 rfl hl (by decide) rfl (fun ls hl => ?_)
          refine lv_iload_n hx hb dJ6_numberOfLeadingZeros_0f7a4_61 rfl (lv_at hl 0 rfl) ?_
          refine lv_iconst (v := nI 4) hx hb dJ6_numberOfLeadingZeros_0f7a4_62 (by decide) ?_
          refine cmp_lt hx hb (((v / 65536) / 256) / 16) 4 73 (by omega) (by omega) dJ6_numberOfLeadingZeros_0f7a4_63 (by decide) (fun c63 => ?_) (fun c63 => ?_)
          · refine lv_iload_n hx hb dJ6_numberOfLeadingZeros_0f7a4_73 rfl (lv_at hl 1 rfl) ?_
            refine lv_iload_n hx hb dJ6_numberOfLeadingZeros_0f7a4_74 rfl (lv_at hl 0 rfl) ?_
            refine lv_iconst (v := nI 1) hx hb dJ6_numberOfLeadingZeros_0f7a4_75 (by decide) ?_
            refine lv_iushr (v := (p_ush (nI (((v / 65536) / 256) / 16)) (nI 1))) hx hb dJ6_numberOfLeadingZeros_0f7a4_76 rfl ?_
            refine top_i (nI ((((v / 65536) / 256) / 16) / 2)) (pk_ushrN (by omega) (nI 1) 1 (by decide)) ?_
            refine su_N hx hb (31 - 16 - 8 - 4) ((((v / 65536) / 256) / 16) / 2) (by omega) dJ6_numberOfLeadingZeros_0f7a4_77 ?_
            exact ret 78 _ _ _ (nI ((31 - 16 - 8 - 4) - ((((v / 65536) / 256) / 16) / 2))) () dJ6_numberOfLeadingZeros_0f7a4_78 (lz_leaf (k := 28) (by omega) (((v / 65536) / 256) / 16) (by omega) (by omega) (by omega)) hP hD hS
          · refine lv_iinc (v := nI (31 - 16 - 8 - 4 - 2)) (lv' := [(1, .int (nI (31 - 16 - 8 - 4 - 2))), (0, .int (nI (((v / 65536) / 256) / 16)))]) hx hb dJ6_numberOfLeadingZeros_0f7a4_66 hl (k := 1) rfl (dec_N (31 - 16 - 8 - 4) 2 (by omega)) (by decide) rfl (fun ls hl => ?_)
            refine lv_iload_n hx hb dJ6_numberOfLeadingZeros_0f7a4_69 rfl (lv_at hl 1 rfl) ?_
            refine lv_iconst (v := nI 2) hx hb dJ6_numberOfLeadingZeros_0f7a4_70 (by decide) ?_
            refine lv_iushr (v := (p_ush (nI (((v / 65536) / 256) / 16)) (nI 2))) hx hb dJ6_numberOfLeadingZeros_0f7a4_71 rfl ?_
            refine top_i (nI ((((v / 65536) / 256) / 16) / 4)) (pk_ushrN (by omega) (nI 2) 2 (by decide)) ?_
            refine lv_istore_n (lv' := [(0, .int (nI ((((v / 65536) / 256) / 16) / 4))), (1, .int (nI (31 - 16 - 8 - 4 - 2)))]) hx hb dJ6_numberOfLeadingZeros_0f7a4_72 rfl hl (by decide) rfl (fun ls hl => ?_)
            refine lv_iload_n hx hb dJ6_numberOfLeadingZeros_0f7a4_73 rfl (lv_at hl 1 rfl) ?_
            refine lv_iload_n hx hb dJ6_numberOfLeadingZeros_0f7a4_74 rfl (lv_at hl 0 rfl) ?_
            refine lv_iconst (v := nI 1) hx hb dJ6_numberOfLeadingZeros_0f7a4_75 (by decide) ?_
            refine lv_iushr (v := (p_ush (nI ((((v / 65536) / 256) / 16) / 4)) (nI 1))) hx hb dJ6_numberOfLeadingZeros_0f7a4_76 rfl ?_
            refine top_i (nI (((((v / 65536) / 256) / 16) / 4) / 2)) (pk_ushrN (by omega) (nI 1) 1 (by decide)) ?_
            refine su_N hx hb (31 - 16 - 8 - 4 - 2) (((((v / 65536) / 256) / 16) / 4) / 2) (by omega) dJ6_numberOfLeadingZeros_0f7a4_77 ?_
            exact ret 78 _ _ _ (nI ((31 - 16 - 8 - 4 - 2) - (((((v / 65536) / 256) / 16) / 4) / 2))) () dJ6_numberOfLeadingZeros_0f7a4_78 (lz_leaf (k := 30) (by omega) ((((v / 65536) / 256) / 16) / 4) (by omega) (by omega) (by omega)) hP hD hS
  · refine lv_iload_n hx hb dJ6_numberOfLeadingZeros_0f7a4_4 rfl (lv_at hl 0 rfl) ?_
    refine lv_if_ne (tgt := 13) hx hb dJ6_numberOfLeadingZeros_0f7a4_5 (by decide) (fun c5 => ?_) (fun c5 => ?_)
    · refine lv_iconst (v := nI 0) hx hb dJ6_numberOfLeadingZeros_0f7a4_13 (by decide) ?_
      exact ret 14 _ _ _ (nI 0) () dJ6_numberOfLeadingZeros_0f7a4_14 (lz_neg c1 c5) hP hD hS
    · refine lv_bipush (v := nI 32) hx hb dJ6_numberOfLeadingZeros_0f7a4_8 (by decide) ?_
      refine lv_goto (tgt := 14) hx hb dJ6_numberOfLeadingZeros_0f7a4_10 (by decide) ?_
      exact ret 14 _ _ _ (nI 32) () dJ6_numberOfLeadingZeros_0f7a4_14 (lz_0 c5) hP hD hS
abbrev wZr (G : gG) (o x y z : Nat) (fh : Nat → Int32) : va_W := [(o, .inr (1, [.ref x, .ref y, .ref z])), (y, .inl (G.2.2.1, 8, .inl fh))]
set_option maxHeartbeats 4000000 in
set_option maxRecDepth 100000 in
theorem c_zeros (l : Launch) (G : gG) (sz : Nat) (o x y z : Nat) (fh : Nat → Int32)  : MetI l yX1_zeros wsX1_zeros ({ frames := 1, cells := 0, slots := 0, locals := 21 } : Room) [.ref o] G (wZr G o x y z fh) sz (fun _ : Unit => wZr G o x y z fh) (fun r _ => r = nI (p_zeros fh)) := by
  refine ent_i _ cX1_zeros 2 RX1 (by decide) rfl rfl (Nat.le_of_ble_eq_true rfl) ?_
  intro p e s m args below meth c A Q ls hx hb hml hts hown hA hK hX ret hl hP hD hS
  have hl : lv_has ls 2 [(0, .ref o)] := hl
  have lk15 := hts (.fieldLink RX1 15 "MinedLedger$Hasher" "hash" "[I") (by decide +kernel)
  have hiX1 : ∀ w ∈ wsX10, w ∈ wsX1_zeros := by decide +kernel
  refine lv_iconst (v := nI 0) hx hb dX1_zeros_0 (by decide) ?_
  refine lv_istore_n (lv' := [(1, .int (nI 0)), (0, .ref o)]) hx hb dX1_zeros_1 rfl hl (by decide) rfl (fun ls hl => ?_)
  suffices hloop1 : ∀ (fu1 : Nat) (i : Nat), (i ≤ 8) → (∀ j, j < i → fh j = 0) → 8 - i < fu1 → ∀ (H : Heap) (locs : List Loc) (ls : Array Slot), va_P G.1 vwCl (wZr G o x y z fh) H → va_D A (wZr G o x y z fh) → va_S A s.heap H locs → lv_has ls 2 [(0, .ref o), (1, .int (nI i))] → W p l e ({ frames := 1, cells := 0, slots := 0, locals := 21 } : Room) s m args below meth c H locs 0 0 Q (F0 m 2 ls []) from hloop1 _ 0 (Nat.zero_le _) (fun j h => absurd h (Nat.not_lt_zero j)) (Nat.lt_succ_self _) _ _ _ hP hD hS (lv_sub hl [1, 0] rfl)
  clear hP hD hS hl
  intro fu1
  induction fu1 with
  | zero => intro i hi hm hfu; exact absurd hfu (Nat.not_lt_zero _)
  | succ fu1 ih1 =>
    intro i hi hm hfu1 H locs ls hP hD hS hl
    refine lv_iload_n hx hb dX1_zeros_2 rfl (lv_at hl 1 rfl) ?_
    refine lv_bipush (v := nI 8) hx hb dX1_zeros_3 (by decide) ?_
    refine cmp_ge hx hb i 8 38 (by omega) (by omega) dX1_zeros_5 (by decide) (fun c5 => ?_) (fun c5 => ?_)
    · have e38 : i = 8 := by omega
      subst e38
      refine lv_sipush (v := nI 256) hx hb dX1_zeros_38 (by decide) ?_
      exact ret 41 _ _ _ (nI 256) () dX1_zeros_41 (zeros_all hm) hP hD hS
    · refine lv_aload_n hx hb dX1_zeros_8 rfl (lv_at hl 0 rfl) ?_
      refine va_get (D := G.1) (ci := 1) (v := .ref y) (C := RX1) (T := TX1) (N := 3) hx hb hts hiX1 hown hK hP 0 rfl rfl 1 (by decide) lk15 (fun _ h9 => h9) rfl dX1_zeros_9 ?_
      refine lv_iload_n hx hb dX1_zeros_12 rfl (lv_at hl 1 rfl) ?_
      refine rd_i hx hb hK hP 1 rfl i (by omega) (by omega) dX1_zeros_13 ?_
      refine lv_if_eq (tgt := 32) hx hb dX1_zeros_14 (by decide) (fun c14 => ?_) (fun c14 => ?_)
      · refine lv_iinc (v := nI (i + 1)) (lv' := [(1, .int (nI (i + 1))), (0, .ref o)]) hx hb dX1_zeros_32 hl (k := 1) rfl (inc_N i 1) (by decide) rfl (fun ls hl => ?_)
        refine lv_goto (tgt := 2) hx hb dX1_zeros_35 (by decide) ?_
        exact ih1 (i + 1) (by omega) (lt_s hm c14) (by omega) _ _ _ hP hD hS (lv_sub hl [1, 0] rfl)
      · refine lv_bipush (v := nI 32) hx hb dX1_zeros_17 (by decide) ?_
        refine lv_iload_n hx hb dX1_zeros_19 rfl (lv_at hl 1 rfl) ?_
        refine mu_N hx hb 32 i dX1_zeros_20 ?_
        refine lv_aload_n hx hb dX1_zeros_21 rfl (lv_at hl 0 rfl) ?_
        refine va_get (D := G.1) (ci := 1) (v := .ref y) (C := RX1) (T := TX1) (N := 3) hx hb hts hiX1 hown hK hP 0 rfl rfl 1 (by decide) lk15 (fun _ h9 => h9) rfl dX1_zeros_22 ?_
        refine lv_iload_n hx hb dX1_zeros_25 rfl (lv_at hl 1 rfl) ?_
        refine rd_i hx hb hK hP 1 rfl i (by omega) (by omega) dX1_zeros_26 ?_
        refine call_Si (wr := ([(o, .inr (1, [.ref x, .ref y, .ref z])), (y, .inl (G.2.2.1, 8, .inl fh))] : va_W)) [.int (fh i)] [.int (nI (32 * i))] ⟨hx, hb, hml, hown, hts⟩ hK hX hA hP hD hS (c_nlz l G _ (fh i)) (va_cwS 1 hts gX1_zeros_J6_numberOfLeadingZeros_0f7a4 rfl rfl rfl (by decide +kernel) ⟨Nat.le_of_ble_eq_true rfl, Nat.le_of_ble_eq_true rfl⟩) [] [0, 1] rfl rfl (by decide) (by decide) (by decide) rfl hl.1 (Nat.le_of_ble_eq_true rfl) dX1_zeros_27 ⟨Nat.zero_le _, Nat.zero_le _⟩ (fun r_3 u H locs hw hP hD hS => ?_)
        obtain rfl := hw
        have hP : va_P G.1 vwCl (wZr G o x y z fh) H := hP
        have hD : va_D A (wZr G o x y z fh) := hD
        refine ad_N hx hb (32 * i) (p_lz (fh i)) dX1_zeros_30 ?_
        exact ret 31 _ _ _ (nI ((32 * i) + (p_lz (fh i)))) () dX1_zeros_31 (zeros_at (by omega) hm c14) hP hD hS
end
section
set_option maxRecDepth 20000 in
theorem ggX2_init_X1_init : GoodIn wsX2_init wsX1_init := goodIn_r _ [33, 34, 2, 3, 12, 35, 36, 37, 42, 43, 44] (by decide +kernel) (by decide +kernel)
set_option maxRecDepth 20000 in
theorem gX2_init_X1_init_n9 : GoodIn wsX2_init (wsX1_init) := ggX2_init_X1_init
set_option maxRecDepth 20000 in
theorem ggX2_init_X0_init : GoodIn wsX2_init wsX0_init := goodIn_r _ [39, 40, 2, 3, 12, 41, 59] (by decide +kernel) (by decide +kernel)
set_option maxRecDepth 20000 in
theorem gX2_init_X0_init_n18 : GoodIn wsX2_init (wsX0_init) := ggX2_init_X0_init
theorem dX2_init_0 : decode cX2_init 0 = .ok (.aload_n 0, 1) := by decide +kernel
theorem dX2_init_1 : decode cX2_init 1 = .ok (.invokespecial 1, 3) := by decide +kernel
theorem dX2_init_4 : decode cX2_init 4 = .ok (.aload_n 0, 1) := by decide +kernel
theorem dX2_init_5 : decode cX2_init 5 = .ok (.new 7, 3) := by decide +kernel
theorem dX2_init_8 : decode cX2_init 8 = .ok (.dup, 1) := by decide +kernel
theorem dX2_init_9 : decode cX2_init 9 = .ok (.invokespecial 9, 3) := by decide +kernel
theorem dX2_init_12 : decode cX2_init 12 = .ok (.putfield 10, 3) := by decide +kernel
theorem dX2_init_15 : decode cX2_init 15 = .ok (.aload_n 0, 1) := by decide +kernel
theorem dX2_init_16 : decode cX2_init 16 = .ok (.new 16, 3) := by decide +kernel
theorem dX2_init_19 : decode cX2_init 19 = .ok (.dup, 1) := by decide +kernel
theorem dX2_init_20 : decode cX2_init 20 = .ok (.invokespecial 18, 3) := by decide +kernel
theorem dX2_init_23 : decode cX2_init 23 = .ok (.putfield 19, 3) := by decide +kernel
theorem dX2_init_26 : decode cX2_init 26 = .ok (.aload_n 0, 1) := by decide +kernel
theorem dX2_init_27 : decode cX2_init 27 = .ok (.sipush 2040, 3) := by decide +kernel
theorem dX2_init_30 : decode cX2_init 30 = .ok (.newarray .int, 2) := by decide +kernel
theorem dX2_init_32 : decode cX2_init 32 = .ok (.putfield 23, 3) := by decide +kernel
theorem dX2_init_35 : decode cX2_init 35 = .ok (.aload_n 0, 1) := by decide +kernel
theorem dX2_init_36 : decode cX2_init 36 = .ok (.bipush 8, 2) := by decide +kernel
theorem dX2_init_38 : decode cX2_init 38 = .ok (.newarray .int, 2) := by decide +kernel
theorem dX2_init_40 : decode cX2_init 40 = .ok (.putfield 27, 3) := by decide +kernel
theorem dX2_init_43 : decode cX2_init 43 = .ok (.aload_n 0, 1) := by decide +kernel
theorem dX2_init_44 : decode cX2_init 44 = .ok (.bipush 34, 2) := by decide +kernel
theorem dX2_init_46 : decode cX2_init 46 = .ok (.newarray .int, 2) := by decide +kernel
theorem dX2_init_48 : decode cX2_init 48 = .ok (.putfield 30, 3) := by decide +kernel
theorem dX2_init_51 : decode cX2_init 51 = .ok (.aload_n 0, 1) := by decide +kernel
theorem dX2_init_52 : decode cX2_init 52 = .ok (.sipush 1560, 3) := by decide +kernel
theorem dX2_init_55 : decode cX2_init 55 = .ok (.newarray .int, 2) := by decide +kernel
theorem dX2_init_57 : decode cX2_init 57 = .ok (.putfield 33, 3) := by decide +kernel
theorem dX2_init_60 : decode cX2_init 60 = .ok (.aload_n 0, 1) := by decide +kernel
theorem dX2_init_61 : decode cX2_init 61 = .ok (.iconst 0, 1) := by decide +kernel
theorem dX2_init_62 : decode cX2_init 62 = .ok (.putfield 36, 3) := by decide +kernel
theorem dX2_init_65 : decode cX2_init 65 = .ok (.aload_n 0, 1) := by decide +kernel
theorem dX2_init_66 : decode cX2_init 66 = .ok (.iconst 0, 1) := by decide +kernel
theorem dX2_init_67 : decode cX2_init 67 = .ok (.putfield 40, 3) := by decide +kernel
theorem dX2_init_70 : decode cX2_init 70 = .ok (.aload_n 0, 1) := by decide +kernel
theorem dX2_init_71 : decode cX2_init 71 = .ok (.iconst 0, 1) := by decide +kernel
theorem dX2_init_72 : decode cX2_init 72 = .ok (.bipush 20, 2) := by decide +kernel
theorem dX2_init_74 : decode cX2_init 74 = .ok (.iload_n 1, 1) := by decide +kernel
theorem dX2_init_75 : decode cX2_init 75 = .ok (.invokestatic 43, 3) := by decide +kernel
theorem dX2_init_78 : decode cX2_init 78 = .ok (.invokestatic 49, 3) := by decide +kernel
theorem dX2_init_81 : decode cX2_init 81 = .ok (.putfield 52, 3) := by decide +kernel
theorem dX2_init_84 : decode cX2_init 84 = .ok (.aload_n 0, 1) := by decide +kernel
theorem dX2_init_85 : decode cX2_init 85 = .ok (.iconst 0, 1) := by decide +kernel
theorem dX2_init_86 : decode cX2_init 86 = .ok (.putfield 55, 3) := by decide +kernel
theorem dX2_init_89 : decode cX2_init 89 = .ok (.aload_n 0, 1) := by decide +kernel
theorem dX2_init_90 : decode cX2_init 90 = .ok (.iconst (-1), 1) := by decide +kernel
theorem dX2_init_91 : decode cX2_init 91 = .ok (.putfield 58, 3) := by decide +kernel
theorem dX2_init_94 : decode cX2_init 94 = .ok (.aload_n 0, 1) := by decide +kernel
theorem dX2_init_95 : decode cX2_init 95 = .ok (.iconst 0, 1) := by decide +kernel
theorem dX2_init_96 : decode cX2_init 96 = .ok (.putfield 61, 3) := by decide +kernel
theorem dX2_init_99 : decode cX2_init 99 = .ok (.aload_n 0, 1) := by decide +kernel
theorem dX2_init_100 : decode cX2_init 100 = .ok (.iconst 0, 1) := by decide +kernel
theorem dX2_init_101 : decode cX2_init 101 = .ok (.putfield 64, 3) := by decide +kernel
theorem dX2_init_104 : decode cX2_init 104 = .ok (.aload_n 0, 1) := by decide +kernel
theorem dX2_init_105 : decode cX2_init 105 = .ok (.iconst 0, 1) := by decide +kernel
theorem dX2_init_106 : decode cX2_init 106 = .ok (.putfield 67, 3) := by decide +kernel
theorem dX2_init_109 : decode cX2_init 109 = .ok (.return_, 1) := by decide +kernel
set_option maxRecDepth 20000 in
theorem ggX2_put_X2_forgetNonces : GoodIn wsX2_put wsX2_forgetNonces := goodIn_r _ [7, 8, 9, 10, 11, 12, 13, 14, 15, 16, 17, 18, 19, 20, 21, 22, 23] (by decide +kernel) (by decide +kernel)
set_option maxRecDepth 20000 in
theorem gX2_put_X2_forgetNonces : GoodIn wsX2_put (wsV RX2 70 RX2 yX2_forgetNonces wsX2_forgetNonces) := goodIn_app (goodIn_of _ (by decide +kernel)) ggX2_put_X2_forgetNonces
theorem dX2_put_0 : decode cX2_put 0 = .ok (.aload_n 0, 1) := by decide +kernel
theorem dX2_put_1 : decode cX2_put 1 = .ok (.getfield 40, 3) := by decide +kernel
theorem dX2_put_4 : decode cX2_put 4 = .ok (.bipush 8, 2) := by decide +kernel
theorem dX2_put_6 : decode cX2_put 6 = .ok (.if_icmp .lt 6, 3) := by decide +kernel
theorem dX2_put_9 : decode cX2_put 9 = .ok (.bipush (-3), 2) := by decide +kernel
theorem dX2_put_11 : decode cX2_put 11 = .ok (.ireturn, 1) := by decide +kernel
theorem dX2_put_12 : decode cX2_put 12 = .ok (.aload_n 0, 1) := by decide +kernel
theorem dX2_put_13 : decode cX2_put 13 = .ok (.getfield 30, 3) := by decide +kernel
theorem dX2_put_16 : decode cX2_put 16 = .ok (.bipush 16, 2) := by decide +kernel
theorem dX2_put_18 : decode cX2_put 18 = .ok (.aload_n 0, 1) := by decide +kernel
theorem dX2_put_19 : decode cX2_put 19 = .ok (.getfield 40, 3) := by decide +kernel
theorem dX2_put_22 : decode cX2_put 22 = .ok (.iadd, 1) := by decide +kernel
theorem dX2_put_23 : decode cX2_put 23 = .ok (.iload_n 1, 1) := by decide +kernel
theorem dX2_put_24 : decode cX2_put 24 = .ok (.iastore, 1) := by decide +kernel
theorem dX2_put_25 : decode cX2_put 25 = .ok (.aload_n 0, 1) := by decide +kernel
theorem dX2_put_26 : decode cX2_put 26 = .ok (.dup, 1) := by decide +kernel
theorem dX2_put_27 : decode cX2_put 27 = .ok (.getfield 40, 3) := by decide +kernel
theorem dX2_put_30 : decode cX2_put 30 = .ok (.iconst 1, 1) := by decide +kernel
theorem dX2_put_31 : decode cX2_put 31 = .ok (.iadd, 1) := by decide +kernel
theorem dX2_put_32 : decode cX2_put 32 = .ok (.putfield 40, 3) := by decide +kernel
theorem dX2_put_35 : decode cX2_put 35 = .ok (.aload_n 0, 1) := by decide +kernel
theorem dX2_put_36 : decode cX2_put 36 = .ok (.invokevirtual 70, 3) := by decide +kernel
theorem dX2_put_39 : decode cX2_put 39 = .ok (.aload_n 0, 1) := by decide +kernel
theorem dX2_put_40 : decode cX2_put 40 = .ok (.getfield 40, 3) := by decide +kernel
theorem dX2_put_43 : decode cX2_put 43 = .ok (.ireturn, 1) := by decide +kernel
set_option maxRecDepth 20000 in
theorem ggX2_takeBack_X2_clearWordsFrom : GoodIn wsX2_takeBack wsX2_clearWordsFrom := goodIn_r _ [6, 7, 1, 8, 9, 10, 11, 12, 13, 14, 21, 22, 23, 24, 25, 26, 27, 28, 29, 30, 31, 32, 33, 34] (by decide +kernel) (by decide +kernel)
set_option maxRecDepth 20000 in
theorem gX2_takeBack_X2_clearWordsFrom : GoodIn wsX2_takeBack (wsV RX2 73 RX2 yX2_clearWordsFrom wsX2_clearWordsFrom) := goodIn_app (goodIn_of _ (by decide +kernel)) ggX2_takeBack_X2_clearWordsFrom
set_option maxRecDepth 20000 in
theorem ggX2_takeBack_X2_forgetNonces : GoodIn wsX2_takeBack wsX2_forgetNonces := goodIn_r _ [18, 19, 20, 21, 22, 23, 24, 25, 26, 27, 28, 29, 30, 31, 32, 33, 34] (by decide +kernel) (by decide +kernel)
set_option maxRecDepth 20000 in
theorem gX2_takeBack_X2_forgetNonces : GoodIn wsX2_takeBack (wsV RX2 70 RX2 yX2_forgetNonces wsX2_forgetNonces) := goodIn_app (goodIn_of _ (by decide +kernel)) ggX2_takeBack_X2_forgetNonces
theorem dX2_takeBack_0 : decode cX2_takeBack 0 = .ok (.iload_n 1, 1) := by decide +kernel
theorem dX2_takeBack_1 : decode cX2_takeBack 1 = .ok (.iconst 1, 1) := by decide +kernel
theorem dX2_takeBack_2 : decode cX2_takeBack 2 = .ok (.if_icmp .lt 11, 3) := by decide +kernel
theorem dX2_takeBack_5 : decode cX2_takeBack 5 = .ok (.iload_n 1, 1) := by decide +kernel
theorem dX2_takeBack_6 : decode cX2_takeBack 6 = .ok (.aload_n 0, 1) := by decide +kernel
theorem dX2_takeBack_7 : decode cX2_takeBack 7 = .ok (.getfield 40, 3) := by decide +kernel
theorem dX2_takeBack_10 : decode cX2_takeBack 10 = .ok (.if_icmp .le 6, 3) := by decide +kernel
theorem dX2_takeBack_13 : decode cX2_takeBack 13 = .ok (.bipush (-2), 2) := by decide +kernel
theorem dX2_takeBack_15 : decode cX2_takeBack 15 = .ok (.ireturn, 1) := by decide +kernel
theorem dX2_takeBack_16 : decode cX2_takeBack 16 = .ok (.aload_n 0, 1) := by decide +kernel
theorem dX2_takeBack_17 : decode cX2_takeBack 17 = .ok (.aload_n 0, 1) := by decide +kernel
theorem dX2_takeBack_18 : decode cX2_takeBack 18 = .ok (.getfield 40, 3) := by decide +kernel
theorem dX2_takeBack_21 : decode cX2_takeBack 21 = .ok (.iload_n 1, 1) := by decide +kernel
theorem dX2_takeBack_22 : decode cX2_takeBack 22 = .ok (.isub, 1) := by decide +kernel
theorem dX2_takeBack_23 : decode cX2_takeBack 23 = .ok (.invokevirtual 73, 3) := by decide +kernel
theorem dX2_takeBack_26 : decode cX2_takeBack 26 = .ok (.aload_n 0, 1) := by decide +kernel
theorem dX2_takeBack_27 : decode cX2_takeBack 27 = .ok (.invokevirtual 70, 3) := by decide +kernel
theorem dX2_takeBack_30 : decode cX2_takeBack 30 = .ok (.aload_n 0, 1) := by decide +kernel
theorem dX2_takeBack_31 : decode cX2_takeBack 31 = .ok (.getfield 40, 3) := by decide +kernel
theorem dX2_takeBack_34 : decode cX2_takeBack 34 = .ok (.ireturn, 1) := by decide +kernel
theorem dX2_pending_0 : decode cX2_pending 0 = .ok (.iload_n 1, 1) := by decide +kernel
theorem dX2_pending_1 : decode cX2_pending 1 = .ok (.ifCond .lt 11, 3) := by decide +kernel
theorem dX2_pending_4 : decode cX2_pending 4 = .ok (.iload_n 1, 1) := by decide +kernel
theorem dX2_pending_5 : decode cX2_pending 5 = .ok (.aload_n 0, 1) := by decide +kernel
theorem dX2_pending_6 : decode cX2_pending 6 = .ok (.getfield 40, 3) := by decide +kernel
theorem dX2_pending_9 : decode cX2_pending 9 = .ok (.if_icmp .lt 5, 3) := by decide +kernel
theorem dX2_pending_12 : decode cX2_pending 12 = .ok (.iconst 0, 1) := by decide +kernel
theorem dX2_pending_13 : decode cX2_pending 13 = .ok (.ireturn, 1) := by decide +kernel
theorem dX2_pending_14 : decode cX2_pending 14 = .ok (.aload_n 0, 1) := by decide +kernel
theorem dX2_pending_15 : decode cX2_pending 15 = .ok (.getfield 30, 3) := by decide +kernel
theorem dX2_pending_18 : decode cX2_pending 18 = .ok (.bipush 16, 2) := by decide +kernel
theorem dX2_pending_20 : decode cX2_pending 20 = .ok (.iload_n 1, 1) := by decide +kernel
theorem dX2_pending_21 : decode cX2_pending 21 = .ok (.iadd, 1) := by decide +kernel
theorem dX2_pending_22 : decode cX2_pending 22 = .ok (.iaload, 1) := by decide +kernel
theorem dX2_pending_23 : decode cX2_pending 23 = .ok (.ireturn, 1) := by decide +kernel
set_option maxRecDepth 20000 in
theorem ggX2_difficulty_X2_forgetNonces : GoodIn wsX2_difficulty wsX2_forgetNonces := goodIn_r _ [6, 7, 8, 9, 10, 11, 12, 13, 14, 15, 16, 17, 18, 19, 20, 21, 22] (by decide +kernel) (by decide +kernel)
set_option maxRecDepth 20000 in
theorem gX2_difficulty_X2_forgetNonces : GoodIn wsX2_difficulty (wsV RX2 70 RX2 yX2_forgetNonces wsX2_forgetNonces) := goodIn_app (goodIn_of _ (by decide +kernel)) ggX2_difficulty_X2_forgetNonces
theorem dX2_difficulty_0 : decode cX2_difficulty 0 = .ok (.iload_n 1, 1) := by decide +kernel
theorem dX2_difficulty_1 : decode cX2_difficulty 1 = .ok (.ifCond .lt 9, 3) := by decide +kernel
theorem dX2_difficulty_4 : decode cX2_difficulty 4 = .ok (.iload_n 1, 1) := by decide +kernel
theorem dX2_difficulty_5 : decode cX2_difficulty 5 = .ok (.bipush 20, 2) := by decide +kernel
theorem dX2_difficulty_7 : decode cX2_difficulty 7 = .ok (.if_icmp .le 6, 3) := by decide +kernel
theorem dX2_difficulty_10 : decode cX2_difficulty 10 = .ok (.bipush (-2), 2) := by decide +kernel
theorem dX2_difficulty_12 : decode cX2_difficulty 12 = .ok (.ireturn, 1) := by decide +kernel
theorem dX2_difficulty_13 : decode cX2_difficulty 13 = .ok (.aload_n 0, 1) := by decide +kernel
theorem dX2_difficulty_14 : decode cX2_difficulty 14 = .ok (.getfield 52, 3) := by decide +kernel
theorem dX2_difficulty_17 : decode cX2_difficulty 17 = .ok (.istore_n 2, 1) := by decide +kernel
theorem dX2_difficulty_18 : decode cX2_difficulty 18 = .ok (.aload_n 0, 1) := by decide +kernel
theorem dX2_difficulty_19 : decode cX2_difficulty 19 = .ok (.iload_n 1, 1) := by decide +kernel
theorem dX2_difficulty_20 : decode cX2_difficulty 20 = .ok (.putfield 52, 3) := by decide +kernel
theorem dX2_difficulty_23 : decode cX2_difficulty 23 = .ok (.aload_n 0, 1) := by decide +kernel
theorem dX2_difficulty_24 : decode cX2_difficulty 24 = .ok (.invokevirtual 70, 3) := by decide +kernel
theorem dX2_difficulty_27 : decode cX2_difficulty 27 = .ok (.iload_n 2, 1) := by decide +kernel
theorem dX2_difficulty_28 : decode cX2_difficulty 28 = .ok (.ireturn, 1) := by decide +kernel
set_option maxRecDepth 20000 in
theorem ggX2_mine_X2_fillDraft : GoodIn wsX2_mine wsX2_fillDraft := goodIn_r _ [12, 13, 14, 15, 16, 17, 18, 19, 11, 20, 21, 22, 23, 24, 25, 26, 27, 28, 29, 30, 31, 32, 33, 34, 35, 36, 37, 38, 39, 85, 86, 87, 88, 89, 90, 91, 92, 93, 94, 95, 96, 97, 98] (by decide +kernel) (by decide +kernel)
set_option maxRecDepth 20000 in
theorem gX2_mine_X2_fillDraft : GoodIn wsX2_mine (wsV RX2 78 RX2 yX2_fillDraft wsX2_fillDraft) := goodIn_app (goodIn_of _ (by decide +kernel)) ggX2_mine_X2_fillDraft
set_option maxRecDepth 20000 in
theorem ggX2_mine_X2_tryNonces : GoodIn wsX2_mine wsX2_tryNonces := goodIn_r _ [43, 44, 14, 1, 2, 15, 45, 46, 47, 48, 49, 50, 51, 52, 23, 24, 25, 53, 54, 55, 56, 57, 58, 59, 60, 61, 62, 63, 11, 64, 65, 66, 67, 68, 69, 70, 71, 31, 32, 33, 34, 35, 36, 72, 73, 74, 75, 76, 77, 78, 79, 80, 81, 82, 83, 84, 85, 86, 87, 88, 89, 90, 91, 92, 93, 94, 95, 96, 97, 98, 99, 100, 101] (by decide +kernel) (by decide +kernel)
set_option maxRecDepth 20000 in
theorem gX2_mine_X2_tryNonces : GoodIn wsX2_mine (wsV RX2 81 RX2 yX2_tryNonces wsX2_tryNonces) := goodIn_app (goodIn_of _ (by decide +kernel)) ggX2_mine_X2_tryNonces
theorem dX2_mine_0 : decode cX2_mine 0 = .ok (.iload_n 1, 1) := by decide +kernel
theorem dX2_mine_1 : decode cX2_mine 1 = .ok (.iconst 1, 1) := by decide +kernel
theorem dX2_mine_2 : decode cX2_mine 2 = .ok (.if_icmp .lt 10, 3) := by decide +kernel
theorem dX2_mine_5 : decode cX2_mine 5 = .ok (.iload_n 1, 1) := by decide +kernel
theorem dX2_mine_6 : decode cX2_mine 6 = .ok (.sipush 3000, 3) := by decide +kernel
theorem dX2_mine_9 : decode cX2_mine 9 = .ok (.if_icmp .le 6, 3) := by decide +kernel
theorem dX2_mine_12 : decode cX2_mine 12 = .ok (.bipush (-2), 2) := by decide +kernel
theorem dX2_mine_14 : decode cX2_mine 14 = .ok (.ireturn, 1) := by decide +kernel
theorem dX2_mine_15 : decode cX2_mine 15 = .ok (.aload_n 0, 1) := by decide +kernel
theorem dX2_mine_16 : decode cX2_mine 16 = .ok (.getfield 58, 3) := by decide +kernel
theorem dX2_mine_19 : decode cX2_mine 19 = .ok (.iconst (-1), 1) := by decide +kernel
theorem dX2_mine_20 : decode cX2_mine 20 = .ok (.if_icmp .eq 8, 3) := by decide +kernel
theorem dX2_mine_23 : decode cX2_mine 23 = .ok (.aload_n 0, 1) := by decide +kernel
theorem dX2_mine_24 : decode cX2_mine 24 = .ok (.getfield 58, 3) := by decide +kernel
theorem dX2_mine_27 : decode cX2_mine 27 = .ok (.ireturn, 1) := by decide +kernel
theorem dX2_mine_28 : decode cX2_mine 28 = .ok (.aload_n 0, 1) := by decide +kernel
theorem dX2_mine_29 : decode cX2_mine 29 = .ok (.getfield 55, 3) := by decide +kernel
theorem dX2_mine_32 : decode cX2_mine 32 = .ok (.ldc 77, 2) := by decide +kernel
theorem dX2_mine_34 : decode cX2_mine 34 = .ok (.if_icmp .lt 6, 3) := by decide +kernel
theorem dX2_mine_37 : decode cX2_mine 37 = .ok (.bipush (-3), 2) := by decide +kernel
theorem dX2_mine_39 : decode cX2_mine 39 = .ok (.ireturn, 1) := by decide +kernel
theorem dX2_mine_40 : decode cX2_mine 40 = .ok (.aload_n 0, 1) := by decide +kernel
theorem dX2_mine_41 : decode cX2_mine 41 = .ok (.invokevirtual 78, 3) := by decide +kernel
theorem dX2_mine_44 : decode cX2_mine 44 = .ok (.aload_n 0, 1) := by decide +kernel
theorem dX2_mine_45 : decode cX2_mine 45 = .ok (.iload_n 1, 1) := by decide +kernel
theorem dX2_mine_46 : decode cX2_mine 46 = .ok (.ldc 77, 2) := by decide +kernel
theorem dX2_mine_48 : decode cX2_mine 48 = .ok (.aload_n 0, 1) := by decide +kernel
theorem dX2_mine_49 : decode cX2_mine 49 = .ok (.getfield 55, 3) := by decide +kernel
theorem dX2_mine_52 : decode cX2_mine 52 = .ok (.isub, 1) := by decide +kernel
theorem dX2_mine_53 : decode cX2_mine 53 = .ok (.invokestatic 43, 3) := by decide +kernel
theorem dX2_mine_56 : decode cX2_mine 56 = .ok (.invokevirtual 81, 3) := by decide +kernel
theorem dX2_mine_59 : decode cX2_mine 59 = .ok (.aload_n 0, 1) := by decide +kernel
theorem dX2_mine_60 : decode cX2_mine 60 = .ok (.getfield 58, 3) := by decide +kernel
theorem dX2_mine_63 : decode cX2_mine 63 = .ok (.ireturn, 1) := by decide +kernel
theorem dX2_tried_0 : decode cX2_tried 0 = .ok (.aload_n 0, 1) := by decide +kernel
theorem dX2_tried_1 : decode cX2_tried 1 = .ok (.getfield 55, 3) := by decide +kernel
theorem dX2_tried_4 : decode cX2_tried 4 = .ok (.ireturn, 1) := by decide +kernel
set_option maxRecDepth 20000 in
theorem ggX2_commit_X2_addToFilter : GoodIn wsX2_commit wsX2_addToFilter := goodIn_r _ [14, 15, 4, 16, 17, 18, 19, 20, 21, 22, 23, 24, 25, 26, 27, 28, 29, 30, 31, 32, 33, 34, 13, 35, 53, 54, 55, 56, 57, 58, 59, 60, 61, 62, 63, 64, 65, 66, 67] (by decide +kernel) (by decide +kernel)
set_option maxRecDepth 20000 in
theorem gX2_commit_X2_addToFilter : GoodIn wsX2_commit (wsV RX2 90 RX2 yX2_addToFilter wsX2_addToFilter) := goodIn_app (goodIn_of _ (by decide +kernel)) ggX2_commit_X2_addToFilter
set_option maxRecDepth 20000 in
theorem ggX2_commit_X2_clearWordsFrom : GoodIn wsX2_commit wsX2_clearWordsFrom := goodIn_r _ [39, 3, 40, 41, 42, 43, 44, 45, 46, 47, 53, 54, 55, 56, 57, 58, 59, 60, 61, 62, 63, 64, 65, 66] (by decide +kernel) (by decide +kernel)
set_option maxRecDepth 20000 in
theorem gX2_commit_X2_clearWordsFrom : GoodIn wsX2_commit (wsV RX2 73 RX2 yX2_clearWordsFrom wsX2_clearWordsFrom) := goodIn_app (goodIn_of _ (by decide +kernel)) ggX2_commit_X2_clearWordsFrom
set_option maxRecDepth 20000 in
theorem ggX2_commit_X2_forgetNonces : GoodIn wsX2_commit wsX2_forgetNonces := goodIn_r _ [51, 52, 2, 53, 54, 55, 56, 57, 58, 59, 60, 61, 62, 63, 64, 65, 66] (by decide +kernel) (by decide +kernel)
set_option maxRecDepth 20000 in
theorem gX2_commit_X2_forgetNonces : GoodIn wsX2_commit (wsV RX2 70 RX2 yX2_forgetNonces wsX2_forgetNonces) := goodIn_app (goodIn_of _ (by decide +kernel)) ggX2_commit_X2_forgetNonces
theorem dX2_commit_0 : decode cX2_commit 0 = .ok (.aload_n 0, 1) := by decide +kernel
theorem dX2_commit_1 : decode cX2_commit 1 = .ok (.getfield 36, 3) := by decide +kernel
theorem dX2_commit_4 : decode cX2_commit 4 = .ok (.bipush 60, 2) := by decide +kernel
theorem dX2_commit_6 : decode cX2_commit 6 = .ok (.if_icmp .lt 6, 3) := by decide +kernel
theorem dX2_commit_9 : decode cX2_commit 9 = .ok (.bipush (-4), 2) := by decide +kernel
theorem dX2_commit_11 : decode cX2_commit 11 = .ok (.ireturn, 1) := by decide +kernel
theorem dX2_commit_12 : decode cX2_commit 12 = .ok (.aload_n 0, 1) := by decide +kernel
theorem dX2_commit_13 : decode cX2_commit 13 = .ok (.getfield 58, 3) := by decide +kernel
theorem dX2_commit_16 : decode cX2_commit 16 = .ok (.iconst (-1), 1) := by decide +kernel
theorem dX2_commit_17 : decode cX2_commit 17 = .ok (.if_icmp .ne 6, 3) := by decide +kernel
theorem dX2_commit_20 : decode cX2_commit 20 = .ok (.bipush (-3), 2) := by decide +kernel
theorem dX2_commit_22 : decode cX2_commit 22 = .ok (.ireturn, 1) := by decide +kernel
theorem dX2_commit_23 : decode cX2_commit 23 = .ok (.aload_n 0, 1) := by decide +kernel
theorem dX2_commit_24 : decode cX2_commit 24 = .ok (.getfield 36, 3) := by decide +kernel
theorem dX2_commit_27 : decode cX2_commit 27 = .ok (.istore_n 1, 1) := by decide +kernel
theorem dX2_commit_28 : decode cX2_commit 28 = .ok (.aload_n 0, 1) := by decide +kernel
theorem dX2_commit_29 : decode cX2_commit 29 = .ok (.getfield 30, 3) := by decide +kernel
theorem dX2_commit_32 : decode cX2_commit 32 = .ok (.iconst 0, 1) := by decide +kernel
theorem dX2_commit_33 : decode cX2_commit 33 = .ok (.aload_n 0, 1) := by decide +kernel
theorem dX2_commit_34 : decode cX2_commit 34 = .ok (.getfield 23, 3) := by decide +kernel
theorem dX2_commit_37 : decode cX2_commit 37 = .ok (.iload_n 1, 1) := by decide +kernel
theorem dX2_commit_38 : decode cX2_commit 38 = .ok (.bipush 34, 2) := by decide +kernel
theorem dX2_commit_40 : decode cX2_commit 40 = .ok (.imul, 1) := by decide +kernel
theorem dX2_commit_41 : decode cX2_commit 41 = .ok (.bipush 34, 2) := by decide +kernel
theorem dX2_commit_43 : decode cX2_commit 43 = .ok (.invokestatic 84, 3) := by decide +kernel
theorem dX2_commit_46 : decode cX2_commit 46 = .ok (.aload_n 0, 1) := by decide +kernel
theorem dX2_commit_47 : decode cX2_commit 47 = .ok (.getfield 30, 3) := by decide +kernel
theorem dX2_commit_50 : decode cX2_commit 50 = .ok (.bipush 26, 2) := by decide +kernel
theorem dX2_commit_52 : decode cX2_commit 52 = .ok (.aload_n 0, 1) := by decide +kernel
theorem dX2_commit_53 : decode cX2_commit 53 = .ok (.getfield 27, 3) := by decide +kernel
theorem dX2_commit_56 : decode cX2_commit 56 = .ok (.iconst 0, 1) := by decide +kernel
theorem dX2_commit_57 : decode cX2_commit 57 = .ok (.bipush 8, 2) := by decide +kernel
theorem dX2_commit_59 : decode cX2_commit 59 = .ok (.invokestatic 84, 3) := by decide +kernel
theorem dX2_commit_62 : decode cX2_commit 62 = .ok (.aload_n 0, 1) := by decide +kernel
theorem dX2_commit_63 : decode cX2_commit 63 = .ok (.dup, 1) := by decide +kernel
theorem dX2_commit_64 : decode cX2_commit 64 = .ok (.getfield 36, 3) := by decide +kernel
theorem dX2_commit_67 : decode cX2_commit 67 = .ok (.iconst 1, 1) := by decide +kernel
theorem dX2_commit_68 : decode cX2_commit 68 = .ok (.iadd, 1) := by decide +kernel
theorem dX2_commit_69 : decode cX2_commit 69 = .ok (.putfield 36, 3) := by decide +kernel
theorem dX2_commit_72 : decode cX2_commit 72 = .ok (.aload_n 0, 1) := by decide +kernel
theorem dX2_commit_73 : decode cX2_commit 73 = .ok (.iload_n 1, 1) := by decide +kernel
theorem dX2_commit_74 : decode cX2_commit 74 = .ok (.invokevirtual 90, 3) := by decide +kernel
theorem dX2_commit_77 : decode cX2_commit 77 = .ok (.aload_n 0, 1) := by decide +kernel
theorem dX2_commit_78 : decode cX2_commit 78 = .ok (.iconst 0, 1) := by decide +kernel
theorem dX2_commit_79 : decode cX2_commit 79 = .ok (.invokevirtual 73, 3) := by decide +kernel
theorem dX2_commit_82 : decode cX2_commit 82 = .ok (.aload_n 0, 1) := by decide +kernel
theorem dX2_commit_83 : decode cX2_commit 83 = .ok (.invokevirtual 70, 3) := by decide +kernel
theorem dX2_commit_86 : decode cX2_commit 86 = .ok (.iload_n 1, 1) := by decide +kernel
theorem dX2_commit_87 : decode cX2_commit 87 = .ok (.ireturn, 1) := by decide +kernel
set_option maxRecDepth 20000 in
theorem ggX2_clearWordsFrom_J7_fill_fda19 : GoodIn wsX2_clearWordsFrom wsJ7_fill_fda19 := goodIn_r _ [6, 7, 8, 5, 9] (by decide +kernel) (by decide +kernel)
set_option maxRecDepth 20000 in
theorem gX2_clearWordsFrom_J7_fill_fda19 : GoodIn wsX2_clearWordsFrom (va_wsS RX2 93 yJ7_fill_fda19 wsJ7_fill_fda19) := goodIn_app (goodIn_of _ (by decide +kernel)) ggX2_clearWordsFrom_J7_fill_fda19
theorem dX2_clearWordsFrom_0 : decode cX2_clearWordsFrom 0 = .ok (.aload_n 0, 1) := by decide +kernel
theorem dX2_clearWordsFrom_1 : decode cX2_clearWordsFrom 1 = .ok (.getfield 30, 3) := by decide +kernel
theorem dX2_clearWordsFrom_4 : decode cX2_clearWordsFrom 4 = .ok (.bipush 16, 2) := by decide +kernel
theorem dX2_clearWordsFrom_6 : decode cX2_clearWordsFrom 6 = .ok (.iload_n 1, 1) := by decide +kernel
theorem dX2_clearWordsFrom_7 : decode cX2_clearWordsFrom 7 = .ok (.iadd, 1) := by decide +kernel
theorem dX2_clearWordsFrom_8 : decode cX2_clearWordsFrom 8 = .ok (.bipush 24, 2) := by decide +kernel
theorem dX2_clearWordsFrom_10 : decode cX2_clearWordsFrom 10 = .ok (.iconst 0, 1) := by decide +kernel
theorem dX2_clearWordsFrom_11 : decode cX2_clearWordsFrom 11 = .ok (.invokestatic 93, 3) := by decide +kernel
theorem dX2_clearWordsFrom_14 : decode cX2_clearWordsFrom 14 = .ok (.aload_n 0, 1) := by decide +kernel
theorem dX2_clearWordsFrom_15 : decode cX2_clearWordsFrom 15 = .ok (.iload_n 1, 1) := by decide +kernel
theorem dX2_clearWordsFrom_16 : decode cX2_clearWordsFrom 16 = .ok (.putfield 40, 3) := by decide +kernel
theorem dX2_clearWordsFrom_19 : decode cX2_clearWordsFrom 19 = .ok (.return_, 1) := by decide +kernel
theorem dX2_forgetNonces_0 : decode cX2_forgetNonces 0 = .ok (.aload_n 0, 1) := by decide +kernel
theorem dX2_forgetNonces_1 : decode cX2_forgetNonces 1 = .ok (.iconst 0, 1) := by decide +kernel
theorem dX2_forgetNonces_2 : decode cX2_forgetNonces 2 = .ok (.putfield 55, 3) := by decide +kernel
theorem dX2_forgetNonces_5 : decode cX2_forgetNonces 5 = .ok (.aload_n 0, 1) := by decide +kernel
theorem dX2_forgetNonces_6 : decode cX2_forgetNonces 6 = .ok (.iconst (-1), 1) := by decide +kernel
theorem dX2_forgetNonces_7 : decode cX2_forgetNonces 7 = .ok (.putfield 58, 3) := by decide +kernel
theorem dX2_forgetNonces_10 : decode cX2_forgetNonces 10 = .ok (.return_, 1) := by decide +kernel
set_option maxRecDepth 20000 in
theorem ggX2_fillDraft_X2_copyHashOf : GoodIn wsX2_fillDraft wsX2_copyHashOf := goodIn_r _ [9, 10, 2, 11, 12, 13, 14, 15, 16, 17, 8, 18, 1, 19, 20, 21, 22, 23, 24, 25, 29, 30, 31, 32, 33, 34, 35, 36, 37, 38, 39, 40, 41, 42] (by decide +kernel) (by decide +kernel)
set_option maxRecDepth 20000 in
theorem gX2_fillDraft_X2_copyHashOf : GoodIn wsX2_fillDraft (wsV RX2 99 RX2 yX2_copyHashOf wsX2_copyHashOf) := goodIn_app (goodIn_of _ (by decide +kernel)) ggX2_fillDraft_X2_copyHashOf
set_option maxRecDepth 20000 in
theorem ggX2_fillDraft_X2_skipOf : GoodIn wsX2_fillDraft wsX2_skipOf := goodIn_r _ [28] (by decide +kernel) (by decide +kernel)
set_option maxRecDepth 20000 in
theorem gX2_fillDraft_X2_skipOf : GoodIn wsX2_fillDraft (va_wsS RX2 103 yX2_skipOf wsX2_skipOf) := goodIn_app (goodIn_of _ (by decide +kernel)) ggX2_fillDraft_X2_skipOf
theorem dX2_fillDraft_0 : decode cX2_fillDraft 0 = .ok (.aload_n 0, 1) := by decide +kernel
theorem dX2_fillDraft_1 : decode cX2_fillDraft 1 = .ok (.aload_n 0, 1) := by decide +kernel
theorem dX2_fillDraft_2 : decode cX2_fillDraft 2 = .ok (.getfield 36, 3) := by decide +kernel
theorem dX2_fillDraft_5 : decode cX2_fillDraft 5 = .ok (.iconst 1, 1) := by decide +kernel
theorem dX2_fillDraft_6 : decode cX2_fillDraft 6 = .ok (.isub, 1) := by decide +kernel
theorem dX2_fillDraft_7 : decode cX2_fillDraft 7 = .ok (.iconst 0, 1) := by decide +kernel
theorem dX2_fillDraft_8 : decode cX2_fillDraft 8 = .ok (.invokevirtual 99, 3) := by decide +kernel
theorem dX2_fillDraft_11 : decode cX2_fillDraft 11 = .ok (.aload_n 0, 1) := by decide +kernel
theorem dX2_fillDraft_12 : decode cX2_fillDraft 12 = .ok (.aload_n 0, 1) := by decide +kernel
theorem dX2_fillDraft_13 : decode cX2_fillDraft 13 = .ok (.getfield 36, 3) := by decide +kernel
theorem dX2_fillDraft_16 : decode cX2_fillDraft 16 = .ok (.invokestatic 103, 3) := by decide +kernel
theorem dX2_fillDraft_19 : decode cX2_fillDraft 19 = .ok (.bipush 8, 2) := by decide +kernel
theorem dX2_fillDraft_21 : decode cX2_fillDraft 21 = .ok (.invokevirtual 99, 3) := by decide +kernel
theorem dX2_fillDraft_24 : decode cX2_fillDraft 24 = .ok (.aload_n 0, 1) := by decide +kernel
theorem dX2_fillDraft_25 : decode cX2_fillDraft 25 = .ok (.getfield 30, 3) := by decide +kernel
theorem dX2_fillDraft_28 : decode cX2_fillDraft 28 = .ok (.bipush 24, 2) := by decide +kernel
theorem dX2_fillDraft_30 : decode cX2_fillDraft 30 = .ok (.bipush 16, 2) := by decide +kernel
theorem dX2_fillDraft_32 : decode cX2_fillDraft 32 = .ok (.aload_n 0, 1) := by decide +kernel
theorem dX2_fillDraft_33 : decode cX2_fillDraft 33 = .ok (.getfield 52, 3) := by decide +kernel
theorem dX2_fillDraft_36 : decode cX2_fillDraft 36 = .ok (.imul, 1) := by decide +kernel
theorem dX2_fillDraft_37 : decode cX2_fillDraft 37 = .ok (.aload_n 0, 1) := by decide +kernel
theorem dX2_fillDraft_38 : decode cX2_fillDraft 38 = .ok (.getfield 40, 3) := by decide +kernel
theorem dX2_fillDraft_41 : decode cX2_fillDraft 41 = .ok (.iadd, 1) := by decide +kernel
theorem dX2_fillDraft_42 : decode cX2_fillDraft 42 = .ok (.iastore, 1) := by decide +kernel
theorem dX2_fillDraft_43 : decode cX2_fillDraft 43 = .ok (.return_, 1) := by decide +kernel
set_option maxRecDepth 20000 in
theorem ggX2_copyHashOf_X2_hasEntry : GoodIn wsX2_copyHashOf wsX2_hasEntry := goodIn_r _ [11, 12, 20, 21, 22, 23, 24, 25, 26, 27, 28, 29, 30, 31, 32, 33] (by decide +kernel) (by decide +kernel)
set_option maxRecDepth 20000 in
theorem gX2_copyHashOf_X2_hasEntry : GoodIn wsX2_copyHashOf (wsV RX2 107 RX2 yX2_hasEntry wsX2_hasEntry) := goodIn_app (goodIn_of _ (by decide +kernel)) ggX2_copyHashOf_X2_hasEntry
set_option maxRecDepth 20000 in
theorem ggX2_copyHashOf_J7_fill_fda19 : GoodIn wsX2_copyHashOf wsJ7_fill_fda19 := goodIn_r _ [16, 17, 18, 15, 19] (by decide +kernel) (by decide +kernel)
set_option maxRecDepth 20000 in
theorem gX2_copyHashOf_J7_fill_fda19 : GoodIn wsX2_copyHashOf (va_wsS RX2 93 yJ7_fill_fda19 wsJ7_fill_fda19) := goodIn_app (goodIn_of _ (by decide +kernel)) ggX2_copyHashOf_J7_fill_fda19
theorem dX2_copyHashOf_0 : decode cX2_copyHashOf 0 = .ok (.aload_n 0, 1) := by decide +kernel
theorem dX2_copyHashOf_1 : decode cX2_copyHashOf 1 = .ok (.iload_n 1, 1) := by decide +kernel
theorem dX2_copyHashOf_2 : decode cX2_copyHashOf 2 = .ok (.invokevirtual 107, 3) := by decide +kernel
theorem dX2_copyHashOf_5 : decode cX2_copyHashOf 5 = .ok (.ifCond .eq 27, 3) := by decide +kernel
theorem dX2_copyHashOf_8 : decode cX2_copyHashOf 8 = .ok (.aload_n 0, 1) := by decide +kernel
theorem dX2_copyHashOf_9 : decode cX2_copyHashOf 9 = .ok (.getfield 23, 3) := by decide +kernel
theorem dX2_copyHashOf_12 : decode cX2_copyHashOf 12 = .ok (.iload_n 1, 1) := by decide +kernel
theorem dX2_copyHashOf_13 : decode cX2_copyHashOf 13 = .ok (.bipush 34, 2) := by decide +kernel
theorem dX2_copyHashOf_15 : decode cX2_copyHashOf 15 = .ok (.imul, 1) := by decide +kernel
theorem dX2_copyHashOf_16 : decode cX2_copyHashOf 16 = .ok (.bipush 26, 2) := by decide +kernel
theorem dX2_copyHashOf_18 : decode cX2_copyHashOf 18 = .ok (.iadd, 1) := by decide +kernel
theorem dX2_copyHashOf_19 : decode cX2_copyHashOf 19 = .ok (.aload_n 0, 1) := by decide +kernel
theorem dX2_copyHashOf_20 : decode cX2_copyHashOf 20 = .ok (.getfield 30, 3) := by decide +kernel
theorem dX2_copyHashOf_23 : decode cX2_copyHashOf 23 = .ok (.iload_n 2, 1) := by decide +kernel
theorem dX2_copyHashOf_24 : decode cX2_copyHashOf 24 = .ok (.bipush 8, 2) := by decide +kernel
theorem dX2_copyHashOf_26 : decode cX2_copyHashOf 26 = .ok (.invokestatic 84, 3) := by decide +kernel
theorem dX2_copyHashOf_29 : decode cX2_copyHashOf 29 = .ok (.goto 16, 3) := by decide +kernel
theorem dX2_copyHashOf_32 : decode cX2_copyHashOf 32 = .ok (.aload_n 0, 1) := by decide +kernel
theorem dX2_copyHashOf_33 : decode cX2_copyHashOf 33 = .ok (.getfield 30, 3) := by decide +kernel
theorem dX2_copyHashOf_36 : decode cX2_copyHashOf 36 = .ok (.iload_n 2, 1) := by decide +kernel
theorem dX2_copyHashOf_37 : decode cX2_copyHashOf 37 = .ok (.iload_n 2, 1) := by decide +kernel
theorem dX2_copyHashOf_38 : decode cX2_copyHashOf 38 = .ok (.bipush 8, 2) := by decide +kernel
theorem dX2_copyHashOf_40 : decode cX2_copyHashOf 40 = .ok (.iadd, 1) := by decide +kernel
theorem dX2_copyHashOf_41 : decode cX2_copyHashOf 41 = .ok (.iconst 0, 1) := by decide +kernel
theorem dX2_copyHashOf_42 : decode cX2_copyHashOf 42 = .ok (.invokestatic 93, 3) := by decide +kernel
theorem dX2_copyHashOf_45 : decode cX2_copyHashOf 45 = .ok (.return_, 1) := by decide +kernel
set_option maxRecDepth 20000 in
theorem ggX2_tryNonces_X1_takeFirst : GoodIn wsX2_tryNonces wsX1_takeFirst := goodIn_r _ [10, 11, 12, 13, 14, 15, 16, 17, 18, 19, 20, 9, 21, 22, 23, 24, 25, 26, 27, 28, 29, 70, 71, 72] (by decide +kernel) (by decide +kernel)
set_option maxRecDepth 20000 in
theorem gX2_tryNonces_X1_takeFirst : GoodIn wsX2_tryNonces (wsV RX2 111 RX1 yX1_takeFirst wsX1_takeFirst) := goodIn_app (goodIn_of _ (by decide +kernel)) ggX2_tryNonces_X1_takeFirst
set_option maxRecDepth 20000 in
theorem ggX2_tryNonces_X1_takeRest : GoodIn wsX2_tryNonces wsX1_takeRest := goodIn_r _ [33, 12, 34, 13, 14, 15, 16, 17, 35, 36, 37, 38, 39, 40, 41, 42, 18, 19, 20, 9, 21, 22, 23, 24, 25, 26, 27, 28, 29, 70, 71, 72] (by decide +kernel) (by decide +kernel)
set_option maxRecDepth 20000 in
theorem gX2_tryNonces_X1_takeRest : GoodIn wsX2_tryNonces (wsV RX2 115 RX1 yX1_takeRest wsX1_takeRest) := goodIn_app (goodIn_of _ (by decide +kernel)) ggX2_tryNonces_X1_takeRest
set_option maxRecDepth 20000 in
theorem ggX2_tryNonces_X1_zeros : GoodIn wsX2_tryNonces wsX1_zeros := goodIn_r _ [46, 34, 47, 48, 49, 50, 51, 70, 71, 72] (by decide +kernel) (by decide +kernel)
set_option maxRecDepth 20000 in
theorem gX2_tryNonces_X1_zeros : GoodIn wsX2_tryNonces (wsV RX2 118 RX1 yX1_zeros wsX1_zeros) := goodIn_app (goodIn_of _ (by decide +kernel)) ggX2_tryNonces_X1_zeros
set_option maxRecDepth 20000 in
theorem ggX2_tryNonces_X1_copyTo : GoodIn wsX2_tryNonces wsX1_copyTo := goodIn_r _ [55, 34, 13, 14, 15, 16, 70, 71, 72] (by decide +kernel) (by decide +kernel)
set_option maxRecDepth 20000 in
theorem gX2_tryNonces_X1_copyTo : GoodIn wsX2_tryNonces (wsV RX2 122 RX1 yX1_copyTo wsX1_copyTo) := goodIn_app (goodIn_of _ (by decide +kernel)) ggX2_tryNonces_X1_copyTo
theorem dX2_tryNonces_0 : decode cX2_tryNonces 0 = .ok (.aload_n 0, 1) := by decide +kernel
theorem dX2_tryNonces_1 : decode cX2_tryNonces 1 = .ok (.getfield 10, 3) := by decide +kernel
theorem dX2_tryNonces_4 : decode cX2_tryNonces 4 = .ok (.aload_n 0, 1) := by decide +kernel
theorem dX2_tryNonces_5 : decode cX2_tryNonces 5 = .ok (.getfield 30, 3) := by decide +kernel
theorem dX2_tryNonces_8 : decode cX2_tryNonces 8 = .ok (.iconst 0, 1) := by decide +kernel
theorem dX2_tryNonces_9 : decode cX2_tryNonces 9 = .ok (.invokevirtual 111, 3) := by decide +kernel
theorem dX2_tryNonces_12 : decode cX2_tryNonces 12 = .ok (.iconst 0, 1) := by decide +kernel
theorem dX2_tryNonces_13 : decode cX2_tryNonces 13 = .ok (.istore_n 2, 1) := by decide +kernel
theorem dX2_tryNonces_14 : decode cX2_tryNonces 14 = .ok (.iload_n 2, 1) := by decide +kernel
theorem dX2_tryNonces_15 : decode cX2_tryNonces 15 = .ok (.iload_n 1, 1) := by decide +kernel
theorem dX2_tryNonces_16 : decode cX2_tryNonces 16 = .ok (.if_icmp .ge 88, 3) := by decide +kernel
theorem dX2_tryNonces_19 : decode cX2_tryNonces 19 = .ok (.aload_n 0, 1) := by decide +kernel
theorem dX2_tryNonces_20 : decode cX2_tryNonces 20 = .ok (.getfield 58, 3) := by decide +kernel
theorem dX2_tryNonces_23 : decode cX2_tryNonces 23 = .ok (.iconst (-1), 1) := by decide +kernel
theorem dX2_tryNonces_24 : decode cX2_tryNonces 24 = .ok (.if_icmp .ne 80, 3) := by decide +kernel
theorem dX2_tryNonces_27 : decode cX2_tryNonces 27 = .ok (.aload_n 0, 1) := by decide +kernel
theorem dX2_tryNonces_28 : decode cX2_tryNonces 28 = .ok (.getfield 30, 3) := by decide +kernel
theorem dX2_tryNonces_31 : decode cX2_tryNonces 31 = .ok (.bipush 25, 2) := by decide +kernel
theorem dX2_tryNonces_33 : decode cX2_tryNonces 33 = .ok (.aload_n 0, 1) := by decide +kernel
theorem dX2_tryNonces_34 : decode cX2_tryNonces 34 = .ok (.getfield 55, 3) := by decide +kernel
theorem dX2_tryNonces_37 : decode cX2_tryNonces 37 = .ok (.iastore, 1) := by decide +kernel
theorem dX2_tryNonces_38 : decode cX2_tryNonces 38 = .ok (.aload_n 0, 1) := by decide +kernel
theorem dX2_tryNonces_39 : decode cX2_tryNonces 39 = .ok (.dup, 1) := by decide +kernel
theorem dX2_tryNonces_40 : decode cX2_tryNonces 40 = .ok (.getfield 55, 3) := by decide +kernel
theorem dX2_tryNonces_43 : decode cX2_tryNonces 43 = .ok (.iconst 1, 1) := by decide +kernel
theorem dX2_tryNonces_44 : decode cX2_tryNonces 44 = .ok (.iadd, 1) := by decide +kernel
theorem dX2_tryNonces_45 : decode cX2_tryNonces 45 = .ok (.putfield 55, 3) := by decide +kernel
theorem dX2_tryNonces_48 : decode cX2_tryNonces 48 = .ok (.aload_n 0, 1) := by decide +kernel
theorem dX2_tryNonces_49 : decode cX2_tryNonces 49 = .ok (.getfield 10, 3) := by decide +kernel
theorem dX2_tryNonces_52 : decode cX2_tryNonces 52 = .ok (.aload_n 0, 1) := by decide +kernel
theorem dX2_tryNonces_53 : decode cX2_tryNonces 53 = .ok (.getfield 30, 3) := by decide +kernel
theorem dX2_tryNonces_56 : decode cX2_tryNonces 56 = .ok (.iconst 0, 1) := by decide +kernel
theorem dX2_tryNonces_57 : decode cX2_tryNonces 57 = .ok (.invokevirtual 115, 3) := by decide +kernel
theorem dX2_tryNonces_60 : decode cX2_tryNonces 60 = .ok (.aload_n 0, 1) := by decide +kernel
theorem dX2_tryNonces_61 : decode cX2_tryNonces 61 = .ok (.getfield 10, 3) := by decide +kernel
theorem dX2_tryNonces_64 : decode cX2_tryNonces 64 = .ok (.invokevirtual 118, 3) := by decide +kernel
theorem dX2_tryNonces_67 : decode cX2_tryNonces 67 = .ok (.aload_n 0, 1) := by decide +kernel
theorem dX2_tryNonces_68 : decode cX2_tryNonces 68 = .ok (.getfield 52, 3) := by decide +kernel
theorem dX2_tryNonces_71 : decode cX2_tryNonces 71 = .ok (.if_icmp .lt 27, 3) := by decide +kernel
theorem dX2_tryNonces_74 : decode cX2_tryNonces 74 = .ok (.aload_n 0, 1) := by decide +kernel
theorem dX2_tryNonces_75 : decode cX2_tryNonces 75 = .ok (.aload_n 0, 1) := by decide +kernel
theorem dX2_tryNonces_76 : decode cX2_tryNonces 76 = .ok (.getfield 30, 3) := by decide +kernel
theorem dX2_tryNonces_79 : decode cX2_tryNonces 79 = .ok (.bipush 25, 2) := by decide +kernel
theorem dX2_tryNonces_81 : decode cX2_tryNonces 81 = .ok (.iaload, 1) := by decide +kernel
theorem dX2_tryNonces_82 : decode cX2_tryNonces 82 = .ok (.putfield 58, 3) := by decide +kernel
theorem dX2_tryNonces_85 : decode cX2_tryNonces 85 = .ok (.aload_n 0, 1) := by decide +kernel
theorem dX2_tryNonces_86 : decode cX2_tryNonces 86 = .ok (.getfield 10, 3) := by decide +kernel
theorem dX2_tryNonces_89 : decode cX2_tryNonces 89 = .ok (.aload_n 0, 1) := by decide +kernel
theorem dX2_tryNonces_90 : decode cX2_tryNonces 90 = .ok (.getfield 30, 3) := by decide +kernel
theorem dX2_tryNonces_93 : decode cX2_tryNonces 93 = .ok (.bipush 26, 2) := by decide +kernel
theorem dX2_tryNonces_95 : decode cX2_tryNonces 95 = .ok (.invokevirtual 122, 3) := by decide +kernel
theorem dX2_tryNonces_98 : decode cX2_tryNonces 98 = .ok (.iinc 2 1, 3) := by decide +kernel
theorem dX2_tryNonces_101 : decode cX2_tryNonces 101 = .ok (.goto (-87), 3) := by decide +kernel
theorem dX2_tryNonces_104 : decode cX2_tryNonces 104 = .ok (.return_, 1) := by decide +kernel
theorem dX2_count_0 : decode cX2_count 0 = .ok (.aload_n 0, 1) := by decide +kernel
theorem dX2_count_1 : decode cX2_count 1 = .ok (.getfield 36, 3) := by decide +kernel
theorem dX2_count_4 : decode cX2_count 4 = .ok (.ireturn, 1) := by decide +kernel
theorem dX2_head_0 : decode cX2_head 0 = .ok (.iload_n 1, 1) := by decide +kernel
theorem dX2_head_1 : decode cX2_head 1 = .ok (.ifCond .lt 9, 3) := by decide +kernel
theorem dX2_head_4 : decode cX2_head 4 = .ok (.iload_n 1, 1) := by decide +kernel
theorem dX2_head_5 : decode cX2_head 5 = .ok (.bipush 8, 2) := by decide +kernel
theorem dX2_head_7 : decode cX2_head 7 = .ok (.if_icmp .lt 5, 3) := by decide +kernel
theorem dX2_head_10 : decode cX2_head 10 = .ok (.iconst 0, 1) := by decide +kernel
theorem dX2_head_11 : decode cX2_head 11 = .ok (.ireturn, 1) := by decide +kernel
theorem dX2_head_12 : decode cX2_head 12 = .ok (.aload_n 0, 1) := by decide +kernel
theorem dX2_head_13 : decode cX2_head 13 = .ok (.getfield 27, 3) := by decide +kernel
theorem dX2_head_16 : decode cX2_head 16 = .ok (.iload_n 1, 1) := by decide +kernel
theorem dX2_head_17 : decode cX2_head 17 = .ok (.iaload, 1) := by decide +kernel
theorem dX2_head_18 : decode cX2_head 18 = .ok (.ireturn, 1) := by decide +kernel
set_option maxRecDepth 20000 in
theorem ggX2_cell_X2_hasCell : GoodIn wsX2_cell wsX2_hasCell := goodIn_r _ [6, 7, 8, 9, 5, 10, 11, 12, 13, 14, 15, 16, 17, 18, 19, 20, 21, 22, 23, 24, 25] (by decide +kernel) (by decide +kernel)
set_option maxRecDepth 20000 in
theorem gX2_cell_X2_hasCell : GoodIn wsX2_cell (wsV RX2 125 RX2 yX2_hasCell wsX2_hasCell) := goodIn_app (goodIn_of _ (by decide +kernel)) ggX2_cell_X2_hasCell
theorem dX2_cell_0 : decode cX2_cell 0 = .ok (.aload_n 0, 1) := by decide +kernel
theorem dX2_cell_1 : decode cX2_cell 1 = .ok (.iload_n 1, 1) := by decide +kernel
theorem dX2_cell_2 : decode cX2_cell 2 = .ok (.iload_n 2, 1) := by decide +kernel
theorem dX2_cell_3 : decode cX2_cell 3 = .ok (.invokevirtual 125, 3) := by decide +kernel
theorem dX2_cell_6 : decode cX2_cell 6 = .ok (.ifCond .ne 5, 3) := by decide +kernel
theorem dX2_cell_9 : decode cX2_cell 9 = .ok (.iconst 0, 1) := by decide +kernel
theorem dX2_cell_10 : decode cX2_cell 10 = .ok (.ireturn, 1) := by decide +kernel
theorem dX2_cell_11 : decode cX2_cell 11 = .ok (.aload_n 0, 1) := by decide +kernel
theorem dX2_cell_12 : decode cX2_cell 12 = .ok (.getfield 23, 3) := by decide +kernel
theorem dX2_cell_15 : decode cX2_cell 15 = .ok (.iload_n 1, 1) := by decide +kernel
theorem dX2_cell_16 : decode cX2_cell 16 = .ok (.bipush 34, 2) := by decide +kernel
theorem dX2_cell_18 : decode cX2_cell 18 = .ok (.imul, 1) := by decide +kernel
theorem dX2_cell_19 : decode cX2_cell 19 = .ok (.iload_n 2, 1) := by decide +kernel
theorem dX2_cell_20 : decode cX2_cell 20 = .ok (.iadd, 1) := by decide +kernel
theorem dX2_cell_21 : decode cX2_cell 21 = .ok (.iaload, 1) := by decide +kernel
theorem dX2_cell_22 : decode cX2_cell 22 = .ok (.ireturn, 1) := by decide +kernel
set_option maxRecDepth 20000 in
theorem ggX2_spoil_X2_hasCell : GoodIn wsX2_spoil wsX2_hasCell := goodIn_r _ [6, 7, 8, 9, 5, 10, 11, 18, 19, 20, 21, 22, 23, 24, 25, 26, 27, 28, 29, 30, 31] (by decide +kernel) (by decide +kernel)
set_option maxRecDepth 20000 in
theorem gX2_spoil_X2_hasCell : GoodIn wsX2_spoil (wsV RX2 125 RX2 yX2_hasCell wsX2_hasCell) := goodIn_app (goodIn_of _ (by decide +kernel)) ggX2_spoil_X2_hasCell
set_option maxRecDepth 20000 in
theorem ggX2_spoil_X2_forgetNonces : GoodIn wsX2_spoil wsX2_forgetNonces := goodIn_r _ [15, 16, 17, 18, 19, 20, 21, 22, 23, 24, 25, 26, 27, 28, 29, 30, 31] (by decide +kernel) (by decide +kernel)
set_option maxRecDepth 20000 in
theorem gX2_spoil_X2_forgetNonces : GoodIn wsX2_spoil (wsV RX2 70 RX2 yX2_forgetNonces wsX2_forgetNonces) := goodIn_app (goodIn_of _ (by decide +kernel)) ggX2_spoil_X2_forgetNonces
theorem dX2_spoil_0 : decode cX2_spoil 0 = .ok (.aload_n 0, 1) := by decide +kernel
theorem dX2_spoil_1 : decode cX2_spoil 1 = .ok (.iload_n 1, 1) := by decide +kernel
theorem dX2_spoil_2 : decode cX2_spoil 2 = .ok (.iload_n 2, 1) := by decide +kernel
theorem dX2_spoil_3 : decode cX2_spoil 3 = .ok (.invokevirtual 125, 3) := by decide +kernel
theorem dX2_spoil_6 : decode cX2_spoil 6 = .ok (.ifCond .ne 5, 3) := by decide +kernel
theorem dX2_spoil_9 : decode cX2_spoil 9 = .ok (.iconst 0, 1) := by decide +kernel
theorem dX2_spoil_10 : decode cX2_spoil 10 = .ok (.ireturn, 1) := by decide +kernel
theorem dX2_spoil_11 : decode cX2_spoil 11 = .ok (.aload_n 0, 1) := by decide +kernel
theorem dX2_spoil_12 : decode cX2_spoil 12 = .ok (.getfield 23, 3) := by decide +kernel
theorem dX2_spoil_15 : decode cX2_spoil 15 = .ok (.iload_n 1, 1) := by decide +kernel
theorem dX2_spoil_16 : decode cX2_spoil 16 = .ok (.bipush 34, 2) := by decide +kernel
theorem dX2_spoil_18 : decode cX2_spoil 18 = .ok (.imul, 1) := by decide +kernel
theorem dX2_spoil_19 : decode cX2_spoil 19 = .ok (.iload_n 2, 1) := by decide +kernel
theorem dX2_spoil_20 : decode cX2_spoil 20 = .ok (.iadd, 1) := by decide +kernel
theorem dX2_spoil_21 : decode cX2_spoil 21 = .ok (.iaload, 1) := by decide +kernel
theorem dX2_spoil_22 : decode cX2_spoil 22 = .ok (.istore 4, 2) := by decide +kernel
theorem dX2_spoil_24 : decode cX2_spoil 24 = .ok (.aload_n 0, 1) := by decide +kernel
theorem dX2_spoil_25 : decode cX2_spoil 25 = .ok (.getfield 23, 3) := by decide +kernel
theorem dX2_spoil_28 : decode cX2_spoil 28 = .ok (.iload_n 1, 1) := by decide +kernel
theorem dX2_spoil_29 : decode cX2_spoil 29 = .ok (.bipush 34, 2) := by decide +kernel
theorem dX2_spoil_31 : decode cX2_spoil 31 = .ok (.imul, 1) := by decide +kernel
theorem dX2_spoil_32 : decode cX2_spoil 32 = .ok (.iload_n 2, 1) := by decide +kernel
theorem dX2_spoil_33 : decode cX2_spoil 33 = .ok (.iadd, 1) := by decide +kernel
theorem dX2_spoil_34 : decode cX2_spoil 34 = .ok (.iload_n 3, 1) := by decide +kernel
theorem dX2_spoil_35 : decode cX2_spoil 35 = .ok (.iastore, 1) := by decide +kernel
theorem dX2_spoil_36 : decode cX2_spoil 36 = .ok (.aload_n 0, 1) := by decide +kernel
theorem dX2_spoil_37 : decode cX2_spoil 37 = .ok (.invokevirtual 70, 3) := by decide +kernel
theorem dX2_spoil_40 : decode cX2_spoil 40 = .ok (.iload 4, 2) := by decide +kernel
theorem dX2_spoil_42 : decode cX2_spoil 42 = .ok (.ireturn, 1) := by decide +kernel
set_option maxRecDepth 20000 in
theorem ggX2_drop_X2_remakeFilter : GoodIn wsX2_drop wsX2_remakeFilter := goodIn_r _ [17, 18, 1, 19, 20, 21, 22, 23, 24, 25, 26, 27, 28, 29, 30, 31, 16, 32, 2, 33, 34, 35, 36, 37, 38, 39, 40, 41, 42, 43, 44, 45, 46, 47, 48, 49, 50, 57, 58, 59, 60, 61, 62, 63, 64, 65, 66, 67, 68, 69, 70, 71] (by decide +kernel) (by decide +kernel)
set_option maxRecDepth 20000 in
theorem gX2_drop_X2_remakeFilter : GoodIn wsX2_drop (wsV RX2 129 RX2 yX2_remakeFilter wsX2_remakeFilter) := goodIn_app (goodIn_of _ (by decide +kernel)) ggX2_drop_X2_remakeFilter
set_option maxRecDepth 20000 in
theorem ggX2_drop_X2_forgetNonces : GoodIn wsX2_drop wsX2_forgetNonces := goodIn_r _ [54, 55, 56, 57, 58, 59, 60, 61, 62, 63, 64, 65, 66, 67, 68, 69, 70] (by decide +kernel) (by decide +kernel)
set_option maxRecDepth 20000 in
theorem gX2_drop_X2_forgetNonces : GoodIn wsX2_drop (wsV RX2 70 RX2 yX2_forgetNonces wsX2_forgetNonces) := goodIn_app (goodIn_of _ (by decide +kernel)) ggX2_drop_X2_forgetNonces
theorem dX2_drop_0 : decode cX2_drop 0 = .ok (.aload_n 0, 1) := by decide +kernel
theorem dX2_drop_1 : decode cX2_drop 1 = .ok (.getfield 36, 3) := by decide +kernel
theorem dX2_drop_4 : decode cX2_drop 4 = .ok (.ifCond .ne 5, 3) := by decide +kernel
theorem dX2_drop_7 : decode cX2_drop 7 = .ok (.iconst (-1), 1) := by decide +kernel
theorem dX2_drop_8 : decode cX2_drop 8 = .ok (.ireturn, 1) := by decide +kernel
theorem dX2_drop_9 : decode cX2_drop 9 = .ok (.aload_n 0, 1) := by decide +kernel
theorem dX2_drop_10 : decode cX2_drop 10 = .ok (.dup, 1) := by decide +kernel
theorem dX2_drop_11 : decode cX2_drop 11 = .ok (.getfield 36, 3) := by decide +kernel
theorem dX2_drop_14 : decode cX2_drop 14 = .ok (.iconst 1, 1) := by decide +kernel
theorem dX2_drop_15 : decode cX2_drop 15 = .ok (.isub, 1) := by decide +kernel
theorem dX2_drop_16 : decode cX2_drop 16 = .ok (.putfield 36, 3) := by decide +kernel
theorem dX2_drop_19 : decode cX2_drop 19 = .ok (.aload_n 0, 1) := by decide +kernel
theorem dX2_drop_20 : decode cX2_drop 20 = .ok (.getfield 23, 3) := by decide +kernel
theorem dX2_drop_23 : decode cX2_drop 23 = .ok (.aload_n 0, 1) := by decide +kernel
theorem dX2_drop_24 : decode cX2_drop 24 = .ok (.getfield 36, 3) := by decide +kernel
theorem dX2_drop_27 : decode cX2_drop 27 = .ok (.bipush 34, 2) := by decide +kernel
theorem dX2_drop_29 : decode cX2_drop 29 = .ok (.imul, 1) := by decide +kernel
theorem dX2_drop_30 : decode cX2_drop 30 = .ok (.iconst 0, 1) := by decide +kernel
theorem dX2_drop_31 : decode cX2_drop 31 = .ok (.iadd, 1) := by decide +kernel
theorem dX2_drop_32 : decode cX2_drop 32 = .ok (.aload_n 0, 1) := by decide +kernel
theorem dX2_drop_33 : decode cX2_drop 33 = .ok (.getfield 27, 3) := by decide +kernel
theorem dX2_drop_36 : decode cX2_drop 36 = .ok (.iconst 0, 1) := by decide +kernel
theorem dX2_drop_37 : decode cX2_drop 37 = .ok (.bipush 8, 2) := by decide +kernel
theorem dX2_drop_39 : decode cX2_drop 39 = .ok (.invokestatic 84, 3) := by decide +kernel
theorem dX2_drop_42 : decode cX2_drop 42 = .ok (.aload_n 0, 1) := by decide +kernel
theorem dX2_drop_43 : decode cX2_drop 43 = .ok (.invokevirtual 129, 3) := by decide +kernel
theorem dX2_drop_46 : decode cX2_drop 46 = .ok (.aload_n 0, 1) := by decide +kernel
theorem dX2_drop_47 : decode cX2_drop 47 = .ok (.aload_n 0, 1) := by decide +kernel
theorem dX2_drop_48 : decode cX2_drop 48 = .ok (.getfield 61, 3) := by decide +kernel
theorem dX2_drop_51 : decode cX2_drop 51 = .ok (.aload_n 0, 1) := by decide +kernel
theorem dX2_drop_52 : decode cX2_drop 52 = .ok (.getfield 36, 3) := by decide +kernel
theorem dX2_drop_55 : decode cX2_drop 55 = .ok (.invokestatic 43, 3) := by decide +kernel
theorem dX2_drop_58 : decode cX2_drop 58 = .ok (.putfield 61, 3) := by decide +kernel
theorem dX2_drop_61 : decode cX2_drop 61 = .ok (.aload_n 0, 1) := by decide +kernel
theorem dX2_drop_62 : decode cX2_drop 62 = .ok (.invokevirtual 70, 3) := by decide +kernel
theorem dX2_drop_65 : decode cX2_drop 65 = .ok (.aload_n 0, 1) := by decide +kernel
theorem dX2_drop_66 : decode cX2_drop 66 = .ok (.getfield 36, 3) := by decide +kernel
theorem dX2_drop_69 : decode cX2_drop 69 = .ok (.ireturn, 1) := by decide +kernel
theorem dX2_hasEntry_0 : decode cX2_hasEntry 0 = .ok (.iload_n 1, 1) := by decide +kernel
theorem dX2_hasEntry_1 : decode cX2_hasEntry 1 = .ok (.ifCond .lt 15, 3) := by decide +kernel
theorem dX2_hasEntry_4 : decode cX2_hasEntry 4 = .ok (.iload_n 1, 1) := by decide +kernel
theorem dX2_hasEntry_5 : decode cX2_hasEntry 5 = .ok (.aload_n 0, 1) := by decide +kernel
theorem dX2_hasEntry_6 : decode cX2_hasEntry 6 = .ok (.getfield 36, 3) := by decide +kernel
theorem dX2_hasEntry_9 : decode cX2_hasEntry 9 = .ok (.if_icmp .ge 7, 3) := by decide +kernel
theorem dX2_hasEntry_12 : decode cX2_hasEntry 12 = .ok (.iconst 1, 1) := by decide +kernel
theorem dX2_hasEntry_13 : decode cX2_hasEntry 13 = .ok (.goto 4, 3) := by decide +kernel
theorem dX2_hasEntry_16 : decode cX2_hasEntry 16 = .ok (.iconst 0, 1) := by decide +kernel
theorem dX2_hasEntry_17 : decode cX2_hasEntry 17 = .ok (.ireturn, 1) := by decide +kernel
set_option maxRecDepth 20000 in
theorem ggX2_hasCell_X2_hasEntry : GoodIn wsX2_hasCell wsX2_hasEntry := goodIn_r _ [5, 6, 7, 8, 9, 10, 11, 12, 13, 14, 15, 16, 17, 18, 19, 20] (by decide +kernel) (by decide +kernel)
set_option maxRecDepth 20000 in
theorem gX2_hasCell_X2_hasEntry : GoodIn wsX2_hasCell (wsV RX2 107 RX2 yX2_hasEntry wsX2_hasEntry) := goodIn_app (goodIn_of _ (by decide +kernel)) ggX2_hasCell_X2_hasEntry
theorem dX2_hasCell_0 : decode cX2_hasCell 0 = .ok (.aload_n 0, 1) := by decide +kernel
theorem dX2_hasCell_1 : decode cX2_hasCell 1 = .ok (.iload_n 1, 1) := by decide +kernel
theorem dX2_hasCell_2 : decode cX2_hasCell 2 = .ok (.invokevirtual 107, 3) := by decide +kernel
theorem dX2_hasCell_5 : decode cX2_hasCell 5 = .ok (.ifCond .eq 17, 3) := by decide +kernel
theorem dX2_hasCell_8 : decode cX2_hasCell 8 = .ok (.iload_n 2, 1) := by decide +kernel
theorem dX2_hasCell_9 : decode cX2_hasCell 9 = .ok (.ifCond .lt 13, 3) := by decide +kernel
theorem dX2_hasCell_12 : decode cX2_hasCell 12 = .ok (.iload_n 2, 1) := by decide +kernel
theorem dX2_hasCell_13 : decode cX2_hasCell 13 = .ok (.bipush 34, 2) := by decide +kernel
theorem dX2_hasCell_15 : decode cX2_hasCell 15 = .ok (.if_icmp .ge 7, 3) := by decide +kernel
theorem dX2_hasCell_18 : decode cX2_hasCell 18 = .ok (.iconst 1, 1) := by decide +kernel
theorem dX2_hasCell_19 : decode cX2_hasCell 19 = .ok (.goto 4, 3) := by decide +kernel
theorem dX2_hasCell_22 : decode cX2_hasCell 22 = .ok (.iconst 0, 1) := by decide +kernel
theorem dX2_hasCell_23 : decode cX2_hasCell 23 = .ok (.ireturn, 1) := by decide +kernel
theorem dX2_skipOf_0 : decode cX2_skipOf 0 = .ok (.iload_n 0, 1) := by decide +kernel
theorem dX2_skipOf_1 : decode cX2_skipOf 1 = .ok (.ifCond .ne 7, 3) := by decide +kernel
theorem dX2_skipOf_4 : decode cX2_skipOf 4 = .ok (.iconst (-1), 1) := by decide +kernel
theorem dX2_skipOf_5 : decode cX2_skipOf 5 = .ok (.goto 9, 3) := by decide +kernel
theorem dX2_skipOf_8 : decode cX2_skipOf 8 = .ok (.iload_n 0, 1) := by decide +kernel
theorem dX2_skipOf_9 : decode cX2_skipOf 9 = .ok (.iload_n 0, 1) := by decide +kernel
theorem dX2_skipOf_10 : decode cX2_skipOf 10 = .ok (.iload_n 0, 1) := by decide +kernel
theorem dX2_skipOf_11 : decode cX2_skipOf 11 = .ok (.ineg, 1) := by decide +kernel
theorem dX2_skipOf_12 : decode cX2_skipOf 12 = .ok (.iand, 1) := by decide +kernel
theorem dX2_skipOf_13 : decode cX2_skipOf 13 = .ok (.isub, 1) := by decide +kernel
theorem dX2_skipOf_14 : decode cX2_skipOf 14 = .ok (.ireturn, 1) := by decide +kernel
set_option maxRecDepth 20000 in
theorem ggX2_may_X0_mayHave : GoodIn wsX2_may wsX0_mayHave := goodIn_r _ [6, 7, 8, 9, 5, 10, 11, 12, 13, 14, 15, 16, 17, 18, 19, 20, 21, 22, 37] (by decide +kernel) (by decide +kernel)
set_option maxRecDepth 20000 in
theorem gX2_may_X0_mayHave : GoodIn wsX2_may (wsV RX2 132 RX0 yX0_mayHave wsX0_mayHave) := goodIn_app (goodIn_of _ (by decide +kernel)) ggX2_may_X0_mayHave
theorem dX2_may_0 : decode cX2_may 0 = .ok (.aload_n 0, 1) := by decide +kernel
theorem dX2_may_1 : decode cX2_may 1 = .ok (.getfield 19, 3) := by decide +kernel
theorem dX2_may_4 : decode cX2_may 4 = .ok (.iload_n 1, 1) := by decide +kernel
theorem dX2_may_5 : decode cX2_may 5 = .ok (.invokevirtual 132, 3) := by decide +kernel
theorem dX2_may_8 : decode cX2_may 8 = .ok (.ifCond .eq 7, 3) := by decide +kernel
theorem dX2_may_11 : decode cX2_may 11 = .ok (.iconst 1, 1) := by decide +kernel
theorem dX2_may_12 : decode cX2_may 12 = .ok (.goto 4, 3) := by decide +kernel
theorem dX2_may_15 : decode cX2_may 15 = .ok (.iconst 0, 1) := by decide +kernel
theorem dX2_may_16 : decode cX2_may 16 = .ok (.ireturn, 1) := by decide +kernel
set_option maxRecDepth 20000 in
theorem ggX2_find_X0_mayHave : GoodIn wsX2_find wsX0_mayHave := goodIn_r _ [7, 8, 9, 10, 6, 11, 12, 13, 14, 15, 16, 17, 18, 19, 20, 21, 22, 23, 43] (by decide +kernel) (by decide +kernel)
set_option maxRecDepth 20000 in
theorem gX2_find_X0_mayHave : GoodIn wsX2_find (wsV RX2 132 RX0 yX0_mayHave wsX0_mayHave) := goodIn_app (goodIn_of _ (by decide +kernel)) ggX2_find_X0_mayHave
set_option maxRecDepth 20000 in
theorem ggX2_find_X2_hasWord : GoodIn wsX2_find wsX2_hasWord := goodIn_r _ [27, 28, 29, 30, 31, 32, 33, 34, 35, 36, 37, 38, 39, 40, 41, 42] (by decide +kernel) (by decide +kernel)
set_option maxRecDepth 20000 in
theorem gX2_find_X2_hasWord : GoodIn wsX2_find (wsV RX2 135 RX2 yX2_hasWord wsX2_hasWord) := goodIn_app (goodIn_of _ (by decide +kernel)) ggX2_find_X2_hasWord
theorem dX2_find_0 : decode cX2_find 0 = .ok (.aload_n 0, 1) := by decide +kernel
theorem dX2_find_1 : decode cX2_find 1 = .ok (.getfield 19, 3) := by decide +kernel
theorem dX2_find_4 : decode cX2_find 4 = .ok (.iload_n 1, 1) := by decide +kernel
theorem dX2_find_5 : decode cX2_find 5 = .ok (.invokevirtual 132, 3) := by decide +kernel
theorem dX2_find_8 : decode cX2_find 8 = .ok (.ifCond .ne 5, 3) := by decide +kernel
theorem dX2_find_11 : decode cX2_find 11 = .ok (.iconst (-1), 1) := by decide +kernel
theorem dX2_find_12 : decode cX2_find 12 = .ok (.ireturn, 1) := by decide +kernel
theorem dX2_find_13 : decode cX2_find 13 = .ok (.iconst 0, 1) := by decide +kernel
theorem dX2_find_14 : decode cX2_find 14 = .ok (.istore_n 2, 1) := by decide +kernel
theorem dX2_find_15 : decode cX2_find 15 = .ok (.iload_n 2, 1) := by decide +kernel
theorem dX2_find_16 : decode cX2_find 16 = .ok (.aload_n 0, 1) := by decide +kernel
theorem dX2_find_17 : decode cX2_find 17 = .ok (.getfield 36, 3) := by decide +kernel
theorem dX2_find_20 : decode cX2_find 20 = .ok (.if_icmp .ge 20, 3) := by decide +kernel
theorem dX2_find_23 : decode cX2_find 23 = .ok (.aload_n 0, 1) := by decide +kernel
theorem dX2_find_24 : decode cX2_find 24 = .ok (.iload_n 2, 1) := by decide +kernel
theorem dX2_find_25 : decode cX2_find 25 = .ok (.iload_n 1, 1) := by decide +kernel
theorem dX2_find_26 : decode cX2_find 26 = .ok (.invokevirtual 135, 3) := by decide +kernel
theorem dX2_find_29 : decode cX2_find 29 = .ok (.ifCond .eq 5, 3) := by decide +kernel
theorem dX2_find_32 : decode cX2_find 32 = .ok (.iload_n 2, 1) := by decide +kernel
end
section
theorem dX2_find_33 : decode cX2_find 33 = .ok (.ireturn, 1) := by decide +kernel
theorem dX2_find_34 : decode cX2_find 34 = .ok (.iinc 2 1, 3) := by decide +kernel
theorem dX2_find_37 : decode cX2_find 37 = .ok (.goto (-22), 3) := by decide +kernel
theorem dX2_find_40 : decode cX2_find 40 = .ok (.iconst (-1), 1) := by decide +kernel
theorem dX2_find_41 : decode cX2_find 41 = .ok (.ireturn, 1) := by decide +kernel
set_option maxRecDepth 20000 in
theorem ggX2_stir_X0_stirred : GoodIn wsX2_stir wsX0_stirred := goodIn_r _ [4, 5, 6, 7, 8, 9, 10, 11, 12] (by decide +kernel) (by decide +kernel)
set_option maxRecDepth 20000 in
theorem gX2_stir_X0_stirred : GoodIn wsX2_stir (va_wsS RX2 138 yX0_stirred wsX0_stirred) := goodIn_app (goodIn_of _ (by decide +kernel)) ggX2_stir_X0_stirred
theorem dX2_stir_0 : decode cX2_stir 0 = .ok (.iload_n 1, 1) := by decide +kernel
theorem dX2_stir_1 : decode cX2_stir 1 = .ok (.iload_n 2, 1) := by decide +kernel
theorem dX2_stir_2 : decode cX2_stir 2 = .ok (.invokestatic 138, 3) := by decide +kernel
theorem dX2_stir_5 : decode cX2_stir 5 = .ok (.ireturn, 1) := by decide +kernel
theorem dX2_hasWord_0 : decode cX2_hasWord 0 = .ok (.iload_n 1, 1) := by decide +kernel
theorem dX2_hasWord_1 : decode cX2_hasWord 1 = .ok (.bipush 34, 2) := by decide +kernel
theorem dX2_hasWord_3 : decode cX2_hasWord 3 = .ok (.imul, 1) := by decide +kernel
theorem dX2_hasWord_4 : decode cX2_hasWord 4 = .ok (.bipush 16, 2) := by decide +kernel
theorem dX2_hasWord_6 : decode cX2_hasWord 6 = .ok (.iadd, 1) := by decide +kernel
theorem dX2_hasWord_7 : decode cX2_hasWord 7 = .ok (.istore_n 3, 1) := by decide +kernel
theorem dX2_hasWord_8 : decode cX2_hasWord 8 = .ok (.iconst 0, 1) := by decide +kernel
theorem dX2_hasWord_9 : decode cX2_hasWord 9 = .ok (.istore 4, 2) := by decide +kernel
theorem dX2_hasWord_11 : decode cX2_hasWord 11 = .ok (.iload 4, 2) := by decide +kernel
theorem dX2_hasWord_13 : decode cX2_hasWord 13 = .ok (.bipush 8, 2) := by decide +kernel
theorem dX2_hasWord_15 : decode cX2_hasWord 15 = .ok (.if_icmp .ge 24, 3) := by decide +kernel
theorem dX2_hasWord_18 : decode cX2_hasWord 18 = .ok (.aload_n 0, 1) := by decide +kernel
theorem dX2_hasWord_19 : decode cX2_hasWord 19 = .ok (.getfield 23, 3) := by decide +kernel
theorem dX2_hasWord_22 : decode cX2_hasWord 22 = .ok (.iload_n 3, 1) := by decide +kernel
theorem dX2_hasWord_23 : decode cX2_hasWord 23 = .ok (.iload 4, 2) := by decide +kernel
theorem dX2_hasWord_25 : decode cX2_hasWord 25 = .ok (.iadd, 1) := by decide +kernel
theorem dX2_hasWord_26 : decode cX2_hasWord 26 = .ok (.iaload, 1) := by decide +kernel
theorem dX2_hasWord_27 : decode cX2_hasWord 27 = .ok (.iload_n 2, 1) := by decide +kernel
theorem dX2_hasWord_28 : decode cX2_hasWord 28 = .ok (.if_icmp .ne 5, 3) := by decide +kernel
theorem dX2_hasWord_31 : decode cX2_hasWord 31 = .ok (.iconst 1, 1) := by decide +kernel
theorem dX2_hasWord_32 : decode cX2_hasWord 32 = .ok (.ireturn, 1) := by decide +kernel
theorem dX2_hasWord_33 : decode cX2_hasWord 33 = .ok (.iinc 4 1, 3) := by decide +kernel
theorem dX2_hasWord_36 : decode cX2_hasWord 36 = .ok (.goto (-25), 3) := by decide +kernel
theorem dX2_hasWord_39 : decode cX2_hasWord 39 = .ok (.iconst 0, 1) := by decide +kernel
theorem dX2_hasWord_40 : decode cX2_hasWord 40 = .ok (.ireturn, 1) := by decide +kernel
set_option maxRecDepth 20000 in
theorem ggX2_addToFilter_X0_include : GoodIn wsX2_addToFilter wsX0_include := goodIn_r _ [7, 8, 9, 10, 6, 11, 12, 13, 14, 15, 16, 17, 18, 19, 20, 21, 22, 23, 38] (by decide +kernel) (by decide +kernel)
set_option maxRecDepth 20000 in
theorem gX2_addToFilter_X0_include : GoodIn wsX2_addToFilter (wsV RX2 141 RX0 yX0_include wsX0_include) := goodIn_app (goodIn_of _ (by decide +kernel)) ggX2_addToFilter_X0_include
theorem dX2_addToFilter_0 : decode cX2_addToFilter 0 = .ok (.iload_n 1, 1) := by decide +kernel
theorem dX2_addToFilter_1 : decode cX2_addToFilter 1 = .ok (.bipush 34, 2) := by decide +kernel
theorem dX2_addToFilter_3 : decode cX2_addToFilter 3 = .ok (.imul, 1) := by decide +kernel
theorem dX2_addToFilter_4 : decode cX2_addToFilter 4 = .ok (.bipush 16, 2) := by decide +kernel
theorem dX2_addToFilter_6 : decode cX2_addToFilter 6 = .ok (.iadd, 1) := by decide +kernel
theorem dX2_addToFilter_7 : decode cX2_addToFilter 7 = .ok (.istore_n 2, 1) := by decide +kernel
theorem dX2_addToFilter_8 : decode cX2_addToFilter 8 = .ok (.iconst 0, 1) := by decide +kernel
theorem dX2_addToFilter_9 : decode cX2_addToFilter 9 = .ok (.istore_n 3, 1) := by decide +kernel
theorem dX2_addToFilter_10 : decode cX2_addToFilter 10 = .ok (.iload_n 3, 1) := by decide +kernel
theorem dX2_addToFilter_11 : decode cX2_addToFilter 11 = .ok (.bipush 8, 2) := by decide +kernel
theorem dX2_addToFilter_13 : decode cX2_addToFilter 13 = .ok (.if_icmp .ge 24, 3) := by decide +kernel
theorem dX2_addToFilter_16 : decode cX2_addToFilter 16 = .ok (.aload_n 0, 1) := by decide +kernel
theorem dX2_addToFilter_17 : decode cX2_addToFilter 17 = .ok (.getfield 19, 3) := by decide +kernel
theorem dX2_addToFilter_20 : decode cX2_addToFilter 20 = .ok (.aload_n 0, 1) := by decide +kernel
theorem dX2_addToFilter_21 : decode cX2_addToFilter 21 = .ok (.getfield 23, 3) := by decide +kernel
theorem dX2_addToFilter_24 : decode cX2_addToFilter 24 = .ok (.iload_n 2, 1) := by decide +kernel
theorem dX2_addToFilter_25 : decode cX2_addToFilter 25 = .ok (.iload_n 3, 1) := by decide +kernel
theorem dX2_addToFilter_26 : decode cX2_addToFilter 26 = .ok (.iadd, 1) := by decide +kernel
theorem dX2_addToFilter_27 : decode cX2_addToFilter 27 = .ok (.iaload, 1) := by decide +kernel
theorem dX2_addToFilter_28 : decode cX2_addToFilter 28 = .ok (.invokevirtual 141, 3) := by decide +kernel
theorem dX2_addToFilter_31 : decode cX2_addToFilter 31 = .ok (.iinc 3 1, 3) := by decide +kernel
theorem dX2_addToFilter_34 : decode cX2_addToFilter 34 = .ok (.goto (-24), 3) := by decide +kernel
theorem dX2_addToFilter_37 : decode cX2_addToFilter 37 = .ok (.return_, 1) := by decide +kernel
set_option maxRecDepth 20000 in
theorem ggX2_remakeFilter_X0_clear : GoodIn wsX2_remakeFilter wsX0_clear := goodIn_r _ [7, 8, 9, 10, 11, 12, 51] (by decide +kernel) (by decide +kernel)
set_option maxRecDepth 20000 in
theorem gX2_remakeFilter_X0_clear : GoodIn wsX2_remakeFilter (wsV RX2 144 RX0 yX0_clear wsX0_clear) := goodIn_app (goodIn_of _ (by decide +kernel)) ggX2_remakeFilter_X0_clear
set_option maxRecDepth 20000 in
theorem ggX2_remakeFilter_X2_addToFilter : GoodIn wsX2_remakeFilter wsX2_addToFilter := goodIn_r _ [17, 1, 18, 19, 20, 21, 6, 22, 8, 23, 24, 25, 26, 27, 28, 29, 30, 31, 32, 33, 34, 35, 16, 36, 37, 38, 39, 40, 41, 42, 43, 44, 45, 46, 47, 48, 49, 50, 51] (by decide +kernel) (by decide +kernel)
set_option maxRecDepth 20000 in
theorem gX2_remakeFilter_X2_addToFilter : GoodIn wsX2_remakeFilter (wsV RX2 90 RX2 yX2_addToFilter wsX2_addToFilter) := goodIn_app (goodIn_of _ (by decide +kernel)) ggX2_remakeFilter_X2_addToFilter
theorem dX2_remakeFilter_0 : decode cX2_remakeFilter 0 = .ok (.aload_n 0, 1) := by decide +kernel
theorem dX2_remakeFilter_1 : decode cX2_remakeFilter 1 = .ok (.getfield 19, 3) := by decide +kernel
theorem dX2_remakeFilter_4 : decode cX2_remakeFilter 4 = .ok (.invokevirtual 144, 3) := by decide +kernel
theorem dX2_remakeFilter_7 : decode cX2_remakeFilter 7 = .ok (.iconst 0, 1) := by decide +kernel
theorem dX2_remakeFilter_8 : decode cX2_remakeFilter 8 = .ok (.istore_n 1, 1) := by decide +kernel
theorem dX2_remakeFilter_9 : decode cX2_remakeFilter 9 = .ok (.iload_n 1, 1) := by decide +kernel
theorem dX2_remakeFilter_10 : decode cX2_remakeFilter 10 = .ok (.aload_n 0, 1) := by decide +kernel
theorem dX2_remakeFilter_11 : decode cX2_remakeFilter 11 = .ok (.getfield 36, 3) := by decide +kernel
theorem dX2_remakeFilter_14 : decode cX2_remakeFilter 14 = .ok (.if_icmp .ge 14, 3) := by decide +kernel
theorem dX2_remakeFilter_17 : decode cX2_remakeFilter 17 = .ok (.aload_n 0, 1) := by decide +kernel
theorem dX2_remakeFilter_18 : decode cX2_remakeFilter 18 = .ok (.iload_n 1, 1) := by decide +kernel
theorem dX2_remakeFilter_19 : decode cX2_remakeFilter 19 = .ok (.invokevirtual 90, 3) := by decide +kernel
theorem dX2_remakeFilter_22 : decode cX2_remakeFilter 22 = .ok (.iinc 1 1, 3) := by decide +kernel
theorem dX2_remakeFilter_25 : decode cX2_remakeFilter 25 = .ok (.goto (-16), 3) := by decide +kernel
theorem dX2_remakeFilter_28 : decode cX2_remakeFilter 28 = .ok (.return_, 1) := by decide +kernel
theorem dX2_begin_0 : decode cX2_begin 0 = .ok (.aload_n 0, 1) := by decide +kernel
theorem dX2_begin_1 : decode cX2_begin 1 = .ok (.getfield 61, 3) := by decide +kernel
theorem dX2_begin_4 : decode cX2_begin 4 = .ok (.istore_n 1, 1) := by decide +kernel
theorem dX2_begin_5 : decode cX2_begin 5 = .ok (.aload_n 0, 1) := by decide +kernel
theorem dX2_begin_6 : decode cX2_begin 6 = .ok (.iconst 0, 1) := by decide +kernel
theorem dX2_begin_7 : decode cX2_begin 7 = .ok (.putfield 61, 3) := by decide +kernel
theorem dX2_begin_10 : decode cX2_begin 10 = .ok (.iload_n 1, 1) := by decide +kernel
theorem dX2_begin_11 : decode cX2_begin 11 = .ok (.ireturn, 1) := by decide +kernel
set_option maxRecDepth 20000 in
theorem ggX2_audit_X2_auditHead : GoodIn wsX2_audit wsX2_auditHead := goodIn_r _ [8, 3, 9, 1, 10, 11, 12, 13, 14, 15, 16, 7, 17, 18, 19, 20, 21, 22, 84, 85, 86, 87, 88, 89, 90, 91, 92, 93, 94, 95, 96, 97] (by decide +kernel) (by decide +kernel)
set_option maxRecDepth 20000 in
theorem gX2_audit_X2_auditHead : GoodIn wsX2_audit (wsV RX2 147 RX2 yX2_auditHead wsX2_auditHead) := goodIn_app (goodIn_of _ (by decide +kernel)) ggX2_audit_X2_auditHead
set_option maxRecDepth 20000 in
theorem ggX2_audit_X2_faultOf : GoodIn wsX2_audit wsX2_faultOf := goodIn_r _ [26, 18, 27, 14, 15, 16, 7, 17, 19, 20, 21, 22, 3, 28, 29, 30, 31, 32, 33, 34, 35, 36, 37, 38, 39, 40, 41, 42, 43, 44, 45, 46, 47, 48, 49, 50, 51, 52, 53, 54, 55, 56, 57, 58, 59, 60, 61, 62, 63, 64, 65, 66, 67, 68, 69, 70, 71, 72, 73, 74, 75, 76, 77, 78, 79, 80, 81, 82, 83, 84, 85, 86, 87, 88, 89, 90, 91, 92, 93, 94, 95, 96, 97, 98, 99, 100] (by decide +kernel) (by decide +kernel)
set_option maxRecDepth 20000 in
theorem gX2_audit_X2_faultOf : GoodIn wsX2_audit (wsV RX2 150 RX2 yX2_faultOf wsX2_faultOf) := goodIn_app (goodIn_of _ (by decide +kernel)) ggX2_audit_X2_faultOf
theorem dX2_audit_0 : decode cX2_audit 0 = .ok (.iload_n 1, 1) := by decide +kernel
theorem dX2_audit_1 : decode cX2_audit 1 = .ok (.iconst 1, 1) := by decide +kernel
theorem dX2_audit_2 : decode cX2_audit 2 = .ok (.if_icmp .lt 9, 3) := by decide +kernel
theorem dX2_audit_5 : decode cX2_audit 5 = .ok (.iload_n 1, 1) := by decide +kernel
theorem dX2_audit_6 : decode cX2_audit 6 = .ok (.bipush 100, 2) := by decide +kernel
theorem dX2_audit_8 : decode cX2_audit 8 = .ok (.if_icmp .le 6, 3) := by decide +kernel
theorem dX2_audit_11 : decode cX2_audit 11 = .ok (.bipush (-2), 2) := by decide +kernel
theorem dX2_audit_13 : decode cX2_audit 13 = .ok (.ireturn, 1) := by decide +kernel
theorem dX2_audit_14 : decode cX2_audit 14 = .ok (.aload_n 0, 1) := by decide +kernel
theorem dX2_audit_15 : decode cX2_audit 15 = .ok (.iconst 0, 1) := by decide +kernel
theorem dX2_audit_16 : decode cX2_audit 16 = .ok (.putfield 64, 3) := by decide +kernel
theorem dX2_audit_19 : decode cX2_audit 19 = .ok (.iconst 0, 1) := by decide +kernel
theorem dX2_audit_20 : decode cX2_audit 20 = .ok (.istore_n 2, 1) := by decide +kernel
theorem dX2_audit_21 : decode cX2_audit 21 = .ok (.iload_n 2, 1) := by decide +kernel
theorem dX2_audit_22 : decode cX2_audit 22 = .ok (.iload_n 1, 1) := by decide +kernel
theorem dX2_audit_23 : decode cX2_audit 23 = .ok (.if_icmp .ge 59, 3) := by decide +kernel
theorem dX2_audit_26 : decode cX2_audit 26 = .ok (.aload_n 0, 1) := by decide +kernel
theorem dX2_audit_27 : decode cX2_audit 27 = .ok (.getfield 61, 3) := by decide +kernel
theorem dX2_audit_30 : decode cX2_audit 30 = .ok (.aload_n 0, 1) := by decide +kernel
theorem dX2_audit_31 : decode cX2_audit 31 = .ok (.getfield 36, 3) := by decide +kernel
theorem dX2_audit_34 : decode cX2_audit 34 = .ok (.if_icmp .lt 8, 3) := by decide +kernel
theorem dX2_audit_37 : decode cX2_audit 37 = .ok (.aload_n 0, 1) := by decide +kernel
theorem dX2_audit_38 : decode cX2_audit 38 = .ok (.invokevirtual 147, 3) := by decide +kernel
theorem dX2_audit_41 : decode cX2_audit 41 = .ok (.ireturn, 1) := by decide +kernel
theorem dX2_audit_42 : decode cX2_audit 42 = .ok (.aload_n 0, 1) := by decide +kernel
theorem dX2_audit_43 : decode cX2_audit 43 = .ok (.aload_n 0, 1) := by decide +kernel
theorem dX2_audit_44 : decode cX2_audit 44 = .ok (.aload_n 0, 1) := by decide +kernel
theorem dX2_audit_45 : decode cX2_audit 45 = .ok (.getfield 61, 3) := by decide +kernel
theorem dX2_audit_48 : decode cX2_audit 48 = .ok (.invokevirtual 150, 3) := by decide +kernel
theorem dX2_audit_51 : decode cX2_audit 51 = .ok (.putfield 64, 3) := by decide +kernel
theorem dX2_audit_54 : decode cX2_audit 54 = .ok (.aload_n 0, 1) := by decide +kernel
theorem dX2_audit_55 : decode cX2_audit 55 = .ok (.getfield 64, 3) := by decide +kernel
theorem dX2_audit_58 : decode cX2_audit 58 = .ok (.ifCond .eq 8, 3) := by decide +kernel
theorem dX2_audit_61 : decode cX2_audit 61 = .ok (.aload_n 0, 1) := by decide +kernel
theorem dX2_audit_62 : decode cX2_audit 62 = .ok (.getfield 61, 3) := by decide +kernel
theorem dX2_audit_65 : decode cX2_audit 65 = .ok (.ireturn, 1) := by decide +kernel
theorem dX2_audit_66 : decode cX2_audit 66 = .ok (.aload_n 0, 1) := by decide +kernel
theorem dX2_audit_67 : decode cX2_audit 67 = .ok (.dup, 1) := by decide +kernel
theorem dX2_audit_68 : decode cX2_audit 68 = .ok (.getfield 61, 3) := by decide +kernel
theorem dX2_audit_71 : decode cX2_audit 71 = .ok (.iconst 1, 1) := by decide +kernel
theorem dX2_audit_72 : decode cX2_audit 72 = .ok (.iadd, 1) := by decide +kernel
theorem dX2_audit_73 : decode cX2_audit 73 = .ok (.putfield 61, 3) := by decide +kernel
theorem dX2_audit_76 : decode cX2_audit 76 = .ok (.iinc 2 1, 3) := by decide +kernel
theorem dX2_audit_79 : decode cX2_audit 79 = .ok (.goto (-58), 3) := by decide +kernel
theorem dX2_audit_82 : decode cX2_audit 82 = .ok (.iconst (-1), 1) := by decide +kernel
theorem dX2_audit_83 : decode cX2_audit 83 = .ok (.ireturn, 1) := by decide +kernel
theorem dX2_fault_0 : decode cX2_fault 0 = .ok (.aload_n 0, 1) := by decide +kernel
theorem dX2_fault_1 : decode cX2_fault 1 = .ok (.getfield 64, 3) := by decide +kernel
theorem dX2_fault_4 : decode cX2_fault 4 = .ok (.ireturn, 1) := by decide +kernel
set_option maxRecDepth 20000 in
theorem ggX2_auditHead_X2_isHashOf : GoodIn wsX2_auditHead wsX2_isHashOf := goodIn_r _ [12, 13, 14, 15, 16, 11, 17, 1, 18, 19, 20, 21, 22, 23, 24, 25, 26, 27, 28, 29, 30, 31] (by decide +kernel) (by decide +kernel)
set_option maxRecDepth 20000 in
theorem gX2_auditHead_X2_isHashOf : GoodIn wsX2_auditHead (wsV RX2 153 RX2 yX2_isHashOf wsX2_isHashOf) := goodIn_app (goodIn_of _ (by decide +kernel)) ggX2_auditHead_X2_isHashOf
theorem dX2_auditHead_0 : decode cX2_auditHead 0 = .ok (.aload_n 0, 1) := by decide +kernel
theorem dX2_auditHead_1 : decode cX2_auditHead 1 = .ok (.aload_n 0, 1) := by decide +kernel
theorem dX2_auditHead_2 : decode cX2_auditHead 2 = .ok (.getfield 36, 3) := by decide +kernel
theorem dX2_auditHead_5 : decode cX2_auditHead 5 = .ok (.iconst 1, 1) := by decide +kernel
theorem dX2_auditHead_6 : decode cX2_auditHead 6 = .ok (.isub, 1) := by decide +kernel
theorem dX2_auditHead_7 : decode cX2_auditHead 7 = .ok (.aload_n 0, 1) := by decide +kernel
theorem dX2_auditHead_8 : decode cX2_auditHead 8 = .ok (.getfield 27, 3) := by decide +kernel
theorem dX2_auditHead_11 : decode cX2_auditHead 11 = .ok (.iconst 0, 1) := by decide +kernel
theorem dX2_auditHead_12 : decode cX2_auditHead 12 = .ok (.invokevirtual 153, 3) := by decide +kernel
theorem dX2_auditHead_15 : decode cX2_auditHead 15 = .ok (.ifCond .eq 6, 3) := by decide +kernel
theorem dX2_auditHead_18 : decode cX2_auditHead 18 = .ok (.bipush (-5), 2) := by decide +kernel
theorem dX2_auditHead_20 : decode cX2_auditHead 20 = .ok (.ireturn, 1) := by decide +kernel
theorem dX2_auditHead_21 : decode cX2_auditHead 21 = .ok (.aload_n 0, 1) := by decide +kernel
theorem dX2_auditHead_22 : decode cX2_auditHead 22 = .ok (.aload_n 0, 1) := by decide +kernel
theorem dX2_auditHead_23 : decode cX2_auditHead 23 = .ok (.getfield 36, 3) := by decide +kernel
theorem dX2_auditHead_26 : decode cX2_auditHead 26 = .ok (.ifCond .ne 8, 3) := by decide +kernel
theorem dX2_auditHead_29 : decode cX2_auditHead 29 = .ok (.bipush 6, 2) := by decide +kernel
theorem dX2_auditHead_31 : decode cX2_auditHead 31 = .ok (.goto 4, 3) := by decide +kernel
theorem dX2_auditHead_34 : decode cX2_auditHead 34 = .ok (.iconst 5, 1) := by decide +kernel
theorem dX2_auditHead_35 : decode cX2_auditHead 35 = .ok (.putfield 64, 3) := by decide +kernel
theorem dX2_auditHead_38 : decode cX2_auditHead 38 = .ok (.iconst 0, 1) := by decide +kernel
theorem dX2_auditHead_39 : decode cX2_auditHead 39 = .ok (.aload_n 0, 1) := by decide +kernel
theorem dX2_auditHead_40 : decode cX2_auditHead 40 = .ok (.getfield 36, 3) := by decide +kernel
theorem dX2_auditHead_43 : decode cX2_auditHead 43 = .ok (.iconst 1, 1) := by decide +kernel
theorem dX2_auditHead_44 : decode cX2_auditHead 44 = .ok (.isub, 1) := by decide +kernel
theorem dX2_auditHead_45 : decode cX2_auditHead 45 = .ok (.invokestatic 49, 3) := by decide +kernel
theorem dX2_auditHead_48 : decode cX2_auditHead 48 = .ok (.ireturn, 1) := by decide +kernel
set_option maxRecDepth 20000 in
theorem ggX2_faultOf_X2_isHashOf : GoodIn wsX2_faultOf wsX2_isHashOf := goodIn_r _ [7, 1, 8, 9, 10, 6, 11, 12, 69, 70, 71, 72, 73, 74, 75, 76, 77, 78, 79, 80, 81, 82] (by decide +kernel) (by decide +kernel)
set_option maxRecDepth 20000 in
theorem gX2_faultOf_X2_isHashOf : GoodIn wsX2_faultOf (wsV RX2 153 RX2 yX2_isHashOf wsX2_isHashOf) := goodIn_app (goodIn_of _ (by decide +kernel)) ggX2_faultOf_X2_isHashOf
set_option maxRecDepth 20000 in
theorem ggX2_faultOf_X2_skipOf : GoodIn wsX2_faultOf wsX2_skipOf := goodIn_r _ [15] (by decide +kernel) (by decide +kernel)
set_option maxRecDepth 20000 in
theorem gX2_faultOf_X2_skipOf : GoodIn wsX2_faultOf (va_wsS RX2 103 yX2_skipOf wsX2_skipOf) := goodIn_app (goodIn_of _ (by decide +kernel)) ggX2_faultOf_X2_skipOf
set_option maxRecDepth 20000 in
theorem ggX2_faultOf_X1_takeAll : GoodIn wsX2_faultOf wsX1_takeAll := goodIn_r _ [20, 21, 22, 23, 19, 24, 25, 26, 27, 28, 29, 30, 31, 32, 33, 34, 35, 36, 37, 38, 39, 40, 41, 6, 42, 43, 44, 45, 46, 47, 48, 49, 50, 51, 52, 53, 54, 55, 83, 84, 85] (by decide +kernel) (by decide +kernel)
set_option maxRecDepth 20000 in
theorem gX2_faultOf_X1_takeAll : GoodIn wsX2_faultOf (wsV RX2 157 RX1 yX1_takeAll wsX1_takeAll) := goodIn_app (goodIn_of _ (by decide +kernel)) ggX2_faultOf_X1_takeAll
set_option maxRecDepth 20000 in
theorem ggX2_faultOf_X1_isAt : GoodIn wsX2_faultOf wsX1_isAt := goodIn_r _ [59, 47, 83, 84, 85] (by decide +kernel) (by decide +kernel)
set_option maxRecDepth 20000 in
theorem gX2_faultOf_X1_isAt : GoodIn wsX2_faultOf (wsV RX2 160 RX1 yX1_isAt wsX1_isAt) := goodIn_app (goodIn_of _ (by decide +kernel)) ggX2_faultOf_X1_isAt
set_option maxRecDepth 20000 in
theorem ggX2_faultOf_X1_zeros : GoodIn wsX2_faultOf wsX1_zeros := goodIn_r _ [63, 47, 64, 65, 66, 67, 68, 83, 84, 85] (by decide +kernel) (by decide +kernel)
set_option maxRecDepth 20000 in
theorem gX2_faultOf_X1_zeros : GoodIn wsX2_faultOf (wsV RX2 118 RX1 yX1_zeros wsX1_zeros) := goodIn_app (goodIn_of _ (by decide +kernel)) ggX2_faultOf_X1_zeros
theorem dX2_faultOf_0 : decode cX2_faultOf 0 = .ok (.iload_n 1, 1) := by decide +kernel
theorem dX2_faultOf_1 : decode cX2_faultOf 1 = .ok (.bipush 34, 2) := by decide +kernel
theorem dX2_faultOf_3 : decode cX2_faultOf 3 = .ok (.imul, 1) := by decide +kernel
theorem dX2_faultOf_4 : decode cX2_faultOf 4 = .ok (.istore_n 2, 1) := by decide +kernel
theorem dX2_faultOf_5 : decode cX2_faultOf 5 = .ok (.aload_n 0, 1) := by decide +kernel
theorem dX2_faultOf_6 : decode cX2_faultOf 6 = .ok (.iload_n 1, 1) := by decide +kernel
theorem dX2_faultOf_7 : decode cX2_faultOf 7 = .ok (.iconst 1, 1) := by decide +kernel
theorem dX2_faultOf_8 : decode cX2_faultOf 8 = .ok (.isub, 1) := by decide +kernel
theorem dX2_faultOf_9 : decode cX2_faultOf 9 = .ok (.aload_n 0, 1) := by decide +kernel
theorem dX2_faultOf_10 : decode cX2_faultOf 10 = .ok (.getfield 23, 3) := by decide +kernel
theorem dX2_faultOf_13 : decode cX2_faultOf 13 = .ok (.iload_n 2, 1) := by decide +kernel
theorem dX2_faultOf_14 : decode cX2_faultOf 14 = .ok (.iconst 0, 1) := by decide +kernel
theorem dX2_faultOf_15 : decode cX2_faultOf 15 = .ok (.iadd, 1) := by decide +kernel
theorem dX2_faultOf_16 : decode cX2_faultOf 16 = .ok (.invokevirtual 153, 3) := by decide +kernel
theorem dX2_faultOf_19 : decode cX2_faultOf 19 = .ok (.ifCond .ne 5, 3) := by decide +kernel
theorem dX2_faultOf_22 : decode cX2_faultOf 22 = .ok (.iconst 1, 1) := by decide +kernel
theorem dX2_faultOf_23 : decode cX2_faultOf 23 = .ok (.ireturn, 1) := by decide +kernel
theorem dX2_faultOf_24 : decode cX2_faultOf 24 = .ok (.aload_n 0, 1) := by decide +kernel
theorem dX2_faultOf_25 : decode cX2_faultOf 25 = .ok (.iload_n 1, 1) := by decide +kernel
theorem dX2_faultOf_26 : decode cX2_faultOf 26 = .ok (.invokestatic 103, 3) := by decide +kernel
theorem dX2_faultOf_29 : decode cX2_faultOf 29 = .ok (.aload_n 0, 1) := by decide +kernel
theorem dX2_faultOf_30 : decode cX2_faultOf 30 = .ok (.getfield 23, 3) := by decide +kernel
theorem dX2_faultOf_33 : decode cX2_faultOf 33 = .ok (.iload_n 2, 1) := by decide +kernel
theorem dX2_faultOf_34 : decode cX2_faultOf 34 = .ok (.bipush 8, 2) := by decide +kernel
theorem dX2_faultOf_36 : decode cX2_faultOf 36 = .ok (.iadd, 1) := by decide +kernel
theorem dX2_faultOf_37 : decode cX2_faultOf 37 = .ok (.invokevirtual 153, 3) := by decide +kernel
theorem dX2_faultOf_40 : decode cX2_faultOf 40 = .ok (.ifCond .ne 5, 3) := by decide +kernel
theorem dX2_faultOf_43 : decode cX2_faultOf 43 = .ok (.iconst 2, 1) := by decide +kernel
theorem dX2_faultOf_44 : decode cX2_faultOf 44 = .ok (.ireturn, 1) := by decide +kernel
theorem dX2_faultOf_45 : decode cX2_faultOf 45 = .ok (.aload_n 0, 1) := by decide +kernel
theorem dX2_faultOf_46 : decode cX2_faultOf 46 = .ok (.getfield 10, 3) := by decide +kernel
theorem dX2_faultOf_49 : decode cX2_faultOf 49 = .ok (.aload_n 0, 1) := by decide +kernel
theorem dX2_faultOf_50 : decode cX2_faultOf 50 = .ok (.getfield 23, 3) := by decide +kernel
theorem dX2_faultOf_53 : decode cX2_faultOf 53 = .ok (.iload_n 2, 1) := by decide +kernel
theorem dX2_faultOf_54 : decode cX2_faultOf 54 = .ok (.invokevirtual 157, 3) := by decide +kernel
theorem dX2_faultOf_57 : decode cX2_faultOf 57 = .ok (.aload_n 0, 1) := by decide +kernel
theorem dX2_faultOf_58 : decode cX2_faultOf 58 = .ok (.getfield 10, 3) := by decide +kernel
theorem dX2_faultOf_61 : decode cX2_faultOf 61 = .ok (.aload_n 0, 1) := by decide +kernel
theorem dX2_faultOf_62 : decode cX2_faultOf 62 = .ok (.getfield 23, 3) := by decide +kernel
theorem dX2_faultOf_65 : decode cX2_faultOf 65 = .ok (.iload_n 2, 1) := by decide +kernel
theorem dX2_faultOf_66 : decode cX2_faultOf 66 = .ok (.bipush 26, 2) := by decide +kernel
theorem dX2_faultOf_68 : decode cX2_faultOf 68 = .ok (.iadd, 1) := by decide +kernel
theorem dX2_faultOf_69 : decode cX2_faultOf 69 = .ok (.invokevirtual 160, 3) := by decide +kernel
theorem dX2_faultOf_72 : decode cX2_faultOf 72 = .ok (.ifCond .ne 5, 3) := by decide +kernel
theorem dX2_faultOf_75 : decode cX2_faultOf 75 = .ok (.iconst 3, 1) := by decide +kernel
theorem dX2_faultOf_76 : decode cX2_faultOf 76 = .ok (.ireturn, 1) := by decide +kernel
theorem dX2_faultOf_77 : decode cX2_faultOf 77 = .ok (.aload_n 0, 1) := by decide +kernel
theorem dX2_faultOf_78 : decode cX2_faultOf 78 = .ok (.getfield 10, 3) := by decide +kernel
theorem dX2_faultOf_81 : decode cX2_faultOf 81 = .ok (.invokevirtual 118, 3) := by decide +kernel
theorem dX2_faultOf_84 : decode cX2_faultOf 84 = .ok (.aload_n 0, 1) := by decide +kernel
theorem dX2_faultOf_85 : decode cX2_faultOf 85 = .ok (.getfield 23, 3) := by decide +kernel
theorem dX2_faultOf_88 : decode cX2_faultOf 88 = .ok (.iload_n 2, 1) := by decide +kernel
theorem dX2_faultOf_89 : decode cX2_faultOf 89 = .ok (.bipush 24, 2) := by decide +kernel
theorem dX2_faultOf_91 : decode cX2_faultOf 91 = .ok (.iadd, 1) := by decide +kernel
theorem dX2_faultOf_92 : decode cX2_faultOf 92 = .ok (.iaload, 1) := by decide +kernel
theorem dX2_faultOf_93 : decode cX2_faultOf 93 = .ok (.iconst 4, 1) := by decide +kernel
theorem dX2_faultOf_94 : decode cX2_faultOf 94 = .ok (.iushr, 1) := by decide +kernel
theorem dX2_faultOf_95 : decode cX2_faultOf 95 = .ok (.if_icmp .ge 5, 3) := by decide +kernel
theorem dX2_faultOf_98 : decode cX2_faultOf 98 = .ok (.iconst 4, 1) := by decide +kernel
theorem dX2_faultOf_99 : decode cX2_faultOf 99 = .ok (.ireturn, 1) := by decide +kernel
theorem dX2_faultOf_100 : decode cX2_faultOf 100 = .ok (.iconst 0, 1) := by decide +kernel
theorem dX2_faultOf_101 : decode cX2_faultOf 101 = .ok (.ireturn, 1) := by decide +kernel
set_option maxRecDepth 20000 in
theorem ggX2_isHashOf_X2_hasEntry : GoodIn wsX2_isHashOf wsX2_hasEntry := goodIn_r _ [6, 7, 8, 9, 10, 11, 12, 13, 14, 15, 16, 17, 18, 19, 20, 21] (by decide +kernel) (by decide +kernel)
set_option maxRecDepth 20000 in
theorem gX2_isHashOf_X2_hasEntry : GoodIn wsX2_isHashOf (wsV RX2 107 RX2 yX2_hasEntry wsX2_hasEntry) := goodIn_app (goodIn_of _ (by decide +kernel)) ggX2_isHashOf_X2_hasEntry
theorem dX2_isHashOf_0 : decode cX2_isHashOf 0 = .ok (.aload_n 0, 1) := by decide +kernel
theorem dX2_isHashOf_1 : decode cX2_isHashOf 1 = .ok (.iload_n 1, 1) := by decide +kernel
theorem dX2_isHashOf_2 : decode cX2_isHashOf 2 = .ok (.invokevirtual 107, 3) := by decide +kernel
theorem dX2_isHashOf_5 : decode cX2_isHashOf 5 = .ok (.istore 4, 2) := by decide +kernel
theorem dX2_isHashOf_7 : decode cX2_isHashOf 7 = .ok (.iconst 0, 1) := by decide +kernel
theorem dX2_isHashOf_8 : decode cX2_isHashOf 8 = .ok (.istore 5, 2) := by decide +kernel
theorem dX2_isHashOf_10 : decode cX2_isHashOf 10 = .ok (.iload 5, 2) := by decide +kernel
theorem dX2_isHashOf_12 : decode cX2_isHashOf 12 = .ok (.bipush 8, 2) := by decide +kernel
theorem dX2_isHashOf_14 : decode cX2_isHashOf 14 = .ok (.if_icmp .ge 48, 3) := by decide +kernel
theorem dX2_isHashOf_17 : decode cX2_isHashOf 17 = .ok (.iload 4, 2) := by decide +kernel
theorem dX2_isHashOf_19 : decode cX2_isHashOf 19 = .ok (.ifCond .eq 21, 3) := by decide +kernel
theorem dX2_isHashOf_22 : decode cX2_isHashOf 22 = .ok (.aload_n 0, 1) := by decide +kernel
theorem dX2_isHashOf_23 : decode cX2_isHashOf 23 = .ok (.getfield 23, 3) := by decide +kernel
theorem dX2_isHashOf_26 : decode cX2_isHashOf 26 = .ok (.iload_n 1, 1) := by decide +kernel
theorem dX2_isHashOf_27 : decode cX2_isHashOf 27 = .ok (.bipush 34, 2) := by decide +kernel
theorem dX2_isHashOf_29 : decode cX2_isHashOf 29 = .ok (.imul, 1) := by decide +kernel
theorem dX2_isHashOf_30 : decode cX2_isHashOf 30 = .ok (.bipush 26, 2) := by decide +kernel
theorem dX2_isHashOf_32 : decode cX2_isHashOf 32 = .ok (.iadd, 1) := by decide +kernel
theorem dX2_isHashOf_33 : decode cX2_isHashOf 33 = .ok (.iload 5, 2) := by decide +kernel
theorem dX2_isHashOf_35 : decode cX2_isHashOf 35 = .ok (.iadd, 1) := by decide +kernel
theorem dX2_isHashOf_36 : decode cX2_isHashOf 36 = .ok (.iaload, 1) := by decide +kernel
theorem dX2_isHashOf_37 : decode cX2_isHashOf 37 = .ok (.goto 4, 3) := by decide +kernel
theorem dX2_isHashOf_40 : decode cX2_isHashOf 40 = .ok (.iconst 0, 1) := by decide +kernel
theorem dX2_isHashOf_41 : decode cX2_isHashOf 41 = .ok (.istore 6, 2) := by decide +kernel
theorem dX2_isHashOf_43 : decode cX2_isHashOf 43 = .ok (.aload_n 2, 1) := by decide +kernel
theorem dX2_isHashOf_44 : decode cX2_isHashOf 44 = .ok (.iload_n 3, 1) := by decide +kernel
theorem dX2_isHashOf_45 : decode cX2_isHashOf 45 = .ok (.iload 5, 2) := by decide +kernel
theorem dX2_isHashOf_47 : decode cX2_isHashOf 47 = .ok (.iadd, 1) := by decide +kernel
theorem dX2_isHashOf_48 : decode cX2_isHashOf 48 = .ok (.iaload, 1) := by decide +kernel
theorem dX2_isHashOf_49 : decode cX2_isHashOf 49 = .ok (.iload 6, 2) := by decide +kernel
theorem dX2_isHashOf_51 : decode cX2_isHashOf 51 = .ok (.if_icmp .eq 5, 3) := by decide +kernel
theorem dX2_isHashOf_54 : decode cX2_isHashOf 54 = .ok (.iconst 0, 1) := by decide +kernel
theorem dX2_isHashOf_55 : decode cX2_isHashOf 55 = .ok (.ireturn, 1) := by decide +kernel
theorem dX2_isHashOf_56 : decode cX2_isHashOf 56 = .ok (.iinc 5 1, 3) := by decide +kernel
theorem dX2_isHashOf_59 : decode cX2_isHashOf 59 = .ok (.goto (-49), 3) := by decide +kernel
theorem dX2_isHashOf_62 : decode cX2_isHashOf 62 = .ok (.iconst 1, 1) := by decide +kernel
theorem dX2_isHashOf_63 : decode cX2_isHashOf 63 = .ok (.ireturn, 1) := by decide +kernel
set_option maxRecDepth 20000 in
theorem ggX2_way_X2_hasEntry : GoodIn wsX2_way wsX2_hasEntry := goodIn_r _ [6, 1, 20, 21, 22, 23, 24, 25, 26, 27, 28, 29, 30, 31, 32, 33] (by decide +kernel) (by decide +kernel)
set_option maxRecDepth 20000 in
theorem gX2_way_X2_hasEntry : GoodIn wsX2_way (wsV RX2 107 RX2 yX2_hasEntry wsX2_hasEntry) := goodIn_app (goodIn_of _ (by decide +kernel)) ggX2_way_X2_hasEntry
set_option maxRecDepth 20000 in
theorem ggX2_way_X2_levelsTo : GoodIn wsX2_way wsX2_levelsTo := goodIn_r _ [10, 1, 11, 12, 5, 13, 14, 15, 16, 17, 18, 19, 20, 21, 22, 23, 24, 25, 26, 27, 28, 29, 30, 31, 32, 33] (by decide +kernel) (by decide +kernel)
set_option maxRecDepth 20000 in
theorem gX2_way_X2_levelsTo : GoodIn wsX2_way (wsV RX2 164 RX2 yX2_levelsTo wsX2_levelsTo) := goodIn_app (goodIn_of _ (by decide +kernel)) ggX2_way_X2_levelsTo
set_option maxRecDepth 20000 in
theorem ggX2_way_X2_nextOnWay : GoodIn wsX2_way wsX2_nextOnWay := goodIn_r _ [13, 14, 15, 5, 16, 17, 18, 19] (by decide +kernel) (by decide +kernel)
set_option maxRecDepth 20000 in
theorem gX2_way_X2_nextOnWay : GoodIn wsX2_way (va_wsS RX2 167 yX2_nextOnWay wsX2_nextOnWay) := goodIn_app (goodIn_of _ (by decide +kernel)) ggX2_way_X2_nextOnWay
theorem dX2_way_0 : decode cX2_way 0 = .ok (.aload_n 0, 1) := by decide +kernel
theorem dX2_way_1 : decode cX2_way 1 = .ok (.iload_n 1, 1) := by decide +kernel
theorem dX2_way_2 : decode cX2_way 2 = .ok (.invokevirtual 107, 3) := by decide +kernel
theorem dX2_way_5 : decode cX2_way 5 = .ok (.ifCond .ne 6, 3) := by decide +kernel
theorem dX2_way_8 : decode cX2_way 8 = .ok (.bipush (-2), 2) := by decide +kernel
theorem dX2_way_10 : decode cX2_way 10 = .ok (.ireturn, 1) := by decide +kernel
theorem dX2_way_11 : decode cX2_way 11 = .ok (.iload_n 2, 1) := by decide +kernel
theorem dX2_way_12 : decode cX2_way 12 = .ok (.ifCond .lt 12, 3) := by decide +kernel
theorem dX2_way_15 : decode cX2_way 15 = .ok (.iload_n 2, 1) := by decide +kernel
theorem dX2_way_16 : decode cX2_way 16 = .ok (.aload_n 0, 1) := by decide +kernel
theorem dX2_way_17 : decode cX2_way 17 = .ok (.iload_n 1, 1) := by decide +kernel
theorem dX2_way_18 : decode cX2_way 18 = .ok (.invokevirtual 164, 3) := by decide +kernel
theorem dX2_way_21 : decode cX2_way 21 = .ok (.if_icmp .lt 5, 3) := by decide +kernel
theorem dX2_way_24 : decode cX2_way 24 = .ok (.iconst (-1), 1) := by decide +kernel
theorem dX2_way_25 : decode cX2_way 25 = .ok (.ireturn, 1) := by decide +kernel
theorem dX2_way_26 : decode cX2_way 26 = .ok (.aload_n 0, 1) := by decide +kernel
theorem dX2_way_27 : decode cX2_way 27 = .ok (.getfield 36, 3) := by decide +kernel
theorem dX2_way_30 : decode cX2_way 30 = .ok (.iconst 1, 1) := by decide +kernel
theorem dX2_way_31 : decode cX2_way 31 = .ok (.isub, 1) := by decide +kernel
theorem dX2_way_32 : decode cX2_way 32 = .ok (.istore_n 3, 1) := by decide +kernel
theorem dX2_way_33 : decode cX2_way 33 = .ok (.iconst 0, 1) := by decide +kernel
theorem dX2_way_34 : decode cX2_way 34 = .ok (.istore 4, 2) := by decide +kernel
theorem dX2_way_36 : decode cX2_way 36 = .ok (.iload 4, 2) := by decide +kernel
theorem dX2_way_38 : decode cX2_way 38 = .ok (.iload_n 2, 1) := by decide +kernel
theorem dX2_way_39 : decode cX2_way 39 = .ok (.if_icmp .ge 15, 3) := by decide +kernel
theorem dX2_way_42 : decode cX2_way 42 = .ok (.iload_n 3, 1) := by decide +kernel
theorem dX2_way_43 : decode cX2_way 43 = .ok (.iload_n 1, 1) := by decide +kernel
theorem dX2_way_44 : decode cX2_way 44 = .ok (.invokestatic 167, 3) := by decide +kernel
theorem dX2_way_47 : decode cX2_way 47 = .ok (.istore_n 3, 1) := by decide +kernel
theorem dX2_way_48 : decode cX2_way 48 = .ok (.iinc 4 1, 3) := by decide +kernel
theorem dX2_way_51 : decode cX2_way 51 = .ok (.goto (-15), 3) := by decide +kernel
theorem dX2_way_54 : decode cX2_way 54 = .ok (.iload_n 3, 1) := by decide +kernel
theorem dX2_way_55 : decode cX2_way 55 = .ok (.ireturn, 1) := by decide +kernel
set_option maxRecDepth 20000 in
theorem ggX2_prove_X2_hasEntry : GoodIn wsX2_prove wsX2_hasEntry := goodIn_r _ [13, 1, 27, 28, 29, 30, 31, 32, 33, 34, 35, 36, 37, 38, 39, 40] (by decide +kernel) (by decide +kernel)
set_option maxRecDepth 20000 in
theorem gX2_prove_X2_hasEntry : GoodIn wsX2_prove (wsV RX2 107 RX2 yX2_hasEntry wsX2_hasEntry) := goodIn_app (goodIn_of _ (by decide +kernel)) ggX2_prove_X2_hasEntry
set_option maxRecDepth 20000 in
theorem ggX2_prove_X2_levelsTo : GoodIn wsX2_prove wsX2_levelsTo := goodIn_r _ [17, 1, 18, 19, 12, 20, 21, 22, 23, 24, 25, 26, 27, 28, 29, 30, 31, 32, 33, 34, 35, 36, 37, 38, 39, 40] (by decide +kernel) (by decide +kernel)
set_option maxRecDepth 20000 in
theorem gX2_prove_X2_levelsTo : GoodIn wsX2_prove (wsV RX2 164 RX2 yX2_levelsTo wsX2_levelsTo) := goodIn_app (goodIn_of _ (by decide +kernel)) ggX2_prove_X2_levelsTo
set_option maxRecDepth 20000 in
theorem ggX2_prove_X2_nextOnWay : GoodIn wsX2_prove wsX2_nextOnWay := goodIn_r _ [20, 21, 22, 12, 23, 24, 25, 26] (by decide +kernel) (by decide +kernel)
set_option maxRecDepth 20000 in
theorem gX2_prove_X2_nextOnWay : GoodIn wsX2_prove (va_wsS RX2 167 yX2_nextOnWay wsX2_nextOnWay) := goodIn_app (goodIn_of _ (by decide +kernel)) ggX2_prove_X2_nextOnWay
theorem dX2_prove_0 : decode cX2_prove 0 = .ok (.aload_n 0, 1) := by decide +kernel
theorem dX2_prove_1 : decode cX2_prove 1 = .ok (.iload_n 1, 1) := by decide +kernel
theorem dX2_prove_2 : decode cX2_prove 2 = .ok (.invokevirtual 107, 3) := by decide +kernel
theorem dX2_prove_5 : decode cX2_prove 5 = .ok (.ifCond .ne 6, 3) := by decide +kernel
theorem dX2_prove_8 : decode cX2_prove 8 = .ok (.bipush (-2), 2) := by decide +kernel
theorem dX2_prove_10 : decode cX2_prove 10 = .ok (.ireturn, 1) := by decide +kernel
theorem dX2_prove_11 : decode cX2_prove 11 = .ok (.aload_n 0, 1) := by decide +kernel
theorem dX2_prove_12 : decode cX2_prove 12 = .ok (.iload_n 1, 1) := by decide +kernel
theorem dX2_prove_13 : decode cX2_prove 13 = .ok (.invokevirtual 164, 3) := by decide +kernel
theorem dX2_prove_16 : decode cX2_prove 16 = .ok (.istore_n 2, 1) := by decide +kernel
theorem dX2_prove_17 : decode cX2_prove 17 = .ok (.aload_n 0, 1) := by decide +kernel
theorem dX2_prove_18 : decode cX2_prove 18 = .ok (.getfield 36, 3) := by decide +kernel
theorem dX2_prove_21 : decode cX2_prove 21 = .ok (.iconst 1, 1) := by decide +kernel
theorem dX2_prove_22 : decode cX2_prove 22 = .ok (.isub, 1) := by decide +kernel
theorem dX2_prove_23 : decode cX2_prove 23 = .ok (.istore_n 3, 1) := by decide +kernel
theorem dX2_prove_24 : decode cX2_prove 24 = .ok (.iconst 0, 1) := by decide +kernel
theorem dX2_prove_25 : decode cX2_prove 25 = .ok (.istore 4, 2) := by decide +kernel
theorem dX2_prove_27 : decode cX2_prove 27 = .ok (.iload 4, 2) := by decide +kernel
theorem dX2_prove_29 : decode cX2_prove 29 = .ok (.iload_n 2, 1) := by decide +kernel
theorem dX2_prove_30 : decode cX2_prove 30 = .ok (.if_icmp .ge 37, 3) := by decide +kernel
theorem dX2_prove_33 : decode cX2_prove 33 = .ok (.aload_n 0, 1) := by decide +kernel
theorem dX2_prove_34 : decode cX2_prove 34 = .ok (.getfield 23, 3) := by decide +kernel
theorem dX2_prove_37 : decode cX2_prove 37 = .ok (.iload_n 3, 1) := by decide +kernel
theorem dX2_prove_38 : decode cX2_prove 38 = .ok (.bipush 34, 2) := by decide +kernel
theorem dX2_prove_40 : decode cX2_prove 40 = .ok (.imul, 1) := by decide +kernel
theorem dX2_prove_41 : decode cX2_prove 41 = .ok (.aload_n 0, 1) := by decide +kernel
theorem dX2_prove_42 : decode cX2_prove 42 = .ok (.getfield 33, 3) := by decide +kernel
theorem dX2_prove_45 : decode cX2_prove 45 = .ok (.iload 4, 2) := by decide +kernel
theorem dX2_prove_47 : decode cX2_prove 47 = .ok (.bipush 26, 2) := by decide +kernel
theorem dX2_prove_49 : decode cX2_prove 49 = .ok (.imul, 1) := by decide +kernel
theorem dX2_prove_50 : decode cX2_prove 50 = .ok (.bipush 26, 2) := by decide +kernel
theorem dX2_prove_52 : decode cX2_prove 52 = .ok (.invokestatic 84, 3) := by decide +kernel
theorem dX2_prove_55 : decode cX2_prove 55 = .ok (.iload_n 3, 1) := by decide +kernel
theorem dX2_prove_56 : decode cX2_prove 56 = .ok (.iload_n 1, 1) := by decide +kernel
theorem dX2_prove_57 : decode cX2_prove 57 = .ok (.invokestatic 167, 3) := by decide +kernel
theorem dX2_prove_60 : decode cX2_prove 60 = .ok (.istore_n 3, 1) := by decide +kernel
theorem dX2_prove_61 : decode cX2_prove 61 = .ok (.iinc 4 1, 3) := by decide +kernel
theorem dX2_prove_64 : decode cX2_prove 64 = .ok (.goto (-37), 3) := by decide +kernel
theorem dX2_prove_67 : decode cX2_prove 67 = .ok (.aload_n 0, 1) := by decide +kernel
theorem dX2_prove_68 : decode cX2_prove 68 = .ok (.iload_n 2, 1) := by decide +kernel
theorem dX2_prove_69 : decode cX2_prove 69 = .ok (.bipush 26, 2) := by decide +kernel
theorem dX2_prove_71 : decode cX2_prove 71 = .ok (.imul, 1) := by decide +kernel
theorem dX2_prove_72 : decode cX2_prove 72 = .ok (.putfield 67, 3) := by decide +kernel
theorem dX2_prove_75 : decode cX2_prove 75 = .ok (.aload_n 0, 1) := by decide +kernel
theorem dX2_prove_76 : decode cX2_prove 76 = .ok (.getfield 67, 3) := by decide +kernel
theorem dX2_prove_79 : decode cX2_prove 79 = .ok (.ireturn, 1) := by decide +kernel
theorem dX2_proof_0 : decode cX2_proof 0 = .ok (.iload_n 1, 1) := by decide +kernel
theorem dX2_proof_1 : decode cX2_proof 1 = .ok (.ifCond .lt 11, 3) := by decide +kernel
theorem dX2_proof_4 : decode cX2_proof 4 = .ok (.iload_n 1, 1) := by decide +kernel
theorem dX2_proof_5 : decode cX2_proof 5 = .ok (.aload_n 0, 1) := by decide +kernel
theorem dX2_proof_6 : decode cX2_proof 6 = .ok (.getfield 67, 3) := by decide +kernel
theorem dX2_proof_9 : decode cX2_proof 9 = .ok (.if_icmp .lt 5, 3) := by decide +kernel
theorem dX2_proof_12 : decode cX2_proof 12 = .ok (.iconst 0, 1) := by decide +kernel
theorem dX2_proof_13 : decode cX2_proof 13 = .ok (.ireturn, 1) := by decide +kernel
theorem dX2_proof_14 : decode cX2_proof 14 = .ok (.aload_n 0, 1) := by decide +kernel
theorem dX2_proof_15 : decode cX2_proof 15 = .ok (.getfield 33, 3) := by decide +kernel
theorem dX2_proof_18 : decode cX2_proof 18 = .ok (.iload_n 1, 1) := by decide +kernel
theorem dX2_proof_19 : decode cX2_proof 19 = .ok (.iaload, 1) := by decide +kernel
theorem dX2_proof_20 : decode cX2_proof 20 = .ok (.ireturn, 1) := by decide +kernel
theorem dX2_forge_0 : decode cX2_forge 0 = .ok (.iload_n 1, 1) := by decide +kernel
theorem dX2_forge_1 : decode cX2_forge 1 = .ok (.ifCond .lt 11, 3) := by decide +kernel
theorem dX2_forge_4 : decode cX2_forge 4 = .ok (.iload_n 1, 1) := by decide +kernel
theorem dX2_forge_5 : decode cX2_forge 5 = .ok (.aload_n 0, 1) := by decide +kernel
theorem dX2_forge_6 : decode cX2_forge 6 = .ok (.getfield 67, 3) := by decide +kernel
theorem dX2_forge_9 : decode cX2_forge 9 = .ok (.if_icmp .lt 5, 3) := by decide +kernel
theorem dX2_forge_12 : decode cX2_forge 12 = .ok (.iconst 0, 1) := by decide +kernel
theorem dX2_forge_13 : decode cX2_forge 13 = .ok (.ireturn, 1) := by decide +kernel
theorem dX2_forge_14 : decode cX2_forge 14 = .ok (.aload_n 0, 1) := by decide +kernel
theorem dX2_forge_15 : decode cX2_forge 15 = .ok (.getfield 33, 3) := by decide +kernel
theorem dX2_forge_18 : decode cX2_forge 18 = .ok (.iload_n 1, 1) := by decide +kernel
theorem dX2_forge_19 : decode cX2_forge 19 = .ok (.iaload, 1) := by decide +kernel
theorem dX2_forge_20 : decode cX2_forge 20 = .ok (.istore_n 3, 1) := by decide +kernel
theorem dX2_forge_21 : decode cX2_forge 21 = .ok (.aload_n 0, 1) := by decide +kernel
theorem dX2_forge_22 : decode cX2_forge 22 = .ok (.getfield 33, 3) := by decide +kernel
theorem dX2_forge_25 : decode cX2_forge 25 = .ok (.iload_n 1, 1) := by decide +kernel
theorem dX2_forge_26 : decode cX2_forge 26 = .ok (.iload_n 2, 1) := by decide +kernel
theorem dX2_forge_27 : decode cX2_forge 27 = .ok (.iastore, 1) := by decide +kernel
theorem dX2_forge_28 : decode cX2_forge 28 = .ok (.iload_n 3, 1) := by decide +kernel
theorem dX2_forge_29 : decode cX2_forge 29 = .ok (.ireturn, 1) := by decide +kernel
set_option maxRecDepth 20000 in
theorem ggX2_check_X2_hasEntry : GoodIn wsX2_check wsX2_hasEntry := goodIn_r _ [5, 6, 72, 73, 74, 75, 76, 77, 78, 79, 80, 81, 82, 83, 84, 85] (by decide +kernel) (by decide +kernel)
set_option maxRecDepth 20000 in
theorem gX2_check_X2_hasEntry : GoodIn wsX2_check (wsV RX2 107 RX2 yX2_hasEntry wsX2_hasEntry) := goodIn_app (goodIn_of _ (by decide +kernel)) ggX2_check_X2_hasEntry
set_option maxRecDepth 20000 in
theorem ggX2_check_X2_proofHolds : GoodIn wsX2_check wsX2_proofHolds := goodIn_r _ [10, 11, 12, 6, 13, 14, 15, 16, 17, 4, 18, 19, 20, 21, 22, 23, 24, 25, 26, 27, 28, 29, 30, 31, 32, 33, 34, 35, 36, 37, 38, 39, 40, 41, 42, 43, 44, 45, 46, 47, 48, 49, 50, 51, 52, 53, 54, 55, 56, 57, 58, 59, 60, 61, 62, 63, 64, 65, 66, 67, 68, 69, 70, 71, 72, 73, 74, 75, 76, 77, 78, 79, 80, 81, 82, 83, 84, 85, 86, 87, 88] (by decide +kernel) (by decide +kernel)
set_option maxRecDepth 20000 in
theorem gX2_check_X2_proofHolds : GoodIn wsX2_check (wsV RX2 170 RX2 yX2_proofHolds wsX2_proofHolds) := goodIn_app (goodIn_of _ (by decide +kernel)) ggX2_check_X2_proofHolds
theorem dX2_check_0 : decode cX2_check 0 = .ok (.aload_n 0, 1) := by decide +kernel
theorem dX2_check_1 : decode cX2_check 1 = .ok (.iload_n 1, 1) := by decide +kernel
theorem dX2_check_2 : decode cX2_check 2 = .ok (.invokevirtual 107, 3) := by decide +kernel
theorem dX2_check_5 : decode cX2_check 5 = .ok (.ifCond .ne 6, 3) := by decide +kernel
theorem dX2_check_8 : decode cX2_check 8 = .ok (.bipush (-2), 2) := by decide +kernel
theorem dX2_check_10 : decode cX2_check 10 = .ok (.ireturn, 1) := by decide +kernel
theorem dX2_check_11 : decode cX2_check 11 = .ok (.aload_n 0, 1) := by decide +kernel
theorem dX2_check_12 : decode cX2_check 12 = .ok (.iload_n 1, 1) := by decide +kernel
theorem dX2_check_13 : decode cX2_check 13 = .ok (.invokevirtual 170, 3) := by decide +kernel
theorem dX2_check_16 : decode cX2_check 16 = .ok (.ifCond .eq 7, 3) := by decide +kernel
theorem dX2_check_19 : decode cX2_check 19 = .ok (.iconst 1, 1) := by decide +kernel
theorem dX2_check_20 : decode cX2_check 20 = .ok (.goto 4, 3) := by decide +kernel
theorem dX2_check_23 : decode cX2_check 23 = .ok (.iconst 0, 1) := by decide +kernel
theorem dX2_check_24 : decode cX2_check 24 = .ok (.ireturn, 1) := by decide +kernel
set_option maxRecDepth 20000 in
theorem ggX2_proofHolds_X2_levelsTo : GoodIn wsX2_proofHolds wsX2_levelsTo := goodIn_r _ [10, 3, 11, 12, 9, 13, 14, 15, 16, 17, 18, 19, 64, 65, 66, 67, 68, 69, 70, 71, 72, 73, 74, 75, 76, 77] (by decide +kernel) (by decide +kernel)
set_option maxRecDepth 20000 in
theorem gX2_proofHolds_X2_levelsTo : GoodIn wsX2_proofHolds (wsV RX2 164 RX2 yX2_levelsTo wsX2_levelsTo) := goodIn_app (goodIn_of _ (by decide +kernel)) ggX2_proofHolds_X2_levelsTo
set_option maxRecDepth 20000 in
theorem ggX2_proofHolds_X1_takeAll : GoodIn wsX2_proofHolds wsX1_takeAll := goodIn_r _ [24, 25, 26, 27, 23, 28, 29, 30, 31, 32, 33, 34, 35, 36, 37, 38, 39, 40, 41, 42, 43, 44, 45, 9, 46, 47, 48, 49, 50, 51, 52, 53, 54, 55, 56, 57, 58, 59, 78, 79, 80] (by decide +kernel) (by decide +kernel)
set_option maxRecDepth 20000 in
theorem gX2_proofHolds_X1_takeAll : GoodIn wsX2_proofHolds (wsV RX2 157 RX1 yX1_takeAll wsX1_takeAll) := goodIn_app (goodIn_of _ (by decide +kernel)) ggX2_proofHolds_X1_takeAll
set_option maxRecDepth 20000 in
theorem ggX2_proofHolds_X1_isAt : GoodIn wsX2_proofHolds wsX1_isAt := goodIn_r _ [63, 51, 78, 79, 80] (by decide +kernel) (by decide +kernel)
set_option maxRecDepth 20000 in
theorem gX2_proofHolds_X1_isAt : GoodIn wsX2_proofHolds (wsV RX2 160 RX1 yX1_isAt wsX1_isAt) := goodIn_app (goodIn_of _ (by decide +kernel)) ggX2_proofHolds_X1_isAt
set_option maxRecDepth 20000 in
theorem ggX2_proofHolds_X2_goesBySkip : GoodIn wsX2_proofHolds wsX2_goesBySkip := goodIn_r _ [16, 17, 18, 9, 19] (by decide +kernel) (by decide +kernel)
set_option maxRecDepth 20000 in
theorem gX2_proofHolds_X2_goesBySkip : GoodIn wsX2_proofHolds (va_wsS RX2 173 yX2_goesBySkip wsX2_goesBySkip) := goodIn_app (goodIn_of _ (by decide +kernel)) ggX2_proofHolds_X2_goesBySkip
set_option maxRecDepth 20000 in
theorem ggX2_proofHolds_X2_nextOnWay : GoodIn wsX2_proofHolds wsX2_nextOnWay := goodIn_r _ [13, 14, 15, 9, 16, 17, 18, 19] (by decide +kernel) (by decide +kernel)
set_option maxRecDepth 20000 in
theorem gX2_proofHolds_X2_nextOnWay : GoodIn wsX2_proofHolds (va_wsS RX2 167 yX2_nextOnWay wsX2_nextOnWay) := goodIn_app (goodIn_of _ (by decide +kernel)) ggX2_proofHolds_X2_nextOnWay
theorem dX2_proofHolds_0 : decode cX2_proofHolds 0 = .ok (.aload_n 0, 1) := by decide +kernel
theorem dX2_proofHolds_1 : decode cX2_proofHolds 1 = .ok (.iload_n 1, 1) := by decide +kernel
theorem dX2_proofHolds_2 : decode cX2_proofHolds 2 = .ok (.invokevirtual 164, 3) := by decide +kernel
theorem dX2_proofHolds_5 : decode cX2_proofHolds 5 = .ok (.istore_n 2, 1) := by decide +kernel
theorem dX2_proofHolds_6 : decode cX2_proofHolds 6 = .ok (.aload_n 0, 1) := by decide +kernel
theorem dX2_proofHolds_7 : decode cX2_proofHolds 7 = .ok (.getfield 67, 3) := by decide +kernel
theorem dX2_proofHolds_10 : decode cX2_proofHolds 10 = .ok (.iload_n 2, 1) := by decide +kernel
theorem dX2_proofHolds_11 : decode cX2_proofHolds 11 = .ok (.bipush 26, 2) := by decide +kernel
theorem dX2_proofHolds_13 : decode cX2_proofHolds 13 = .ok (.imul, 1) := by decide +kernel
theorem dX2_proofHolds_14 : decode cX2_proofHolds 14 = .ok (.if_icmp .eq 5, 3) := by decide +kernel
theorem dX2_proofHolds_17 : decode cX2_proofHolds 17 = .ok (.iconst 0, 1) := by decide +kernel
theorem dX2_proofHolds_18 : decode cX2_proofHolds 18 = .ok (.ireturn, 1) := by decide +kernel
theorem dX2_proofHolds_19 : decode cX2_proofHolds 19 = .ok (.aload_n 0, 1) := by decide +kernel
theorem dX2_proofHolds_20 : decode cX2_proofHolds 20 = .ok (.getfield 27, 3) := by decide +kernel
theorem dX2_proofHolds_23 : decode cX2_proofHolds 23 = .ok (.astore_n 3, 1) := by decide +kernel
theorem dX2_proofHolds_24 : decode cX2_proofHolds 24 = .ok (.iconst 0, 1) := by decide +kernel
theorem dX2_proofHolds_25 : decode cX2_proofHolds 25 = .ok (.istore 4, 2) := by decide +kernel
theorem dX2_proofHolds_27 : decode cX2_proofHolds 27 = .ok (.aload_n 0, 1) := by decide +kernel
theorem dX2_proofHolds_28 : decode cX2_proofHolds 28 = .ok (.getfield 36, 3) := by decide +kernel
theorem dX2_proofHolds_31 : decode cX2_proofHolds 31 = .ok (.iconst 1, 1) := by decide +kernel
theorem dX2_proofHolds_32 : decode cX2_proofHolds 32 = .ok (.isub, 1) := by decide +kernel
theorem dX2_proofHolds_33 : decode cX2_proofHolds 33 = .ok (.istore 5, 2) := by decide +kernel
theorem dX2_proofHolds_35 : decode cX2_proofHolds 35 = .ok (.iconst 0, 1) := by decide +kernel
theorem dX2_proofHolds_36 : decode cX2_proofHolds 36 = .ok (.istore 6, 2) := by decide +kernel
theorem dX2_proofHolds_38 : decode cX2_proofHolds 38 = .ok (.iload 6, 2) := by decide +kernel
theorem dX2_proofHolds_40 : decode cX2_proofHolds 40 = .ok (.iload_n 2, 1) := by decide +kernel
theorem dX2_proofHolds_41 : decode cX2_proofHolds 41 = .ok (.if_icmp .ge 76, 3) := by decide +kernel
theorem dX2_proofHolds_44 : decode cX2_proofHolds 44 = .ok (.aload_n 0, 1) := by decide +kernel
theorem dX2_proofHolds_45 : decode cX2_proofHolds 45 = .ok (.getfield 10, 3) := by decide +kernel
theorem dX2_proofHolds_48 : decode cX2_proofHolds 48 = .ok (.aload_n 0, 1) := by decide +kernel
theorem dX2_proofHolds_49 : decode cX2_proofHolds 49 = .ok (.getfield 33, 3) := by decide +kernel
theorem dX2_proofHolds_52 : decode cX2_proofHolds 52 = .ok (.iload 6, 2) := by decide +kernel
theorem dX2_proofHolds_54 : decode cX2_proofHolds 54 = .ok (.bipush 26, 2) := by decide +kernel
theorem dX2_proofHolds_56 : decode cX2_proofHolds 56 = .ok (.imul, 1) := by decide +kernel
theorem dX2_proofHolds_57 : decode cX2_proofHolds 57 = .ok (.invokevirtual 157, 3) := by decide +kernel
theorem dX2_proofHolds_60 : decode cX2_proofHolds 60 = .ok (.aload_n 0, 1) := by decide +kernel
theorem dX2_proofHolds_61 : decode cX2_proofHolds 61 = .ok (.getfield 10, 3) := by decide +kernel
theorem dX2_proofHolds_64 : decode cX2_proofHolds 64 = .ok (.aload_n 3, 1) := by decide +kernel
theorem dX2_proofHolds_65 : decode cX2_proofHolds 65 = .ok (.iload 4, 2) := by decide +kernel
theorem dX2_proofHolds_67 : decode cX2_proofHolds 67 = .ok (.invokevirtual 160, 3) := by decide +kernel
theorem dX2_proofHolds_70 : decode cX2_proofHolds 70 = .ok (.ifCond .ne 5, 3) := by decide +kernel
theorem dX2_proofHolds_73 : decode cX2_proofHolds 73 = .ok (.iconst 0, 1) := by decide +kernel
theorem dX2_proofHolds_74 : decode cX2_proofHolds 74 = .ok (.ireturn, 1) := by decide +kernel
theorem dX2_proofHolds_75 : decode cX2_proofHolds 75 = .ok (.aload_n 0, 1) := by decide +kernel
theorem dX2_proofHolds_76 : decode cX2_proofHolds 76 = .ok (.getfield 33, 3) := by decide +kernel
theorem dX2_proofHolds_79 : decode cX2_proofHolds 79 = .ok (.astore_n 3, 1) := by decide +kernel
theorem dX2_proofHolds_80 : decode cX2_proofHolds 80 = .ok (.iload 6, 2) := by decide +kernel
theorem dX2_proofHolds_82 : decode cX2_proofHolds 82 = .ok (.bipush 26, 2) := by decide +kernel
theorem dX2_proofHolds_84 : decode cX2_proofHolds 84 = .ok (.imul, 1) := by decide +kernel
theorem dX2_proofHolds_85 : decode cX2_proofHolds 85 = .ok (.iload 5, 2) := by decide +kernel
theorem dX2_proofHolds_87 : decode cX2_proofHolds 87 = .ok (.iload_n 1, 1) := by decide +kernel
theorem dX2_proofHolds_88 : decode cX2_proofHolds 88 = .ok (.invokestatic 173, 3) := by decide +kernel
theorem dX2_proofHolds_91 : decode cX2_proofHolds 91 = .ok (.ifCond .eq 8, 3) := by decide +kernel
theorem dX2_proofHolds_94 : decode cX2_proofHolds 94 = .ok (.bipush 8, 2) := by decide +kernel
theorem dX2_proofHolds_96 : decode cX2_proofHolds 96 = .ok (.goto 4, 3) := by decide +kernel
theorem dX2_proofHolds_99 : decode cX2_proofHolds 99 = .ok (.iconst 0, 1) := by decide +kernel
theorem dX2_proofHolds_100 : decode cX2_proofHolds 100 = .ok (.iadd, 1) := by decide +kernel
theorem dX2_proofHolds_101 : decode cX2_proofHolds 101 = .ok (.istore 4, 2) := by decide +kernel
theorem dX2_proofHolds_103 : decode cX2_proofHolds 103 = .ok (.iload 5, 2) := by decide +kernel
theorem dX2_proofHolds_105 : decode cX2_proofHolds 105 = .ok (.iload_n 1, 1) := by decide +kernel
theorem dX2_proofHolds_106 : decode cX2_proofHolds 106 = .ok (.invokestatic 167, 3) := by decide +kernel
theorem dX2_proofHolds_109 : decode cX2_proofHolds 109 = .ok (.istore 5, 2) := by decide +kernel
theorem dX2_proofHolds_111 : decode cX2_proofHolds 111 = .ok (.iinc 6 1, 3) := by decide +kernel
theorem dX2_proofHolds_114 : decode cX2_proofHolds 114 = .ok (.goto (-76), 3) := by decide +kernel
theorem dX2_proofHolds_117 : decode cX2_proofHolds 117 = .ok (.iconst 1, 1) := by decide +kernel
theorem dX2_proofHolds_118 : decode cX2_proofHolds 118 = .ok (.ireturn, 1) := by decide +kernel
set_option maxRecDepth 20000 in
theorem ggX2_levelsTo_X2_nextOnWay : GoodIn wsX2_levelsTo wsX2_nextOnWay := goodIn_r _ [5, 6, 7, 4, 8, 9, 10, 11] (by decide +kernel) (by decide +kernel)
set_option maxRecDepth 20000 in
theorem gX2_levelsTo_X2_nextOnWay : GoodIn wsX2_levelsTo (va_wsS RX2 167 yX2_nextOnWay wsX2_nextOnWay) := goodIn_app (goodIn_of _ (by decide +kernel)) ggX2_levelsTo_X2_nextOnWay
theorem dX2_levelsTo_0 : decode cX2_levelsTo 0 = .ok (.iconst 1, 1) := by decide +kernel
theorem dX2_levelsTo_1 : decode cX2_levelsTo 1 = .ok (.istore_n 2, 1) := by decide +kernel
theorem dX2_levelsTo_2 : decode cX2_levelsTo 2 = .ok (.aload_n 0, 1) := by decide +kernel
theorem dX2_levelsTo_3 : decode cX2_levelsTo 3 = .ok (.getfield 36, 3) := by decide +kernel
theorem dX2_levelsTo_6 : decode cX2_levelsTo 6 = .ok (.iconst 1, 1) := by decide +kernel
theorem dX2_levelsTo_7 : decode cX2_levelsTo 7 = .ok (.isub, 1) := by decide +kernel
theorem dX2_levelsTo_8 : decode cX2_levelsTo 8 = .ok (.istore_n 3, 1) := by decide +kernel
theorem dX2_levelsTo_9 : decode cX2_levelsTo 9 = .ok (.iload_n 3, 1) := by decide +kernel
theorem dX2_levelsTo_10 : decode cX2_levelsTo 10 = .ok (.iload_n 1, 1) := by decide +kernel
theorem dX2_levelsTo_11 : decode cX2_levelsTo 11 = .ok (.if_icmp .le 21, 3) := by decide +kernel
theorem dX2_levelsTo_14 : decode cX2_levelsTo 14 = .ok (.iload_n 2, 1) := by decide +kernel
theorem dX2_levelsTo_15 : decode cX2_levelsTo 15 = .ok (.bipush 60, 2) := by decide +kernel
theorem dX2_levelsTo_17 : decode cX2_levelsTo 17 = .ok (.if_icmp .ge 15, 3) := by decide +kernel
theorem dX2_levelsTo_20 : decode cX2_levelsTo 20 = .ok (.iload_n 3, 1) := by decide +kernel
theorem dX2_levelsTo_21 : decode cX2_levelsTo 21 = .ok (.iload_n 1, 1) := by decide +kernel
theorem dX2_levelsTo_22 : decode cX2_levelsTo 22 = .ok (.invokestatic 167, 3) := by decide +kernel
theorem dX2_levelsTo_25 : decode cX2_levelsTo 25 = .ok (.istore_n 3, 1) := by decide +kernel
theorem dX2_levelsTo_26 : decode cX2_levelsTo 26 = .ok (.iinc 2 1, 3) := by decide +kernel
theorem dX2_levelsTo_29 : decode cX2_levelsTo 29 = .ok (.goto (-20), 3) := by decide +kernel
theorem dX2_levelsTo_32 : decode cX2_levelsTo 32 = .ok (.iload_n 2, 1) := by decide +kernel
theorem dX2_levelsTo_33 : decode cX2_levelsTo 33 = .ok (.ireturn, 1) := by decide +kernel
set_option maxRecDepth 20000 in
theorem ggX2_nextOnWay_X2_goesBySkip : GoodIn wsX2_nextOnWay wsX2_goesBySkip := goodIn_r _ [4, 5, 6, 3, 7] (by decide +kernel) (by decide +kernel)
set_option maxRecDepth 20000 in
theorem gX2_nextOnWay_X2_goesBySkip : GoodIn wsX2_nextOnWay (va_wsS RX2 173 yX2_goesBySkip wsX2_goesBySkip) := goodIn_app (goodIn_of _ (by decide +kernel)) ggX2_nextOnWay_X2_goesBySkip
set_option maxRecDepth 20000 in
theorem ggX2_nextOnWay_X2_skipOf : GoodIn wsX2_nextOnWay wsX2_skipOf := goodIn_r _ [7] (by decide +kernel) (by decide +kernel)
set_option maxRecDepth 20000 in
theorem gX2_nextOnWay_X2_skipOf : GoodIn wsX2_nextOnWay (va_wsS RX2 103 yX2_skipOf wsX2_skipOf) := goodIn_app (goodIn_of _ (by decide +kernel)) ggX2_nextOnWay_X2_skipOf
theorem dX2_nextOnWay_0 : decode cX2_nextOnWay 0 = .ok (.iload_n 0, 1) := by decide +kernel
theorem dX2_nextOnWay_1 : decode cX2_nextOnWay 1 = .ok (.iload_n 1, 1) := by decide +kernel
theorem dX2_nextOnWay_2 : decode cX2_nextOnWay 2 = .ok (.if_icmp .gt 5, 3) := by decide +kernel
theorem dX2_nextOnWay_5 : decode cX2_nextOnWay 5 = .ok (.iload_n 1, 1) := by decide +kernel
theorem dX2_nextOnWay_6 : decode cX2_nextOnWay 6 = .ok (.ireturn, 1) := by decide +kernel
theorem dX2_nextOnWay_7 : decode cX2_nextOnWay 7 = .ok (.iload_n 0, 1) := by decide +kernel
theorem dX2_nextOnWay_8 : decode cX2_nextOnWay 8 = .ok (.iload_n 1, 1) := by decide +kernel
theorem dX2_nextOnWay_9 : decode cX2_nextOnWay 9 = .ok (.invokestatic 173, 3) := by decide +kernel
theorem dX2_nextOnWay_12 : decode cX2_nextOnWay 12 = .ok (.ifCond .eq 10, 3) := by decide +kernel
theorem dX2_nextOnWay_15 : decode cX2_nextOnWay 15 = .ok (.iload_n 0, 1) := by decide +kernel
theorem dX2_nextOnWay_16 : decode cX2_nextOnWay 16 = .ok (.invokestatic 103, 3) := by decide +kernel
theorem dX2_nextOnWay_19 : decode cX2_nextOnWay 19 = .ok (.goto 6, 3) := by decide +kernel
theorem dX2_nextOnWay_22 : decode cX2_nextOnWay 22 = .ok (.iload_n 0, 1) := by decide +kernel
theorem dX2_nextOnWay_23 : decode cX2_nextOnWay 23 = .ok (.iconst 1, 1) := by decide +kernel
theorem dX2_nextOnWay_24 : decode cX2_nextOnWay 24 = .ok (.isub, 1) := by decide +kernel
theorem dX2_nextOnWay_25 : decode cX2_nextOnWay 25 = .ok (.ireturn, 1) := by decide +kernel
set_option maxRecDepth 20000 in
theorem ggX2_goesBySkip_X2_skipOf : GoodIn wsX2_goesBySkip wsX2_skipOf := goodIn_r _ [4] (by decide +kernel) (by decide +kernel)
set_option maxRecDepth 20000 in
theorem gX2_goesBySkip_X2_skipOf : GoodIn wsX2_goesBySkip (va_wsS RX2 103 yX2_skipOf wsX2_skipOf) := goodIn_app (goodIn_of _ (by decide +kernel)) ggX2_goesBySkip_X2_skipOf
theorem dX2_goesBySkip_0 : decode cX2_goesBySkip 0 = .ok (.iload_n 0, 1) := by decide +kernel
theorem dX2_goesBySkip_1 : decode cX2_goesBySkip 1 = .ok (.invokestatic 103, 3) := by decide +kernel
theorem dX2_goesBySkip_4 : decode cX2_goesBySkip 4 = .ok (.iload_n 1, 1) := by decide +kernel
theorem dX2_goesBySkip_5 : decode cX2_goesBySkip 5 = .ok (.if_icmp .lt 7, 3) := by decide +kernel
theorem dX2_goesBySkip_8 : decode cX2_goesBySkip 8 = .ok (.iconst 1, 1) := by decide +kernel
theorem dX2_goesBySkip_9 : decode cX2_goesBySkip 9 = .ok (.goto 4, 3) := by decide +kernel
theorem dX2_goesBySkip_12 : decode cX2_goesBySkip 12 = .ok (.iconst 0, 1) := by decide +kernel
theorem dX2_goesBySkip_13 : decode cX2_goesBySkip 13 = .ok (.ireturn, 1) := by decide +kernel
end
section
/-- the class's object and all that it holds -/
abbrev wC (G : gG) (a : Nat → Nat) (fm fh fw fb fc fd fr fp : Nat → Int32) (n k z t : Nat) (kn : Int32) (pl lf pn : Nat) : va_W :=
  [(a 0, .inr (2, [.ref (a 1), .ref (a 5), .ref (a 7), .ref (a 8), .ref (a 9), .ref (a 10), .int (nI n), .int (nI k), .int (nI z), .int (nI t), .int kn, .int (nI pl), .int (nI lf), .int (nI pn)])),
   (a 1, .inr (1, [.ref (a 2), .ref (a 3), .ref (a 4)])), (a 2, .inl (G.2.2.1, 8, .inl fm)), (a 3, .inl (G.2.2.1, 8, .inl fh)), (a 4, .inl (G.2.2.1, 64, .inl fw)),
   (a 5, .inr (0, [.ref (a 6)])), (a 6, .inl (G.2.2.1, 32, .inl fb)), (a 7, .inl (G.2.2.1, 2040, .inl fc)), (a 8, .inl (G.2.2.1, 8, .inl fd)), (a 9, .inl (G.2.2.1, 34, .inl fr)), (a 10, .inl (G.2.2.1, 1560, .inl fp))]
def p_ok (e : Int32) (n : Nat) : Bool := decide (0 ≤ e.toInt ∧ e.toInt < (n : Int))
theorem ok_T {e : Int32} {n : Nat} (h1 : 0 ≤ e.toInt) (h2 : e.toInt < (n : Int)) : p_ok e n = true := decide_eq_true ⟨h1, h2⟩
theorem ok_F {e : Int32} {n : Nat} (h : e.toInt < 0 ∨ (n : Int) ≤ e.toInt) : p_ok e n = false := decide_eq_false (fun q => by omega)
theorem ok_of {e : Int32} {n : Nat} (hn : n ≤ 65536) (h : p_ok e n = true) : ∃ j : Nat, j < n ∧ e = nI j := by
  have q := of_decide_eq_true h
  obtain ⟨j, hj, rfl⟩ := of_nn q.1
  rw [tI_N hj] at q
  exact ⟨j, by omega, rfl⟩
theorem ok_N {j n : Nat} (hj : j < 2147483648) : p_ok (nI j) n = decide (j < n) := by
  have e := tI_N hj
  by_cases h : j < n
  · rw [decide_eq_true h]; exact ok_T (by rw [e]; omega) (by rw [e]; omega)
  · rw [decide_eq_false h]; exact ok_F (by rw [e]; omega)
theorem ok_m1 (n : Nat) : p_ok (-1) n = false := ok_F (Or.inl (by decide))
/-- the number less its lowest bit -/
def p_sk (e : Nat) : Nat := e &&& (e - 1)
theorem sk_eq : ∀ e, e < 64 → nI e - (nI e &&& (-nI e)) = nI (p_sk e) := by decide +kernel
theorem sk_lt : ∀ e, e < 64 → 0 < e → p_sk e < e := by decide +kernel
def p_skI (e : Nat) : Int32 := if e = 0 then (-1) else nI (p_sk e)
def p_by (x e : Nat) : Bool := decide (0 < x ∧ e ≤ p_sk x)
def p_nx (x e : Nat) : Nat := if x ≤ e then e else if e ≤ p_sk x then p_sk x else x - 1
theorem nx_lt {x e : Nat} (hx : x < 64) (h : e < x) : p_nx x e < x ∧ e ≤ p_nx x e := by
  have := sk_lt x hx (by omega)
  simp only [p_nx]
  rw [if_neg (by omega)]
  by_cases q : e ≤ p_sk x
  · rw [if_pos q]; omega
  · rw [if_neg q]; omega
def p_way (x e : Nat) : Nat → Nat
  | 0 => x
  | k + 1 => p_nx (p_way x e k) e
def p_end (x e K : Nat) : Prop := (∀ j, j < K → e < p_way x e j) ∧ p_way x e K = e
theorem way_le {x e : Nat} (hx : x < 64) : ∀ k, (∀ j, j < k → e < p_way x e j) → p_way x e k + k ≤ x
  | 0, _ => Nat.le_refl _
  | k + 1, h => by
    have ih := way_le hx k (fun j hj => h j (by omega))
    have := nx_lt (x := p_way x e k) (e := e) (by omega) (h k (by omega))
    show p_nx (p_way x e k) e + (k + 1) ≤ x
    omega
theorem way_ge {x e : Nat} (hx : x < 64) (he : e ≤ x) : ∀ k, (∀ j, j < k → e < p_way x e j) → e ≤ p_way x e k
  | 0, _ => he
  | k + 1, h => by
    have ih := way_le hx k (fun j hj => h j (by omega))
    exact (nx_lt (x := p_way x e k) (e := e) (by omega) (h k (by omega))).2
theorem end_1 {x e K J : Nat} (h : p_end x e K) (g : p_end x e J) : K = J := by
  rcases Nat.lt_trichotomy K J with q | q | q
  · have := g.1 K q; rw [h.2] at this; omega
  · exact q
  · have := h.1 J q; rw [g.2] at this; omega
set_option maxHeartbeats 4000000 in
set_option maxRecDepth 100000 in
theorem c_forgetNonces (l : Launch) (G : gG) (sz : Nat) (a : Nat → Nat) (fm fh fw fb fc fd fr fp : Nat → Int32) (n k z t : Nat) (kn : Int32) (pl lf pn : Nat)  (hn : n ≤ 60) (hk : k ≤ 8) (hz : z ≤ 20) (ht : t ≤ 100000) (hpl : pl ≤ 60) (hlf : lf ≤ 6) (hpn : pn ≤ 1560)  : MetV l yX2_forgetNonces wsX2_forgetNonces ({ frames := 0, cells := 0, slots := 0, locals := 0 } : Room) [.ref (a 0)] G (wC G a fm fh fw fb fc fd fr fp n k z t kn pl lf pn) sz (fun _ : Unit => wC G a fm fh fw fb fc fd fr fp n k z 0 (-1) pl lf pn) (fun _ => True) := by
  refine ent_v _ cX2_forgetNonces 1 RX2 (by decide) rfl rfl (Nat.le_of_ble_eq_true rfl) ?_
  intro p e s m args below meth c A Q ls hx hb hml hts hown hA hK hX ret hl hP hD hS
  have hl : lv_has ls 1 [(0, .ref (a 0))] := hl
  have lk55 := hts (.fieldLink RX2 55 "MinedLedger" "triedCount" "I") (by decide +kernel)
  have lk58 := hts (.fieldLink RX2 58 "MinedLedger" "keptNonce" "I") (by decide +kernel)
  have hiX2 : ∀ w ∈ wsX20, w ∈ wsX2_forgetNonces := by decide +kernel
  refine lv_aload_n hx hb dX2_forgetNonces_0 rfl (lv_at hl 0 rfl) ?_
  refine lv_iconst (v := nI 0) hx hb dX2_forgetNonces_1 (by decide) ?_
  refine va_put (D := G.1) (ci := 2) (v := .int (nI 0)) (ty := .int) (C := RX2) (T := TX2) (N := 14) hx hb hts hiX2 tyX2 tyX2_ok nmX2 hown hK hP hD hS 0 rfl rfl 9 (by decide) lk55 (fun _ h9 => h9) rfl (by decide +kernel) rfl rfl (Nat.le_of_ble_eq_true rfl) dX2_forgetNonces_2 (fun H locs hP hD hS => ?_)
  have hP : va_P G.1 vwCl (wC G a fm fh fw fb fc fd fr fp n k z 0 kn pl lf pn) H := hP
  have hD : va_D A (wC G a fm fh fw fb fc fd fr fp n k z 0 kn pl lf pn) := hD
  refine lv_aload_n hx hb dX2_forgetNonces_5 rfl (lv_at hl 0 rfl) ?_
  refine lv_iconst (v := (-1)) hx hb dX2_forgetNonces_6 (by decide) ?_
  refine va_put (D := G.1) (ci := 2) (v := .int (-1)) (ty := .int) (C := RX2) (T := TX2) (N := 14) hx hb hts hiX2 tyX2 tyX2_ok nmX2 hown hK hP hD hS 0 rfl rfl 10 (by decide) lk58 (fun _ h9 => h9) rfl (by decide +kernel) rfl rfl (Nat.le_of_ble_eq_true rfl) dX2_forgetNonces_7 (fun H locs hP hD hS => ?_)
  have hP : va_P G.1 vwCl (wC G a fm fh fw fb fc fd fr fp n k z 0 (-1) pl lf pn) H := hP
  have hD : va_D A (wC G a fm fh fw fb fc fd fr fp n k z 0 (-1) pl lf pn) := hD
  exact ret 10 _ _ _ () dX2_forgetNonces_10 (trivial) hP hD hS
set_option maxHeartbeats 4000000 in
set_option maxRecDepth 100000 in
theorem c_clearWordsFrom (l : Launch) (G : gG) (sz : Nat) (a : Nat → Nat) (fm fh fw fb fc fd fr fp : Nat → Int32) (n k z t : Nat) (kn : Int32) (pl lf pn : Nat) (i : Nat) (hn : n ≤ 60) (hk : k ≤ 8) (hz : z ≤ 20) (ht : t ≤ 100000) (hpl : pl ≤ 60) (hlf : lf ≤ 6) (hpn : pn ≤ 1560) (hi : i ≤ 8) : MetV l yX2_clearWordsFrom wsX2_clearWordsFrom ({ frames := 2, cells := 0, slots := 0, locals := 46 } : Room) [.ref (a 0), .int (nI i)] G (wC G a fm fh fw fb fc fd fr fp n k z t kn pl lf pn) sz (fun _ : Unit => wC G a fm fh fw fb fc fd (p_fill fr (16 + i) 24 (nI 0)) fp n i z t kn pl lf pn) (fun _ => True) := by
  refine ent_v _ cX2_clearWordsFrom 2 RX2 (by decide) rfl rfl (Nat.le_of_ble_eq_true rfl) ?_
  intro p e s m args below meth c A Q ls hx hb hml hts hown hA hK hX ret hl hP hD hS
  have hl : lv_has ls 2 [(0, .ref (a 0)), (1, .int (nI i))] := hl
  have lk30 := hts (.fieldLink RX2 30 "MinedLedger" "draft" "[I") (by decide +kernel)
  have lk40 := hts (.fieldLink RX2 40 "MinedLedger" "wordCount" "I") (by decide +kernel)
  have hiX2 : ∀ w ∈ wsX20, w ∈ wsX2_clearWordsFrom := by decide +kernel
  refine lv_aload_n hx hb dX2_clearWordsFrom_0 rfl (lv_at hl 0 rfl) ?_
  refine va_get (D := G.1) (ci := 2) (v := .ref (a 9)) (C := RX2) (T := TX2) (N := 14) hx hb hts hiX2 hown hK hP 0 rfl rfl 4 (by decide) lk30 (fun _ h9 => h9) rfl dX2_clearWordsFrom_1 ?_
  refine lv_bipush (v := nI 16) hx hb dX2_clearWordsFrom_4 (by decide) ?_
  refine lv_iload_n hx hb dX2_clearWordsFrom_6 rfl (lv_at hl 1 rfl) ?_
  refine ad_N hx hb 16 i dX2_clearWordsFrom_7 ?_
  refine lv_bipush (v := nI 24) hx hb dX2_clearWordsFrom_8 (by decide) ?_
  refine lv_iconst (v := nI 0) hx hb dX2_clearWordsFrom_10 (by decide) ?_
  refine call_Sv (wr := ([(a 0, .inr (2, [.ref (a 1), .ref (a 5), .ref (a 7), .ref (a 8), .ref (a 9), .ref (a 10), .int (nI n), .int (nI k), .int (nI z), .int (nI t), .int kn, .int (nI pl), .int (nI lf), .int (nI pn)])), (a 1, .inr (1, [.ref (a 2), .ref (a 3), .ref (a 4)])), (a 2, .inl (G.2.2.1, 8, .inl fm)), (a 3, .inl (G.2.2.1, 8, .inl fh)), (a 4, .inl (G.2.2.1, 64, .inl fw)), (a 5, .inr (0, [.ref (a 6)])), (a 6, .inl (G.2.2.1, 32, .inl fb)), (a 7, .inl (G.2.2.1, 2040, .inl fc)), (a 8, .inl (G.2.2.1, 8, .inl fd)), (a 10, .inl (G.2.2.1, 1560, .inl fp))] : va_W)) [.ref (a 9), .int (nI (16 + i)), .int (nI 24), .int (nI 0)] [] ⟨hx, hb, hml, hown, hts⟩ hK hX hA hP hD hS (c_fill4 l G _ (a 9) 34 (16 + i) 24 fr (nI 0) (by omega) (by omega) (by omega)) (va_cwS 4 hts gX2_clearWordsFrom_J7_fill_fda19 rfl rfl rfl (by decide +kernel) ⟨Nat.le_of_ble_eq_true rfl, Nat.le_of_ble_eq_true rfl⟩) [9] [0, 1, 2, 3, 4, 5, 6, 7, 8, 10] rfl rfl (by decide) (by decide) (by decide) rfl hl.1 (Nat.le_of_ble_eq_true rfl) dX2_clearWordsFrom_11 ⟨Nat.zero_le _, Nat.zero_le _⟩ (fun u H locs hw hP hD hS => ?_)
  have hP : va_P G.1 vwCl (wC G a fm fh fw fb fc fd (p_fill fr (16 + i) 24 (nI 0)) fp n k z t kn pl lf pn) H := hP.sub [0, 1, 2, 3, 4, 5, 6, 7, 8, 10, 9] rfl
  have hD : va_D A (wC G a fm fh fw fb fc fd (p_fill fr (16 + i) 24 (nI 0)) fp n k z t kn pl lf pn) := hD.sub [0, 1, 2, 3, 4, 5, 6, 7, 8, 10, 9] (by decide) rfl
  refine lv_aload_n hx hb dX2_clearWordsFrom_14 rfl (lv_at hl 0 rfl) ?_
  refine lv_iload_n hx hb dX2_clearWordsFrom_15 rfl (lv_at hl 1 rfl) ?_
  refine va_put (D := G.1) (ci := 2) (v := .int (nI i)) (ty := .int) (C := RX2) (T := TX2) (N := 14) hx hb hts hiX2 tyX2 tyX2_ok nmX2 hown hK hP hD hS 0 rfl rfl 7 (by decide) lk40 (fun _ h9 => h9) rfl (by decide +kernel) rfl rfl (Nat.le_of_ble_eq_true rfl) dX2_clearWordsFrom_16 (fun H locs hP hD hS => ?_)
  have hP : va_P G.1 vwCl (wC G a fm fh fw fb fc fd (p_fill fr (16 + i) 24 (nI 0)) fp n i z t kn pl lf pn) H := hP
  have hD : va_D A (wC G a fm fh fw fb fc fd (p_fill fr (16 + i) 24 (nI 0)) fp n i z t kn pl lf pn) := hD
  exact ret 19 _ _ _ () dX2_clearWordsFrom_19 (trivial) hP hD hS
set_option maxHeartbeats 4000000 in
set_option maxRecDepth 100000 in
theorem c_hasEntry (l : Launch) (G : gG) (sz : Nat) (a : Nat → Nat) (fm fh fw fb fc fd fr fp : Nat → Int32) (n k z t : Nat) (kn : Int32) (pl lf pn : Nat) (x : Int32) (hn : n ≤ 60) (hk : k ≤ 8) (hz : z ≤ 20) (ht : t ≤ 100000) (hpl : pl ≤ 60) (hlf : lf ≤ 6) (hpn : pn ≤ 1560)  : MetI l yX2_hasEntry wsX2_hasEntry ({ frames := 0, cells := 0, slots := 0, locals := 0 } : Room) [.ref (a 0), .int x] G (wC G a fm fh fw fb fc fd fr fp n k z t kn pl lf pn) sz (fun _ : Unit => wC G a fm fh fw fb fc fd fr fp n k z t kn pl lf pn) (fun r _ => r = bI (p_ok x n)) := by
  refine ent_z _ cX2_hasEntry 2 RX2 (by decide) rfl rfl (Nat.le_of_ble_eq_true rfl) ?_
  intro p e s m args below meth c A Q ls hx hb hml hts hown hA hK hX ret hl hP hD hS
  have hl : lv_has ls 2 [(0, .ref (a 0)), (1, .int x)] := hl
  have lk36 := hts (.fieldLink RX2 36 "MinedLedger" "entryCount" "I") (by decide +kernel)
  have hiX2 : ∀ w ∈ wsX20, w ∈ wsX2_hasEntry := by decide +kernel
  refine lv_iload_n hx hb dX2_hasEntry_0 rfl (lv_at hl 1 rfl) ?_
  refine ifz_lt hx hb x 16 dX2_hasEntry_1 (by decide) (fun c1 => ?_) (fun c1 => ?_)
  · refine lv_iconst (v := nI 0) hx hb dX2_hasEntry_16 (by decide) ?_
    exact ret 17 _ _ _ (nI 0) () dX2_hasEntry_17 (by first | exact Or.inl rfl | exact Or.inr rfl) (by rw [ok_F (Or.inl c1)]; rfl) hP hD hS
  · refine lv_iload_n hx hb dX2_hasEntry_4 rfl (lv_at hl 1 rfl) ?_
    refine lv_aload_n hx hb dX2_hasEntry_5 rfl (lv_at hl 0 rfl) ?_
    refine va_get (D := G.1) (ci := 2) (v := .int (nI n)) (C := RX2) (T := TX2) (N := 14) hx hb hts hiX2 hown hK hP 0 rfl rfl 6 (by decide) lk36 (fun _ h9 => h9) rfl dX2_hasEntry_6 ?_
    refine cmz_gezn hx hb x n 16 (by omega) dX2_hasEntry_9 (by decide) (fun c9 => ?_) (fun c9 => ?_)
    · refine lv_iconst (v := nI 0) hx hb dX2_hasEntry_16 (by decide) ?_
      exact ret 17 _ _ _ (nI 0) () dX2_hasEntry_17 (by first | exact Or.inl rfl | exact Or.inr rfl) (by rw [ok_F (Or.inr c9)]; rfl) hP hD hS
    · refine lv_iconst (v := nI 1) hx hb dX2_hasEntry_12 (by decide) ?_
      refine lv_goto (tgt := 17) hx hb dX2_hasEntry_13 (by decide) ?_
      exact ret 17 _ _ _ (nI 1) () dX2_hasEntry_17 (by first | exact Or.inl rfl | exact Or.inr rfl) (by rw [ok_T c1 c9]; rfl) hP hD hS
set_option maxHeartbeats 4000000 in
set_option maxRecDepth 100000 in
theorem c_hasCell (l : Launch) (G : gG) (sz : Nat) (a : Nat → Nat) (fm fh fw fb fc fd fr fp : Nat → Int32) (n k z t : Nat) (kn : Int32) (pl lf pn : Nat) (x y : Int32) (hn : n ≤ 60) (hk : k ≤ 8) (hz : z ≤ 20) (ht : t ≤ 100000) (hpl : pl ≤ 60) (hlf : lf ≤ 6) (hpn : pn ≤ 1560)  : MetI l yX2_hasCell wsX2_hasCell ({ frames := 1, cells := 0, slots := 0, locals := 21 } : Room) [.ref (a 0), .int x, .int y] G (wC G a fm fh fw fb fc fd fr fp n k z t kn pl lf pn) sz (fun _ : Unit => wC G a fm fh fw fb fc fd fr fp n k z t kn pl lf pn) (fun r _ => r = bI (p_ok x n && p_ok y 34)) := by
  refine ent_z _ cX2_hasCell 3 RX2 (by decide) rfl rfl (Nat.le_of_ble_eq_true rfl) ?_
  intro p e s m args below meth c A Q ls hx hb hml hts hown hA hK hX ret hl hP hD hS
  have hl : lv_has ls 3 [(0, .ref (a 0)), (1, .int x), (2, .int y)] := hl
  refine lv_aload_n hx hb dX2_hasCell_0 rfl (lv_at hl 0 rfl) ?_
  refine lv_iload_n hx hb dX2_hasCell_1 rfl (lv_at hl 1 rfl) ?_
  refine call_Vi (wr := ([] : va_W)) [.int x] [] ⟨hx, hb, hml, hown, hts⟩ hK hX hA hP hD hS (c_hasEntry l G _ a fm fh fw fb fc fd fr fp n k z t kn pl lf pn x (by omega) (by omega) (by omega) (by omega) (by omega) (by omega) (by omega)) (cwV 1 hts gX2_hasCell_X2_hasEntry rfl rfl rfl (by decide +kernel) ⟨Nat.le_of_ble_eq_true rfl, Nat.le_of_ble_eq_true rfl⟩) 2 0 rfl rfl rfl [0, 1, 2, 3, 4, 5, 6, 7, 8, 9, 10] [] rfl rfl (by decide) (by decide) (by decide) rfl hl.1 (Nat.le_of_ble_eq_true rfl) dX2_hasCell_2 ⟨Nat.zero_le _, Nat.zero_le _⟩ (fun r_1 u H locs hw hP hD hS => ?_)
  obtain rfl := hw
  have hP : va_P G.1 vwCl (wC G a fm fh fw fb fc fd fr fp n k z t kn pl lf pn) H := hP
  have hD : va_D A (wC G a fm fh fw fb fc fd fr fp n k z t kn pl lf pn) := hD
  refine lv_if_eq (tgt := 22) hx hb dX2_hasCell_5 (by decide) (fun c5 => ?_) (fun c5 => ?_)
  · refine lv_iconst (v := nI 0) hx hb dX2_hasCell_22 (by decide) ?_
    exact ret 23 _ _ _ (nI 0) () dX2_hasCell_23 (by first | exact Or.inl rfl | exact Or.inr rfl) (by rw [bI_z c5]; rfl) hP hD hS
  · refine lv_iload_n hx hb dX2_hasCell_8 rfl (lv_at hl 2 rfl) ?_
    refine ifz_lt hx hb y 22 dX2_hasCell_9 (by decide) (fun c9 => ?_) (fun c9 => ?_)
    · refine lv_iconst (v := nI 0) hx hb dX2_hasCell_22 (by decide) ?_
      exact ret 23 _ _ _ (nI 0) () dX2_hasCell_23 (by first | exact Or.inl rfl | exact Or.inr rfl) (by rw [ok_F (n := 34) (Or.inl c9), Bool.and_false]; rfl) hP hD hS
    · refine lv_iload_n hx hb dX2_hasCell_12 rfl (lv_at hl 2 rfl) ?_
      refine lv_bipush (v := nI 34) hx hb dX2_hasCell_13 (by decide) ?_
      refine cmz_gezn hx hb y 34 22 (by omega) dX2_hasCell_15 (by decide) (fun c15 => ?_) (fun c15 => ?_)
      · refine lv_iconst (v := nI 0) hx hb dX2_hasCell_22 (by decide) ?_
        exact ret 23 _ _ _ (nI 0) () dX2_hasCell_23 (by first | exact Or.inl rfl | exact Or.inr rfl) (by rw [ok_F (n := 34) (Or.inr c15), Bool.and_false]; rfl) hP hD hS
      · refine lv_iconst (v := nI 1) hx hb dX2_hasCell_18 (by decide) ?_
        refine lv_goto (tgt := 23) hx hb dX2_hasCell_19 (by decide) ?_
        exact ret 23 _ _ _ (nI 1) () dX2_hasCell_23 (by first | exact Or.inl rfl | exact Or.inr rfl) (by rw [bI_n c5, ok_T c9 (n := 34) c15]; rfl) hP hD hS
set_option maxHeartbeats 4000000 in
set_option maxRecDepth 100000 in
theorem c_skipOf (l : Launch) (G : gG) (sz : Nat) (x : Nat) (hx : x ≤ 60) : MetI l yX2_skipOf wsX2_skipOf ({ frames := 0, cells := 0, slots := 0, locals := 0 } : Room) [.int (nI x)] G (([] : va_W)) sz (fun _ : Unit => []) (fun r _ => r = p_skI x) := by
  refine ent_i _ cX2_skipOf 1 RX2 (by decide) rfl rfl (Nat.le_of_ble_eq_true rfl) ?_
  intro p e s m args below meth c A Q ls hx hb hml hts hown hA hK hX ret hl hP hD hS
  have hl : lv_has ls 1 [(0, .int (nI x))] := hl
  refine lv_iload_n hx hb dX2_skipOf_0 rfl (lv_at hl 0 rfl) ?_
  refine if0_ne hx hb x 8 (by omega) dX2_skipOf_1 (by decide) (fun c1 => ?_) (fun c1 => ?_)
  · refine lv_iload_n hx hb dX2_skipOf_8 rfl (lv_at hl 0 rfl) ?_
    refine lv_iload_n hx hb dX2_skipOf_9 rfl (lv_at hl 0 rfl) ?_
    refine lv_iload_n hx hb dX2_skipOf_10 rfl (lv_at hl 0 rfl) ?_
    refine lv_ineg hx hb dX2_skipOf_11 ?_
    refine lv_iand hx hb dX2_skipOf_12 ?_
    refine lv_isub hx hb dX2_skipOf_13 ?_
    exact ret 14 _ _ _ (nI x - (nI x &&& (-(nI x)))) () dX2_skipOf_14 (by rw [p_skI, if_neg (by omega)]; exact sk_eq x (by omega)) hP hD hS
  · refine lv_iconst (v := (-1)) hx hb dX2_skipOf_4 (by decide) ?_
    refine lv_goto (tgt := 14) hx hb dX2_skipOf_5 (by decide) ?_
    exact ret 14 _ _ _ (-1) () dX2_skipOf_14 (by rw [c1]; rfl) hP hD hS
theorem skI_lt {x e : Nat} (hx : x ≤ 60) (he : e ≤ 60) (h : (p_skI x).toInt < (e : Int)) : p_by x e = false := by
  apply decide_eq_false
  intro q
  rw [p_skI, if_neg (by omega), tI_N (by have := sk_lt x (by omega) q.1; omega)] at h
  omega
theorem skI_ge {x e : Nat} (hx : x ≤ 60) (he : e ≤ 60) (h : (e : Int) ≤ (p_skI x).toInt) : p_by x e = true := by
  apply decide_eq_true
  by_cases q : x = 0
  · rw [p_skI, if_pos q] at h
    have : ((-1 : Int32)).toInt = -1 := by decide
    omega
  · rw [p_skI, if_neg q, tI_N (by have := sk_lt x (by omega) (by omega); omega)] at h
    exact ⟨by omega, by omega⟩
set_option maxHeartbeats 4000000 in
set_option maxRecDepth 100000 in
theorem c_goesBySkip (l : Launch) (G : gG) (sz : Nat) (x y : Nat) (hx0 : x ≤ 60) (hy : y ≤ 60) : MetI l yX2_goesBySkip wsX2_goesBySkip ({ frames := 1, cells := 0, slots := 0, locals := 20 } : Room) [.int (nI x), .int (nI y)] G (([] : va_W)) sz (fun _ : Unit => []) (fun r _ => r = bI (p_by x y)) := by
  refine ent_z _ cX2_goesBySkip 2 RX2 (by decide) rfl rfl (Nat.le_of_ble_eq_true rfl) ?_
  intro p e s m args below meth c A Q ls hx hb hml hts hown hA hK hX ret hl hP hD hS
  have hl : lv_has ls 2 [(0, .int (nI x)), (1, .int (nI y))] := hl
  refine lv_iload_n hx hb dX2_goesBySkip_0 rfl (lv_at hl 0 rfl) ?_
  refine call_Si (wr := ([] : va_W)) [.int (nI x)] [] ⟨hx, hb, hml, hown, hts⟩ hK hX hA hP hD hS (c_skipOf l G _ x (by omega)) (va_cwS 1 hts gX2_goesBySkip_X2_skipOf rfl rfl rfl (by decide +kernel) ⟨Nat.le_of_ble_eq_true rfl, Nat.le_of_ble_eq_true rfl⟩) [] [] rfl rfl (by decide) (by decide) (by decide) rfl hl.1 (Nat.le_of_ble_eq_true rfl) dX2_goesBySkip_1 ⟨Nat.zero_le _, Nat.zero_le _⟩ (fun r_1 u H locs hw hP hD hS => ?_)
  obtain rfl := hw
  have hP : va_P G.1 vwCl (([] : va_W)) H := hP
  have hD : va_D A (([] : va_W)) := hD
  refine lv_iload_n hx hb dX2_goesBySkip_4 rfl (lv_at hl 1 rfl) ?_
  refine cmz_ltzn hx hb (p_skI x) y 12 (by omega) dX2_goesBySkip_5 (by decide) (fun c5 => ?_) (fun c5 => ?_)
  · refine lv_iconst (v := nI 0) hx hb dX2_goesBySkip_12 (by decide) ?_
    exact ret 13 _ _ _ (nI 0) () dX2_goesBySkip_13 (by first | exact Or.inl rfl | exact Or.inr rfl) (by rw [skI_lt hx0 hy c5]; rfl) hP hD hS
  · refine lv_iconst (v := nI 1) hx hb dX2_goesBySkip_8 (by decide) ?_
    refine lv_goto (tgt := 13) hx hb dX2_goesBySkip_9 (by decide) ?_
    exact ret 13 _ _ _ (nI 1) () dX2_goesBySkip_13 (by first | exact Or.inl rfl | exact Or.inr rfl) (by rw [skI_ge hx0 hy c5]; rfl) hP hD hS
set_option maxHeartbeats 4000000 in
set_option maxRecDepth 100000 in
theorem c_nextOnWay (l : Launch) (G : gG) (sz : Nat) (x y : Nat) (hx0 : x ≤ 60) (hy : y ≤ 60) : MetI l yX2_nextOnWay wsX2_nextOnWay ({ frames := 2, cells := 0, slots := 0, locals := 41 } : Room) [.int (nI x), .int (nI y)] G (([] : va_W)) sz (fun _ : Unit => []) (fun r _ => r = nI (p_nx x y)) := by
  refine ent_i _ cX2_nextOnWay 2 RX2 (by decide) rfl rfl (Nat.le_of_ble_eq_true rfl) ?_
  intro p e s m args below meth c A Q ls hx hb hml hts hown hA hK hX ret hl hP hD hS
  have hl : lv_has ls 2 [(0, .int (nI x)), (1, .int (nI y))] := hl
  refine lv_iload_n hx hb dX2_nextOnWay_0 rfl (lv_at hl 0 rfl) ?_
  refine lv_iload_n hx hb dX2_nextOnWay_1 rfl (lv_at hl 1 rfl) ?_
  refine cmp_gt hx hb x y 7 (by omega) (by omega) dX2_nextOnWay_2 (by decide) (fun c2 => ?_) (fun c2 => ?_)
  · refine lv_iload_n hx hb dX2_nextOnWay_7 rfl (lv_at hl 0 rfl) ?_
    refine lv_iload_n hx hb dX2_nextOnWay_8 rfl (lv_at hl 1 rfl) ?_
    refine call_Si (wr := ([] : va_W)) [.int (nI x), .int (nI y)] [] ⟨hx, hb, hml, hown, hts⟩ hK hX hA hP hD hS (c_goesBySkip l G _ x y (by omega) (by omega)) (va_cwS 2 hts gX2_nextOnWay_X2_goesBySkip rfl rfl rfl (by decide +kernel) ⟨Nat.le_of_ble_eq_true rfl, Nat.le_of_ble_eq_true rfl⟩) [] [] rfl rfl (by decide) (by decide) (by decide) rfl hl.1 (Nat.le_of_ble_eq_true rfl) dX2_nextOnWay_9 ⟨Nat.zero_le _, Nat.zero_le _⟩ (fun r_2 u H locs hw hP hD hS => ?_)
    obtain rfl := hw
    have hP : va_P G.1 vwCl (([] : va_W)) H := hP
    have hD : va_D A (([] : va_W)) := hD
    refine lv_if_eq (tgt := 22) hx hb dX2_nextOnWay_12 (by decide) (fun c12 => ?_) (fun c12 => ?_)
    · have q12 := of_decide_eq_false (bI_z c12)
      refine lv_iload_n hx hb dX2_nextOnWay_22 rfl (lv_at hl 0 rfl) ?_
      refine lv_iconst (v := nI 1) hx hb dX2_nextOnWay_23 (by decide) ?_
      refine su_N hx hb x 1 (by omega) dX2_nextOnWay_24 ?_
      exact ret 25 _ _ _ (nI (x - 1)) () dX2_nextOnWay_25 (by rw [p_nx, if_neg (by omega), if_neg (by omega)]) hP hD hS
    · refine lv_iload_n hx hb dX2_nextOnWay_15 rfl (lv_at hl 0 rfl) ?_
      refine call_Si (wr := ([] : va_W)) [.int (nI x)] [] ⟨hx, hb, hml, hown, hts⟩ hK hX hA hP hD hS (c_skipOf l G _ x (by omega)) (va_cwS 1 hts gX2_nextOnWay_X2_skipOf rfl rfl rfl (by decide +kernel) ⟨Nat.le_of_ble_eq_true rfl, Nat.le_of_ble_eq_true rfl⟩) [] [] rfl rfl (by decide) (by decide) (by decide) rfl hl.1 (Nat.le_of_ble_eq_true rfl) dX2_nextOnWay_16 ⟨Nat.zero_le _, Nat.zero_le _⟩ (fun r_4 u H locs hw hP hD hS => ?_)
      obtain rfl := hw
      have hP : va_P G.1 vwCl (([] : va_W)) H := hP
      have hD : va_D A (([] : va_W)) := hD
      have q12 := of_decide_eq_true (bI_n c12)
      refine top_i (nI (p_sk x)) (by rw [p_skI, if_neg (by omega)]) ?_
      refine lv_goto (tgt := 25) hx hb dX2_nextOnWay_19 (by decide) ?_
      exact ret 25 _ _ _ (nI (p_sk x)) () dX2_nextOnWay_25 (by rw [p_nx, if_neg (by omega), if_pos q12.2]) hP hD hS
  · refine lv_iload_n hx hb dX2_nextOnWay_5 rfl (lv_at hl 1 rfl) ?_
    exact ret 6 _ _ _ (nI y) () dX2_nextOnWay_6 (by rw [p_nx, if_pos c2]) hP hD hS
set_option maxHeartbeats 4000000 in
set_option maxRecDepth 100000 in
theorem c_levelsTo (l : Launch) (G : gG) (sz : Nat) (a : Nat → Nat) (fm fh fw fb fc fd fr fp : Nat → Int32) (n k z t : Nat) (kn : Int32) (pl lf pn : Nat) (y : Nat) (hn : n ≤ 60) (hk : k ≤ 8) (hz : z ≤ 20) (ht : t ≤ 100000) (hpl : pl ≤ 60) (hlf : lf ≤ 6) (hpn : pn ≤ 1560) (hy : y < n) : MetI l yX2_levelsTo wsX2_levelsTo ({ frames := 3, cells := 0, slots := 0, locals := 62 } : Room) [.ref (a 0), .int (nI y)] G (wC G a fm fh fw fb fc fd fr fp n k z t kn pl lf pn) sz (fun u : Nat => wC G a fm fh fw fb fc fd fr fp n k z t kn pl lf pn) (fun r u => r = nI (1 + u) ∧ p_end (n - 1) y u) := by
  refine ent_i _ cX2_levelsTo 4 RX2 (by decide) rfl rfl (Nat.le_of_ble_eq_true rfl) ?_
  intro p e s m args below meth c A Q ls hx hb hml hts hown hA hK hX ret hl hP hD hS
  have hl : lv_has ls 4 [(0, .ref (a 0)), (1, .int (nI y))] := hl
  have lk36 := hts (.fieldLink RX2 36 "MinedLedger" "entryCount" "I") (by decide +kernel)
  have hiX2 : ∀ w ∈ wsX20, w ∈ wsX2_levelsTo := by decide +kernel
  refine lv_iconst (v := nI 1) hx hb dX2_levelsTo_0 (by decide) ?_
  refine lv_istore_n (lv' := [(2, .int (nI 1)), (0, .ref (a 0)), (1, .int (nI y))]) hx hb dX2_levelsTo_1 rfl hl (by decide) rfl (fun ls hl => ?_)
  refine lv_aload_n hx hb dX2_levelsTo_2 rfl (lv_at hl 1 rfl) ?_
  refine va_get (D := G.1) (ci := 2) (v := .int (nI n)) (C := RX2) (T := TX2) (N := 14) hx hb hts hiX2 hown hK hP 0 rfl rfl 6 (by decide) lk36 (fun _ h9 => h9) rfl dX2_levelsTo_3 ?_
  refine lv_iconst (v := nI 1) hx hb dX2_levelsTo_6 (by decide) ?_
  refine su_N hx hb n 1 (by omega) dX2_levelsTo_7 ?_
  refine lv_istore_n (lv' := [(3, .int (nI (n - 1))), (2, .int (nI 1)), (0, .ref (a 0)), (1, .int (nI y))]) hx hb dX2_levelsTo_8 rfl hl (by decide) rfl (fun ls hl => ?_)
  suffices hloop1 : ∀ (fu1 : Nat) (j : Nat), (∀ i, i < j → y < p_way (n - 1) y i) → (p_way (n - 1) y j + j ≤ n - 1) → (y ≤ p_way (n - 1) y j) → 60 - j < fu1 → ∀ (H : Heap) (locs : List Loc) (ls : Array Slot), va_P G.1 vwCl (wC G a fm fh fw fb fc fd fr fp n k z t kn pl lf pn) H → va_D A (wC G a fm fh fw fb fc fd fr fp n k z t kn pl lf pn) → va_S A s.heap H locs → lv_has ls 4 [(0, .ref (a 0)), (1, .int (nI y)), (2, .int (nI (1 + j))), (3, .int (nI (p_way (n - 1) y j)))] → W p l e ({ frames := 3, cells := 0, slots := 0, locals := 62 } : Room) s m args below meth c H locs 0 0 Q (F0 m 9 ls []) from hloop1 _ 0 (fun i h => absurd h (Nat.not_lt_zero i)) (Nat.le_refl _) (by show y ≤ n - 1; omega) (Nat.lt_succ_self _) _ _ _ hP hD hS (lv_sub hl [2, 3, 1, 0] rfl)
  clear hP hD hS hl
  intro fu1
  induction fu1 with
  | zero => intro j hj hj2 hj3 hfu; exact absurd hfu (Nat.not_lt_zero _)
  | succ fu1 ih1 =>
    intro j hj hj2 hj3 hfu1 H locs ls hP hD hS hl
    refine lv_iload_n hx hb dX2_levelsTo_9 rfl (lv_at hl 3 rfl) ?_
    refine lv_iload_n hx hb dX2_levelsTo_10 rfl (lv_at hl 1 rfl) ?_
    refine cmp_le hx hb (p_way (n - 1) y j) y 32 (by omega) (by omega) dX2_levelsTo_11 (by decide) (fun c11 => ?_) (fun c11 => ?_)
    · refine lv_iload_n hx hb dX2_levelsTo_32 rfl (lv_at hl 2 rfl) ?_
      exact ret 33 _ _ _ (nI (1 + j)) j dX2_levelsTo_33 (⟨rfl, hj, by omega⟩) hP hD hS
    · refine lv_iload_n hx hb dX2_levelsTo_14 rfl (lv_at hl 2 rfl) ?_
      refine lv_bipush (v := nI 60) hx hb dX2_levelsTo_15 (by decide) ?_
      refine cmp_ge hx hb (1 + j) 60 32 (by omega) (by omega) dX2_levelsTo_17 (by decide) (fun c17 => ?_) (fun c17 => ?_)
      · exfalso; omega
      · refine lv_iload_n hx hb dX2_levelsTo_20 rfl (lv_at hl 3 rfl) ?_
        refine lv_iload_n hx hb dX2_levelsTo_21 rfl (lv_at hl 1 rfl) ?_
        refine call_Si (wr := ([(a 0, .inr (2, [.ref (a 1), .ref (a 5), .ref (a 7), .ref (a 8), .ref (a 9), .ref (a 10), .int (nI n), .int (nI k), .int (nI z), .int (nI t), .int kn, .int (nI pl), .int (nI lf), .int (nI pn)])), (a 1, .inr (1, [.ref (a 2), .ref (a 3), .ref (a 4)])), (a 2, .inl (G.2.2.1, 8, .inl fm)), (a 3, .inl (G.2.2.1, 8, .inl fh)), (a 4, .inl (G.2.2.1, 64, .inl fw)), (a 5, .inr (0, [.ref (a 6)])), (a 6, .inl (G.2.2.1, 32, .inl fb)), (a 7, .inl (G.2.2.1, 2040, .inl fc)), (a 8, .inl (G.2.2.1, 8, .inl fd)), (a 9, .inl (G.2.2.1, 34, .inl fr)), (a 10, .inl (G.2.2.1, 1560, .inl fp))] : va_W)) [.int (nI (p_way (n - 1) y j)), .int (nI y)] [] ⟨hx, hb, hml, hown, hts⟩ hK hX hA hP hD hS (c_nextOnWay l G _ (p_way (n - 1) y j) y (by omega) (by omega)) (va_cwS 2 hts gX2_levelsTo_X2_nextOnWay rfl rfl rfl (by decide +kernel) ⟨Nat.le_of_ble_eq_true rfl, Nat.le_of_ble_eq_true rfl⟩) [] [0, 1, 2, 3, 4, 5, 6, 7, 8, 9, 10] rfl rfl (by decide) (by decide) (by decide) rfl hl.1 (Nat.le_of_ble_eq_true rfl) dX2_levelsTo_22 ⟨Nat.zero_le _, Nat.zero_le _⟩ (fun r_3 u H locs hw hP hD hS => ?_)
        obtain rfl := hw
        have hP : va_P G.1 vwCl (wC G a fm fh fw fb fc fd fr fp n k z t kn pl lf pn) H := hP
        have hD : va_D A (wC G a fm fh fw fb fc fd fr fp n k z t kn pl lf pn) := hD
        refine lv_istore_n (lv' := [(3, .int (nI (p_nx (p_way (n - 1) y j) y))), (0, .ref (a 0)), (1, .int (nI y)), (2, .int (nI (1 + j)))]) hx hb dX2_levelsTo_25 rfl hl (by decide) rfl (fun ls hl => ?_)
        refine lv_iinc (v := nI (1 + j + 1)) (lv' := [(2, .int (nI (1 + j + 1))), (3, .int (nI (p_nx (p_way (n - 1) y j) y))), (0, .ref (a 0)), (1, .int (nI y))]) hx hb dX2_levelsTo_26 hl (k := 3) rfl (inc_N (1 + j) 1) (by decide) rfl (fun ls hl => ?_)
        refine lv_goto (tgt := 9) hx hb dX2_levelsTo_29 (by decide) ?_
        exact ih1 (j + 1) (lt_s hj c11) (by have := nx_lt (x := p_way (n - 1) y j) (e := y) (by omega) c11; show p_nx _ _ + (j + 1) ≤ _; omega) ((nx_lt (x := p_way (n - 1) y j) (e := y) (by omega) c11).2) (by omega) _ _ _ hP hD hS (lv_sub hl [2, 3, 0, 1] rfl)
end
section
abbrev p_ix (x : Int32) : Nat := x.toNatClampNeg
theorem ix_N {j n : Nat} (h : j < n) (hn : n ≤ 65536) : p_ix (nI j) = j := nI_clamp (by omega)
theorem in_N {x : Int32} {n : Nat} (hn : n ≤ 65536) (h1 : 0 ≤ x.toInt) (h2 : x.toInt < (n : Int)) : ∃ j : Nat, j < n ∧ x = nI j := ok_of hn (ok_T h1 h2)
def q_put (fr : Nat → Int32) (k t : Nat) (kn x r : Int32) (fr' : Nat → Int32) (k' t' : Nat) (kn' : Int32) : Prop :=
  (8 ≤ k ∧ r = (-3) ∧ fr' = fr ∧ k' = k ∧ t' = t ∧ kn' = kn) ∨ (k < 8 ∧ r = nI (k + 1) ∧ fr' = upd fr (16 + k) x ∧ k' = k + 1 ∧ t' = 0 ∧ kn' = (-1))
def q_takeBack (fr : Nat → Int32) (k t : Nat) (kn x r : Int32) (fr' : Nat → Int32) (k' t' : Nat) (kn' : Int32) : Prop :=
  ((x.toInt < 1 ∨ (k : Int) < x.toInt) ∧ r = (-2) ∧ fr' = fr ∧ k' = k ∧ t' = t ∧ kn' = kn) ∨ (∃ j : Nat, 1 ≤ j ∧ j ≤ k ∧ x = nI j ∧ r = nI (k - j) ∧ fr' = p_fill fr (16 + (k - j)) 24 (nI 0) ∧ k' = k - j ∧ t' = 0 ∧ kn' = (-1))
def q_difficulty (z t : Nat) (kn x r : Int32) (z' t' : Nat) (kn' : Int32) : Prop :=
  ((x.toInt < 0 ∨ 20 < x.toInt) ∧ r = (-2) ∧ z' = z ∧ t' = t ∧ kn' = kn) ∨ (∃ j : Nat, j ≤ 20 ∧ x = nI j ∧ r = nI z ∧ z' = j ∧ t' = 0 ∧ kn' = (-1))
def q_spoil (fc : Nat → Int32) (n t : Nat) (kn x y w r : Int32) (fc' : Nat → Int32) (t' : Nat) (kn' : Int32) : Prop :=
  ((p_ok x n && p_ok y 34) = false ∧ r = nI 0 ∧ fc' = fc ∧ t' = t ∧ kn' = kn) ∨ (∃ i j : Nat, i < n ∧ j < 34 ∧ x = nI i ∧ y = nI j ∧ r = fc (i * 34 + j) ∧ fc' = upd fc (i * 34 + j) w ∧ t' = 0 ∧ kn' = (-1))
def q_forge (fp : Nat → Int32) (pn : Nat) (x w r : Int32) (fp' : Nat → Int32) : Prop :=
  (p_ok x pn = false ∧ r = nI 0 ∧ fp' = fp) ∨ (∃ j : Nat, j < pn ∧ x = nI j ∧ r = fp j ∧ fp' = upd fp j w)
set_option maxHeartbeats 4000000 in
set_option maxRecDepth 100000 in
theorem c_put (l : Launch) (G : gG) (sz : Nat) (a : Nat → Nat) (fm fh fw fb fc fd fr fp : Nat → Int32) (n k z t : Nat) (kn : Int32) (pl lf pn : Nat) (x : Int32) (hn : n ≤ 60) (hk : k ≤ 8) (hz : z ≤ 20) (ht : t ≤ 100000) (hpl : pl ≤ 60) (hlf : lf ≤ 6) (hpn : pn ≤ 1560)  : MetI l yX2_put wsX2_put ({ frames := 1, cells := 0, slots := 0, locals := 20 } : Room) [.ref (a 0), .int x] G (wC G a fm fh fw fb fc fd fr fp n k z t kn pl lf pn) sz (fun u : (Nat → Int32) × Nat × Nat × Int32 => wC G a fm fh fw fb fc fd u.1 fp n u.2.1 z u.2.2.1 u.2.2.2 pl lf pn) (fun r u => q_put fr k t kn x r u.1 u.2.1 u.2.2.1 u.2.2.2) := by
  refine ent_i _ cX2_put 2 RX2 (by decide) rfl rfl (Nat.le_of_ble_eq_true rfl) ?_
  intro p e s m args below meth c A Q ls hx hb hml hts hown hA hK hX ret hl hP hD hS
  have hl : lv_has ls 2 [(0, .ref (a 0)), (1, .int x)] := hl
  have lk30 := hts (.fieldLink RX2 30 "MinedLedger" "draft" "[I") (by decide +kernel)
  have lk40 := hts (.fieldLink RX2 40 "MinedLedger" "wordCount" "I") (by decide +kernel)
  have hiX2 : ∀ w ∈ wsX20, w ∈ wsX2_put := by decide +kernel
  refine lv_aload_n hx hb dX2_put_0 rfl (lv_at hl 0 rfl) ?_
  refine va_get (D := G.1) (ci := 2) (v := .int (nI k)) (C := RX2) (T := TX2) (N := 14) hx hb hts hiX2 hown hK hP 0 rfl rfl 7 (by decide) lk40 (fun _ h9 => h9) rfl dX2_put_1 ?_
  refine lv_bipush (v := nI 8) hx hb dX2_put_4 (by decide) ?_
  refine cmp_lt hx hb k 8 12 (by omega) (by omega) dX2_put_6 (by decide) (fun c6 => ?_) (fun c6 => ?_)
  · refine lv_aload_n hx hb dX2_put_12 rfl (lv_at hl 0 rfl) ?_
    refine va_get (D := G.1) (ci := 2) (v := .ref (a 9)) (C := RX2) (T := TX2) (N := 14) hx hb hts hiX2 hown hK hP 0 rfl rfl 4 (by decide) lk30 (fun _ h9 => h9) rfl dX2_put_13 ?_
    refine lv_bipush (v := nI 16) hx hb dX2_put_16 (by decide) ?_
    refine lv_aload_n hx hb dX2_put_18 rfl (lv_at hl 0 rfl) ?_
    refine va_get (D := G.1) (ci := 2) (v := .int (nI k)) (C := RX2) (T := TX2) (N := 14) hx hb hts hiX2 hown hK hP 0 rfl rfl 7 (by decide) lk40 (fun _ h9 => h9) rfl dX2_put_19 ?_
    refine ad_N hx hb 16 k dX2_put_22 ?_
    refine lv_iload_n hx hb dX2_put_23 rfl (lv_at hl 1 rfl) ?_
    refine wr_i hx hb hK hP hD hS 9 rfl (16 + k) (by omega) (by omega) dX2_put_24 (fun H locs hP hD hS => ?_)
    have hP : va_P G.1 vwCl (wC G a fm fh fw fb fc fd (upd fr (16 + k) x) fp n k z t kn pl lf pn) H := hP
    have hD : va_D A (wC G a fm fh fw fb fc fd (upd fr (16 + k) x) fp n k z t kn pl lf pn) := hD
    refine lv_aload_n hx hb dX2_put_25 rfl (lv_at hl 0 rfl) ?_
    refine lv_dup hx hb dX2_put_26 rfl ?_
    refine va_get (D := G.1) (ci := 2) (v := .int (nI k)) (C := RX2) (T := TX2) (N := 14) hx hb hts hiX2 hown hK hP 0 rfl rfl 7 (by decide) lk40 (fun _ h9 => h9) rfl dX2_put_27 ?_
    refine lv_iconst (v := nI 1) hx hb dX2_put_30 (by decide) ?_
    refine ad_N hx hb k 1 dX2_put_31 ?_
    refine va_put (D := G.1) (ci := 2) (v := .int (nI (k + 1))) (ty := .int) (C := RX2) (T := TX2) (N := 14) hx hb hts hiX2 tyX2 tyX2_ok nmX2 hown hK hP hD hS 0 rfl rfl 7 (by decide) lk40 (fun _ h9 => h9) rfl (by decide +kernel) rfl rfl (Nat.le_of_ble_eq_true rfl) dX2_put_32 (fun H locs hP hD hS => ?_)
    have hP : va_P G.1 vwCl (wC G a fm fh fw fb fc fd (upd fr (16 + k) x) fp n (k + 1) z t kn pl lf pn) H := hP
    have hD : va_D A (wC G a fm fh fw fb fc fd (upd fr (16 + k) x) fp n (k + 1) z t kn pl lf pn) := hD
    refine lv_aload_n hx hb dX2_put_35 rfl (lv_at hl 0 rfl) ?_
    refine call_Vv (wr := ([] : va_W)) [] [] ⟨hx, hb, hml, hown, hts⟩ hK hX hA hP hD hS (c_forgetNonces l G _ a fm fh fw fb fc fd (upd fr (16 + k) x) fp n (k + 1) z t kn pl lf pn  (by omega) (by omega) (by omega) (by omega) (by omega) (by omega) (by omega)) (cwV 0 hts gX2_put_X2_forgetNonces rfl rfl rfl (by decide +kernel) ⟨Nat.le_of_ble_eq_true rfl, Nat.le_of_ble_eq_true rfl⟩) 2 0 rfl rfl rfl [0, 1, 2, 3, 4, 5, 6, 7, 8, 9, 10] [] rfl rfl (by decide) (by decide) (by decide) rfl hl.1 (Nat.le_of_ble_eq_true rfl) dX2_put_36 ⟨Nat.zero_le _, Nat.zero_le _⟩ (fun u H locs hw hP hD hS => ?_)
    have hP : va_P G.1 vwCl (wC G a fm fh fw fb fc fd (upd fr (16 + k) x) fp n (k + 1) z 0 (-1) pl lf pn) H := hP
    have hD : va_D A (wC G a fm fh fw fb fc fd (upd fr (16 + k) x) fp n (k + 1) z 0 (-1) pl lf pn) := hD
    refine lv_aload_n hx hb dX2_put_39 rfl (lv_at hl 0 rfl) ?_
    refine va_get (D := G.1) (ci := 2) (v := .int (nI (k + 1))) (C := RX2) (T := TX2) (N := 14) hx hb hts hiX2 hown hK hP 0 rfl rfl 7 (by decide) lk40 (fun _ h9 => h9) rfl dX2_put_40 ?_
    exact ret 43 _ _ _ (nI (k + 1)) (upd fr (16 + k) x, k + 1, 0, (-1)) dX2_put_43 (Or.inr ⟨c6, rfl, rfl, rfl, rfl, rfl⟩) hP hD hS
  · refine lv_bipush (v := (-3)) hx hb dX2_put_9 (by decide) ?_
    exact ret 11 _ _ _ (-3) (fr, k, t, kn) dX2_put_11 (Or.inl ⟨c6, rfl, rfl, rfl, rfl, rfl⟩) hP hD hS
set_option maxHeartbeats 4000000 in
set_option maxRecDepth 100000 in
theorem c_takeBack (l : Launch) (G : gG) (sz : Nat) (a : Nat → Nat) (fm fh fw fb fc fd fr fp : Nat → Int32) (n k z t : Nat) (kn : Int32) (pl lf pn : Nat) (x : Int32) (hn : n ≤ 60) (hk : k ≤ 8) (hz : z ≤ 20) (ht : t ≤ 100000) (hpl : pl ≤ 60) (hlf : lf ≤ 6) (hpn : pn ≤ 1560)  : MetI l yX2_takeBack wsX2_takeBack ({ frames := 3, cells := 0, slots := 0, locals := 67 } : Room) [.ref (a 0), .int x] G (wC G a fm fh fw fb fc fd fr fp n k z t kn pl lf pn) sz (fun u : (Nat → Int32) × Nat × Nat × Int32 => wC G a fm fh fw fb fc fd u.1 fp n u.2.1 z u.2.2.1 u.2.2.2 pl lf pn) (fun r u => q_takeBack fr k t kn x r u.1 u.2.1 u.2.2.1 u.2.2.2) := by
  refine ent_i _ cX2_takeBack 2 RX2 (by decide) rfl rfl (Nat.le_of_ble_eq_true rfl) ?_
  intro p e s m args below meth c A Q ls hx hb hml hts hown hA hK hX ret hl hP hD hS
  have hl : lv_has ls 2 [(0, .ref (a 0)), (1, .int x)] := hl
  have lk40 := hts (.fieldLink RX2 40 "MinedLedger" "wordCount" "I") (by decide +kernel)
  have hiX2 : ∀ w ∈ wsX20, w ∈ wsX2_takeBack := by decide +kernel
  refine lv_iload_n hx hb dX2_takeBack_0 rfl (lv_at hl 1 rfl) ?_
  refine lv_iconst (v := nI 1) hx hb dX2_takeBack_1 (by decide) ?_
  refine cmz_ltzn hx hb x 1 13 (by omega) dX2_takeBack_2 (by decide) (fun c2 => ?_) (fun c2 => ?_)
  · refine lv_bipush (v := (-2)) hx hb dX2_takeBack_13 (by decide) ?_
    exact ret 15 _ _ _ (-2) (fr, k, t, kn) dX2_takeBack_15 (Or.inl ⟨Or.inl c2, rfl, rfl, rfl, rfl, rfl⟩) hP hD hS
  · refine lv_iload_n hx hb dX2_takeBack_5 rfl (lv_at hl 1 rfl) ?_
    refine lv_aload_n hx hb dX2_takeBack_6 rfl (lv_at hl 0 rfl) ?_
    refine va_get (D := G.1) (ci := 2) (v := .int (nI k)) (C := RX2) (T := TX2) (N := 14) hx hb hts hiX2 hown hK hP 0 rfl rfl 7 (by decide) lk40 (fun _ h9 => h9) rfl dX2_takeBack_7 ?_
    refine cmz_lezn hx hb x k 16 (by omega) dX2_takeBack_10 (by decide) (fun c10 => ?_) (fun c10 => ?_)
    · obtain ⟨j, hj, rfl⟩ := of_nn (x := x) (by omega)
      rw [tI_N hj] at c2 c10
      refine lv_aload_n hx hb dX2_takeBack_16 rfl (lv_at hl 0 rfl) ?_
      refine lv_aload_n hx hb dX2_takeBack_17 rfl (lv_at hl 0 rfl) ?_
      refine va_get (D := G.1) (ci := 2) (v := .int (nI k)) (C := RX2) (T := TX2) (N := 14) hx hb hts hiX2 hown hK hP 0 rfl rfl 7 (by decide) lk40 (fun _ h9 => h9) rfl dX2_takeBack_18 ?_
      refine lv_iload_n hx hb dX2_takeBack_21 rfl (lv_at hl 1 rfl) ?_
      refine su_N hx hb k j (by omega) dX2_takeBack_22 ?_
      refine call_Vv (wr := ([] : va_W)) [.int (nI (k - j))] [] ⟨hx, hb, hml, hown, hts⟩ hK hX hA hP hD hS (c_clearWordsFrom l G _ a fm fh fw fb fc fd fr fp n k z t kn pl lf pn (k - j) (by omega) (by omega) (by omega) (by omega) (by omega) (by omega) (by omega) (by omega)) (cwV 1 hts gX2_takeBack_X2_clearWordsFrom rfl rfl rfl (by decide +kernel) ⟨Nat.le_of_ble_eq_true rfl, Nat.le_of_ble_eq_true rfl⟩) 2 0 rfl rfl rfl [0, 1, 2, 3, 4, 5, 6, 7, 8, 9, 10] [] rfl rfl (by decide) (by decide) (by decide) rfl hl.1 (Nat.le_of_ble_eq_true rfl) dX2_takeBack_23 ⟨Nat.zero_le _, Nat.zero_le _⟩ (fun u H locs hw hP hD hS => ?_)
      have hP : va_P G.1 vwCl (wC G a fm fh fw fb fc fd (p_fill fr (16 + (k - j)) 24 (nI 0)) fp n (k - j) z t kn pl lf pn) H := hP
      have hD : va_D A (wC G a fm fh fw fb fc fd (p_fill fr (16 + (k - j)) 24 (nI 0)) fp n (k - j) z t kn pl lf pn) := hD
      refine lv_aload_n hx hb dX2_takeBack_26 rfl (lv_at hl 0 rfl) ?_
      refine call_Vv (wr := ([] : va_W)) [] [] ⟨hx, hb, hml, hown, hts⟩ hK hX hA hP hD hS (c_forgetNonces l G _ a fm fh fw fb fc fd (p_fill fr (16 + (k - j)) 24 (nI 0)) fp n (k - j) z t kn pl lf pn  (by omega) (by omega) (by omega) (by omega) (by omega) (by omega) (by omega)) (cwV 0 hts gX2_takeBack_X2_forgetNonces rfl rfl rfl (by decide +kernel) ⟨Nat.le_of_ble_eq_true rfl, Nat.le_of_ble_eq_true rfl⟩) 2 0 rfl rfl rfl [0, 1, 2, 3, 4, 5, 6, 7, 8, 9, 10] [] rfl rfl (by decide) (by decide) (by decide) rfl hl.1 (Nat.le_of_ble_eq_true rfl) dX2_takeBack_27 ⟨Nat.zero_le _, Nat.zero_le _⟩ (fun u H locs hw hP hD hS => ?_)
      have hP : va_P G.1 vwCl (wC G a fm fh fw fb fc fd (p_fill fr (16 + (k - j)) 24 (nI 0)) fp n (k - j) z 0 (-1) pl lf pn) H := hP
      have hD : va_D A (wC G a fm fh fw fb fc fd (p_fill fr (16 + (k - j)) 24 (nI 0)) fp n (k - j) z 0 (-1) pl lf pn) := hD
      refine lv_aload_n hx hb dX2_takeBack_30 rfl (lv_at hl 0 rfl) ?_
      refine va_get (D := G.1) (ci := 2) (v := .int (nI (k - j))) (C := RX2) (T := TX2) (N := 14) hx hb hts hiX2 hown hK hP 0 rfl rfl 7 (by decide) lk40 (fun _ h9 => h9) rfl dX2_takeBack_31 ?_
      exact ret 34 _ _ _ (nI (k - j)) (p_fill fr (16 + (k - j)) 24 (nI 0), k - j, 0, (-1)) dX2_takeBack_34 (Or.inr ⟨j, by omega, by omega, rfl, rfl, rfl, rfl, rfl, rfl⟩) hP hD hS
    · refine lv_bipush (v := (-2)) hx hb dX2_takeBack_13 (by decide) ?_
      exact ret 15 _ _ _ (-2) (fr, k, t, kn) dX2_takeBack_15 (Or.inl ⟨Or.inr c10, rfl, rfl, rfl, rfl, rfl⟩) hP hD hS
set_option maxHeartbeats 4000000 in
set_option maxRecDepth 100000 in
theorem c_pending (l : Launch) (G : gG) (sz : Nat) (a : Nat → Nat) (fm fh fw fb fc fd fr fp : Nat → Int32) (n k z t : Nat) (kn : Int32) (pl lf pn : Nat) (x : Int32) (hn : n ≤ 60) (hk : k ≤ 8) (hz : z ≤ 20) (ht : t ≤ 100000) (hpl : pl ≤ 60) (hlf : lf ≤ 6) (hpn : pn ≤ 1560)  : MetI l yX2_pending wsX2_pending ({ frames := 0, cells := 0, slots := 0, locals := 0 } : Room) [.ref (a 0), .int x] G (wC G a fm fh fw fb fc fd fr fp n k z t kn pl lf pn) sz (fun _ : Unit => wC G a fm fh fw fb fc fd fr fp n k z t kn pl lf pn) (fun r _ => r = if p_ok x k then fr (16 + p_ix x) else nI 0) := by
  refine ent_i _ cX2_pending 2 RX2 (by decide) rfl rfl (Nat.le_of_ble_eq_true rfl) ?_
  intro p e s m args below meth c A Q ls hx hb hml hts hown hA hK hX ret hl hP hD hS
  have hl : lv_has ls 2 [(0, .ref (a 0)), (1, .int x)] := hl
  have lk30 := hts (.fieldLink RX2 30 "MinedLedger" "draft" "[I") (by decide +kernel)
  have lk40 := hts (.fieldLink RX2 40 "MinedLedger" "wordCount" "I") (by decide +kernel)
  have hiX2 : ∀ w ∈ wsX20, w ∈ wsX2_pending := by decide +kernel
  refine lv_iload_n hx hb dX2_pending_0 rfl (lv_at hl 1 rfl) ?_
  refine ifz_lt hx hb x 12 dX2_pending_1 (by decide) (fun c1 => ?_) (fun c1 => ?_)
  · refine lv_iconst (v := nI 0) hx hb dX2_pending_12 (by decide) ?_
    exact ret 13 _ _ _ (nI 0) () dX2_pending_13 (by rw [ok_F (Or.inl c1)]; rfl) hP hD hS
  · refine lv_iload_n hx hb dX2_pending_4 rfl (lv_at hl 1 rfl) ?_
    refine lv_aload_n hx hb dX2_pending_5 rfl (lv_at hl 0 rfl) ?_
    refine va_get (D := G.1) (ci := 2) (v := .int (nI k)) (C := RX2) (T := TX2) (N := 14) hx hb hts hiX2 hown hK hP 0 rfl rfl 7 (by decide) lk40 (fun _ h9 => h9) rfl dX2_pending_6 ?_
    refine cmz_ltzn hx hb x k 14 (by omega) dX2_pending_9 (by decide) (fun c9 => ?_) (fun c9 => ?_)
    · obtain ⟨j, hj, rfl⟩ := in_N (by omega) c1 c9
      refine lv_aload_n hx hb dX2_pending_14 rfl (lv_at hl 0 rfl) ?_
      refine va_get (D := G.1) (ci := 2) (v := .ref (a 9)) (C := RX2) (T := TX2) (N := 14) hx hb hts hiX2 hown hK hP 0 rfl rfl 4 (by decide) lk30 (fun _ h9 => h9) rfl dX2_pending_15 ?_
      refine lv_bipush (v := nI 16) hx hb dX2_pending_18 (by decide) ?_
      refine lv_iload_n hx hb dX2_pending_20 rfl (lv_at hl 1 rfl) ?_
      refine ad_N hx hb 16 j dX2_pending_21 ?_
      refine rd_i hx hb hK hP 9 rfl (16 + j) (by omega) (by omega) dX2_pending_22 ?_
      exact ret 23 _ _ _ (fr (16 + j)) () dX2_pending_23 (by rw [ok_N (by omega), decide_eq_true hj, if_pos rfl, ix_N hj (by omega)]) hP hD hS
    · refine lv_iconst (v := nI 0) hx hb dX2_pending_12 (by decide) ?_
      exact ret 13 _ _ _ (nI 0) () dX2_pending_13 (by rw [ok_F (Or.inr c9)]; rfl) hP hD hS
set_option maxHeartbeats 4000000 in
set_option maxRecDepth 100000 in
theorem c_difficulty (l : Launch) (G : gG) (sz : Nat) (a : Nat → Nat) (fm fh fw fb fc fd fr fp : Nat → Int32) (n k z t : Nat) (kn : Int32) (pl lf pn : Nat) (x : Int32) (hn : n ≤ 60) (hk : k ≤ 8) (hz : z ≤ 20) (ht : t ≤ 100000) (hpl : pl ≤ 60) (hlf : lf ≤ 6) (hpn : pn ≤ 1560)  : MetI l yX2_difficulty wsX2_difficulty ({ frames := 1, cells := 0, slots := 0, locals := 20 } : Room) [.ref (a 0), .int x] G (wC G a fm fh fw fb fc fd fr fp n k z t kn pl lf pn) sz (fun u : Nat × Nat × Int32 => wC G a fm fh fw fb fc fd fr fp n k u.1 u.2.1 u.2.2 pl lf pn) (fun r u => q_difficulty z t kn x r u.1 u.2.1 u.2.2) := by
  refine ent_i _ cX2_difficulty 3 RX2 (by decide) rfl rfl (Nat.le_of_ble_eq_true rfl) ?_
  intro p e s m args below meth c A Q ls hx hb hml hts hown hA hK hX ret hl hP hD hS
  have hl : lv_has ls 3 [(0, .ref (a 0)), (1, .int x)] := hl
  have lk52 := hts (.fieldLink RX2 52 "MinedLedger" "zerosAsked" "I") (by decide +kernel)
  have hiX2 : ∀ w ∈ wsX20, w ∈ wsX2_difficulty := by decide +kernel
  refine lv_iload_n hx hb dX2_difficulty_0 rfl (lv_at hl 1 rfl) ?_
  refine ifz_lt hx hb x 10 dX2_difficulty_1 (by decide) (fun c1 => ?_) (fun c1 => ?_)
  · refine lv_bipush (v := (-2)) hx hb dX2_difficulty_10 (by decide) ?_
    exact ret 12 _ _ _ (-2) (z, t, kn) dX2_difficulty_12 (Or.inl ⟨Or.inl c1, rfl, rfl, rfl, rfl⟩) hP hD hS
  · refine lv_iload_n hx hb dX2_difficulty_4 rfl (lv_at hl 1 rfl) ?_
    refine lv_bipush (v := nI 20) hx hb dX2_difficulty_5 (by decide) ?_
    refine cmz_lezn hx hb x 20 13 (by omega) dX2_difficulty_7 (by decide) (fun c7 => ?_) (fun c7 => ?_)
    · obtain ⟨j, hj, rfl⟩ := of_nn (x := x) c1
      rw [tI_N hj] at c1 c7
      refine lv_aload_n hx hb dX2_difficulty_13 rfl (lv_at hl 0 rfl) ?_
      refine va_get (D := G.1) (ci := 2) (v := .int (nI z)) (C := RX2) (T := TX2) (N := 14) hx hb hts hiX2 hown hK hP 0 rfl rfl 8 (by decide) lk52 (fun _ h9 => h9) rfl dX2_difficulty_14 ?_
      refine lv_istore_n (lv' := [(2, .int (nI z)), (0, .ref (a 0)), (1, .int (nI j))]) hx hb dX2_difficulty_17 rfl hl (by decide) rfl (fun ls hl => ?_)
      refine lv_aload_n hx hb dX2_difficulty_18 rfl (lv_at hl 1 rfl) ?_
      refine lv_iload_n hx hb dX2_difficulty_19 rfl (lv_at hl 2 rfl) ?_
      refine va_put (D := G.1) (ci := 2) (v := .int (nI j)) (ty := .int) (C := RX2) (T := TX2) (N := 14) hx hb hts hiX2 tyX2 tyX2_ok nmX2 hown hK hP hD hS 0 rfl rfl 8 (by decide) lk52 (fun _ h9 => h9) rfl (by decide +kernel) rfl rfl (Nat.le_of_ble_eq_true rfl) dX2_difficulty_20 (fun H locs hP hD hS => ?_)
      have hP : va_P G.1 vwCl (wC G a fm fh fw fb fc fd fr fp n k j t kn pl lf pn) H := hP
      have hD : va_D A (wC G a fm fh fw fb fc fd fr fp n k j t kn pl lf pn) := hD
      refine lv_aload_n hx hb dX2_difficulty_23 rfl (lv_at hl 1 rfl) ?_
      refine call_Vv (wr := ([] : va_W)) [] [] ⟨hx, hb, hml, hown, hts⟩ hK hX hA hP hD hS (c_forgetNonces l G _ a fm fh fw fb fc fd fr fp n k j t kn pl lf pn  (by omega) (by omega) (by omega) (by omega) (by omega) (by omega) (by omega)) (cwV 0 hts gX2_difficulty_X2_forgetNonces rfl rfl rfl (by decide +kernel) ⟨Nat.le_of_ble_eq_true rfl, Nat.le_of_ble_eq_true rfl⟩) 2 0 rfl rfl rfl [0, 1, 2, 3, 4, 5, 6, 7, 8, 9, 10] [] rfl rfl (by decide) (by decide) (by decide) rfl hl.1 (Nat.le_of_ble_eq_true rfl) dX2_difficulty_24 ⟨Nat.zero_le _, Nat.zero_le _⟩ (fun u H locs hw hP hD hS => ?_)
      have hP : va_P G.1 vwCl (wC G a fm fh fw fb fc fd fr fp n k j 0 (-1) pl lf pn) H := hP
      have hD : va_D A (wC G a fm fh fw fb fc fd fr fp n k j 0 (-1) pl lf pn) := hD
      refine lv_iload_n hx hb dX2_difficulty_27 rfl (lv_at hl 0 rfl) ?_
      exact ret 28 _ _ _ (nI z) (j, 0, (-1)) dX2_difficulty_28 (Or.inr ⟨j, by omega, rfl, rfl, rfl, rfl, rfl⟩) hP hD hS
    · refine lv_bipush (v := (-2)) hx hb dX2_difficulty_10 (by decide) ?_
      exact ret 12 _ _ _ (-2) (z, t, kn) dX2_difficulty_12 (Or.inl ⟨Or.inr c7, rfl, rfl, rfl, rfl⟩) hP hD hS
set_option maxHeartbeats 4000000 in
set_option maxRecDepth 100000 in
theorem c_tried (l : Launch) (G : gG) (sz : Nat) (a : Nat → Nat) (fm fh fw fb fc fd fr fp : Nat → Int32) (n k z t : Nat) (kn : Int32) (pl lf pn : Nat)  (hn : n ≤ 60) (hk : k ≤ 8) (hz : z ≤ 20) (ht : t ≤ 100000) (hpl : pl ≤ 60) (hlf : lf ≤ 6) (hpn : pn ≤ 1560)  : MetI l yX2_tried wsX2_tried ({ frames := 0, cells := 0, slots := 0, locals := 0 } : Room) [.ref (a 0)] G (wC G a fm fh fw fb fc fd fr fp n k z t kn pl lf pn) sz (fun _ : Unit => wC G a fm fh fw fb fc fd fr fp n k z t kn pl lf pn) (fun r _ => r = nI t) := by
  refine ent_i _ cX2_tried 1 RX2 (by decide) rfl rfl (Nat.le_of_ble_eq_true rfl) ?_
  intro p e s m args below meth c A Q ls hx hb hml hts hown hA hK hX ret hl hP hD hS
  have hl : lv_has ls 1 [(0, .ref (a 0))] := hl
  have lk55 := hts (.fieldLink RX2 55 "MinedLedger" "triedCount" "I") (by decide +kernel)
  have hiX2 : ∀ w ∈ wsX20, w ∈ wsX2_tried := by decide +kernel
  refine lv_aload_n hx hb dX2_tried_0 rfl (lv_at hl 0 rfl) ?_
  refine va_get (D := G.1) (ci := 2) (v := .int (nI t)) (C := RX2) (T := TX2) (N := 14) hx hb hts hiX2 hown hK hP 0 rfl rfl 9 (by decide) lk55 (fun _ h9 => h9) rfl dX2_tried_1 ?_
  exact ret 4 _ _ _ (nI t) () dX2_tried_4 (rfl) hP hD hS
set_option maxHeartbeats 4000000 in
set_option maxRecDepth 100000 in
theorem c_count (l : Launch) (G : gG) (sz : Nat) (a : Nat → Nat) (fm fh fw fb fc fd fr fp : Nat → Int32) (n k z t : Nat) (kn : Int32) (pl lf pn : Nat)  (hn : n ≤ 60) (hk : k ≤ 8) (hz : z ≤ 20) (ht : t ≤ 100000) (hpl : pl ≤ 60) (hlf : lf ≤ 6) (hpn : pn ≤ 1560)  : MetI l yX2_count wsX2_count ({ frames := 0, cells := 0, slots := 0, locals := 0 } : Room) [.ref (a 0)] G (wC G a fm fh fw fb fc fd fr fp n k z t kn pl lf pn) sz (fun _ : Unit => wC G a fm fh fw fb fc fd fr fp n k z t kn pl lf pn) (fun r _ => r = nI n) := by
  refine ent_i _ cX2_count 1 RX2 (by decide) rfl rfl (Nat.le_of_ble_eq_true rfl) ?_
  intro p e s m args below meth c A Q ls hx hb hml hts hown hA hK hX ret hl hP hD hS
  have hl : lv_has ls 1 [(0, .ref (a 0))] := hl
  have lk36 := hts (.fieldLink RX2 36 "MinedLedger" "entryCount" "I") (by decide +kernel)
  have hiX2 : ∀ w ∈ wsX20, w ∈ wsX2_count := by decide +kernel
  refine lv_aload_n hx hb dX2_count_0 rfl (lv_at hl 0 rfl) ?_
  refine va_get (D := G.1) (ci := 2) (v := .int (nI n)) (C := RX2) (T := TX2) (N := 14) hx hb hts hiX2 hown hK hP 0 rfl rfl 6 (by decide) lk36 (fun _ h9 => h9) rfl dX2_count_1 ?_
  exact ret 4 _ _ _ (nI n) () dX2_count_4 (rfl) hP hD hS
set_option maxHeartbeats 4000000 in
set_option maxRecDepth 100000 in
theorem c_fault (l : Launch) (G : gG) (sz : Nat) (a : Nat → Nat) (fm fh fw fb fc fd fr fp : Nat → Int32) (n k z t : Nat) (kn : Int32) (pl lf pn : Nat)  (hn : n ≤ 60) (hk : k ≤ 8) (hz : z ≤ 20) (ht : t ≤ 100000) (hpl : pl ≤ 60) (hlf : lf ≤ 6) (hpn : pn ≤ 1560)  : MetI l yX2_fault wsX2_fault ({ frames := 0, cells := 0, slots := 0, locals := 0 } : Room) [.ref (a 0)] G (wC G a fm fh fw fb fc fd fr fp n k z t kn pl lf pn) sz (fun _ : Unit => wC G a fm fh fw fb fc fd fr fp n k z t kn pl lf pn) (fun r _ => r = nI lf) := by
  refine ent_i _ cX2_fault 1 RX2 (by decide) rfl rfl (Nat.le_of_ble_eq_true rfl) ?_
  intro p e s m args below meth c A Q ls hx hb hml hts hown hA hK hX ret hl hP hD hS
  have hl : lv_has ls 1 [(0, .ref (a 0))] := hl
  have lk64 := hts (.fieldLink RX2 64 "MinedLedger" "latestFault" "I") (by decide +kernel)
  have hiX2 : ∀ w ∈ wsX20, w ∈ wsX2_fault := by decide +kernel
  refine lv_aload_n hx hb dX2_fault_0 rfl (lv_at hl 0 rfl) ?_
  refine va_get (D := G.1) (ci := 2) (v := .int (nI lf)) (C := RX2) (T := TX2) (N := 14) hx hb hts hiX2 hown hK hP 0 rfl rfl 12 (by decide) lk64 (fun _ h9 => h9) rfl dX2_fault_1 ?_
  exact ret 4 _ _ _ (nI lf) () dX2_fault_4 (rfl) hP hD hS
set_option maxHeartbeats 4000000 in
set_option maxRecDepth 100000 in
theorem c_begin (l : Launch) (G : gG) (sz : Nat) (a : Nat → Nat) (fm fh fw fb fc fd fr fp : Nat → Int32) (n k z t : Nat) (kn : Int32) (pl lf pn : Nat)  (hn : n ≤ 60) (hk : k ≤ 8) (hz : z ≤ 20) (ht : t ≤ 100000) (hpl : pl ≤ 60) (hlf : lf ≤ 6) (hpn : pn ≤ 1560)  : MetI l yX2_begin wsX2_begin ({ frames := 0, cells := 0, slots := 0, locals := 0 } : Room) [.ref (a 0)] G (wC G a fm fh fw fb fc fd fr fp n k z t kn pl lf pn) sz (fun _ : Unit => wC G a fm fh fw fb fc fd fr fp n k z t kn 0 lf pn) (fun r _ => r = nI pl) := by
  refine ent_i _ cX2_begin 2 RX2 (by decide) rfl rfl (Nat.le_of_ble_eq_true rfl) ?_
  intro p e s m args below meth c A Q ls hx hb hml hts hown hA hK hX ret hl hP hD hS
  have hl : lv_has ls 2 [(0, .ref (a 0))] := hl
  have lk61 := hts (.fieldLink RX2 61 "MinedLedger" "place" "I") (by decide +kernel)
  have hiX2 : ∀ w ∈ wsX20, w ∈ wsX2_begin := by decide +kernel
  refine lv_aload_n hx hb dX2_begin_0 rfl (lv_at hl 0 rfl) ?_
  refine va_get (D := G.1) (ci := 2) (v := .int (nI pl)) (C := RX2) (T := TX2) (N := 14) hx hb hts hiX2 hown hK hP 0 rfl rfl 11 (by decide) lk61 (fun _ h9 => h9) rfl dX2_begin_1 ?_
  refine lv_istore_n (lv' := [(1, .int (nI pl)), (0, .ref (a 0))]) hx hb dX2_begin_4 rfl hl (by decide) rfl (fun ls hl => ?_)
  refine lv_aload_n hx hb dX2_begin_5 rfl (lv_at hl 1 rfl) ?_
  refine lv_iconst (v := nI 0) hx hb dX2_begin_6 (by decide) ?_
  refine va_put (D := G.1) (ci := 2) (v := .int (nI 0)) (ty := .int) (C := RX2) (T := TX2) (N := 14) hx hb hts hiX2 tyX2 tyX2_ok nmX2 hown hK hP hD hS 0 rfl rfl 11 (by decide) lk61 (fun _ h9 => h9) rfl (by decide +kernel) rfl rfl (Nat.le_of_ble_eq_true rfl) dX2_begin_7 (fun H locs hP hD hS => ?_)
  have hP : va_P G.1 vwCl (wC G a fm fh fw fb fc fd fr fp n k z t kn 0 lf pn) H := hP
  have hD : va_D A (wC G a fm fh fw fb fc fd fr fp n k z t kn 0 lf pn) := hD
  refine lv_iload_n hx hb dX2_begin_10 rfl (lv_at hl 0 rfl) ?_
  exact ret 11 _ _ _ (nI pl) () dX2_begin_11 (rfl) hP hD hS
set_option maxHeartbeats 4000000 in
set_option maxRecDepth 100000 in
theorem c_head (l : Launch) (G : gG) (sz : Nat) (a : Nat → Nat) (fm fh fw fb fc fd fr fp : Nat → Int32) (n k z t : Nat) (kn : Int32) (pl lf pn : Nat) (x : Int32) (hn : n ≤ 60) (hk : k ≤ 8) (hz : z ≤ 20) (ht : t ≤ 100000) (hpl : pl ≤ 60) (hlf : lf ≤ 6) (hpn : pn ≤ 1560)  : MetI l yX2_head wsX2_head ({ frames := 0, cells := 0, slots := 0, locals := 0 } : Room) [.ref (a 0), .int x] G (wC G a fm fh fw fb fc fd fr fp n k z t kn pl lf pn) sz (fun _ : Unit => wC G a fm fh fw fb fc fd fr fp n k z t kn pl lf pn) (fun r _ => r = if p_ok x 8 then fd (p_ix x) else nI 0) := by
  refine ent_i _ cX2_head 2 RX2 (by decide) rfl rfl (Nat.le_of_ble_eq_true rfl) ?_
  intro p e s m args below meth c A Q ls hx hb hml hts hown hA hK hX ret hl hP hD hS
  have hl : lv_has ls 2 [(0, .ref (a 0)), (1, .int x)] := hl
  have lk27 := hts (.fieldLink RX2 27 "MinedLedger" "headWords" "[I") (by decide +kernel)
  have hiX2 : ∀ w ∈ wsX20, w ∈ wsX2_head := by decide +kernel
  refine lv_iload_n hx hb dX2_head_0 rfl (lv_at hl 1 rfl) ?_
  refine ifz_lt hx hb x 10 dX2_head_1 (by decide) (fun c1 => ?_) (fun c1 => ?_)
  · refine lv_iconst (v := nI 0) hx hb dX2_head_10 (by decide) ?_
    exact ret 11 _ _ _ (nI 0) () dX2_head_11 (by rw [ok_F (n := 8) (Or.inl c1)]; rfl) hP hD hS
  · refine lv_iload_n hx hb dX2_head_4 rfl (lv_at hl 1 rfl) ?_
    refine lv_bipush (v := nI 8) hx hb dX2_head_5 (by decide) ?_
    refine cmz_ltzn hx hb x 8 12 (by omega) dX2_head_7 (by decide) (fun c7 => ?_) (fun c7 => ?_)
    · obtain ⟨j, hj, rfl⟩ := in_N (n := 8) (by omega) c1 c7
      refine lv_aload_n hx hb dX2_head_12 rfl (lv_at hl 0 rfl) ?_
      refine va_get (D := G.1) (ci := 2) (v := .ref (a 8)) (C := RX2) (T := TX2) (N := 14) hx hb hts hiX2 hown hK hP 0 rfl rfl 3 (by decide) lk27 (fun _ h9 => h9) rfl dX2_head_13 ?_
      refine lv_iload_n hx hb dX2_head_16 rfl (lv_at hl 1 rfl) ?_
      refine rd_i hx hb hK hP 8 rfl j (by omega) (by omega) dX2_head_17 ?_
      exact ret 18 _ _ _ (fd j) () dX2_head_18 (by rw [ok_N (by omega), decide_eq_true hj, if_pos rfl, ix_N hj (by omega)]) hP hD hS
    · refine lv_iconst (v := nI 0) hx hb dX2_head_10 (by decide) ?_
      exact ret 11 _ _ _ (nI 0) () dX2_head_11 (by rw [ok_F (n := 8) (Or.inr c7)]; rfl) hP hD hS
set_option maxHeartbeats 4000000 in
set_option maxRecDepth 100000 in
theorem c_cell (l : Launch) (G : gG) (sz : Nat) (a : Nat → Nat) (fm fh fw fb fc fd fr fp : Nat → Int32) (n k z t : Nat) (kn : Int32) (pl lf pn : Nat) (x y : Int32) (hn : n ≤ 60) (hk : k ≤ 8) (hz : z ≤ 20) (ht : t ≤ 100000) (hpl : pl ≤ 60) (hlf : lf ≤ 6) (hpn : pn ≤ 1560)  : MetI l yX2_cell wsX2_cell ({ frames := 2, cells := 0, slots := 0, locals := 43 } : Room) [.ref (a 0), .int x, .int y] G (wC G a fm fh fw fb fc fd fr fp n k z t kn pl lf pn) sz (fun _ : Unit => wC G a fm fh fw fb fc fd fr fp n k z t kn pl lf pn) (fun r _ => r = if (p_ok x n && p_ok y 34) then fc (p_ix x * 34 + p_ix y) else nI 0) := by
  refine ent_i _ cX2_cell 3 RX2 (by decide) rfl rfl (Nat.le_of_ble_eq_true rfl) ?_
  intro p e s m args below meth c A Q ls hx hb hml hts hown hA hK hX ret hl hP hD hS
  have hl : lv_has ls 3 [(0, .ref (a 0)), (1, .int x), (2, .int y)] := hl
  have lk23 := hts (.fieldLink RX2 23 "MinedLedger" "cells" "[I") (by decide +kernel)
  have hiX2 : ∀ w ∈ wsX20, w ∈ wsX2_cell := by decide +kernel
  refine lv_aload_n hx hb dX2_cell_0 rfl (lv_at hl 0 rfl) ?_
  refine lv_iload_n hx hb dX2_cell_1 rfl (lv_at hl 1 rfl) ?_
  refine lv_iload_n hx hb dX2_cell_2 rfl (lv_at hl 2 rfl) ?_
  refine call_Vi (wr := ([] : va_W)) [.int x, .int y] [] ⟨hx, hb, hml, hown, hts⟩ hK hX hA hP hD hS (c_hasCell l G _ a fm fh fw fb fc fd fr fp n k z t kn pl lf pn x y (by omega) (by omega) (by omega) (by omega) (by omega) (by omega) (by omega)) (cwV 2 hts gX2_cell_X2_hasCell rfl rfl rfl (by decide +kernel) ⟨Nat.le_of_ble_eq_true rfl, Nat.le_of_ble_eq_true rfl⟩) 2 0 rfl rfl rfl [0, 1, 2, 3, 4, 5, 6, 7, 8, 9, 10] [] rfl rfl (by decide) (by decide) (by decide) rfl hl.1 (Nat.le_of_ble_eq_true rfl) dX2_cell_3 ⟨Nat.zero_le _, Nat.zero_le _⟩ (fun r_1 u H locs hw hP hD hS => ?_)
  obtain rfl := hw
  have hP : va_P G.1 vwCl (wC G a fm fh fw fb fc fd fr fp n k z t kn pl lf pn) H := hP
  have hD : va_D A (wC G a fm fh fw fb fc fd fr fp n k z t kn pl lf pn) := hD
  refine lv_if_ne (tgt := 11) hx hb dX2_cell_6 (by decide) (fun c6 => ?_) (fun c6 => ?_)
  · have q6 := bI_n c6
    rw [Bool.and_eq_true] at q6
    obtain ⟨i, hi, rfl⟩ := ok_of (by omega) q6.1
    obtain ⟨j, hj, rfl⟩ := ok_of (n := 34) (by omega) q6.2
    refine lv_aload_n hx hb dX2_cell_11 rfl (lv_at hl 0 rfl) ?_
    refine va_get (D := G.1) (ci := 2) (v := .ref (a 7)) (C := RX2) (T := TX2) (N := 14) hx hb hts hiX2 hown hK hP 0 rfl rfl 2 (by decide) lk23 (fun _ h9 => h9) rfl dX2_cell_12 ?_
    refine lv_iload_n hx hb dX2_cell_15 rfl (lv_at hl 1 rfl) ?_
    refine lv_bipush (v := nI 34) hx hb dX2_cell_16 (by decide) ?_
    refine mu_N hx hb i 34 dX2_cell_18 ?_
    refine lv_iload_n hx hb dX2_cell_19 rfl (lv_at hl 2 rfl) ?_
    refine ad_N hx hb (i * 34) j dX2_cell_20 ?_
    refine rd_i hx hb hK hP 7 rfl ((i * 34) + j) (by omega) (by omega) dX2_cell_21 ?_
    exact ret 22 _ _ _ (fc ((i * 34) + j)) () dX2_cell_22 (by rw [q6.1, q6.2, ix_N hi (by omega), ix_N (n := 34) hj (by omega)]; rfl) hP hD hS
  · refine lv_iconst (v := nI 0) hx hb dX2_cell_9 (by decide) ?_
    exact ret 10 _ _ _ (nI 0) () dX2_cell_10 (by rw [bI_z c6]; rfl) hP hD hS
set_option maxHeartbeats 4000000 in
set_option maxRecDepth 100000 in
theorem c_spoil (l : Launch) (G : gG) (sz : Nat) (a : Nat → Nat) (fm fh fw fb fc fd fr fp : Nat → Int32) (n k z t : Nat) (kn : Int32) (pl lf pn : Nat) (x y w : Int32) (hn : n ≤ 60) (hk : k ≤ 8) (hz : z ≤ 20) (ht : t ≤ 100000) (hpl : pl ≤ 60) (hlf : lf ≤ 6) (hpn : pn ≤ 1560)  : MetI l yX2_spoil wsX2_spoil ({ frames := 2, cells := 0, slots := 0, locals := 43 } : Room) [.ref (a 0), .int x, .int y, .int w] G (wC G a fm fh fw fb fc fd fr fp n k z t kn pl lf pn) sz (fun u : (Nat → Int32) × Nat × Int32 => wC G a fm fh fw fb u.1 fd fr fp n k z u.2.1 u.2.2 pl lf pn) (fun r u => q_spoil fc n t kn x y w r u.1 u.2.1 u.2.2) := by
  refine ent_i _ cX2_spoil 5 RX2 (by decide) rfl rfl (Nat.le_of_ble_eq_true rfl) ?_
  intro p e s m args below meth c A Q ls hx hb hml hts hown hA hK hX ret hl hP hD hS
  have hl : lv_has ls 5 [(0, .ref (a 0)), (1, .int x), (2, .int y), (3, .int w)] := hl
  have lk23 := hts (.fieldLink RX2 23 "MinedLedger" "cells" "[I") (by decide +kernel)
  have hiX2 : ∀ w ∈ wsX20, w ∈ wsX2_spoil := by decide +kernel
  refine lv_aload_n hx hb dX2_spoil_0 rfl (lv_at hl 0 rfl) ?_
  refine lv_iload_n hx hb dX2_spoil_1 rfl (lv_at hl 1 rfl) ?_
  refine lv_iload_n hx hb dX2_spoil_2 rfl (lv_at hl 2 rfl) ?_
  refine call_Vi (wr := ([] : va_W)) [.int x, .int y] [] ⟨hx, hb, hml, hown, hts⟩ hK hX hA hP hD hS (c_hasCell l G _ a fm fh fw fb fc fd fr fp n k z t kn pl lf pn x y (by omega) (by omega) (by omega) (by omega) (by omega) (by omega) (by omega)) (cwV 2 hts gX2_spoil_X2_hasCell rfl rfl rfl (by decide +kernel) ⟨Nat.le_of_ble_eq_true rfl, Nat.le_of_ble_eq_true rfl⟩) 2 0 rfl rfl rfl [0, 1, 2, 3, 4, 5, 6, 7, 8, 9, 10] [] rfl rfl (by decide) (by decide) (by decide) rfl hl.1 (Nat.le_of_ble_eq_true rfl) dX2_spoil_3 ⟨Nat.zero_le _, Nat.zero_le _⟩ (fun r_1 u H locs hw hP hD hS => ?_)
  obtain rfl := hw
  have hP : va_P G.1 vwCl (wC G a fm fh fw fb fc fd fr fp n k z t kn pl lf pn) H := hP
  have hD : va_D A (wC G a fm fh fw fb fc fd fr fp n k z t kn pl lf pn) := hD
  refine lv_if_ne (tgt := 11) hx hb dX2_spoil_6 (by decide) (fun c6 => ?_) (fun c6 => ?_)
  · have q6 := bI_n c6
    rw [Bool.and_eq_true] at q6
    obtain ⟨i, hi, rfl⟩ := ok_of (by omega) q6.1
    obtain ⟨j, hj, rfl⟩ := ok_of (n := 34) (by omega) q6.2
    refine lv_aload_n hx hb dX2_spoil_11 rfl (lv_at hl 0 rfl) ?_
    refine va_get (D := G.1) (ci := 2) (v := .ref (a 7)) (C := RX2) (T := TX2) (N := 14) hx hb hts hiX2 hown hK hP 0 rfl rfl 2 (by decide) lk23 (fun _ h9 => h9) rfl dX2_spoil_12 ?_
    refine lv_iload_n hx hb dX2_spoil_15 rfl (lv_at hl 1 rfl) ?_
    refine lv_bipush (v := nI 34) hx hb dX2_spoil_16 (by decide) ?_
    refine mu_N hx hb i 34 dX2_spoil_18 ?_
    refine lv_iload_n hx hb dX2_spoil_19 rfl (lv_at hl 2 rfl) ?_
    refine ad_N hx hb (i * 34) j dX2_spoil_20 ?_
    refine rd_i hx hb hK hP 7 rfl ((i * 34) + j) (by omega) (by omega) dX2_spoil_21 ?_
    refine lv_istore (lv' := [(4, .int (fc ((i * 34) + j))), (0, .ref (a 0)), (1, .int (nI i)), (2, .int (nI j)), (3, .int w)]) hx hb dX2_spoil_22 hl (by decide) rfl (fun ls hl => ?_)
    refine lv_aload_n hx hb dX2_spoil_24 rfl (lv_at hl 1 rfl) ?_
    refine va_get (D := G.1) (ci := 2) (v := .ref (a 7)) (C := RX2) (T := TX2) (N := 14) hx hb hts hiX2 hown hK hP 0 rfl rfl 2 (by decide) lk23 (fun _ h9 => h9) rfl dX2_spoil_25 ?_
    refine lv_iload_n hx hb dX2_spoil_28 rfl (lv_at hl 2 rfl) ?_
    refine lv_bipush (v := nI 34) hx hb dX2_spoil_29 (by decide) ?_
    refine mu_N hx hb i 34 dX2_spoil_31 ?_
    refine lv_iload_n hx hb dX2_spoil_32 rfl (lv_at hl 3 rfl) ?_
    refine ad_N hx hb (i * 34) j dX2_spoil_33 ?_
    refine lv_iload_n hx hb dX2_spoil_34 rfl (lv_at hl 4 rfl) ?_
    refine wr_i hx hb hK hP hD hS 7 rfl ((i * 34) + j) (by omega) (by omega) dX2_spoil_35 (fun H locs hP hD hS => ?_)
    have hP : va_P G.1 vwCl (wC G a fm fh fw fb (upd fc ((i * 34) + j) w) fd fr fp n k z t kn pl lf pn) H := hP
    have hD : va_D A (wC G a fm fh fw fb (upd fc ((i * 34) + j) w) fd fr fp n k z t kn pl lf pn) := hD
    refine lv_aload_n hx hb dX2_spoil_36 rfl (lv_at hl 1 rfl) ?_
    refine call_Vv (wr := ([] : va_W)) [] [] ⟨hx, hb, hml, hown, hts⟩ hK hX hA hP hD hS (c_forgetNonces l G _ a fm fh fw fb (upd fc ((i * 34) + j) w) fd fr fp n k z t kn pl lf pn  (by omega) (by omega) (by omega) (by omega) (by omega) (by omega) (by omega)) (cwV 0 hts gX2_spoil_X2_forgetNonces rfl rfl rfl (by decide +kernel) ⟨Nat.le_of_ble_eq_true rfl, Nat.le_of_ble_eq_true rfl⟩) 2 0 rfl rfl rfl [0, 1, 2, 3, 4, 5, 6, 7, 8, 9, 10] [] rfl rfl (by decide) (by decide) (by decide) rfl hl.1 (Nat.le_of_ble_eq_true rfl) dX2_spoil_37 ⟨Nat.zero_le _, Nat.zero_le _⟩ (fun u H locs hw hP hD hS => ?_)
    have hP : va_P G.1 vwCl (wC G a fm fh fw fb (upd fc ((i * 34) + j) w) fd fr fp n k z 0 (-1) pl lf pn) H := hP
    have hD : va_D A (wC G a fm fh fw fb (upd fc ((i * 34) + j) w) fd fr fp n k z 0 (-1) pl lf pn) := hD
    refine lv_iload hx hb dX2_spoil_40 (lv_at hl 0 rfl) ?_
    exact ret 42 _ _ _ (fc ((i * 34) + j)) (upd fc ((i * 34) + j) w, 0, (-1)) dX2_spoil_42 (Or.inr ⟨i, j, hi, hj, rfl, rfl, rfl, rfl, rfl, rfl⟩) hP hD hS
  · refine lv_iconst (v := nI 0) hx hb dX2_spoil_9 (by decide) ?_
    exact ret 10 _ _ _ (nI 0) (fc, t, kn) dX2_spoil_10 (Or.inl ⟨bI_z c6, rfl, rfl, rfl, rfl⟩) hP hD hS
set_option maxHeartbeats 4000000 in
set_option maxRecDepth 100000 in
theorem c_proof (l : Launch) (G : gG) (sz : Nat) (a : Nat → Nat) (fm fh fw fb fc fd fr fp : Nat → Int32) (n k z t : Nat) (kn : Int32) (pl lf pn : Nat) (x : Int32) (hn : n ≤ 60) (hk : k ≤ 8) (hz : z ≤ 20) (ht : t ≤ 100000) (hpl : pl ≤ 60) (hlf : lf ≤ 6) (hpn : pn ≤ 1560)  : MetI l yX2_proof wsX2_proof ({ frames := 0, cells := 0, slots := 0, locals := 0 } : Room) [.ref (a 0), .int x] G (wC G a fm fh fw fb fc fd fr fp n k z t kn pl lf pn) sz (fun _ : Unit => wC G a fm fh fw fb fc fd fr fp n k z t kn pl lf pn) (fun r _ => r = if p_ok x pn then fp (p_ix x) else nI 0) := by
  refine ent_i _ cX2_proof 2 RX2 (by decide) rfl rfl (Nat.le_of_ble_eq_true rfl) ?_
  intro p e s m args below meth c A Q ls hx hb hml hts hown hA hK hX ret hl hP hD hS
  have hl : lv_has ls 2 [(0, .ref (a 0)), (1, .int x)] := hl
  have lk33 := hts (.fieldLink RX2 33 "MinedLedger" "proofWords" "[I") (by decide +kernel)
  have lk67 := hts (.fieldLink RX2 67 "MinedLedger" "proofLength" "I") (by decide +kernel)
  have hiX2 : ∀ w ∈ wsX20, w ∈ wsX2_proof := by decide +kernel
  refine lv_iload_n hx hb dX2_proof_0 rfl (lv_at hl 1 rfl) ?_
  refine ifz_lt hx hb x 12 dX2_proof_1 (by decide) (fun c1 => ?_) (fun c1 => ?_)
  · refine lv_iconst (v := nI 0) hx hb dX2_proof_12 (by decide) ?_
    exact ret 13 _ _ _ (nI 0) () dX2_proof_13 (by rw [ok_F (Or.inl c1)]; rfl) hP hD hS
  · refine lv_iload_n hx hb dX2_proof_4 rfl (lv_at hl 1 rfl) ?_
    refine lv_aload_n hx hb dX2_proof_5 rfl (lv_at hl 0 rfl) ?_
    refine va_get (D := G.1) (ci := 2) (v := .int (nI pn)) (C := RX2) (T := TX2) (N := 14) hx hb hts hiX2 hown hK hP 0 rfl rfl 13 (by decide) lk67 (fun _ h9 => h9) rfl dX2_proof_6 ?_
    refine cmz_ltzn hx hb x pn 14 (by omega) dX2_proof_9 (by decide) (fun c9 => ?_) (fun c9 => ?_)
    · obtain ⟨j, hj, rfl⟩ := in_N (by omega) c1 c9
      refine lv_aload_n hx hb dX2_proof_14 rfl (lv_at hl 0 rfl) ?_
      refine va_get (D := G.1) (ci := 2) (v := .ref (a 10)) (C := RX2) (T := TX2) (N := 14) hx hb hts hiX2 hown hK hP 0 rfl rfl 5 (by decide) lk33 (fun _ h9 => h9) rfl dX2_proof_15 ?_
      refine lv_iload_n hx hb dX2_proof_18 rfl (lv_at hl 1 rfl) ?_
      refine rd_i hx hb hK hP 10 rfl j (by omega) (by omega) dX2_proof_19 ?_
      exact ret 20 _ _ _ (fp j) () dX2_proof_20 (by rw [ok_N (by omega), decide_eq_true hj, if_pos rfl, ix_N hj (by omega)]) hP hD hS
    · refine lv_iconst (v := nI 0) hx hb dX2_proof_12 (by decide) ?_
      exact ret 13 _ _ _ (nI 0) () dX2_proof_13 (by rw [ok_F (Or.inr c9)]; rfl) hP hD hS
set_option maxHeartbeats 4000000 in
set_option maxRecDepth 100000 in
theorem c_forge (l : Launch) (G : gG) (sz : Nat) (a : Nat → Nat) (fm fh fw fb fc fd fr fp : Nat → Int32) (n k z t : Nat) (kn : Int32) (pl lf pn : Nat) (x w : Int32) (hn : n ≤ 60) (hk : k ≤ 8) (hz : z ≤ 20) (ht : t ≤ 100000) (hpl : pl ≤ 60) (hlf : lf ≤ 6) (hpn : pn ≤ 1560)  : MetI l yX2_forge wsX2_forge ({ frames := 0, cells := 0, slots := 0, locals := 0 } : Room) [.ref (a 0), .int x, .int w] G (wC G a fm fh fw fb fc fd fr fp n k z t kn pl lf pn) sz (fun u : (Nat → Int32) => wC G a fm fh fw fb fc fd fr u n k z t kn pl lf pn) (fun r u => q_forge fp pn x w r u) := by
  refine ent_i _ cX2_forge 4 RX2 (by decide) rfl rfl (Nat.le_of_ble_eq_true rfl) ?_
  intro p e s m args below meth c A Q ls hx hb hml hts hown hA hK hX ret hl hP hD hS
  have hl : lv_has ls 4 [(0, .ref (a 0)), (1, .int x), (2, .int w)] := hl
  have lk33 := hts (.fieldLink RX2 33 "MinedLedger" "proofWords" "[I") (by decide +kernel)
  have lk67 := hts (.fieldLink RX2 67 "MinedLedger" "proofLength" "I") (by decide +kernel)
  have hiX2 : ∀ w ∈ wsX20, w ∈ wsX2_forge := by decide +kernel
  refine lv_iload_n hx hb dX2_forge_0 rfl (lv_at hl 1 rfl) ?_
  refine ifz_lt hx hb x 12 dX2_forge_1 (by decide) (fun c1 => ?_) (fun c1 => ?_)
  · refine lv_iconst (v := nI 0) hx hb dX2_forge_12 (by decide) ?_
    exact ret 13 _ _ _ (nI 0) fp dX2_forge_13 (Or.inl ⟨ok_F (Or.inl c1), rfl, rfl⟩) hP hD hS
  · refine lv_iload_n hx hb dX2_forge_4 rfl (lv_at hl 1 rfl) ?_
    refine lv_aload_n hx hb dX2_forge_5 rfl (lv_at hl 0 rfl) ?_
    refine va_get (D := G.1) (ci := 2) (v := .int (nI pn)) (C := RX2) (T := TX2) (N := 14) hx hb hts hiX2 hown hK hP 0 rfl rfl 13 (by decide) lk67 (fun _ h9 => h9) rfl dX2_forge_6 ?_
    refine cmz_ltzn hx hb x pn 14 (by omega) dX2_forge_9 (by decide) (fun c9 => ?_) (fun c9 => ?_)
    · obtain ⟨j, hj, rfl⟩ := in_N (by omega) c1 c9
      refine lv_aload_n hx hb dX2_forge_14 rfl (lv_at hl 0 rfl) ?_
      refine va_get (D := G.1) (ci := 2) (v := .ref (a 10)) (C := RX2) (T := TX2) (N := 14) hx hb hts hiX2 hown hK hP 0 rfl rfl 5 (by decide) lk33 (fun _ h9 => h9) rfl dX2_forge_15 ?_
      refine lv_iload_n hx hb dX2_forge_18 rfl (lv_at hl 1 rfl) ?_
      refine rd_i hx hb hK hP 10 rfl j (by omega) (by omega) dX2_forge_19 ?_
      refine lv_istore_n (lv' := [(3, .int (fp j)), (0, .ref (a 0)), (1, .int (nI j)), (2, .int w)]) hx hb dX2_forge_20 rfl hl (by decide) rfl (fun ls hl => ?_)
      refine lv_aload_n hx hb dX2_forge_21 rfl (lv_at hl 1 rfl) ?_
      refine va_get (D := G.1) (ci := 2) (v := .ref (a 10)) (C := RX2) (T := TX2) (N := 14) hx hb hts hiX2 hown hK hP 0 rfl rfl 5 (by decide) lk33 (fun _ h9 => h9) rfl dX2_forge_22 ?_
      refine lv_iload_n hx hb dX2_forge_25 rfl (lv_at hl 2 rfl) ?_
      refine lv_iload_n hx hb dX2_forge_26 rfl (lv_at hl 3 rfl) ?_
      refine wr_i hx hb hK hP hD hS 10 rfl j (by omega) (by omega) dX2_forge_27 (fun H locs hP hD hS => ?_)
      have hP : va_P G.1 vwCl (wC G a fm fh fw fb fc fd fr (upd fp j w) n k z t kn pl lf pn) H := hP
      have hD : va_D A (wC G a fm fh fw fb fc fd fr (upd fp j w) n k z t kn pl lf pn) := hD
      refine lv_iload_n hx hb dX2_forge_28 rfl (lv_at hl 0 rfl) ?_
      exact ret 29 _ _ _ (fp j) (upd fp j w) dX2_forge_29 (Or.inr ⟨j, hj, rfl, rfl, rfl⟩) hP hD hS
    · refine lv_iconst (v := nI 0) hx hb dX2_forge_12 (by decide) ?_
      exact ret 13 _ _ _ (nI 0) fp dX2_forge_13 (Or.inl ⟨ok_F (Or.inr c9), rfl, rfl⟩) hP hD hS
set_option maxHeartbeats 4000000 in
set_option maxRecDepth 100000 in
theorem c_stir (l : Launch) (G : gG) (sz : Nat) (a : Nat → Nat) (fm fh fw fb fc fd fr fp : Nat → Int32) (n k z t : Nat) (kn : Int32) (pl lf pn : Nat) (x y : Int32) (hn : n ≤ 60) (hk : k ≤ 8) (hz : z ≤ 20) (ht : t ≤ 100000) (hpl : pl ≤ 60) (hlf : lf ≤ 6) (hpn : pn ≤ 1560)  : MetI l yX2_stir wsX2_stir ({ frames := 2, cells := 0, slots := 0, locals := 44 } : Room) [.ref (a 0), .int x, .int y] G (wC G a fm fh fw fb fc fd fr fp n k z t kn pl lf pn) sz (fun _ : Unit => wC G a fm fh fw fb fc fd fr fp n k z t kn pl lf pn) (fun r _ => r = p_stir x y) := by
  refine ent_i _ cX2_stir 3 RX2 (by decide) rfl rfl (Nat.le_of_ble_eq_true rfl) ?_
  intro p e s m args below meth c A Q ls hx hb hml hts hown hA hK hX ret hl hP hD hS
  have hl : lv_has ls 3 [(0, .ref (a 0)), (1, .int x), (2, .int y)] := hl
  refine lv_iload_n hx hb dX2_stir_0 rfl (lv_at hl 1 rfl) ?_
  refine lv_iload_n hx hb dX2_stir_1 rfl (lv_at hl 2 rfl) ?_
  refine call_Si (wr := ([(a 0, .inr (2, [.ref (a 1), .ref (a 5), .ref (a 7), .ref (a 8), .ref (a 9), .ref (a 10), .int (nI n), .int (nI k), .int (nI z), .int (nI t), .int kn, .int (nI pl), .int (nI lf), .int (nI pn)])), (a 1, .inr (1, [.ref (a 2), .ref (a 3), .ref (a 4)])), (a 2, .inl (G.2.2.1, 8, .inl fm)), (a 3, .inl (G.2.2.1, 8, .inl fh)), (a 4, .inl (G.2.2.1, 64, .inl fw)), (a 5, .inr (0, [.ref (a 6)])), (a 6, .inl (G.2.2.1, 32, .inl fb)), (a 7, .inl (G.2.2.1, 2040, .inl fc)), (a 8, .inl (G.2.2.1, 8, .inl fd)), (a 9, .inl (G.2.2.1, 34, .inl fr)), (a 10, .inl (G.2.2.1, 1560, .inl fp))] : va_W)) [.int x, .int y] [] ⟨hx, hb, hml, hown, hts⟩ hK hX hA hP hD hS (c_stirred l G _ x y) (va_cwS 2 hts gX2_stir_X0_stirred rfl rfl rfl (by decide +kernel) ⟨Nat.le_of_ble_eq_true rfl, Nat.le_of_ble_eq_true rfl⟩) [] [0, 1, 2, 3, 4, 5, 6, 7, 8, 9, 10] rfl rfl (by decide) (by decide) (by decide) rfl hl.1 (Nat.le_of_ble_eq_true rfl) dX2_stir_2 ⟨Nat.zero_le _, Nat.zero_le _⟩ (fun r_1 u H locs hw hP hD hS => ?_)
  obtain rfl := hw
  have hP : va_P G.1 vwCl (wC G a fm fh fw fb fc fd fr fp n k z t kn pl lf pn) H := hP
  have hD : va_D A (wC G a fm fh fw fb fc fd fr fp n k z t kn pl lf pn) := hD
  exact ret 5 _ _ _ (p_stir x y) () dX2_stir_5 (rfl) hP hD hS
set_option maxHeartbeats 4000000 in
set_option maxRecDepth 100000 in
theorem c_may (l : Launch) (G : gG) (sz : Nat) (a : Nat → Nat) (fm fh fw fb fc fd fr fp : Nat → Int32) (n k z t : Nat) (kn : Int32) (pl lf pn : Nat) (x : Int32) (hn : n ≤ 60) (hk : k ≤ 8) (hz : z ≤ 20) (ht : t ≤ 100000) (hpl : pl ≤ 60) (hlf : lf ≤ 6) (hpn : pn ≤ 1560)  : MetI l yX2_may wsX2_may ({ frames := 4, cells := 0, slots := 0, locals := 88 } : Room) [.ref (a 0), .int x] G (wC G a fm fh fw fb fc fd fr fp n k z t kn pl lf pn) sz (fun _ : Unit => wC G a fm fh fw fb fc fd fr fp n k z t kn pl lf pn) (fun r _ => r = bI (allN (p_has fb x) 4)) := by
  refine ent_i _ cX2_may 2 RX2 (by decide) rfl rfl (Nat.le_of_ble_eq_true rfl) ?_
  intro p e s m args below meth c A Q ls hx hb hml hts hown hA hK hX ret hl hP hD hS
  have hl : lv_has ls 2 [(0, .ref (a 0)), (1, .int x)] := hl
  have lk19 := hts (.fieldLink RX2 19 "MinedLedger" "filter" "LMinedLedger$Filter;") (by decide +kernel)
  have hiX2 : ∀ w ∈ wsX20, w ∈ wsX2_may := by decide +kernel
  refine lv_aload_n hx hb dX2_may_0 rfl (lv_at hl 0 rfl) ?_
  refine va_get (D := G.1) (ci := 2) (v := .ref (a 5)) (C := RX2) (T := TX2) (N := 14) hx hb hts hiX2 hown hK hP 0 rfl rfl 1 (by decide) lk19 (fun _ h9 => h9) rfl dX2_may_1 ?_
  refine lv_iload_n hx hb dX2_may_4 rfl (lv_at hl 1 rfl) ?_
  refine call_Vi (wr := ([(a 0, .inr (2, [.ref (a 1), .ref (a 5), .ref (a 7), .ref (a 8), .ref (a 9), .ref (a 10), .int (nI n), .int (nI k), .int (nI z), .int (nI t), .int kn, .int (nI pl), .int (nI lf), .int (nI pn)])), (a 1, .inr (1, [.ref (a 2), .ref (a 3), .ref (a 4)])), (a 2, .inl (G.2.2.1, 8, .inl fm)), (a 3, .inl (G.2.2.1, 8, .inl fh)), (a 4, .inl (G.2.2.1, 64, .inl fw)), (a 7, .inl (G.2.2.1, 2040, .inl fc)), (a 8, .inl (G.2.2.1, 8, .inl fd)), (a 9, .inl (G.2.2.1, 34, .inl fr)), (a 10, .inl (G.2.2.1, 1560, .inl fp))] : va_W)) [.int x] [] ⟨hx, hb, hml, hown, hts⟩ hK hX hA hP hD hS (c_mayHave l G _ (a 5) (a 6) fb x) (cwV 1 hts gX2_may_X0_mayHave rfl rfl rfl (by decide +kernel) ⟨Nat.le_of_ble_eq_true rfl, Nat.le_of_ble_eq_true rfl⟩) 0 5 rfl rfl rfl [5, 6] [0, 1, 2, 3, 4, 7, 8, 9, 10] rfl rfl (by decide) (by decide) (by decide) rfl hl.1 (Nat.le_of_ble_eq_true rfl) dX2_may_5 ⟨Nat.zero_le _, Nat.zero_le _⟩ (fun r_1 u H locs hw hP hD hS => ?_)
  obtain rfl := hw
  have hP : va_P G.1 vwCl (wC G a fm fh fw fb fc fd fr fp n k z t kn pl lf pn) H := hP.sub [0, 1, 2, 3, 4, 9, 10, 5, 6, 7, 8] rfl
  have hD : va_D A (wC G a fm fh fw fb fc fd fr fp n k z t kn pl lf pn) := hD.sub [0, 1, 2, 3, 4, 9, 10, 5, 6, 7, 8] (by decide) rfl
  refine lv_if_eq (tgt := 15) hx hb dX2_may_8 (by decide) (fun c8 => ?_) (fun c8 => ?_)
  · refine lv_iconst (v := nI 0) hx hb dX2_may_15 (by decide) ?_
    exact ret 16 _ _ _ (nI 0) () dX2_may_16 (by rw [bI_z c8]; rfl) hP hD hS
  · refine lv_iconst (v := nI 1) hx hb dX2_may_11 (by decide) ?_
    refine lv_goto (tgt := 16) hx hb dX2_may_12 (by decide) ?_
    exact ret 16 _ _ _ (nI 1) () dX2_may_16 (by rw [bI_n c8]; rfl) hP hD hS
end
section
def anyN (p : Nat → Bool) (n : Nat) : Bool := !allN (fun i => !p i) n
theorem anyN_F {p : Nat → Bool} {n : Nat} (h : ∀ i, i < n → ¬ p i = true) : anyN p n = false := by
  rw [anyN, allN_iff.mpr (fun i hi => by have := h i hi; cases q : p i with | false => rfl | true => exact absurd q this)]; rfl
theorem anyN_T {p : Nat → Bool} {n i : Nat} (hi : i < n) (h : p i = true) : anyN p n = true := by
  cases q : anyN p n with
  | true => rfl
  | false =>
    rw [anyN] at q
    have := allN_iff.mp (show allN (fun i => !p i) n = true by cases z : allN (fun i => !p i) n with | true => rfl | false => rw [z] at q; cases q) i hi
    rw [h] at this
    cases this
def p_cph (fc fr : Nat → Int32) (n : Nat) (x : Int32) (d : Nat) : Nat → Int32 := if p_ok x n then va_cpy fc fr (p_ix x * 34 + 26) d 8 else p_fill fr d (d + 8) (nI 0)
def p_drf (fc fr : Nat → Int32) (n k z : Nat) : Nat → Int32 := upd (p_cph fc (p_cph fc fr n (nI n - nI 1) 0) n (p_skI n) 8) 24 (nI (16 * z + k))
theorem p_lz_le (x : Int32) : p_lz x ≤ 32 := by
  simp only [p_lz]
  split <;> omega
theorem p_zr_le (h : Nat → Int32) : ∀ n i, p_zr h n i ≤ 32 * (i + n)
  | 0, i => Nat.le_refl _
  | n + 1, i => by
    rw [p_zr]
    split
    · have := p_zr_le h n (i + 1); omega
    · have := p_lz_le (h i); omega
theorem p_zeros_le (h : Nat → Int32) : p_zeros h ≤ 256 := p_zr_le h 8 0
theorem p_zr_congr {h g : Nat → Int32} : ∀ n i, (∀ j, i ≤ j → j < i + n → h j = g j) → p_zr h n i = p_zr g n i
  | 0, i, _ => rfl
  | n + 1, i, e => by
    rw [p_zr, p_zr, e i (Nat.le_refl _) (by omega), p_zr_congr n (i + 1) (fun j h1 h2 => e j (by omega) (by omega))]
theorem p_zeros_congr {h g : Nat → Int32} (e : ∀ j, j < 8 → h j = g j) : p_zeros h = p_zeros g := p_zr_congr 8 0 (fun j _ hj => e j (by omega))
def p_nz (f : Nat → Int32) (v : Nat) : Nat := p_zeros (p_hash (upd f 25 (nI v)) 0)
theorem b2_congr {f g : Nat → Int32} {k i : Nat} (h : ∀ j, j < 10 → f (k + 16 + j) = g (i + 16 + j)) : ∀ j, j < 16 → p_b2 f k j = p_b2 g i j := by
  intro j hj
  simp only [p_b2]
  by_cases q : j < 10
  · rw [if_pos q, if_pos q, h j q]
  · rw [if_neg q, if_neg q]
theorem hash_congr {f g : Nat → Int32} {k i : Nat} (h : ∀ j, j < 26 → f (k + j) = g (i + j)) : ∀ j, j < 8 → p_hash f k j = p_hash g i j :=
  p_mix_congr (p_mix_congr (fun _ _ => rfl) (fun j hj => h j (by omega))) (b2_congr (fun j hj => by rw [Nat.add_assoc, Nat.add_assoc]; exact h (16 + j) (by omega)))
theorem nz_eq {mu fr ff : Nat → Int32} (v : Int32) (hm : ∀ j, j < 8 → mu j = p_h1 fr 0 j) (hf : ∀ j, j < 25 → ff j = fr j) : ∀ j, j < 8 → p_mix mu (p_b2 (upd ff 25 v) 0) j = p_hash (upd fr 25 v) 0 j := by
  refine p_mix_congr (fun j hj => ?_) (b2_congr (fun j hj => ?_))
  · rw [hm j hj]
    refine p_mix_congr (fun _ _ => rfl) (fun i hi => ?_) j hj
    rw [pk_un (by omega)]
  · by_cases q : 0 + 16 + j = 25
    · rw [q, pk_us, pk_us]
    · rw [pk_un q, pk_un q, hf _ (by omega)]
/-- what trying nonces comes to: from t on, q of them -/
def q_try (f : Nat → Int32) (z t q : Nat) (f' : Nat → Int32) (t' : Nat) (kn' : Int32) : Prop :=
  (kn' = (-1) ∧ t' = t + q ∧ (∀ j, j < 25 → f' j = f j) ∧ ∀ j, t ≤ j → j < t + q → p_nz f j < z) ∨
  (∃ v : Nat, t ≤ v ∧ v < t + q ∧ (∀ j, t ≤ j → j < v → p_nz f j < z) ∧ z ≤ p_nz f v ∧ kn' = nI v ∧ t' = v + 1 ∧ (∀ j, j < 26 → f' j = upd f 25 (nI v) j) ∧ ∀ j, j < 8 → f' (26 + j) = p_hash (upd f 25 (nI v)) 0 j)
def q_mine (fc fr : Nat → Int32) (n k z t : Nat) (kn x r : Int32) (fr' : Nat → Int32) (t' : Nat) (kn' : Int32) : Prop :=
  ((x.toInt < 1 ∨ 3000 < x.toInt) ∧ r = (-2) ∧ fr' = fr ∧ t' = t ∧ kn' = kn) ∨
  ((1 ≤ x.toInt ∧ x.toInt ≤ 3000) ∧ ((¬ kn = (-1) ∧ r = kn ∧ fr' = fr ∧ t' = t ∧ kn' = kn) ∨ (kn = (-1) ∧ ((100000 ≤ t ∧ r = (-3) ∧ fr' = fr ∧ t' = t ∧ kn' = kn) ∨
    (t < 100000 ∧ ∃ q : Nat, x = nI q ∧ q_try (p_drf fc fr n k z) z t (min q (100000 - t)) fr' t' kn' ∧ r = kn')))))
theorem nI_m1 {v : Nat} (h : v < 2147483648) : ¬ nI v = (-1) := by
  intro q
  have e := tI_N h
  rw [q] at e
  have : ((-1 : Int32)).toInt = -1 := by decide
  omega
def p_addN (fb fc : Nat → Int32) (b : Nat) : Nat → Nat → Int32
  | 0 => fb
  | i + 1 => p_incN (p_addN fb fc b i) (fc (b + i)) 4
def p_remN (fb fc : Nat → Int32) : Nat → Nat → Int32
  | 0 => p_fill fb 0 32 (nI 0)
  | e + 1 => p_addN (p_remN fb fc e) fc (e * 34 + 16) 8
def p_hw (fc : Nat → Int32) (x : Int32) (e : Nat) : Bool := anyN (fun i => decide (fc (e * 34 + 16 + i) = x)) 8
def q_find (fb fc : Nat → Int32) (n : Nat) (x r : Int32) : Prop :=
  (allN (p_has fb x) 4 = false ∧ r = (-1)) ∨ (allN (p_has fb x) 4 = true ∧ ((∃ e : Nat, e < n ∧ r = nI e ∧ p_hw fc x e = true ∧ ∀ i, i < e → p_hw fc x i = false) ∨ (r = (-1) ∧ ∀ i, i < n → p_hw fc x i = false)))
def q_commit (fb fc fd fr : Nat → Int32) (n k t : Nat) (kn r : Int32) (fb' fc' fd' fr' : Nat → Int32) (n' k' t' : Nat) (kn' : Int32) : Prop :=
  (60 ≤ n ∧ r = (-4) ∧ fb' = fb ∧ fc' = fc ∧ fd' = fd ∧ fr' = fr ∧ n' = n ∧ k' = k ∧ t' = t ∧ kn' = kn) ∨
  (n < 60 ∧ ((kn = (-1) ∧ r = (-3) ∧ fb' = fb ∧ fc' = fc ∧ fd' = fd ∧ fr' = fr ∧ n' = n ∧ k' = k ∧ t' = t ∧ kn' = kn) ∨
    (¬ kn = (-1) ∧ r = nI n ∧ fc' = va_cpy fr fc 0 (n * 34) 34 ∧ fb' = p_addN fb (va_cpy fr fc 0 (n * 34) 34) (n * 34 + 16) 8 ∧ fd' = va_cpy fr fd 26 0 8 ∧ fr' = p_fill fr (16 + 0) 24 (nI 0) ∧ n' = n + 1 ∧ k' = 0 ∧ t' = 0 ∧ kn' = (-1))))
def q_drop (fb fc fd : Nat → Int32) (n t : Nat) (kn : Int32) (pl : Nat) (r : Int32) (fb' fd' : Nat → Int32) (n' t' : Nat) (kn' : Int32) (pl' : Nat) : Prop :=
  (n = 0 ∧ r = (-1) ∧ fb' = fb ∧ fd' = fd ∧ n' = n ∧ t' = t ∧ kn' = kn ∧ pl' = pl) ∨
  (0 < n ∧ r = nI (n - 1) ∧ fb' = p_remN fb fc (n - 1) ∧ fd' = va_cpy fc fd ((n - 1) * 34 + 0) 0 8 ∧ n' = n - 1 ∧ t' = 0 ∧ kn' = (-1) ∧ pl' = min pl (n - 1))
set_option maxHeartbeats 4000000 in
set_option maxRecDepth 100000 in
theorem c_copyHashOf (l : Launch) (G : gG) (sz : Nat) (a : Nat → Nat) (fm fh fw fb fc fd fr fp : Nat → Int32) (n k z t : Nat) (kn : Int32) (pl lf pn : Nat) (x : Int32) (d : Nat) (hn : n ≤ 60) (hk : k ≤ 8) (hz : z ≤ 20) (ht : t ≤ 100000) (hpl : pl ≤ 60) (hlf : lf ≤ 6) (hpn : pn ≤ 1560) (hd : d + 8 ≤ 34) : MetV l yX2_copyHashOf wsX2_copyHashOf ({ frames := 2, cells := 0, slots := 0, locals := 46 } : Room) [.ref (a 0), .int x, .int (nI d)] G (wC G a fm fh fw fb fc fd fr fp n k z t kn pl lf pn) sz (fun _ : Unit => wC G a fm fh fw fb fc fd (p_cph fc fr n x d) fp n k z t kn pl lf pn) (fun _ => True) := by
  refine ent_v _ cX2_copyHashOf 3 RX2 (by decide) rfl rfl (Nat.le_of_ble_eq_true rfl) ?_
  intro p e s m args below meth c A Q ls hx hb hml hts hown hA hK hX ret hl hP hD hS
  have hl : lv_has ls 3 [(0, .ref (a 0)), (1, .int x), (2, .int (nI d))] := hl
  have lk23 := hts (.fieldLink RX2 23 "MinedLedger" "cells" "[I") (by decide +kernel)
  have lk30 := hts (.fieldLink RX2 30 "MinedLedger" "draft" "[I") (by decide +kernel)
  have hiX2 : ∀ w ∈ wsX20, w ∈ wsX2_copyHashOf := by decide +kernel
  refine lv_aload_n hx hb dX2_copyHashOf_0 rfl (lv_at hl 0 rfl) ?_
  refine lv_iload_n hx hb dX2_copyHashOf_1 rfl (lv_at hl 1 rfl) ?_
  refine call_Vi (wr := ([] : va_W)) [.int x] [] ⟨hx, hb, hml, hown, hts⟩ hK hX hA hP hD hS (c_hasEntry l G _ a fm fh fw fb fc fd fr fp n k z t kn pl lf pn x (by omega) (by omega) (by omega) (by omega) (by omega) (by omega) (by omega)) (cwV 1 hts gX2_copyHashOf_X2_hasEntry rfl rfl rfl (by decide +kernel) ⟨Nat.le_of_ble_eq_true rfl, Nat.le_of_ble_eq_true rfl⟩) 2 0 rfl rfl rfl [0, 1, 2, 3, 4, 5, 6, 7, 8, 9, 10] [] rfl rfl (by decide) (by decide) (by decide) rfl hl.1 (Nat.le_of_ble_eq_true rfl) dX2_copyHashOf_2 ⟨Nat.zero_le _, Nat.zero_le _⟩ (fun r_1 u H locs hw hP hD hS => ?_)
  obtain rfl := hw
  have hP : va_P G.1 vwCl (wC G a fm fh fw fb fc fd fr fp n k z t kn pl lf pn) H := hP
  have hD : va_D A (wC G a fm fh fw fb fc fd fr fp n k z t kn pl lf pn) := hD
  refine lv_if_eq (tgt := 32) hx hb dX2_copyHashOf_5 (by decide) (fun c5 => ?_) (fun c5 => ?_)
  · refine lv_aload_n hx hb dX2_copyHashOf_32 rfl (lv_at hl 0 rfl) ?_
    refine va_get (D := G.1) (ci := 2) (v := .ref (a 9)) (C := RX2) (T := TX2) (N := 14) hx hb hts hiX2 hown hK hP 0 rfl rfl 4 (by decide) lk30 (fun _ h9 => h9) rfl dX2_copyHashOf_33 ?_
    refine lv_iload_n hx hb dX2_copyHashOf_36 rfl (lv_at hl 2 rfl) ?_
    refine lv_iload_n hx hb dX2_copyHashOf_37 rfl (lv_at hl 2 rfl) ?_
    refine lv_bipush (v := nI 8) hx hb dX2_copyHashOf_38 (by decide) ?_
    refine ad_N hx hb d 8 dX2_copyHashOf_40 ?_
    refine lv_iconst (v := nI 0) hx hb dX2_copyHashOf_41 (by decide) ?_
    refine call_Sv (wr := ([(a 0, .inr (2, [.ref (a 1), .ref (a 5), .ref (a 7), .ref (a 8), .ref (a 9), .ref (a 10), .int (nI n), .int (nI k), .int (nI z), .int (nI t), .int kn, .int (nI pl), .int (nI lf), .int (nI pn)])), (a 1, .inr (1, [.ref (a 2), .ref (a 3), .ref (a 4)])), (a 2, .inl (G.2.2.1, 8, .inl fm)), (a 3, .inl (G.2.2.1, 8, .inl fh)), (a 4, .inl (G.2.2.1, 64, .inl fw)), (a 5, .inr (0, [.ref (a 6)])), (a 6, .inl (G.2.2.1, 32, .inl fb)), (a 7, .inl (G.2.2.1, 2040, .inl fc)), (a 8, .inl (G.2.2.1, 8, .inl fd)), (a 10, .inl (G.2.2.1, 1560, .inl fp))] : va_W)) [.ref (a 9), .int (nI d), .int (nI (d + 8)), .int (nI 0)] [] ⟨hx, hb, hml, hown, hts⟩ hK hX hA hP hD hS (c_fill4 l G _ (a 9) 34 d (d + 8) fr (nI 0) (by omega) (by omega) (by omega)) (va_cwS 4 hts gX2_copyHashOf_J7_fill_fda19 rfl rfl rfl (by decide +kernel) ⟨Nat.le_of_ble_eq_true rfl, Nat.le_of_ble_eq_true rfl⟩) [9] [0, 1, 2, 3, 4, 5, 6, 7, 8, 10] rfl rfl (by decide) (by decide) (by decide) rfl hl.1 (Nat.le_of_ble_eq_true rfl) dX2_copyHashOf_42 ⟨Nat.zero_le _, Nat.zero_le _⟩ (fun u H locs hw hP hD hS => ?_)
    have hP : va_P G.1 vwCl (wC G a fm fh fw fb fc fd (p_fill fr d (d + 8) (nI 0)) fp n k z t kn pl lf pn) H := hP.sub [0, 1, 2, 3, 4, 5, 6, 7, 8, 10, 9] rfl
    have hD : va_D A (wC G a fm fh fw fb fc fd (p_fill fr d (d + 8) (nI 0)) fp n k z t kn pl lf pn) := hD.sub [0, 1, 2, 3, 4, 5, 6, 7, 8, 10, 9] (by decide) rfl
    have ec : p_cph fc fr n x d = p_fill fr d (d + 8) (nI 0) := by rw [p_cph, bI_z c5]; rfl
    have hP : va_P G.1 vwCl (wC G a fm fh fw fb fc fd (p_cph fc fr n x d) fp n k z t kn pl lf pn) H := by rw [ec]; exact hP
    have hD : va_D A (wC G a fm fh fw fb fc fd (p_cph fc fr n x d) fp n k z t kn pl lf pn) := by rw [ec]; exact hD
    exact ret 45 _ _ _ () dX2_copyHashOf_45 (trivial) hP hD hS
  · have q5 := bI_n c5
    obtain ⟨j, hj, rfl⟩ := ok_of (by omega) q5
    refine lv_aload_n hx hb dX2_copyHashOf_8 rfl (lv_at hl 0 rfl) ?_
    refine va_get (D := G.1) (ci := 2) (v := .ref (a 7)) (C := RX2) (T := TX2) (N := 14) hx hb hts hiX2 hown hK hP 0 rfl rfl 2 (by decide) lk23 (fun _ h9 => h9) rfl dX2_copyHashOf_9 ?_
    refine lv_iload_n hx hb dX2_copyHashOf_12 rfl (lv_at hl 1 rfl) ?_
    refine lv_bipush (v := nI 34) hx hb dX2_copyHashOf_13 (by decide) ?_
    refine mu_N hx hb j 34 dX2_copyHashOf_15 ?_
    refine lv_bipush (v := nI 26) hx hb dX2_copyHashOf_16 (by decide) ?_
    refine ad_N hx hb (j * 34) 26 dX2_copyHashOf_18 ?_
    refine lv_aload_n hx hb dX2_copyHashOf_19 rfl (lv_at hl 0 rfl) ?_
    refine va_get (D := G.1) (ci := 2) (v := .ref (a 9)) (C := RX2) (T := TX2) (N := 14) hx hb hts hiX2 hown hK hP 0 rfl rfl 4 (by decide) lk30 (fun _ h9 => h9) rfl dX2_copyHashOf_20 ?_
    refine lv_iload_n hx hb dX2_copyHashOf_23 rfl (lv_at hl 2 rfl) ?_
    refine lv_bipush (v := nI 8) hx hb dX2_copyHashOf_24 (by decide) ?_
    refine cpy_i hx hb (by rw [hml]; exact hl.1.symm) hown (hts (.methodLink RX2 84 arraycopyName) (by decide +kernel)) (hts (.native arraycopyName) (by decide +kernel)) (hts (.static arraycopyName) (by decide +kernel)) (hts (.initialized "java/lang/System") (by decide +kernel)) hK hP hD hS 7 9 rfl rfl ((j * 34) + 26) d 8 (by omega) (by omega) (by omega) (Nat.le_of_ble_eq_true rfl) (Nat.le_of_ble_eq_true rfl) dX2_copyHashOf_26 (fun H locs hP hD hS => ?_)
    have hP : va_P G.1 vwCl (wC G a fm fh fw fb fc fd (va_cpy fc fr ((j * 34) + 26) d 8) fp n k z t kn pl lf pn) H := hP
    have hD : va_D A (wC G a fm fh fw fb fc fd (va_cpy fc fr ((j * 34) + 26) d 8) fp n k z t kn pl lf pn) := hD
    refine lv_goto (tgt := 45) hx hb dX2_copyHashOf_29 (by decide) ?_
    have ec : p_cph fc fr n (nI j) d = va_cpy fc fr (j * 34 + 26) d 8 := by rw [p_cph, q5, ix_N hj (by omega)]; rfl
    have hP : va_P G.1 vwCl (wC G a fm fh fw fb fc fd (p_cph fc fr n (nI j) d) fp n k z t kn pl lf pn) H := by rw [ec]; exact hP
    have hD : va_D A (wC G a fm fh fw fb fc fd (p_cph fc fr n (nI j) d) fp n k z t kn pl lf pn) := by rw [ec]; exact hD
    exact ret 45 _ _ _ () dX2_copyHashOf_45 (trivial) hP hD hS
set_option maxHeartbeats 4000000 in
set_option maxRecDepth 100000 in
theorem c_fillDraft (l : Launch) (G : gG) (sz : Nat) (a : Nat → Nat) (fm fh fw fb fc fd fr fp : Nat → Int32) (n k z t : Nat) (kn : Int32) (pl lf pn : Nat)  (hn : n ≤ 60) (hk : k ≤ 8) (hz : z ≤ 20) (ht : t ≤ 100000) (hpl : pl ≤ 60) (hlf : lf ≤ 6) (hpn : pn ≤ 1560)  : MetV l yX2_fillDraft wsX2_fillDraft ({ frames := 3, cells := 0, slots := 0, locals := 68 } : Room) [.ref (a 0)] G (wC G a fm fh fw fb fc fd fr fp n k z t kn pl lf pn) sz (fun _ : Unit => wC G a fm fh fw fb fc fd (p_drf fc fr n k z) fp n k z t kn pl lf pn) (fun _ => True) := by
  refine ent_v _ cX2_fillDraft 1 RX2 (by decide) rfl rfl (Nat.le_of_ble_eq_true rfl) ?_
  intro p e s m args below meth c A Q ls hx hb hml hts hown hA hK hX ret hl hP hD hS
  have hl : lv_has ls 1 [(0, .ref (a 0))] := hl
  have lk30 := hts (.fieldLink RX2 30 "MinedLedger" "draft" "[I") (by decide +kernel)
  have lk36 := hts (.fieldLink RX2 36 "MinedLedger" "entryCount" "I") (by decide +kernel)
  have lk40 := hts (.fieldLink RX2 40 "MinedLedger" "wordCount" "I") (by decide +kernel)
  have lk52 := hts (.fieldLink RX2 52 "MinedLedger" "zerosAsked" "I") (by decide +kernel)
  have hiX2 : ∀ w ∈ wsX20, w ∈ wsX2_fillDraft := by decide +kernel
  refine lv_aload_n hx hb dX2_fillDraft_0 rfl (lv_at hl 0 rfl) ?_
  refine lv_aload_n hx hb dX2_fillDraft_1 rfl (lv_at hl 0 rfl) ?_
  refine va_get (D := G.1) (ci := 2) (v := .int (nI n)) (C := RX2) (T := TX2) (N := 14) hx hb hts hiX2 hown hK hP 0 rfl rfl 6 (by decide) lk36 (fun _ h9 => h9) rfl dX2_fillDraft_2 ?_
  refine lv_iconst (v := nI 1) hx hb dX2_fillDraft_5 (by decide) ?_
  refine lv_isub hx hb dX2_fillDraft_6 ?_
  refine lv_iconst (v := nI 0) hx hb dX2_fillDraft_7 (by decide) ?_
  refine call_Vv (wr := ([] : va_W)) [.int (nI n - nI 1), .int (nI 0)] [] ⟨hx, hb, hml, hown, hts⟩ hK hX hA hP hD hS (c_copyHashOf l G _ a fm fh fw fb fc fd fr fp n k z t kn pl lf pn (nI n - nI 1) 0 (by omega) (by omega) (by omega) (by omega) (by omega) (by omega) (by omega) (by omega)) (cwV 2 hts gX2_fillDraft_X2_copyHashOf rfl rfl rfl (by decide +kernel) ⟨Nat.le_of_ble_eq_true rfl, Nat.le_of_ble_eq_true rfl⟩) 2 0 rfl rfl rfl [0, 1, 2, 3, 4, 5, 6, 7, 8, 9, 10] [] rfl rfl (by decide) (by decide) (by decide) rfl hl.1 (Nat.le_of_ble_eq_true rfl) dX2_fillDraft_8 ⟨Nat.zero_le _, Nat.zero_le _⟩ (fun u H locs hw hP hD hS => ?_)
  have hP : va_P G.1 vwCl (wC G a fm fh fw fb fc fd (p_cph fc fr n (nI n - nI 1) 0) fp n k z t kn pl lf pn) H := hP
  have hD : va_D A (wC G a fm fh fw fb fc fd (p_cph fc fr n (nI n - nI 1) 0) fp n k z t kn pl lf pn) := hD
  refine lv_aload_n hx hb dX2_fillDraft_11 rfl (lv_at hl 0 rfl) ?_
  refine lv_aload_n hx hb dX2_fillDraft_12 rfl (lv_at hl 0 rfl) ?_
  refine va_get (D := G.1) (ci := 2) (v := .int (nI n)) (C := RX2) (T := TX2) (N := 14) hx hb hts hiX2 hown hK hP 0 rfl rfl 6 (by decide) lk36 (fun _ h9 => h9) rfl dX2_fillDraft_13 ?_
  refine call_Si (wr := ([(a 0, .inr (2, [.ref (a 1), .ref (a 5), .ref (a 7), .ref (a 8), .ref (a 9), .ref (a 10), .int (nI n), .int (nI k), .int (nI z), .int (nI t), .int kn, .int (nI pl), .int (nI lf), .int (nI pn)])), (a 1, .inr (1, [.ref (a 2), .ref (a 3), .ref (a 4)])), (a 2, .inl (G.2.2.1, 8, .inl fm)), (a 3, .inl (G.2.2.1, 8, .inl fh)), (a 4, .inl (G.2.2.1, 64, .inl fw)), (a 5, .inr (0, [.ref (a 6)])), (a 6, .inl (G.2.2.1, 32, .inl fb)), (a 7, .inl (G.2.2.1, 2040, .inl fc)), (a 8, .inl (G.2.2.1, 8, .inl fd)), (a 9, .inl (G.2.2.1, 34, .inl (p_cph fc fr n (nI n - nI 1) 0))), (a 10, .inl (G.2.2.1, 1560, .inl fp))] : va_W)) [.int (nI n)] [.ref (a 0)] ⟨hx, hb, hml, hown, hts⟩ hK hX hA hP hD hS (c_skipOf l G _ n (by omega)) (va_cwS 1 hts gX2_fillDraft_X2_skipOf rfl rfl rfl (by decide +kernel) ⟨Nat.le_of_ble_eq_true rfl, Nat.le_of_ble_eq_true rfl⟩) [] [0, 1, 2, 3, 4, 5, 6, 7, 8, 9, 10] rfl rfl (by decide) (by decide) (by decide) rfl hl.1 (Nat.le_of_ble_eq_true rfl) dX2_fillDraft_16 ⟨Nat.zero_le _, Nat.zero_le _⟩ (fun r_2 u H locs hw hP hD hS => ?_)
  obtain rfl := hw
  have hP : va_P G.1 vwCl (wC G a fm fh fw fb fc fd (p_cph fc fr n (nI n - nI 1) 0) fp n k z t kn pl lf pn) H := hP
  have hD : va_D A (wC G a fm fh fw fb fc fd (p_cph fc fr n (nI n - nI 1) 0) fp n k z t kn pl lf pn) := hD
  refine lv_bipush (v := nI 8) hx hb dX2_fillDraft_19 (by decide) ?_
  refine call_Vv (wr := ([] : va_W)) [.int (p_skI n), .int (nI 8)] [] ⟨hx, hb, hml, hown, hts⟩ hK hX hA hP hD hS (c_copyHashOf l G _ a fm fh fw fb fc fd (p_cph fc fr n (nI n - nI 1) 0) fp n k z t kn pl lf pn (p_skI n) 8 (by omega) (by omega) (by omega) (by omega) (by omega) (by omega) (by omega) (by omega)) (cwV 2 hts gX2_fillDraft_X2_copyHashOf rfl rfl rfl (by decide +kernel) ⟨Nat.le_of_ble_eq_true rfl, Nat.le_of_ble_eq_true rfl⟩) 2 0 rfl rfl rfl [0, 1, 2, 3, 4, 5, 6, 7, 8, 9, 10] [] rfl rfl (by decide) (by decide) (by decide) rfl hl.1 (Nat.le_of_ble_eq_true rfl) dX2_fillDraft_21 ⟨Nat.zero_le _, Nat.zero_le _⟩ (fun u H locs hw hP hD hS => ?_)
  have hP : va_P G.1 vwCl (wC G a fm fh fw fb fc fd (p_cph fc (p_cph fc fr n (nI n - nI 1) 0) n (p_skI n) 8) fp n k z t kn pl lf pn) H := hP
  have hD : va_D A (wC G a fm fh fw fb fc fd (p_cph fc (p_cph fc fr n (nI n - nI 1) 0) n (p_skI n) 8) fp n k z t kn pl lf pn) := hD
  refine lv_aload_n hx hb dX2_fillDraft_24 rfl (lv_at hl 0 rfl) ?_
  refine va_get (D := G.1) (ci := 2) (v := .ref (a 9)) (C := RX2) (T := TX2) (N := 14) hx hb hts hiX2 hown hK hP 0 rfl rfl 4 (by decide) lk30 (fun _ h9 => h9) rfl dX2_fillDraft_25 ?_
  refine lv_bipush (v := nI 24) hx hb dX2_fillDraft_28 (by decide) ?_
  refine lv_bipush (v := nI 16) hx hb dX2_fillDraft_30 (by decide) ?_
  refine lv_aload_n hx hb dX2_fillDraft_32 rfl (lv_at hl 0 rfl) ?_
  refine va_get (D := G.1) (ci := 2) (v := .int (nI z)) (C := RX2) (T := TX2) (N := 14) hx hb hts hiX2 hown hK hP 0 rfl rfl 8 (by decide) lk52 (fun _ h9 => h9) rfl dX2_fillDraft_33 ?_
  refine mu_N hx hb 16 z dX2_fillDraft_36 ?_
  refine lv_aload_n hx hb dX2_fillDraft_37 rfl (lv_at hl 0 rfl) ?_
  refine va_get (D := G.1) (ci := 2) (v := .int (nI k)) (C := RX2) (T := TX2) (N := 14) hx hb hts hiX2 hown hK hP 0 rfl rfl 7 (by decide) lk40 (fun _ h9 => h9) rfl dX2_fillDraft_38 ?_
  refine ad_N hx hb (16 * z) k dX2_fillDraft_41 ?_
  refine wr_i hx hb hK hP hD hS 9 rfl 24 (by omega) (by omega) dX2_fillDraft_42 (fun H locs hP hD hS => ?_)
  have hP : va_P G.1 vwCl (wC G a fm fh fw fb fc fd (upd (p_cph fc (p_cph fc fr n (nI n - nI 1) 0) n (p_skI n) 8) 24 (nI ((16 * z) + k))) fp n k z t kn pl lf pn) H := hP
  have hD : va_D A (wC G a fm fh fw fb fc fd (upd (p_cph fc (p_cph fc fr n (nI n - nI 1) 0) n (p_skI n) 8) 24 (nI ((16 * z) + k))) fp n k z t kn pl lf pn) := hD
  exact ret 43 _ _ _ () dX2_fillDraft_43 (trivial) hP hD hS
set_option maxHeartbeats 4000000 in
set_option maxRecDepth 100000 in
theorem c_tryNonces (l : Launch) (G : gG) (sz : Nat) (a : Nat → Nat) (fm fh fw fb fc fd fr fp : Nat → Int32) (n k z t : Nat) (pl lf pn : Nat) (q : Nat) (hn : n ≤ 60) (hk : k ≤ 8) (hz : z ≤ 20) (ht : t ≤ 100000) (hpl : pl ≤ 60) (hlf : lf ≤ 6) (hpn : pn ≤ 1560) (hq : t + q ≤ 100000) : MetV l yX2_tryNonces wsX2_tryNonces ({ frames := 4, cells := 0, slots := 0, locals := 99 } : Room) [.ref (a 0), .int (nI q)] G (wC G a fm fh fw fb fc fd fr fp n k z t (-1) pl lf pn) sz (fun u : (Nat → Int32) × (Nat → Int32) × (Nat → Int32) × (Nat → Int32) × Nat × Int32 => wC G a u.1 u.2.1 u.2.2.1 fb fc fd u.2.2.2.1 fp n k z u.2.2.2.2.1 u.2.2.2.2.2 pl lf pn) (fun u => q_try fr z t q u.2.2.2.1 u.2.2.2.2.1 u.2.2.2.2.2) := by
  refine ent_v _ cX2_tryNonces 3 RX2 (by decide) rfl rfl (Nat.le_of_ble_eq_true rfl) ?_
  intro p e s m args below meth c A Q ls hx hb hml hts hown hA hK hX ret hl hP hD hS
  have hl : lv_has ls 3 [(0, .ref (a 0)), (1, .int (nI q))] := hl
  have lk10 := hts (.fieldLink RX2 10 "MinedLedger" "hasher" "LMinedLedger$Hasher;") (by decide +kernel)
  have lk30 := hts (.fieldLink RX2 30 "MinedLedger" "draft" "[I") (by decide +kernel)
  have lk52 := hts (.fieldLink RX2 52 "MinedLedger" "zerosAsked" "I") (by decide +kernel)
  have lk55 := hts (.fieldLink RX2 55 "MinedLedger" "triedCount" "I") (by decide +kernel)
  have lk58 := hts (.fieldLink RX2 58 "MinedLedger" "keptNonce" "I") (by decide +kernel)
  have hiX2 : ∀ w ∈ wsX20, w ∈ wsX2_tryNonces := by decide +kernel
  refine lv_aload_n hx hb dX2_tryNonces_0 rfl (lv_at hl 0 rfl) ?_
  refine va_get (D := G.1) (ci := 2) (v := .ref (a 1)) (C := RX2) (T := TX2) (N := 14) hx hb hts hiX2 hown hK hP 0 rfl rfl 0 (by decide) lk10 (fun _ h9 => h9) rfl dX2_tryNonces_1 ?_
  refine lv_aload_n hx hb dX2_tryNonces_4 rfl (lv_at hl 0 rfl) ?_
  refine va_get (D := G.1) (ci := 2) (v := .ref (a 9)) (C := RX2) (T := TX2) (N := 14) hx hb hts hiX2 hown hK hP 0 rfl rfl 4 (by decide) lk30 (fun _ h9 => h9) rfl dX2_tryNonces_5 ?_
  refine lv_iconst (v := nI 0) hx hb dX2_tryNonces_8 (by decide) ?_
  refine call_Vv (wr := ([(a 0, .inr (2, [.ref (a 1), .ref (a 5), .ref (a 7), .ref (a 8), .ref (a 9), .ref (a 10), .int (nI n), .int (nI k), .int (nI z), .int (nI t), .int (-1), .int (nI pl), .int (nI lf), .int (nI pn)])), (a 5, .inr (0, [.ref (a 6)])), (a 6, .inl (G.2.2.1, 32, .inl fb)), (a 7, .inl (G.2.2.1, 2040, .inl fc)), (a 8, .inl (G.2.2.1, 8, .inl fd)), (a 10, .inl (G.2.2.1, 1560, .inl fp))] : va_W)) [.ref (a 9), .int (nI 0)] [] ⟨hx, hb, hml, hown, hts⟩ hK hX hA hP hD hS (c_takeFirst l G _ (a 1) (a 2) (a 3) (a 4) (a 9) 34 0 fm fh fw fr (by omega) (by omega)) (cwV 2 hts gX2_tryNonces_X1_takeFirst rfl rfl rfl (by decide +kernel) ⟨Nat.le_of_ble_eq_true rfl, Nat.le_of_ble_eq_true rfl⟩) 1 1 rfl rfl rfl [1, 2, 3, 4, 9] [0, 5, 6, 7, 8, 10] rfl rfl (by decide) (by decide) (by decide) rfl hl.1 (Nat.le_of_ble_eq_true rfl) dX2_tryNonces_9 ⟨Nat.zero_le _, Nat.zero_le _⟩ (fun u H locs hw hP hD hS => ?_)
  obtain ⟨mu_2, wu_2⟩ := u
  have hu_2 : ∀ j, j < 8 → mu_2 j = p_h1 fr 0 j := hw
  have hP : va_P G.1 vwCl (wC G a mu_2 fh wu_2 fb fc fd fr fp n k z t (-1) pl lf pn) H := hP.sub [0, 6, 7, 8, 9, 1, 2, 3, 4, 10, 5] rfl
  have hD : va_D A (wC G a mu_2 fh wu_2 fb fc fd fr fp n k z t (-1) pl lf pn) := hD.sub [0, 6, 7, 8, 9, 1, 2, 3, 4, 10, 5] (by decide) rfl
  refine lv_iconst (v := nI 0) hx hb dX2_tryNonces_12 (by decide) ?_
  refine lv_istore_n (lv' := [(2, .int (nI 0)), (0, .ref (a 0)), (1, .int (nI q))]) hx hb dX2_tryNonces_13 rfl hl (by decide) rfl (fun ls hl => ?_)
  suffices hloop1 : ∀ (fu1 : Nat) (i : Nat) (hh : Nat → Int32) (ww : Nat → Int32) (ff : Nat → Int32) (tt : Nat) (kk : Int32), (i ≤ q) → (tt ≤ 100000) → ((kk = (-1) ∧ tt = t + i ∧ (∀ j, j < 25 → ff j = fr j) ∧ ∀ j, t ≤ j → j < t + i → p_nz fr j < z) ∨ (∃ v : Nat, t ≤ v ∧ v < t + q ∧ (∀ j, t ≤ j → j < v → p_nz fr j < z) ∧ z ≤ p_nz fr v ∧ kk = nI v ∧ tt = v + 1 ∧ (∀ j, j < 26 → ff j = upd fr 25 (nI v) j) ∧ ∀ j, j < 8 → ff (26 + j) = p_hash (upd fr 25 (nI v)) 0 j)) → q - i < fu1 → ∀ (H : Heap) (locs : List Loc) (ls : Array Slot), va_P G.1 vwCl (wC G a mu_2 hh ww fb fc fd ff fp n k z tt kk pl lf pn) H → va_D A (wC G a mu_2 hh ww fb fc fd ff fp n k z tt kk pl lf pn) → va_S A s.heap H locs → lv_has ls 3 [(0, .ref (a 0)), (1, .int (nI q)), (2, .int (nI i))] → W p l e ({ frames := 4, cells := 0, slots := 0, locals := 99 } : Room) s m args below meth c H locs 0 0 Q (F0 m 14 ls []) from hloop1 _ 0 fh wu_2 fr t (-1) (Nat.zero_le _) ht (Or.inl ⟨rfl, rfl, fun _ _ => rfl, fun j h1 h2 => by omega⟩) (Nat.lt_succ_self _) _ _ _ hP hD hS (lv_sub hl [1, 2, 0] rfl)
  clear hP hD hS hl
  intro fu1
  induction fu1 with
  | zero => intro i hh ww ff tt kk hi htt hI hfu; exact absurd hfu (Nat.not_lt_zero _)
  | succ fu1 ih1 =>
    intro i hh ww ff tt kk hi htt hI hfu1 H locs ls hP hD hS hl
    refine lv_iload_n hx hb dX2_tryNonces_14 rfl (lv_at hl 2 rfl) ?_
    refine lv_iload_n hx hb dX2_tryNonces_15 rfl (lv_at hl 1 rfl) ?_
    refine cmp_ge hx hb i q 104 (by omega) (by omega) dX2_tryNonces_16 (by decide) (fun c16 => ?_) (fun c16 => ?_)
    · exact ret 104 _ _ _ (mu_2, hh, ww, ff, tt, kk) dX2_tryNonces_104 (by rw [show q = i by omega]; rcases hI with h | ⟨v, h1, h2, h⟩; exact Or.inl h; exact Or.inr ⟨v, h1, by omega, h⟩) hP hD hS
    · refine lv_aload_n hx hb dX2_tryNonces_19 rfl (lv_at hl 0 rfl) ?_
      refine va_get (D := G.1) (ci := 2) (v := .int kk) (C := RX2) (T := TX2) (N := 14) hx hb hts hiX2 hown hK hP 0 rfl rfl 10 (by decide) lk58 (fun _ h9 => h9) rfl dX2_tryNonces_20 ?_
      refine lv_iconst (v := (-1)) hx hb dX2_tryNonces_23 (by decide) ?_
      refine lv_icmp_ne (tgt := 104) hx hb dX2_tryNonces_24 (by decide) (fun c24 => ?_) (fun c24 => ?_)
      · exact ret 104 _ _ _ (mu_2, hh, ww, ff, tt, kk) dX2_tryNonces_104 (by rcases hI with ⟨h0, _⟩ | h; exact absurd h0 c24; exact Or.inr h) hP hD hS
      · obtain ⟨e1, e2, e3, e4⟩ : tt = t + i ∧ (∀ j, j < 25 → ff j = fr j) ∧ (∀ j, t ≤ j → j < t + i → p_nz fr j < z) ∧ True := by
          rcases hI with ⟨_, h1, h2, h3⟩ | ⟨v, h1, h2, h3, h4, h5, h6⟩
          · exact ⟨h1, h2, h3, trivial⟩
          · exact absurd (h5.symm.trans c24) (nI_m1 (by omega))
        subst e1
        clear hI
        have hP : va_P G.1 vwCl (wC G a mu_2 hh ww fb fc fd ff fp n k z (t + i) kk pl lf pn) H := hP
        have hD : va_D A (wC G a mu_2 hh ww fb fc fd ff fp n k z (t + i) kk pl lf pn) := hD
        refine lv_aload_n hx hb dX2_tryNonces_27 rfl (lv_at hl 0 rfl) ?_
        refine va_get (D := G.1) (ci := 2) (v := .ref (a 9)) (C := RX2) (T := TX2) (N := 14) hx hb hts hiX2 hown hK hP 0 rfl rfl 4 (by decide) lk30 (fun _ h9 => h9) rfl dX2_tryNonces_28 ?_
        refine lv_bipush (v := nI 25) hx hb dX2_tryNonces_31 (by decide) ?_
        refine lv_aload_n hx hb dX2_tryNonces_33 rfl (lv_at hl 0 rfl) ?_
        refine va_get (D := G.1) (ci := 2) (v := .int (nI (t + i))) (C := RX2) (T := TX2) (N := 14) hx hb hts hiX2 hown hK hP 0 rfl rfl 9 (by decide) lk55 (fun _ h9 => h9) rfl dX2_tryNonces_34 ?_
        refine wr_i hx hb hK hP hD hS 9 rfl 25 (by omega) (by omega) dX2_tryNonces_37 (fun H locs hP hD hS => ?_)
        have hP : va_P G.1 vwCl (wC G a mu_2 hh ww fb fc fd (upd ff 25 (nI (t + i))) fp n k z (t + i) kk pl lf pn) H := hP
        have hD : va_D A (wC G a mu_2 hh ww fb fc fd (upd ff 25 (nI (t + i))) fp n k z (t + i) kk pl lf pn) := hD
        refine lv_aload_n hx hb dX2_tryNonces_38 rfl (lv_at hl 0 rfl) ?_
        refine lv_dup hx hb dX2_tryNonces_39 rfl ?_
        refine va_get (D := G.1) (ci := 2) (v := .int (nI (t + i))) (C := RX2) (T := TX2) (N := 14) hx hb hts hiX2 hown hK hP 0 rfl rfl 9 (by decide) lk55 (fun _ h9 => h9) rfl dX2_tryNonces_40 ?_
        refine lv_iconst (v := nI 1) hx hb dX2_tryNonces_43 (by decide) ?_
        refine ad_N hx hb (t + i) 1 dX2_tryNonces_44 ?_
        refine va_put (D := G.1) (ci := 2) (v := .int (nI ((t + i) + 1))) (ty := .int) (C := RX2) (T := TX2) (N := 14) hx hb hts hiX2 tyX2 tyX2_ok nmX2 hown hK hP hD hS 0 rfl rfl 9 (by decide) lk55 (fun _ h9 => h9) rfl (by decide +kernel) rfl rfl (Nat.le_of_ble_eq_true rfl) dX2_tryNonces_45 (fun H locs hP hD hS => ?_)
        have hP : va_P G.1 vwCl (wC G a mu_2 hh ww fb fc fd (upd ff 25 (nI (t + i))) fp n k z ((t + i) + 1) kk pl lf pn) H := hP
        have hD : va_D A (wC G a mu_2 hh ww fb fc fd (upd ff 25 (nI (t + i))) fp n k z ((t + i) + 1) kk pl lf pn) := hD
        refine lv_aload_n hx hb dX2_tryNonces_48 rfl (lv_at hl 0 rfl) ?_
        refine va_get (D := G.1) (ci := 2) (v := .ref (a 1)) (C := RX2) (T := TX2) (N := 14) hx hb hts hiX2 hown hK hP 0 rfl rfl 0 (by decide) lk10 (fun _ h9 => h9) rfl dX2_tryNonces_49 ?_
        refine lv_aload_n hx hb dX2_tryNonces_52 rfl (lv_at hl 0 rfl) ?_
        refine va_get (D := G.1) (ci := 2) (v := .ref (a 9)) (C := RX2) (T := TX2) (N := 14) hx hb hts hiX2 hown hK hP 0 rfl rfl 4 (by decide) lk30 (fun _ h9 => h9) rfl dX2_tryNonces_53 ?_
        refine lv_iconst (v := nI 0) hx hb dX2_tryNonces_56 (by decide) ?_
        refine call_Vv (wr := ([(a 0, .inr (2, [.ref (a 1), .ref (a 5), .ref (a 7), .ref (a 8), .ref (a 9), .ref (a 10), .int (nI n), .int (nI k), .int (nI z), .int (nI ((t + i) + 1)), .int kk, .int (nI pl), .int (nI lf), .int (nI pn)])), (a 5, .inr (0, [.ref (a 6)])), (a 6, .inl (G.2.2.1, 32, .inl fb)), (a 7, .inl (G.2.2.1, 2040, .inl fc)), (a 8, .inl (G.2.2.1, 8, .inl fd)), (a 10, .inl (G.2.2.1, 1560, .inl fp))] : va_W)) [.ref (a 9), .int (nI 0)] [] ⟨hx, hb, hml, hown, hts⟩ hK hX hA hP hD hS (c_takeRest l G _ (a 1) (a 2) (a 3) (a 4) (a 9) 34 0 mu_2 hh ww (upd ff 25 (nI (t + i))) (by omega) (by omega)) (cwV 2 hts gX2_tryNonces_X1_takeRest rfl rfl rfl (by decide +kernel) ⟨Nat.le_of_ble_eq_true rfl, Nat.le_of_ble_eq_true rfl⟩) 1 1 rfl rfl rfl [1, 2, 3, 4, 9] [0, 5, 6, 7, 8, 10] rfl rfl (by decide) (by decide) (by decide) rfl hl.1 (Nat.le_of_ble_eq_true rfl) dX2_tryNonces_57 ⟨Nat.zero_le _, Nat.zero_le _⟩ (fun u H locs hw hP hD hS => ?_)
        obtain ⟨yu_6, wu_6⟩ := u
        have hu_6 : ∀ j, j < 8 → yu_6 j = p_mix mu_2 (p_b2 (upd ff 25 (nI (t + i))) 0) j := hw
        have hP : va_P G.1 vwCl (wC G a mu_2 yu_6 wu_6 fb fc fd (upd ff 25 (nI (t + i))) fp n k z ((t + i) + 1) kk pl lf pn) H := hP.sub [0, 6, 7, 8, 9, 1, 2, 3, 4, 10, 5] rfl
        have hD : va_D A (wC G a mu_2 yu_6 wu_6 fb fc fd (upd ff 25 (nI (t + i))) fp n k z ((t + i) + 1) kk pl lf pn) := hD.sub [0, 6, 7, 8, 9, 1, 2, 3, 4, 10, 5] (by decide) rfl
        have hqu_6 : ∀ j, j < 8 → yu_6 j = p_hash (upd fr 25 (nI (t + i))) 0 j := fun j hj => (hu_6 j hj).trans (nz_eq (nI (t + i)) hu_2 e2 j hj)
        have hzu_6 : p_zeros yu_6 = p_nz fr (t + i) := p_zeros_congr hqu_6
        have hzl := p_zeros_le yu_6
        refine lv_aload_n hx hb dX2_tryNonces_60 rfl (lv_at hl 0 rfl) ?_
        refine va_get (D := G.1) (ci := 2) (v := .ref (a 1)) (C := RX2) (T := TX2) (N := 14) hx hb hts hiX2 hown hK hP 0 rfl rfl 0 (by decide) lk10 (fun _ h9 => h9) rfl dX2_tryNonces_61 ?_
        refine call_Vi (wr := ([(a 0, .inr (2, [.ref (a 1), .ref (a 5), .ref (a 7), .ref (a 8), .ref (a 9), .ref (a 10), .int (nI n), .int (nI k), .int (nI z), .int (nI ((t + i) + 1)), .int kk, .int (nI pl), .int (nI lf), .int (nI pn)])), (a 2, .inl (G.2.2.1, 8, .inl mu_2)), (a 4, .inl (G.2.2.1, 64, .inl wu_6)), (a 5, .inr (0, [.ref (a 6)])), (a 6, .inl (G.2.2.1, 32, .inl fb)), (a 7, .inl (G.2.2.1, 2040, .inl fc)), (a 8, .inl (G.2.2.1, 8, .inl fd)), (a 9, .inl (G.2.2.1, 34, .inl (upd ff 25 (nI (t + i))))), (a 10, .inl (G.2.2.1, 1560, .inl fp))] : va_W)) [] [] ⟨hx, hb, hml, hown, hts⟩ hK hX hA hP hD hS (c_zeros l G _ (a 1) (a 2) (a 3) (a 4) yu_6) (cwV 0 hts gX2_tryNonces_X1_zeros rfl rfl rfl (by decide +kernel) ⟨Nat.le_of_ble_eq_true rfl, Nat.le_of_ble_eq_true rfl⟩) 1 1 rfl rfl rfl [1, 3] [0, 2, 4, 5, 6, 7, 8, 9, 10] rfl rfl (by decide) (by decide) (by decide) rfl hl.1 (Nat.le_of_ble_eq_true rfl) dX2_tryNonces_64 ⟨Nat.zero_le _, Nat.zero_le _⟩ (fun r_7 u H locs hw hP hD hS => ?_)
        obtain rfl := hw
        have hP : va_P G.1 vwCl (wC G a mu_2 yu_6 wu_6 fb fc fd (upd ff 25 (nI (t + i))) fp n k z ((t + i) + 1) kk pl lf pn) H := hP.sub [0, 9, 1, 10, 2, 3, 4, 5, 6, 7, 8] rfl
        have hD : va_D A (wC G a mu_2 yu_6 wu_6 fb fc fd (upd ff 25 (nI (t + i))) fp n k z ((t + i) + 1) kk pl lf pn) := hD.sub [0, 9, 1, 10, 2, 3, 4, 5, 6, 7, 8] (by decide) rfl
        refine lv_aload_n hx hb dX2_tryNonces_67 rfl (lv_at hl 0 rfl) ?_
        refine va_get (D := G.1) (ci := 2) (v := .int (nI z)) (C := RX2) (T := TX2) (N := 14) hx hb hts hiX2 hown hK hP 0 rfl rfl 8 (by decide) lk52 (fun _ h9 => h9) rfl dX2_tryNonces_68 ?_
        refine cmp_lt hx hb (p_zeros yu_6) z 98 (by omega) (by omega) dX2_tryNonces_71 (by decide) (fun c71 => ?_) (fun c71 => ?_)
        · refine lv_iinc (v := nI (i + 1)) (lv' := [(2, .int (nI (i + 1))), (0, .ref (a 0)), (1, .int (nI q))]) hx hb dX2_tryNonces_98 hl (k := 2) rfl (inc_N i 1) (by decide) rfl (fun ls hl => ?_)
          refine lv_goto (tgt := 14) hx hb dX2_tryNonces_101 (by decide) ?_
          exact ih1 (i + 1) yu_6 wu_6 (upd ff 25 (nI (t + i))) (t + i + 1) kk (by omega) (by omega) (Or.inl ⟨c24, by omega, fun j hj => by rw [pk_un (by omega)]; exact e2 j hj, fun j h1 h2 => by rcases Nat.lt_or_ge j (t + i) with q1 | q1; exact e3 j h1 q1; rw [show j = t + i by omega, ← hzu_6]; exact c71⟩) (by omega) _ _ _ hP hD hS (lv_sub hl [1, 2, 0] rfl)
        · refine lv_aload_n hx hb dX2_tryNonces_74 rfl (lv_at hl 0 rfl) ?_
          refine lv_aload_n hx hb dX2_tryNonces_75 rfl (lv_at hl 0 rfl) ?_
          refine va_get (D := G.1) (ci := 2) (v := .ref (a 9)) (C := RX2) (T := TX2) (N := 14) hx hb hts hiX2 hown hK hP 0 rfl rfl 4 (by decide) lk30 (fun _ h9 => h9) rfl dX2_tryNonces_76 ?_
          refine lv_bipush (v := nI 25) hx hb dX2_tryNonces_79 (by decide) ?_
          refine rd_i hx hb hK hP 9 rfl 25 (by omega) (by omega) dX2_tryNonces_81 ?_
          refine top_i (nI (t + i)) pk_us ?_
          refine va_put (D := G.1) (ci := 2) (v := .int (nI (t + i))) (ty := .int) (C := RX2) (T := TX2) (N := 14) hx hb hts hiX2 tyX2 tyX2_ok nmX2 hown hK hP hD hS 0 rfl rfl 10 (by decide) lk58 (fun _ h9 => h9) rfl (by decide +kernel) rfl rfl (Nat.le_of_ble_eq_true rfl) dX2_tryNonces_82 (fun H locs hP hD hS => ?_)
          have hP : va_P G.1 vwCl (wC G a mu_2 yu_6 wu_6 fb fc fd (upd ff 25 (nI (t + i))) fp n k z ((t + i) + 1) (nI (t + i)) pl lf pn) H := hP
          have hD : va_D A (wC G a mu_2 yu_6 wu_6 fb fc fd (upd ff 25 (nI (t + i))) fp n k z ((t + i) + 1) (nI (t + i)) pl lf pn) := hD
          refine lv_aload_n hx hb dX2_tryNonces_85 rfl (lv_at hl 0 rfl) ?_
          refine va_get (D := G.1) (ci := 2) (v := .ref (a 1)) (C := RX2) (T := TX2) (N := 14) hx hb hts hiX2 hown hK hP 0 rfl rfl 0 (by decide) lk10 (fun _ h9 => h9) rfl dX2_tryNonces_86 ?_
          refine lv_aload_n hx hb dX2_tryNonces_89 rfl (lv_at hl 0 rfl) ?_
          refine va_get (D := G.1) (ci := 2) (v := .ref (a 9)) (C := RX2) (T := TX2) (N := 14) hx hb hts hiX2 hown hK hP 0 rfl rfl 4 (by decide) lk30 (fun _ h9 => h9) rfl dX2_tryNonces_90 ?_
          refine lv_bipush (v := nI 26) hx hb dX2_tryNonces_93 (by decide) ?_
          refine call_Vv (wr := ([(a 0, .inr (2, [.ref (a 1), .ref (a 5), .ref (a 7), .ref (a 8), .ref (a 9), .ref (a 10), .int (nI n), .int (nI k), .int (nI z), .int (nI ((t + i) + 1)), .int (nI (t + i)), .int (nI pl), .int (nI lf), .int (nI pn)])), (a 2, .inl (G.2.2.1, 8, .inl mu_2)), (a 4, .inl (G.2.2.1, 64, .inl wu_6)), (a 5, .inr (0, [.ref (a 6)])), (a 6, .inl (G.2.2.1, 32, .inl fb)), (a 7, .inl (G.2.2.1, 2040, .inl fc)), (a 8, .inl (G.2.2.1, 8, .inl fd)), (a 10, .inl (G.2.2.1, 1560, .inl fp))] : va_W)) [.ref (a 9), .int (nI 26)] [] ⟨hx, hb, hml, hown, hts⟩ hK hX hA hP hD hS (c_copyTo l G _ (a 1) (a 2) (a 3) (a 4) (a 9) 34 26 yu_6 (upd ff 25 (nI (t + i))) (by omega) (by omega)) (cwV 2 hts gX2_tryNonces_X1_copyTo rfl rfl rfl (by decide +kernel) ⟨Nat.le_of_ble_eq_true rfl, Nat.le_of_ble_eq_true rfl⟩) 1 1 rfl rfl rfl [1, 3, 9] [0, 2, 4, 5, 6, 7, 8, 10] rfl rfl (by decide) (by decide) (by decide) rfl hl.1 (Nat.le_of_ble_eq_true rfl) dX2_tryNonces_95 ⟨Nat.zero_le _, Nat.zero_le _⟩ (fun u H locs hw hP hD hS => ?_)
          have hP : va_P G.1 vwCl (wC G a mu_2 yu_6 wu_6 fb fc fd (va_cpy yu_6 (upd ff 25 (nI (t + i))) 0 26 8) fp n k z ((t + i) + 1) (nI (t + i)) pl lf pn) H := hP.sub [0, 8, 1, 9, 2, 3, 4, 5, 6, 10, 7] rfl
          have hD : va_D A (wC G a mu_2 yu_6 wu_6 fb fc fd (va_cpy yu_6 (upd ff 25 (nI (t + i))) 0 26 8) fp n k z ((t + i) + 1) (nI (t + i)) pl lf pn) := hD.sub [0, 8, 1, 9, 2, 3, 4, 5, 6, 10, 7] (by decide) rfl
          refine lv_iinc (v := nI (i + 1)) (lv' := [(2, .int (nI (i + 1))), (0, .ref (a 0)), (1, .int (nI q))]) hx hb dX2_tryNonces_98 hl (k := 2) rfl (inc_N i 1) (by decide) rfl (fun ls hl => ?_)
          refine lv_goto (tgt := 14) hx hb dX2_tryNonces_101 (by decide) ?_
          exact ih1 (i + 1) yu_6 wu_6 (va_cpy yu_6 (upd ff 25 (nI (t + i))) 0 26 8) (t + i + 1) (nI (t + i)) (by omega) (by omega) (Or.inr ⟨t + i, by omega, by omega, e3, by rw [← hzu_6]; exact c71, rfl, rfl, fun j hj => by rw [pk_cpy_out (by omega)]; by_cases q1 : j = 25; rw [q1, pk_us, pk_us]; rw [pk_un q1, pk_un q1]; exact e2 j (by omega), fun j hj => by rw [pk_cpy_in (by omega) (by omega), show 0 + (26 + j - 26) = j by omega]; exact hqu_6 j hj⟩) (by omega) _ _ _ hP hD hS (lv_sub hl [1, 2, 0] rfl)
set_option maxHeartbeats 4000000 in
set_option maxRecDepth 100000 in
theorem c_mine (l : Launch) (G : gG) (sz : Nat) (a : Nat → Nat) (fm fh fw fb fc fd fr fp : Nat → Int32) (n k z t : Nat) (kn : Int32) (pl lf pn : Nat) (x : Int32) (hn : n ≤ 60) (hk : k ≤ 8) (hz : z ≤ 20) (ht : t ≤ 100000) (hpl : pl ≤ 60) (hlf : lf ≤ 6) (hpn : pn ≤ 1560)  : MetI l yX2_mine wsX2_mine ({ frames := 5, cells := 0, slots := 0, locals := 121 } : Room) [.ref (a 0), .int x] G (wC G a fm fh fw fb fc fd fr fp n k z t kn pl lf pn) sz (fun u : (Nat → Int32) × (Nat → Int32) × (Nat → Int32) × (Nat → Int32) × Nat × Int32 => wC G a u.1 u.2.1 u.2.2.1 fb fc fd u.2.2.2.1 fp n k z u.2.2.2.2.1 u.2.2.2.2.2 pl lf pn) (fun r u => q_mine fc fr n k z t kn x r u.2.2.2.1 u.2.2.2.2.1 u.2.2.2.2.2) := by
  refine ent_i _ cX2_mine 2 RX2 (by decide) rfl rfl (Nat.le_of_ble_eq_true rfl) ?_
  intro p e s m args below meth c A Q ls hx hb hml hts hown hA hK hX ret hl hP hD hS
  have hl : lv_has ls 2 [(0, .ref (a 0)), (1, .int x)] := hl
  have lk55 := hts (.fieldLink RX2 55 "MinedLedger" "triedCount" "I") (by decide +kernel)
  have lk58 := hts (.fieldLink RX2 58 "MinedLedger" "keptNonce" "I") (by decide +kernel)
  have hiX2 : ∀ w ∈ wsX20, w ∈ wsX2_mine := by decide +kernel
  refine lv_iload_n hx hb dX2_mine_0 rfl (lv_at hl 1 rfl) ?_
  refine lv_iconst (v := nI 1) hx hb dX2_mine_1 (by decide) ?_
  refine cmz_ltzn hx hb x 1 12 (by omega) dX2_mine_2 (by decide) (fun c2 => ?_) (fun c2 => ?_)
  · refine lv_bipush (v := (-2)) hx hb dX2_mine_12 (by decide) ?_
    exact ret 14 _ _ _ (-2) (fm, fh, fw, fr, t, kn) dX2_mine_14 (Or.inl ⟨Or.inl c2, rfl, rfl, rfl, rfl⟩) hP hD hS
  · refine lv_iload_n hx hb dX2_mine_5 rfl (lv_at hl 1 rfl) ?_
    refine lv_sipush (v := nI 3000) hx hb dX2_mine_6 (by decide) ?_
    refine cmz_lezn hx hb x 3000 15 (by omega) dX2_mine_9 (by decide) (fun c9 => ?_) (fun c9 => ?_)
    · refine lv_aload_n hx hb dX2_mine_15 rfl (lv_at hl 0 rfl) ?_
      refine va_get (D := G.1) (ci := 2) (v := .int kn) (C := RX2) (T := TX2) (N := 14) hx hb hts hiX2 hown hK hP 0 rfl rfl 10 (by decide) lk58 (fun _ h9 => h9) rfl dX2_mine_16 ?_
      refine lv_iconst (v := (-1)) hx hb dX2_mine_19 (by decide) ?_
      refine lv_icmp_eq (tgt := 28) hx hb dX2_mine_20 (by decide) (fun c20 => ?_) (fun c20 => ?_)
      · refine lv_aload_n hx hb dX2_mine_28 rfl (lv_at hl 0 rfl) ?_
        refine va_get (D := G.1) (ci := 2) (v := .int (nI t)) (C := RX2) (T := TX2) (N := 14) hx hb hts hiX2 hown hK hP 0 rfl rfl 9 (by decide) lk55 (fun _ h9 => h9) rfl dX2_mine_29 ?_
        refine lv_ldc (v := 100000) hx hb hown (hts (.constant RX2 77 (100000)) (by decide +kernel)) dX2_mine_32 ?_
        refine top_i (nI 100000) (by decide) ?_
        refine cmp_lt hx hb t 100000 40 (by omega) (by omega) dX2_mine_34 (by decide) (fun c34 => ?_) (fun c34 => ?_)
        · have hP : va_P G.1 vwCl (wC G a fm fh fw fb fc fd fr fp n k z t (-1) pl lf pn) s.heap := by rw [← c20]; exact hP
          have hD : va_D A (wC G a fm fh fw fb fc fd fr fp n k z t (-1) pl lf pn) := by rw [← c20]; exact hD
          obtain ⟨q, hq, rfl⟩ := of_nn (x := x) (by omega)
          rw [tI_N hq] at c2 c9
          refine lv_aload_n hx hb dX2_mine_40 rfl (lv_at hl 0 rfl) ?_
          refine call_Vv (wr := ([] : va_W)) [] [] ⟨hx, hb, hml, hown, hts⟩ hK hX hA hP hD hS (c_fillDraft l G _ a fm fh fw fb fc fd fr fp n k z t (-1) pl lf pn  (by omega) (by omega) (by omega) (by omega) (by omega) (by omega) (by omega)) (cwV 0 hts gX2_mine_X2_fillDraft rfl rfl rfl (by decide +kernel) ⟨Nat.le_of_ble_eq_true rfl, Nat.le_of_ble_eq_true rfl⟩) 2 0 rfl rfl rfl [0, 1, 2, 3, 4, 5, 6, 7, 8, 9, 10] [] rfl rfl (by decide) (by decide) (by decide) rfl hl.1 (Nat.le_of_ble_eq_true rfl) dX2_mine_41 ⟨Nat.zero_le _, Nat.zero_le _⟩ (fun u H locs hw hP hD hS => ?_)
          have hP : va_P G.1 vwCl (wC G a fm fh fw fb fc fd (p_drf fc fr n k z) fp n k z t (-1) pl lf pn) H := hP
          have hD : va_D A (wC G a fm fh fw fb fc fd (p_drf fc fr n k z) fp n k z t (-1) pl lf pn) := hD
          refine lv_aload_n hx hb dX2_mine_44 rfl (lv_at hl 0 rfl) ?_
          refine lv_iload_n hx hb dX2_mine_45 rfl (lv_at hl 1 rfl) ?_
          refine lv_ldc (v := 100000) hx hb hown (hts (.constant RX2 77 (100000)) (by decide +kernel)) dX2_mine_46 ?_
          refine top_i (nI 100000) (by decide) ?_
          refine lv_aload_n hx hb dX2_mine_48 rfl (lv_at hl 0 rfl) ?_
          refine va_get (D := G.1) (ci := 2) (v := .int (nI t)) (C := RX2) (T := TX2) (N := 14) hx hb hts hiX2 hown hK hP 0 rfl rfl 9 (by decide) lk55 (fun _ h9 => h9) rfl dX2_mine_49 ?_
          refine su_N hx hb 100000 t (by omega) dX2_mine_52 ?_
          refine va_mmin (x := nI q) (y := nI (100000 - t)) hx hb (by rw [hml]; exact hl.1.symm) hown (hts (.methodLink RX2 43 Lib.Math.min.name) (by decide +kernel)) (hts (.static Lib.Math.min.name) (by decide +kernel)) (hts (.initialized "java/lang/Math") (by decide +kernel)) (hts (.code Lib.Math.min.name Lib.Math.min.code 2 (some .int)) (by decide +kernel)) (Nat.le_of_ble_eq_true rfl) (Nat.le_of_ble_eq_true rfl) (Nat.zero_le _) (Nat.zero_le _) dX2_mine_53 ?_
          refine top_i (nI (min q (100000 - t))) (min_N (by omega) (by omega)) ?_
          refine call_Vv (wr := ([] : va_W)) [.int (nI (min q (100000 - t)))] [] ⟨hx, hb, hml, hown, hts⟩ hK hX hA hP hD hS (c_tryNonces l G _ a fm fh fw fb fc fd (p_drf fc fr n k z) fp n k z t pl lf pn (min q (100000 - t)) (by omega) (by omega) (by omega) (by omega) (by omega) (by omega) (by omega) (by omega)) (cwV 1 hts gX2_mine_X2_tryNonces rfl rfl rfl (by decide +kernel) ⟨Nat.le_of_ble_eq_true rfl, Nat.le_of_ble_eq_true rfl⟩) 2 0 rfl rfl rfl [0, 1, 2, 3, 4, 5, 6, 7, 8, 9, 10] [] rfl rfl (by decide) (by decide) (by decide) rfl hl.1 (Nat.le_of_ble_eq_true rfl) dX2_mine_56 ⟨Nat.zero_le _, Nat.zero_le _⟩ (fun u H locs hw hP hD hS => ?_)
          obtain ⟨mu_7, yu_7, wu_7, fu_7, tu_7, ku_7⟩ := u
          have hu_7 : q_try (p_drf fc fr n k z) z t (min q (100000 - t)) fu_7 tu_7 ku_7 := hw
          have hP : va_P G.1 vwCl (wC G a mu_7 yu_7 wu_7 fb fc fd fu_7 fp n k z tu_7 ku_7 pl lf pn) H := hP
          have hD : va_D A (wC G a mu_7 yu_7 wu_7 fb fc fd fu_7 fp n k z tu_7 ku_7 pl lf pn) := hD
          refine lv_aload_n hx hb dX2_mine_59 rfl (lv_at hl 0 rfl) ?_
          refine va_get (D := G.1) (ci := 2) (v := .int ku_7) (C := RX2) (T := TX2) (N := 14) hx hb hts hiX2 hown hK hP 0 rfl rfl 10 (by decide) lk58 (fun _ h9 => h9) rfl dX2_mine_60 ?_
          exact ret 63 _ _ _ ku_7 (mu_7, yu_7, wu_7, fu_7, tu_7, ku_7) dX2_mine_63 (Or.inr ⟨⟨by rw [tI_N hq]; exact c2, by rw [tI_N hq]; exact c9⟩, Or.inr ⟨c20, Or.inr ⟨c34, q, rfl, hu_7, rfl⟩⟩⟩) hP hD hS
        · refine lv_bipush (v := (-3)) hx hb dX2_mine_37 (by decide) ?_
          exact ret 39 _ _ _ (-3) (fm, fh, fw, fr, t, kn) dX2_mine_39 (Or.inr ⟨⟨c2, c9⟩, Or.inr ⟨c20, Or.inl ⟨c34, rfl, rfl, rfl, rfl⟩⟩⟩) hP hD hS
      · refine lv_aload_n hx hb dX2_mine_23 rfl (lv_at hl 0 rfl) ?_
        refine va_get (D := G.1) (ci := 2) (v := .int kn) (C := RX2) (T := TX2) (N := 14) hx hb hts hiX2 hown hK hP 0 rfl rfl 10 (by decide) lk58 (fun _ h9 => h9) rfl dX2_mine_24 ?_
        exact ret 27 _ _ _ kn (fm, fh, fw, fr, t, kn) dX2_mine_27 (Or.inr ⟨⟨c2, c9⟩, Or.inl ⟨c20, rfl, rfl, rfl, rfl⟩⟩) hP hD hS
    · refine lv_bipush (v := (-2)) hx hb dX2_mine_12 (by decide) ?_
      exact ret 14 _ _ _ (-2) (fm, fh, fw, fr, t, kn) dX2_mine_14 (Or.inl ⟨Or.inr c9, rfl, rfl, rfl, rfl⟩) hP hD hS
set_option maxHeartbeats 4000000 in
set_option maxRecDepth 100000 in
theorem c_addToFilter (l : Launch) (G : gG) (sz : Nat) (a : Nat → Nat) (fm fh fw fb fc fd fr fp : Nat → Int32) (n k z t : Nat) (kn : Int32) (pl lf pn : Nat) (y : Nat) (hn : n ≤ 60) (hk : k ≤ 8) (hz : z ≤ 20) (ht : t ≤ 100000) (hpl : pl ≤ 60) (hlf : lf ≤ 6) (hpn : pn ≤ 1560) (hy : y < n) : MetV l yX2_addToFilter wsX2_addToFilter ({ frames := 4, cells := 0, slots := 0, locals := 88 } : Room) [.ref (a 0), .int (nI y)] G (wC G a fm fh fw fb fc fd fr fp n k z t kn pl lf pn) sz (fun _ : Unit => wC G a fm fh fw (p_addN fb fc (y * 34 + 16) 8) fc fd fr fp n k z t kn pl lf pn) (fun _ => True) := by
  refine ent_v _ cX2_addToFilter 4 RX2 (by decide) rfl rfl (Nat.le_of_ble_eq_true rfl) ?_
  intro p e s m args below meth c A Q ls hx hb hml hts hown hA hK hX ret hl hP hD hS
  have hl : lv_has ls 4 [(0, .ref (a 0)), (1, .int (nI y))] := hl
  have lk19 := hts (.fieldLink RX2 19 "MinedLedger" "filter" "LMinedLedger$Filter;") (by decide +kernel)
  have lk23 := hts (.fieldLink RX2 23 "MinedLedger" "cells" "[I") (by decide +kernel)
  have hiX2 : ∀ w ∈ wsX20, w ∈ wsX2_addToFilter := by decide +kernel
  refine lv_iload_n hx hb dX2_addToFilter_0 rfl (lv_at hl 1 rfl) ?_
  refine lv_bipush (v := nI 34) hx hb dX2_addToFilter_1 (by decide) ?_
  refine mu_N hx hb y 34 dX2_addToFilter_3 ?_
  refine lv_bipush (v := nI 16) hx hb dX2_addToFilter_4 (by decide) ?_
  refine ad_N hx hb (y * 34) 16 dX2_addToFilter_6 ?_
  refine lv_istore_n (lv' := [(2, .int (nI ((y * 34) + 16))), (0, .ref (a 0)), (1, .int (nI y))]) hx hb dX2_addToFilter_7 rfl hl (by decide) rfl (fun ls hl => ?_)
  refine lv_iconst (v := nI 0) hx hb dX2_addToFilter_8 (by decide) ?_
  refine lv_istore_n (lv' := [(3, .int (nI 0)), (2, .int (nI ((y * 34) + 16))), (0, .ref (a 0)), (1, .int (nI y))]) hx hb dX2_addToFilter_9 rfl hl (by decide) rfl (fun ls hl => ?_)
  suffices hloop1 : ∀ (fu1 : Nat) (i : Nat), (i ≤ 8) → 8 - i < fu1 → ∀ (H : Heap) (locs : List Loc) (ls : Array Slot), va_P G.1 vwCl (wC G a fm fh fw (p_addN fb fc (y * 34 + 16) i) fc fd fr fp n k z t kn pl lf pn) H → va_D A (wC G a fm fh fw (p_addN fb fc (y * 34 + 16) i) fc fd fr fp n k z t kn pl lf pn) → va_S A s.heap H locs → lv_has ls 4 [(0, .ref (a 0)), (1, .int (nI y)), (2, .int (nI ((y * 34) + 16))), (3, .int (nI i))] → W p l e ({ frames := 4, cells := 0, slots := 0, locals := 88 } : Room) s m args below meth c H locs 0 0 Q (F0 m 10 ls []) from hloop1 _ 0 (Nat.zero_le _) (Nat.lt_succ_self _) _ _ _ hP hD hS (lv_sub hl [2, 3, 1, 0] rfl)
  clear hP hD hS hl
  intro fu1
  induction fu1 with
  | zero => intro i hi hfu; exact absurd hfu (Nat.not_lt_zero _)
  | succ fu1 ih1 =>
    intro i hi hfu1 H locs ls hP hD hS hl
    refine lv_iload_n hx hb dX2_addToFilter_10 rfl (lv_at hl 3 rfl) ?_
    refine lv_bipush (v := nI 8) hx hb dX2_addToFilter_11 (by decide) ?_
    refine cmp_ge hx hb i 8 37 (by omega) (by omega) dX2_addToFilter_13 (by decide) (fun c13 => ?_) (fun c13 => ?_)
    · have e37 : i = 8 := by omega
      subst e37
      exact ret 37 _ _ _ () dX2_addToFilter_37 (trivial) hP hD hS
    · refine lv_aload_n hx hb dX2_addToFilter_16 rfl (lv_at hl 0 rfl) ?_
      refine va_get (D := G.1) (ci := 2) (v := .ref (a 5)) (C := RX2) (T := TX2) (N := 14) hx hb hts hiX2 hown hK hP 0 rfl rfl 1 (by decide) lk19 (fun _ h9 => h9) rfl dX2_addToFilter_17 ?_
      refine lv_aload_n hx hb dX2_addToFilter_20 rfl (lv_at hl 0 rfl) ?_
      refine va_get (D := G.1) (ci := 2) (v := .ref (a 7)) (C := RX2) (T := TX2) (N := 14) hx hb hts hiX2 hown hK hP 0 rfl rfl 2 (by decide) lk23 (fun _ h9 => h9) rfl dX2_addToFilter_21 ?_
      refine lv_iload_n hx hb dX2_addToFilter_24 rfl (lv_at hl 2 rfl) ?_
      refine lv_iload_n hx hb dX2_addToFilter_25 rfl (lv_at hl 3 rfl) ?_
      refine ad_N hx hb ((y * 34) + 16) i dX2_addToFilter_26 ?_
      refine rd_i hx hb hK hP 7 rfl (((y * 34) + 16) + i) (by omega) (by omega) dX2_addToFilter_27 ?_
      refine call_Vv (wr := ([(a 0, .inr (2, [.ref (a 1), .ref (a 5), .ref (a 7), .ref (a 8), .ref (a 9), .ref (a 10), .int (nI n), .int (nI k), .int (nI z), .int (nI t), .int kn, .int (nI pl), .int (nI lf), .int (nI pn)])), (a 1, .inr (1, [.ref (a 2), .ref (a 3), .ref (a 4)])), (a 2, .inl (G.2.2.1, 8, .inl fm)), (a 3, .inl (G.2.2.1, 8, .inl fh)), (a 4, .inl (G.2.2.1, 64, .inl fw)), (a 7, .inl (G.2.2.1, 2040, .inl fc)), (a 8, .inl (G.2.2.1, 8, .inl fd)), (a 9, .inl (G.2.2.1, 34, .inl fr)), (a 10, .inl (G.2.2.1, 1560, .inl fp))] : va_W)) [.int (fc (((y * 34) + 16) + i))] [] ⟨hx, hb, hml, hown, hts⟩ hK hX hA hP hD hS (c_include l G _ (a 5) (a 6) (p_addN fb fc (y * 34 + 16) i) (fc (((y * 34) + 16) + i))) (cwV 1 hts gX2_addToFilter_X0_include rfl rfl rfl (by decide +kernel) ⟨Nat.le_of_ble_eq_true rfl, Nat.le_of_ble_eq_true rfl⟩) 0 5 rfl rfl rfl [5, 6] [0, 1, 2, 3, 4, 7, 8, 9, 10] rfl rfl (by decide) (by decide) (by decide) rfl hl.1 (Nat.le_of_ble_eq_true rfl) dX2_addToFilter_28 ⟨Nat.zero_le _, Nat.zero_le _⟩ (fun u H locs hw hP hD hS => ?_)
      have hP : va_P G.1 vwCl (wC G a fm fh fw (p_incN (p_addN fb fc (y * 34 + 16) i) (fc (((y * 34) + 16) + i)) 4) fc fd fr fp n k z t kn pl lf pn) H := hP.sub [0, 1, 2, 3, 4, 9, 10, 5, 6, 7, 8] rfl
      have hD : va_D A (wC G a fm fh fw (p_incN (p_addN fb fc (y * 34 + 16) i) (fc (((y * 34) + 16) + i)) 4) fc fd fr fp n k z t kn pl lf pn) := hD.sub [0, 1, 2, 3, 4, 9, 10, 5, 6, 7, 8] (by decide) rfl
      have hP : va_P G.1 vwCl (wC G a fm fh fw (p_addN fb fc (y * 34 + 16) (i + 1)) fc fd fr fp n k z t kn pl lf pn) H := hP
      have hD : va_D A (wC G a fm fh fw (p_addN fb fc (y * 34 + 16) (i + 1)) fc fd fr fp n k z t kn pl lf pn) := hD
      refine lv_iinc (v := nI (i + 1)) (lv' := [(3, .int (nI (i + 1))), (0, .ref (a 0)), (1, .int (nI y)), (2, .int (nI ((y * 34) + 16)))]) hx hb dX2_addToFilter_31 hl (k := 3) rfl (inc_N i 1) (by decide) rfl (fun ls hl => ?_)
      refine lv_goto (tgt := 10) hx hb dX2_addToFilter_34 (by decide) ?_
      exact ih1 (i + 1) (by omega) (by omega) _ _ _ hP hD hS (lv_sub hl [1, 2, 3, 0] rfl)
set_option maxHeartbeats 4000000 in
set_option maxRecDepth 100000 in
theorem c_remakeFilter (l : Launch) (G : gG) (sz : Nat) (a : Nat → Nat) (fm fh fw fb fc fd fr fp : Nat → Int32) (n k z t : Nat) (kn : Int32) (pl lf pn : Nat)  (hn : n ≤ 60) (hk : k ≤ 8) (hz : z ≤ 20) (ht : t ≤ 100000) (hpl : pl ≤ 60) (hlf : lf ≤ 6) (hpn : pn ≤ 1560)  : MetV l yX2_remakeFilter wsX2_remakeFilter ({ frames := 5, cells := 0, slots := 0, locals := 111 } : Room) [.ref (a 0)] G (wC G a fm fh fw fb fc fd fr fp n k z t kn pl lf pn) sz (fun _ : Unit => wC G a fm fh fw (p_remN fb fc n) fc fd fr fp n k z t kn pl lf pn) (fun _ => True) := by
  refine ent_v _ cX2_remakeFilter 2 RX2 (by decide) rfl rfl (Nat.le_of_ble_eq_true rfl) ?_
  intro p e s m args below meth c A Q ls hx hb hml hts hown hA hK hX ret hl hP hD hS
  have hl : lv_has ls 2 [(0, .ref (a 0))] := hl
  have lk19 := hts (.fieldLink RX2 19 "MinedLedger" "filter" "LMinedLedger$Filter;") (by decide +kernel)
  have lk36 := hts (.fieldLink RX2 36 "MinedLedger" "entryCount" "I") (by decide +kernel)
  have hiX2 : ∀ w ∈ wsX20, w ∈ wsX2_remakeFilter := by decide +kernel
  refine lv_aload_n hx hb dX2_remakeFilter_0 rfl (lv_at hl 0 rfl) ?_
  refine va_get (D := G.1) (ci := 2) (v := .ref (a 5)) (C := RX2) (T := TX2) (N := 14) hx hb hts hiX2 hown hK hP 0 rfl rfl 1 (by decide) lk19 (fun _ h9 => h9) rfl dX2_remakeFilter_1 ?_
  refine call_Vv (wr := ([(a 0, .inr (2, [.ref (a 1), .ref (a 5), .ref (a 7), .ref (a 8), .ref (a 9), .ref (a 10), .int (nI n), .int (nI k), .int (nI z), .int (nI t), .int kn, .int (nI pl), .int (nI lf), .int (nI pn)])), (a 1, .inr (1, [.ref (a 2), .ref (a 3), .ref (a 4)])), (a 2, .inl (G.2.2.1, 8, .inl fm)), (a 3, .inl (G.2.2.1, 8, .inl fh)), (a 4, .inl (G.2.2.1, 64, .inl fw)), (a 7, .inl (G.2.2.1, 2040, .inl fc)), (a 8, .inl (G.2.2.1, 8, .inl fd)), (a 9, .inl (G.2.2.1, 34, .inl fr)), (a 10, .inl (G.2.2.1, 1560, .inl fp))] : va_W)) [] [] ⟨hx, hb, hml, hown, hts⟩ hK hX hA hP hD hS (c_clear l G _ (a 5) (a 6) fb ) (cwV 0 hts gX2_remakeFilter_X0_clear rfl rfl rfl (by decide +kernel) ⟨Nat.le_of_ble_eq_true rfl, Nat.le_of_ble_eq_true rfl⟩) 0 5 rfl rfl rfl [5, 6] [0, 1, 2, 3, 4, 7, 8, 9, 10] rfl rfl (by decide) (by decide) (by decide) rfl hl.1 (Nat.le_of_ble_eq_true rfl) dX2_remakeFilter_4 ⟨Nat.zero_le _, Nat.zero_le _⟩ (fun u H locs hw hP hD hS => ?_)
  have hP : va_P G.1 vwCl (wC G a fm fh fw (p_fill fb 0 32 (nI 0)) fc fd fr fp n k z t kn pl lf pn) H := hP.sub [0, 1, 2, 3, 4, 9, 10, 5, 6, 7, 8] rfl
  have hD : va_D A (wC G a fm fh fw (p_fill fb 0 32 (nI 0)) fc fd fr fp n k z t kn pl lf pn) := hD.sub [0, 1, 2, 3, 4, 9, 10, 5, 6, 7, 8] (by decide) rfl
  refine lv_iconst (v := nI 0) hx hb dX2_remakeFilter_7 (by decide) ?_
  refine lv_istore_n (lv' := [(1, .int (nI 0)), (0, .ref (a 0))]) hx hb dX2_remakeFilter_8 rfl hl (by decide) rfl (fun ls hl => ?_)
  suffices hloop1 : ∀ (fu1 : Nat) (i : Nat), (i ≤ n) → n - i < fu1 → ∀ (H : Heap) (locs : List Loc) (ls : Array Slot), va_P G.1 vwCl (wC G a fm fh fw (p_remN fb fc i) fc fd fr fp n k z t kn pl lf pn) H → va_D A (wC G a fm fh fw (p_remN fb fc i) fc fd fr fp n k z t kn pl lf pn) → va_S A s.heap H locs → lv_has ls 2 [(0, .ref (a 0)), (1, .int (nI i))] → W p l e ({ frames := 5, cells := 0, slots := 0, locals := 111 } : Room) s m args below meth c H locs 0 0 Q (F0 m 9 ls []) from hloop1 _ 0 (Nat.zero_le _) (Nat.lt_succ_self _) _ _ _ hP hD hS (lv_sub hl [1, 0] rfl)
  clear hP hD hS hl
  intro fu1
  induction fu1 with
  | zero => intro i hi hfu; exact absurd hfu (Nat.not_lt_zero _)
  | succ fu1 ih1 =>
    intro i hi hfu1 H locs ls hP hD hS hl
    refine lv_iload_n hx hb dX2_remakeFilter_9 rfl (lv_at hl 1 rfl) ?_
    refine lv_aload_n hx hb dX2_remakeFilter_10 rfl (lv_at hl 0 rfl) ?_
    refine va_get (D := G.1) (ci := 2) (v := .int (nI n)) (C := RX2) (T := TX2) (N := 14) hx hb hts hiX2 hown hK hP 0 rfl rfl 6 (by decide) lk36 (fun _ h9 => h9) rfl dX2_remakeFilter_11 ?_
    refine cmp_ge hx hb i n 28 (by omega) (by omega) dX2_remakeFilter_14 (by decide) (fun c14 => ?_) (fun c14 => ?_)
    · have e28 : i = n := by omega
      subst e28
      exact ret 28 _ _ _ () dX2_remakeFilter_28 (trivial) hP hD hS
    · refine lv_aload_n hx hb dX2_remakeFilter_17 rfl (lv_at hl 0 rfl) ?_
      refine lv_iload_n hx hb dX2_remakeFilter_18 rfl (lv_at hl 1 rfl) ?_
      refine call_Vv (wr := ([] : va_W)) [.int (nI i)] [] ⟨hx, hb, hml, hown, hts⟩ hK hX hA hP hD hS (c_addToFilter l G _ a fm fh fw (p_remN fb fc i) fc fd fr fp n k z t kn pl lf pn i (by omega) (by omega) (by omega) (by omega) (by omega) (by omega) (by omega) (by omega)) (cwV 1 hts gX2_remakeFilter_X2_addToFilter rfl rfl rfl (by decide +kernel) ⟨Nat.le_of_ble_eq_true rfl, Nat.le_of_ble_eq_true rfl⟩) 2 0 rfl rfl rfl [0, 1, 2, 3, 4, 5, 6, 7, 8, 9, 10] [] rfl rfl (by decide) (by decide) (by decide) rfl hl.1 (Nat.le_of_ble_eq_true rfl) dX2_remakeFilter_19 ⟨Nat.zero_le _, Nat.zero_le _⟩ (fun u H locs hw hP hD hS => ?_)
      have hP : va_P G.1 vwCl (wC G a fm fh fw (p_addN (p_remN fb fc i) fc (i * 34 + 16) 8) fc fd fr fp n k z t kn pl lf pn) H := hP
      have hD : va_D A (wC G a fm fh fw (p_addN (p_remN fb fc i) fc (i * 34 + 16) 8) fc fd fr fp n k z t kn pl lf pn) := hD
      have hP : va_P G.1 vwCl (wC G a fm fh fw (p_remN fb fc (i + 1)) fc fd fr fp n k z t kn pl lf pn) H := hP
      have hD : va_D A (wC G a fm fh fw (p_remN fb fc (i + 1)) fc fd fr fp n k z t kn pl lf pn) := hD
      refine lv_iinc (v := nI (i + 1)) (lv' := [(1, .int (nI (i + 1))), (0, .ref (a 0))]) hx hb dX2_remakeFilter_22 hl (k := 1) rfl (inc_N i 1) (by decide) rfl (fun ls hl => ?_)
      refine lv_goto (tgt := 9) hx hb dX2_remakeFilter_25 (by decide) ?_
      exact ih1 (i + 1) (by omega) (by omega) _ _ _ hP hD hS (lv_sub hl [1, 0] rfl)
set_option maxHeartbeats 4000000 in
set_option maxRecDepth 100000 in
theorem c_hasWord (l : Launch) (G : gG) (sz : Nat) (a : Nat → Nat) (fm fh fw fb fc fd fr fp : Nat → Int32) (n k z t : Nat) (kn : Int32) (pl lf pn : Nat) (y : Nat) (x : Int32) (hn : n ≤ 60) (hk : k ≤ 8) (hz : z ≤ 20) (ht : t ≤ 100000) (hpl : pl ≤ 60) (hlf : lf ≤ 6) (hpn : pn ≤ 1560) (hy : y < n) : MetI l yX2_hasWord wsX2_hasWord ({ frames := 0, cells := 0, slots := 0, locals := 0 } : Room) [.ref (a 0), .int (nI y), .int x] G (wC G a fm fh fw fb fc fd fr fp n k z t kn pl lf pn) sz (fun _ : Unit => wC G a fm fh fw fb fc fd fr fp n k z t kn pl lf pn) (fun r _ => r = bI (p_hw fc x y)) := by
  refine ent_z _ cX2_hasWord 5 RX2 (by decide) rfl rfl (Nat.le_of_ble_eq_true rfl) ?_
  intro p e s m args below meth c A Q ls hx hb hml hts hown hA hK hX ret hl hP hD hS
  have hl : lv_has ls 5 [(0, .ref (a 0)), (1, .int (nI y)), (2, .int x)] := hl
  have lk23 := hts (.fieldLink RX2 23 "MinedLedger" "cells" "[I") (by decide +kernel)
  have hiX2 : ∀ w ∈ wsX20, w ∈ wsX2_hasWord := by decide +kernel
  refine lv_iload_n hx hb dX2_hasWord_0 rfl (lv_at hl 1 rfl) ?_
  refine lv_bipush (v := nI 34) hx hb dX2_hasWord_1 (by decide) ?_
  refine mu_N hx hb y 34 dX2_hasWord_3 ?_
  refine lv_bipush (v := nI 16) hx hb dX2_hasWord_4 (by decide) ?_
  refine ad_N hx hb (y * 34) 16 dX2_hasWord_6 ?_
  refine lv_istore_n (lv' := [(3, .int (nI ((y * 34) + 16))), (0, .ref (a 0)), (1, .int (nI y)), (2, .int x)]) hx hb dX2_hasWord_7 rfl hl (by decide) rfl (fun ls hl => ?_)
  refine lv_iconst (v := nI 0) hx hb dX2_hasWord_8 (by decide) ?_
  refine lv_istore (lv' := [(4, .int (nI 0)), (3, .int (nI ((y * 34) + 16))), (0, .ref (a 0)), (1, .int (nI y)), (2, .int x)]) hx hb dX2_hasWord_9 hl (by decide) rfl (fun ls hl => ?_)
  suffices hloop1 : ∀ (fu1 : Nat) (i : Nat), (i ≤ 8) → (∀ j, j < i → ¬ decide (fc (y * 34 + 16 + j) = x) = true) → 8 - i < fu1 → ∀ (H : Heap) (locs : List Loc) (ls : Array Slot), va_P G.1 vwCl (wC G a fm fh fw fb fc fd fr fp n k z t kn pl lf pn) H → va_D A (wC G a fm fh fw fb fc fd fr fp n k z t kn pl lf pn) → va_S A s.heap H locs → lv_has ls 5 [(0, .ref (a 0)), (1, .int (nI y)), (2, .int x), (3, .int (nI ((y * 34) + 16))), (4, .int (nI i))] → W p l e ({ frames := 0, cells := 0, slots := 0, locals := 0 } : Room) s m args below meth c H locs 0 0 Q (F0 m 11 ls []) from hloop1 _ 0 (Nat.zero_le _) (fun j h => absurd h (Nat.not_lt_zero j)) (Nat.lt_succ_self _) _ _ _ hP hD hS (lv_sub hl [2, 3, 4, 1, 0] rfl)
  clear hP hD hS hl
  intro fu1
  induction fu1 with
  | zero => intro i hi hm hfu; exact absurd hfu (Nat.not_lt_zero _)
  | succ fu1 ih1 =>
    intro i hi hm hfu1 H locs ls hP hD hS hl
    refine lv_iload hx hb dX2_hasWord_11 (lv_at hl 4 rfl) ?_
    refine lv_bipush (v := nI 8) hx hb dX2_hasWord_13 (by decide) ?_
    refine cmp_ge hx hb i 8 39 (by omega) (by omega) dX2_hasWord_15 (by decide) (fun c15 => ?_) (fun c15 => ?_)
    · have e39 : i = 8 := by omega
      subst e39
      refine lv_iconst (v := nI 0) hx hb dX2_hasWord_39 (by decide) ?_
      exact ret 40 _ _ _ (nI 0) () dX2_hasWord_40 (by first | exact Or.inl rfl | exact Or.inr rfl) (by rw [p_hw, anyN_F hm]; rfl) hP hD hS
    · refine lv_aload_n hx hb dX2_hasWord_18 rfl (lv_at hl 0 rfl) ?_
      refine va_get (D := G.1) (ci := 2) (v := .ref (a 7)) (C := RX2) (T := TX2) (N := 14) hx hb hts hiX2 hown hK hP 0 rfl rfl 2 (by decide) lk23 (fun _ h9 => h9) rfl dX2_hasWord_19 ?_
      refine lv_iload_n hx hb dX2_hasWord_22 rfl (lv_at hl 3 rfl) ?_
      refine lv_iload hx hb dX2_hasWord_23 (lv_at hl 4 rfl) ?_
      refine ad_N hx hb ((y * 34) + 16) i dX2_hasWord_25 ?_
      refine rd_i hx hb hK hP 7 rfl (((y * 34) + 16) + i) (by omega) (by omega) dX2_hasWord_26 ?_
      refine lv_iload_n hx hb dX2_hasWord_27 rfl (lv_at hl 2 rfl) ?_
      refine lv_icmp_ne (tgt := 33) hx hb dX2_hasWord_28 (by decide) (fun c28 => ?_) (fun c28 => ?_)
      · refine lv_iinc (v := nI (i + 1)) (lv' := [(4, .int (nI (i + 1))), (0, .ref (a 0)), (1, .int (nI y)), (2, .int x), (3, .int (nI ((y * 34) + 16)))]) hx hb dX2_hasWord_33 hl (k := 4) rfl (inc_N i 1) (by decide) rfl (fun ls hl => ?_)
        refine lv_goto (tgt := 11) hx hb dX2_hasWord_36 (by decide) ?_
        exact ih1 (i + 1) (by omega) (lt_s hm (fun z => c28 (of_decide_eq_true z))) (by omega) _ _ _ hP hD hS (lv_sub hl [1, 2, 3, 4, 0] rfl)
      · refine lv_iconst (v := nI 1) hx hb dX2_hasWord_31 (by decide) ?_
        exact ret 32 _ _ _ (nI 1) () dX2_hasWord_32 (by first | exact Or.inl rfl | exact Or.inr rfl) (by rw [p_hw, anyN_T (i := i) (by omega) (decide_eq_true c28)]; rfl) hP hD hS
set_option maxHeartbeats 4000000 in
set_option maxRecDepth 100000 in
theorem c_find (l : Launch) (G : gG) (sz : Nat) (a : Nat → Nat) (fm fh fw fb fc fd fr fp : Nat → Int32) (n k z t : Nat) (kn : Int32) (pl lf pn : Nat) (x : Int32) (hn : n ≤ 60) (hk : k ≤ 8) (hz : z ≤ 20) (ht : t ≤ 100000) (hpl : pl ≤ 60) (hlf : lf ≤ 6) (hpn : pn ≤ 1560)  : MetI l yX2_find wsX2_find ({ frames := 4, cells := 0, slots := 0, locals := 88 } : Room) [.ref (a 0), .int x] G (wC G a fm fh fw fb fc fd fr fp n k z t kn pl lf pn) sz (fun _ : Unit => wC G a fm fh fw fb fc fd fr fp n k z t kn pl lf pn) (fun r _ => q_find fb fc n x r) := by
  refine ent_i _ cX2_find 3 RX2 (by decide) rfl rfl (Nat.le_of_ble_eq_true rfl) ?_
  intro p e s m args below meth c A Q ls hx hb hml hts hown hA hK hX ret hl hP hD hS
  have hl : lv_has ls 3 [(0, .ref (a 0)), (1, .int x)] := hl
  have lk19 := hts (.fieldLink RX2 19 "MinedLedger" "filter" "LMinedLedger$Filter;") (by decide +kernel)
  have lk36 := hts (.fieldLink RX2 36 "MinedLedger" "entryCount" "I") (by decide +kernel)
  have hiX2 : ∀ w ∈ wsX20, w ∈ wsX2_find := by decide +kernel
  refine lv_aload_n hx hb dX2_find_0 rfl (lv_at hl 0 rfl) ?_
  refine va_get (D := G.1) (ci := 2) (v := .ref (a 5)) (C := RX2) (T := TX2) (N := 14) hx hb hts hiX2 hown hK hP 0 rfl rfl 1 (by decide) lk19 (fun _ h9 => h9) rfl dX2_find_1 ?_
  refine lv_iload_n hx hb dX2_find_4 rfl (lv_at hl 1 rfl) ?_
  refine call_Vi (wr := ([(a 0, .inr (2, [.ref (a 1), .ref (a 5), .ref (a 7), .ref (a 8), .ref (a 9), .ref (a 10), .int (nI n), .int (nI k), .int (nI z), .int (nI t), .int kn, .int (nI pl), .int (nI lf), .int (nI pn)])), (a 1, .inr (1, [.ref (a 2), .ref (a 3), .ref (a 4)])), (a 2, .inl (G.2.2.1, 8, .inl fm)), (a 3, .inl (G.2.2.1, 8, .inl fh)), (a 4, .inl (G.2.2.1, 64, .inl fw)), (a 7, .inl (G.2.2.1, 2040, .inl fc)), (a 8, .inl (G.2.2.1, 8, .inl fd)), (a 9, .inl (G.2.2.1, 34, .inl fr)), (a 10, .inl (G.2.2.1, 1560, .inl fp))] : va_W)) [.int x] [] ⟨hx, hb, hml, hown, hts⟩ hK hX hA hP hD hS (c_mayHave l G _ (a 5) (a 6) fb x) (cwV 1 hts gX2_find_X0_mayHave rfl rfl rfl (by decide +kernel) ⟨Nat.le_of_ble_eq_true rfl, Nat.le_of_ble_eq_true rfl⟩) 0 5 rfl rfl rfl [5, 6] [0, 1, 2, 3, 4, 7, 8, 9, 10] rfl rfl (by decide) (by decide) (by decide) rfl hl.1 (Nat.le_of_ble_eq_true rfl) dX2_find_5 ⟨Nat.zero_le _, Nat.zero_le _⟩ (fun r_1 u H locs hw hP hD hS => ?_)
  obtain rfl := hw
  have hP : va_P G.1 vwCl (wC G a fm fh fw fb fc fd fr fp n k z t kn pl lf pn) H := hP.sub [0, 1, 2, 3, 4, 9, 10, 5, 6, 7, 8] rfl
  have hD : va_D A (wC G a fm fh fw fb fc fd fr fp n k z t kn pl lf pn) := hD.sub [0, 1, 2, 3, 4, 9, 10, 5, 6, 7, 8] (by decide) rfl
  refine lv_if_ne (tgt := 13) hx hb dX2_find_8 (by decide) (fun c8 => ?_) (fun c8 => ?_)
  · refine lv_iconst (v := nI 0) hx hb dX2_find_13 (by decide) ?_
    refine lv_istore_n (lv' := [(2, .int (nI 0)), (0, .ref (a 0)), (1, .int x)]) hx hb dX2_find_14 rfl hl (by decide) rfl (fun ls hl => ?_)
    suffices hloop1 : ∀ (fu1 : Nat) (i : Nat), (i ≤ n) → (∀ j, j < i → p_hw fc x j = false) → n - i < fu1 → ∀ (H : Heap) (locs : List Loc) (ls : Array Slot), va_P G.1 vwCl (wC G a fm fh fw fb fc fd fr fp n k z t kn pl lf pn) H → va_D A (wC G a fm fh fw fb fc fd fr fp n k z t kn pl lf pn) → va_S A s.heap H locs → lv_has ls 3 [(0, .ref (a 0)), (1, .int x), (2, .int (nI i))] → W p l e ({ frames := 4, cells := 0, slots := 0, locals := 88 } : Room) s m args below meth c H locs 0 0 Q (F0 m 15 ls []) from hloop1 _ 0 (Nat.zero_le _) (fun j h => absurd h (Nat.not_lt_zero j)) (Nat.lt_succ_self _) _ _ _ hP hD hS (lv_sub hl [1, 2, 0] rfl)
    clear hP hD hS hl
    intro fu1
    induction fu1 with
    | zero => intro i hi hm hfu; exact absurd hfu (Nat.not_lt_zero _)
    | succ fu1 ih1 =>
      intro i hi hm hfu1 H locs ls hP hD hS hl
      refine lv_iload_n hx hb dX2_find_15 rfl (lv_at hl 2 rfl) ?_
      refine lv_aload_n hx hb dX2_find_16 rfl (lv_at hl 0 rfl) ?_
      refine va_get (D := G.1) (ci := 2) (v := .int (nI n)) (C := RX2) (T := TX2) (N := 14) hx hb hts hiX2 hown hK hP 0 rfl rfl 6 (by decide) lk36 (fun _ h9 => h9) rfl dX2_find_17 ?_
      refine cmp_ge hx hb i n 40 (by omega) (by omega) dX2_find_20 (by decide) (fun c20 => ?_) (fun c20 => ?_)
      · refine lv_iconst (v := (-1)) hx hb dX2_find_40 (by decide) ?_
        exact ret 41 _ _ _ (-1) () dX2_find_41 (Or.inr ⟨bI_n c8, Or.inr ⟨rfl, fun j hj => hm j (by omega)⟩⟩) hP hD hS
      · refine lv_aload_n hx hb dX2_find_23 rfl (lv_at hl 0 rfl) ?_
        refine lv_iload_n hx hb dX2_find_24 rfl (lv_at hl 2 rfl) ?_
        refine lv_iload_n hx hb dX2_find_25 rfl (lv_at hl 1 rfl) ?_
        refine call_Vi (wr := ([] : va_W)) [.int (nI i), .int x] [] ⟨hx, hb, hml, hown, hts⟩ hK hX hA hP hD hS (c_hasWord l G _ a fm fh fw fb fc fd fr fp n k z t kn pl lf pn i x (by omega) (by omega) (by omega) (by omega) (by omega) (by omega) (by omega) (by omega)) (cwV 2 hts gX2_find_X2_hasWord rfl rfl rfl (by decide +kernel) ⟨Nat.le_of_ble_eq_true rfl, Nat.le_of_ble_eq_true rfl⟩) 2 0 rfl rfl rfl [0, 1, 2, 3, 4, 5, 6, 7, 8, 9, 10] [] rfl rfl (by decide) (by decide) (by decide) rfl hl.1 (Nat.le_of_ble_eq_true rfl) dX2_find_26 ⟨Nat.zero_le _, Nat.zero_le _⟩ (fun r_4 u H locs hw hP hD hS => ?_)
        obtain rfl := hw
        have hP : va_P G.1 vwCl (wC G a fm fh fw fb fc fd fr fp n k z t kn pl lf pn) H := hP
        have hD : va_D A (wC G a fm fh fw fb fc fd fr fp n k z t kn pl lf pn) := hD
        refine lv_if_eq (tgt := 34) hx hb dX2_find_29 (by decide) (fun c29 => ?_) (fun c29 => ?_)
        · refine lv_iinc (v := nI (i + 1)) (lv' := [(2, .int (nI (i + 1))), (0, .ref (a 0)), (1, .int x)]) hx hb dX2_find_34 hl (k := 2) rfl (inc_N i 1) (by decide) rfl (fun ls hl => ?_)
          refine lv_goto (tgt := 15) hx hb dX2_find_37 (by decide) ?_
          exact ih1 (i + 1) (by omega) (lt_s hm (bI_z c29)) (by omega) _ _ _ hP hD hS (lv_sub hl [1, 2, 0] rfl)
        · refine lv_iload_n hx hb dX2_find_32 rfl (lv_at hl 2 rfl) ?_
          exact ret 33 _ _ _ (nI i) () dX2_find_33 (Or.inr ⟨bI_n c8, Or.inl ⟨i, c20, rfl, bI_n c29, hm⟩⟩) hP hD hS
  · refine lv_iconst (v := (-1)) hx hb dX2_find_11 (by decide) ?_
    exact ret 12 _ _ _ (-1) () dX2_find_12 (Or.inl ⟨bI_z c8, rfl⟩) hP hD hS
set_option maxHeartbeats 4000000 in
set_option maxRecDepth 100000 in
theorem c_commit (l : Launch) (G : gG) (sz : Nat) (a : Nat → Nat) (fm fh fw fb fc fd fr fp : Nat → Int32) (n k z t : Nat) (kn : Int32) (pl lf pn : Nat)  (hn : n ≤ 60) (hk : k ≤ 8) (hz : z ≤ 20) (ht : t ≤ 100000) (hpl : pl ≤ 60) (hlf : lf ≤ 6) (hpn : pn ≤ 1560)  : MetI l yX2_commit wsX2_commit ({ frames := 5, cells := 0, slots := 0, locals := 111 } : Room) [.ref (a 0)] G (wC G a fm fh fw fb fc fd fr fp n k z t kn pl lf pn) sz (fun u : (Nat → Int32) × (Nat → Int32) × (Nat → Int32) × (Nat → Int32) × Nat × Nat × Nat × Int32 => wC G a fm fh fw u.1 u.2.1 u.2.2.1 u.2.2.2.1 fp u.2.2.2.2.1 u.2.2.2.2.2.1 z u.2.2.2.2.2.2.1 u.2.2.2.2.2.2.2 pl lf pn) (fun r u => q_commit fb fc fd fr n k t kn r u.1 u.2.1 u.2.2.1 u.2.2.2.1 u.2.2.2.2.1 u.2.2.2.2.2.1 u.2.2.2.2.2.2.1 u.2.2.2.2.2.2.2) := by
  refine ent_i _ cX2_commit 2 RX2 (by decide) rfl rfl (Nat.le_of_ble_eq_true rfl) ?_
  intro p e s m args below meth c A Q ls hx hb hml hts hown hA hK hX ret hl hP hD hS
  have hl : lv_has ls 2 [(0, .ref (a 0))] := hl
  have lk23 := hts (.fieldLink RX2 23 "MinedLedger" "cells" "[I") (by decide +kernel)
  have lk27 := hts (.fieldLink RX2 27 "MinedLedger" "headWords" "[I") (by decide +kernel)
  have lk30 := hts (.fieldLink RX2 30 "MinedLedger" "draft" "[I") (by decide +kernel)
  have lk36 := hts (.fieldLink RX2 36 "MinedLedger" "entryCount" "I") (by decide +kernel)
  have lk58 := hts (.fieldLink RX2 58 "MinedLedger" "keptNonce" "I") (by decide +kernel)
  have hiX2 : ∀ w ∈ wsX20, w ∈ wsX2_commit := by decide +kernel
  refine lv_aload_n hx hb dX2_commit_0 rfl (lv_at hl 0 rfl) ?_
  refine va_get (D := G.1) (ci := 2) (v := .int (nI n)) (C := RX2) (T := TX2) (N := 14) hx hb hts hiX2 hown hK hP 0 rfl rfl 6 (by decide) lk36 (fun _ h9 => h9) rfl dX2_commit_1 ?_
  refine lv_bipush (v := nI 60) hx hb dX2_commit_4 (by decide) ?_
  refine cmp_lt hx hb n 60 12 (by omega) (by omega) dX2_commit_6 (by decide) (fun c6 => ?_) (fun c6 => ?_)
  · refine lv_aload_n hx hb dX2_commit_12 rfl (lv_at hl 0 rfl) ?_
    refine va_get (D := G.1) (ci := 2) (v := .int kn) (C := RX2) (T := TX2) (N := 14) hx hb hts hiX2 hown hK hP 0 rfl rfl 10 (by decide) lk58 (fun _ h9 => h9) rfl dX2_commit_13 ?_
    refine lv_iconst (v := (-1)) hx hb dX2_commit_16 (by decide) ?_
    refine lv_icmp_ne (tgt := 23) hx hb dX2_commit_17 (by decide) (fun c17 => ?_) (fun c17 => ?_)
    · refine lv_aload_n hx hb dX2_commit_23 rfl (lv_at hl 0 rfl) ?_
      refine va_get (D := G.1) (ci := 2) (v := .int (nI n)) (C := RX2) (T := TX2) (N := 14) hx hb hts hiX2 hown hK hP 0 rfl rfl 6 (by decide) lk36 (fun _ h9 => h9) rfl dX2_commit_24 ?_
      refine lv_istore_n (lv' := [(1, .int (nI n)), (0, .ref (a 0))]) hx hb dX2_commit_27 rfl hl (by decide) rfl (fun ls hl => ?_)
      refine lv_aload_n hx hb dX2_commit_28 rfl (lv_at hl 1 rfl) ?_
      refine va_get (D := G.1) (ci := 2) (v := .ref (a 9)) (C := RX2) (T := TX2) (N := 14) hx hb hts hiX2 hown hK hP 0 rfl rfl 4 (by decide) lk30 (fun _ h9 => h9) rfl dX2_commit_29 ?_
      refine lv_iconst (v := nI 0) hx hb dX2_commit_32 (by decide) ?_
      refine lv_aload_n hx hb dX2_commit_33 rfl (lv_at hl 1 rfl) ?_
      refine va_get (D := G.1) (ci := 2) (v := .ref (a 7)) (C := RX2) (T := TX2) (N := 14) hx hb hts hiX2 hown hK hP 0 rfl rfl 2 (by decide) lk23 (fun _ h9 => h9) rfl dX2_commit_34 ?_
      refine lv_iload_n hx hb dX2_commit_37 rfl (lv_at hl 0 rfl) ?_
      refine lv_bipush (v := nI 34) hx hb dX2_commit_38 (by decide) ?_
      refine mu_N hx hb n 34 dX2_commit_40 ?_
      refine lv_bipush (v := nI 34) hx hb dX2_commit_41 (by decide) ?_
      refine cpy_i hx hb (by rw [hml]; exact hl.1.symm) hown (hts (.methodLink RX2 84 arraycopyName) (by decide +kernel)) (hts (.native arraycopyName) (by decide +kernel)) (hts (.static arraycopyName) (by decide +kernel)) (hts (.initialized "java/lang/System") (by decide +kernel)) hK hP hD hS 9 7 rfl rfl 0 (n * 34) 34 (by omega) (by omega) (by omega) (Nat.le_of_ble_eq_true rfl) (Nat.le_of_ble_eq_true rfl) dX2_commit_43 (fun H locs hP hD hS => ?_)
      have hP : va_P G.1 vwCl (wC G a fm fh fw fb (va_cpy fr fc 0 (n * 34) 34) fd fr fp n k z t kn pl lf pn) H := hP
      have hD : va_D A (wC G a fm fh fw fb (va_cpy fr fc 0 (n * 34) 34) fd fr fp n k z t kn pl lf pn) := hD
      refine lv_aload_n hx hb dX2_commit_46 rfl (lv_at hl 1 rfl) ?_
      refine va_get (D := G.1) (ci := 2) (v := .ref (a 9)) (C := RX2) (T := TX2) (N := 14) hx hb hts hiX2 hown hK hP 0 rfl rfl 4 (by decide) lk30 (fun _ h9 => h9) rfl dX2_commit_47 ?_
      refine lv_bipush (v := nI 26) hx hb dX2_commit_50 (by decide) ?_
      refine lv_aload_n hx hb dX2_commit_52 rfl (lv_at hl 1 rfl) ?_
      refine va_get (D := G.1) (ci := 2) (v := .ref (a 8)) (C := RX2) (T := TX2) (N := 14) hx hb hts hiX2 hown hK hP 0 rfl rfl 3 (by decide) lk27 (fun _ h9 => h9) rfl dX2_commit_53 ?_
      refine lv_iconst (v := nI 0) hx hb dX2_commit_56 (by decide) ?_
      refine lv_bipush (v := nI 8) hx hb dX2_commit_57 (by decide) ?_
      refine cpy_i hx hb (by rw [hml]; exact hl.1.symm) hown (hts (.methodLink RX2 84 arraycopyName) (by decide +kernel)) (hts (.native arraycopyName) (by decide +kernel)) (hts (.static arraycopyName) (by decide +kernel)) (hts (.initialized "java/lang/System") (by decide +kernel)) hK hP hD hS 9 8 rfl rfl 26 0 8 (by omega) (by omega) (by omega) (Nat.le_of_ble_eq_true rfl) (Nat.le_of_ble_eq_true rfl) dX2_commit_59 (fun H locs hP hD hS => ?_)
      have hP : va_P G.1 vwCl (wC G a fm fh fw fb (va_cpy fr fc 0 (n * 34) 34) (va_cpy fr fd 26 0 8) fr fp n k z t kn pl lf pn) H := hP
      have hD : va_D A (wC G a fm fh fw fb (va_cpy fr fc 0 (n * 34) 34) (va_cpy fr fd 26 0 8) fr fp n k z t kn pl lf pn) := hD
      refine lv_aload_n hx hb dX2_commit_62 rfl (lv_at hl 1 rfl) ?_
      refine lv_dup hx hb dX2_commit_63 rfl ?_
      refine va_get (D := G.1) (ci := 2) (v := .int (nI n)) (C := RX2) (T := TX2) (N := 14) hx hb hts hiX2 hown hK hP 0 rfl rfl 6 (by decide) lk36 (fun _ h9 => h9) rfl dX2_commit_64 ?_
      refine lv_iconst (v := nI 1) hx hb dX2_commit_67 (by decide) ?_
      refine ad_N hx hb n 1 dX2_commit_68 ?_
      refine va_put (D := G.1) (ci := 2) (v := .int (nI (n + 1))) (ty := .int) (C := RX2) (T := TX2) (N := 14) hx hb hts hiX2 tyX2 tyX2_ok nmX2 hown hK hP hD hS 0 rfl rfl 6 (by decide) lk36 (fun _ h9 => h9) rfl (by decide +kernel) rfl rfl (Nat.le_of_ble_eq_true rfl) dX2_commit_69 (fun H locs hP hD hS => ?_)
      have hP : va_P G.1 vwCl (wC G a fm fh fw fb (va_cpy fr fc 0 (n * 34) 34) (va_cpy fr fd 26 0 8) fr fp (n + 1) k z t kn pl lf pn) H := hP
      have hD : va_D A (wC G a fm fh fw fb (va_cpy fr fc 0 (n * 34) 34) (va_cpy fr fd 26 0 8) fr fp (n + 1) k z t kn pl lf pn) := hD
      refine lv_aload_n hx hb dX2_commit_72 rfl (lv_at hl 1 rfl) ?_
      refine lv_iload_n hx hb dX2_commit_73 rfl (lv_at hl 0 rfl) ?_
      refine call_Vv (wr := ([] : va_W)) [.int (nI n)] [] ⟨hx, hb, hml, hown, hts⟩ hK hX hA hP hD hS (c_addToFilter l G _ a fm fh fw fb (va_cpy fr fc 0 (n * 34) 34) (va_cpy fr fd 26 0 8) fr fp (n + 1) k z t kn pl lf pn n (by omega) (by omega) (by omega) (by omega) (by omega) (by omega) (by omega) (by omega)) (cwV 1 hts gX2_commit_X2_addToFilter rfl rfl rfl (by decide +kernel) ⟨Nat.le_of_ble_eq_true rfl, Nat.le_of_ble_eq_true rfl⟩) 2 0 rfl rfl rfl [0, 1, 2, 3, 4, 5, 6, 7, 8, 9, 10] [] rfl rfl (by decide) (by decide) (by decide) rfl hl.1 (Nat.le_of_ble_eq_true rfl) dX2_commit_74 ⟨Nat.zero_le _, Nat.zero_le _⟩ (fun u H locs hw hP hD hS => ?_)
      have hP : va_P G.1 vwCl (wC G a fm fh fw (p_addN fb (va_cpy fr fc 0 (n * 34) 34) (n * 34 + 16) 8) (va_cpy fr fc 0 (n * 34) 34) (va_cpy fr fd 26 0 8) fr fp (n + 1) k z t kn pl lf pn) H := hP
      have hD : va_D A (wC G a fm fh fw (p_addN fb (va_cpy fr fc 0 (n * 34) 34) (n * 34 + 16) 8) (va_cpy fr fc 0 (n * 34) 34) (va_cpy fr fd 26 0 8) fr fp (n + 1) k z t kn pl lf pn) := hD
      refine lv_aload_n hx hb dX2_commit_77 rfl (lv_at hl 1 rfl) ?_
      refine lv_iconst (v := nI 0) hx hb dX2_commit_78 (by decide) ?_
      refine call_Vv (wr := ([] : va_W)) [.int (nI 0)] [] ⟨hx, hb, hml, hown, hts⟩ hK hX hA hP hD hS (c_clearWordsFrom l G _ a fm fh fw (p_addN fb (va_cpy fr fc 0 (n * 34) 34) (n * 34 + 16) 8) (va_cpy fr fc 0 (n * 34) 34) (va_cpy fr fd 26 0 8) fr fp (n + 1) k z t kn pl lf pn 0 (by omega) (by omega) (by omega) (by omega) (by omega) (by omega) (by omega) (by omega)) (cwV 1 hts gX2_commit_X2_clearWordsFrom rfl rfl rfl (by decide +kernel) ⟨Nat.le_of_ble_eq_true rfl, Nat.le_of_ble_eq_true rfl⟩) 2 0 rfl rfl rfl [0, 1, 2, 3, 4, 5, 6, 7, 8, 9, 10] [] rfl rfl (by decide) (by decide) (by decide) rfl hl.1 (Nat.le_of_ble_eq_true rfl) dX2_commit_79 ⟨Nat.zero_le _, Nat.zero_le _⟩ (fun u H locs hw hP hD hS => ?_)
      have hP : va_P G.1 vwCl (wC G a fm fh fw (p_addN fb (va_cpy fr fc 0 (n * 34) 34) (n * 34 + 16) 8) (va_cpy fr fc 0 (n * 34) 34) (va_cpy fr fd 26 0 8) (p_fill fr (16 + 0) 24 (nI 0)) fp (n + 1) 0 z t kn pl lf pn) H := hP
      have hD : va_D A (wC G a fm fh fw (p_addN fb (va_cpy fr fc 0 (n * 34) 34) (n * 34 + 16) 8) (va_cpy fr fc 0 (n * 34) 34) (va_cpy fr fd 26 0 8) (p_fill fr (16 + 0) 24 (nI 0)) fp (n + 1) 0 z t kn pl lf pn) := hD
      refine lv_aload_n hx hb dX2_commit_82 rfl (lv_at hl 1 rfl) ?_
      refine call_Vv (wr := ([] : va_W)) [] [] ⟨hx, hb, hml, hown, hts⟩ hK hX hA hP hD hS (c_forgetNonces l G _ a fm fh fw (p_addN fb (va_cpy fr fc 0 (n * 34) 34) (n * 34 + 16) 8) (va_cpy fr fc 0 (n * 34) 34) (va_cpy fr fd 26 0 8) (p_fill fr (16 + 0) 24 (nI 0)) fp (n + 1) 0 z t kn pl lf pn  (by omega) (by omega) (by omega) (by omega) (by omega) (by omega) (by omega)) (cwV 0 hts gX2_commit_X2_forgetNonces rfl rfl rfl (by decide +kernel) ⟨Nat.le_of_ble_eq_true rfl, Nat.le_of_ble_eq_true rfl⟩) 2 0 rfl rfl rfl [0, 1, 2, 3, 4, 5, 6, 7, 8, 9, 10] [] rfl rfl (by decide) (by decide) (by decide) rfl hl.1 (Nat.le_of_ble_eq_true rfl) dX2_commit_83 ⟨Nat.zero_le _, Nat.zero_le _⟩ (fun u H locs hw hP hD hS => ?_)
      have hP : va_P G.1 vwCl (wC G a fm fh fw (p_addN fb (va_cpy fr fc 0 (n * 34) 34) (n * 34 + 16) 8) (va_cpy fr fc 0 (n * 34) 34) (va_cpy fr fd 26 0 8) (p_fill fr (16 + 0) 24 (nI 0)) fp (n + 1) 0 z 0 (-1) pl lf pn) H := hP
      have hD : va_D A (wC G a fm fh fw (p_addN fb (va_cpy fr fc 0 (n * 34) 34) (n * 34 + 16) 8) (va_cpy fr fc 0 (n * 34) 34) (va_cpy fr fd 26 0 8) (p_fill fr (16 + 0) 24 (nI 0)) fp (n + 1) 0 z 0 (-1) pl lf pn) := hD
      refine lv_iload_n hx hb dX2_commit_86 rfl (lv_at hl 0 rfl) ?_
      exact ret 87 _ _ _ (nI n) (p_addN fb (va_cpy fr fc 0 (n * 34) 34) (n * 34 + 16) 8, va_cpy fr fc 0 (n * 34) 34, va_cpy fr fd 26 0 8, p_fill fr (16 + 0) 24 (nI 0), n + 1, 0, 0, (-1)) dX2_commit_87 (Or.inr ⟨c6, Or.inr ⟨c17, rfl, rfl, rfl, rfl, rfl, rfl, rfl, rfl, rfl⟩⟩) hP hD hS
    · refine lv_bipush (v := (-3)) hx hb dX2_commit_20 (by decide) ?_
      exact ret 22 _ _ _ (-3) (fb, fc, fd, fr, n, k, t, kn) dX2_commit_22 (Or.inr ⟨c6, Or.inl ⟨c17, rfl, rfl, rfl, rfl, rfl, rfl, rfl, rfl, rfl⟩⟩) hP hD hS
  · refine lv_bipush (v := (-4)) hx hb dX2_commit_9 (by decide) ?_
    exact ret 11 _ _ _ (-4) (fb, fc, fd, fr, n, k, t, kn) dX2_commit_11 (Or.inl ⟨c6, rfl, rfl, rfl, rfl, rfl, rfl, rfl, rfl, rfl⟩) hP hD hS
set_option maxHeartbeats 4000000 in
set_option maxRecDepth 100000 in
theorem c_drop (l : Launch) (G : gG) (sz : Nat) (a : Nat → Nat) (fm fh fw fb fc fd fr fp : Nat → Int32) (n k z t : Nat) (kn : Int32) (pl lf pn : Nat)  (hn : n ≤ 60) (hk : k ≤ 8) (hz : z ≤ 20) (ht : t ≤ 100000) (hpl : pl ≤ 60) (hlf : lf ≤ 6) (hpn : pn ≤ 1560)  : MetI l yX2_drop wsX2_drop ({ frames := 6, cells := 0, slots := 0, locals := 132 } : Room) [.ref (a 0)] G (wC G a fm fh fw fb fc fd fr fp n k z t kn pl lf pn) sz (fun u : (Nat → Int32) × (Nat → Int32) × Nat × Nat × Int32 × Nat => wC G a fm fh fw u.1 fc u.2.1 fr fp u.2.2.1 k z u.2.2.2.1 u.2.2.2.2.1 u.2.2.2.2.2 lf pn) (fun r u => q_drop fb fc fd n t kn pl r u.1 u.2.1 u.2.2.1 u.2.2.2.1 u.2.2.2.2.1 u.2.2.2.2.2) := by
  refine ent_i _ cX2_drop 1 RX2 (by decide) rfl rfl (Nat.le_of_ble_eq_true rfl) ?_
  intro p e s m args below meth c A Q ls hx hb hml hts hown hA hK hX ret hl hP hD hS
  have hl : lv_has ls 1 [(0, .ref (a 0))] := hl
  have lk23 := hts (.fieldLink RX2 23 "MinedLedger" "cells" "[I") (by decide +kernel)
  have lk27 := hts (.fieldLink RX2 27 "MinedLedger" "headWords" "[I") (by decide +kernel)
  have lk36 := hts (.fieldLink RX2 36 "MinedLedger" "entryCount" "I") (by decide +kernel)
  have lk61 := hts (.fieldLink RX2 61 "MinedLedger" "place" "I") (by decide +kernel)
  have hiX2 : ∀ w ∈ wsX20, w ∈ wsX2_drop := by decide +kernel
  refine lv_aload_n hx hb dX2_drop_0 rfl (lv_at hl 0 rfl) ?_
  refine va_get (D := G.1) (ci := 2) (v := .int (nI n)) (C := RX2) (T := TX2) (N := 14) hx hb hts hiX2 hown hK hP 0 rfl rfl 6 (by decide) lk36 (fun _ h9 => h9) rfl dX2_drop_1 ?_
  refine if0_ne hx hb n 9 (by omega) dX2_drop_4 (by decide) (fun c4 => ?_) (fun c4 => ?_)
  · refine lv_aload_n hx hb dX2_drop_9 rfl (lv_at hl 0 rfl) ?_
    refine lv_dup hx hb dX2_drop_10 rfl ?_
    refine va_get (D := G.1) (ci := 2) (v := .int (nI n)) (C := RX2) (T := TX2) (N := 14) hx hb hts hiX2 hown hK hP 0 rfl rfl 6 (by decide) lk36 (fun _ h9 => h9) rfl dX2_drop_11 ?_
    refine lv_iconst (v := nI 1) hx hb dX2_drop_14 (by decide) ?_
    refine su_N hx hb n 1 (by omega) dX2_drop_15 ?_
    refine va_put (D := G.1) (ci := 2) (v := .int (nI (n - 1))) (ty := .int) (C := RX2) (T := TX2) (N := 14) hx hb hts hiX2 tyX2 tyX2_ok nmX2 hown hK hP hD hS 0 rfl rfl 6 (by decide) lk36 (fun _ h9 => h9) rfl (by decide +kernel) rfl rfl (Nat.le_of_ble_eq_true rfl) dX2_drop_16 (fun H locs hP hD hS => ?_)
    have hP : va_P G.1 vwCl (wC G a fm fh fw fb fc fd fr fp (n - 1) k z t kn pl lf pn) H := hP
    have hD : va_D A (wC G a fm fh fw fb fc fd fr fp (n - 1) k z t kn pl lf pn) := hD
    refine lv_aload_n hx hb dX2_drop_19 rfl (lv_at hl 0 rfl) ?_
    refine va_get (D := G.1) (ci := 2) (v := .ref (a 7)) (C := RX2) (T := TX2) (N := 14) hx hb hts hiX2 hown hK hP 0 rfl rfl 2 (by decide) lk23 (fun _ h9 => h9) rfl dX2_drop_20 ?_
    refine lv_aload_n hx hb dX2_drop_23 rfl (lv_at hl 0 rfl) ?_
    refine va_get (D := G.1) (ci := 2) (v := .int (nI (n - 1))) (C := RX2) (T := TX2) (N := 14) hx hb hts hiX2 hown hK hP 0 rfl rfl 6 (by decide) lk36 (fun _ h9 => h9) rfl dX2_drop_24 ?_
    refine lv_bipush (v := nI 34) hx hb dX2_drop_27 (by decide) ?_
    refine mu_N hx hb (n - 1) 34 dX2_drop_29 ?_
    refine lv_iconst (v := nI 0) hx hb dX2_drop_30 (by decide) ?_
    refine ad_N hx hb ((n - 1) * 34) 0 dX2_drop_31 ?_
    refine lv_aload_n hx hb dX2_drop_32 rfl (lv_at hl 0 rfl) ?_
    refine va_get (D := G.1) (ci := 2) (v := .ref (a 8)) (C := RX2) (T := TX2) (N := 14) hx hb hts hiX2 hown hK hP 0 rfl rfl 3 (by decide) lk27 (fun _ h9 => h9) rfl dX2_drop_33 ?_
    refine lv_iconst (v := nI 0) hx hb dX2_drop_36 (by decide) ?_
    refine lv_bipush (v := nI 8) hx hb dX2_drop_37 (by decide) ?_
    refine cpy_i hx hb (by rw [hml]; exact hl.1.symm) hown (hts (.methodLink RX2 84 arraycopyName) (by decide +kernel)) (hts (.native arraycopyName) (by decide +kernel)) (hts (.static arraycopyName) (by decide +kernel)) (hts (.initialized "java/lang/System") (by decide +kernel)) hK hP hD hS 7 8 rfl rfl (((n - 1) * 34) + 0) 0 8 (by omega) (by omega) (by omega) (Nat.le_of_ble_eq_true rfl) (Nat.le_of_ble_eq_true rfl) dX2_drop_39 (fun H locs hP hD hS => ?_)
    have hP : va_P G.1 vwCl (wC G a fm fh fw fb fc (va_cpy fc fd (((n - 1) * 34) + 0) 0 8) fr fp (n - 1) k z t kn pl lf pn) H := hP
    have hD : va_D A (wC G a fm fh fw fb fc (va_cpy fc fd (((n - 1) * 34) + 0) 0 8) fr fp (n - 1) k z t kn pl lf pn) := hD
    refine lv_aload_n hx hb dX2_drop_42 rfl (lv_at hl 0 rfl) ?_
    refine call_Vv (wr := ([] : va_W)) [] [] ⟨hx, hb, hml, hown, hts⟩ hK hX hA hP hD hS (c_remakeFilter l G _ a fm fh fw fb fc (va_cpy fc fd (((n - 1) * 34) + 0) 0 8) fr fp (n - 1) k z t kn pl lf pn  (by omega) (by omega) (by omega) (by omega) (by omega) (by omega) (by omega)) (cwV 0 hts gX2_drop_X2_remakeFilter rfl rfl rfl (by decide +kernel) ⟨Nat.le_of_ble_eq_true rfl, Nat.le_of_ble_eq_true rfl⟩) 2 0 rfl rfl rfl [0, 1, 2, 3, 4, 5, 6, 7, 8, 9, 10] [] rfl rfl (by decide) (by decide) (by decide) rfl hl.1 (Nat.le_of_ble_eq_true rfl) dX2_drop_43 ⟨Nat.zero_le _, Nat.zero_le _⟩ (fun u H locs hw hP hD hS => ?_)
    have hP : va_P G.1 vwCl (wC G a fm fh fw (p_remN fb fc (n - 1)) fc (va_cpy fc fd (((n - 1) * 34) + 0) 0 8) fr fp (n - 1) k z t kn pl lf pn) H := hP
    have hD : va_D A (wC G a fm fh fw (p_remN fb fc (n - 1)) fc (va_cpy fc fd (((n - 1) * 34) + 0) 0 8) fr fp (n - 1) k z t kn pl lf pn) := hD
    refine lv_aload_n hx hb dX2_drop_46 rfl (lv_at hl 0 rfl) ?_
    refine lv_aload_n hx hb dX2_drop_47 rfl (lv_at hl 0 rfl) ?_
    refine va_get (D := G.1) (ci := 2) (v := .int (nI pl)) (C := RX2) (T := TX2) (N := 14) hx hb hts hiX2 hown hK hP 0 rfl rfl 11 (by decide) lk61 (fun _ h9 => h9) rfl dX2_drop_48 ?_
    refine lv_aload_n hx hb dX2_drop_51 rfl (lv_at hl 0 rfl) ?_
    refine va_get (D := G.1) (ci := 2) (v := .int (nI (n - 1))) (C := RX2) (T := TX2) (N := 14) hx hb hts hiX2 hown hK hP 0 rfl rfl 6 (by decide) lk36 (fun _ h9 => h9) rfl dX2_drop_52 ?_
    refine va_mmin (x := nI pl) (y := nI (n - 1)) hx hb (by rw [hml]; exact hl.1.symm) hown (hts (.methodLink RX2 43 Lib.Math.min.name) (by decide +kernel)) (hts (.static Lib.Math.min.name) (by decide +kernel)) (hts (.initialized "java/lang/Math") (by decide +kernel)) (hts (.code Lib.Math.min.name Lib.Math.min.code 2 (some .int)) (by decide +kernel)) (Nat.le_of_ble_eq_true rfl) (Nat.le_of_ble_eq_true rfl) (Nat.zero_le _) (Nat.zero_le _) dX2_drop_55 ?_
    refine top_i (nI (min pl (n - 1))) (min_N (by omega) (by omega)) ?_
    refine va_put (D := G.1) (ci := 2) (v := .int (nI (min pl (n - 1)))) (ty := .int) (C := RX2) (T := TX2) (N := 14) hx hb hts hiX2 tyX2 tyX2_ok nmX2 hown hK hP hD hS 0 rfl rfl 11 (by decide) lk61 (fun _ h9 => h9) rfl (by decide +kernel) rfl rfl (Nat.le_of_ble_eq_true rfl) dX2_drop_58 (fun H locs hP hD hS => ?_)
    have hP : va_P G.1 vwCl (wC G a fm fh fw (p_remN fb fc (n - 1)) fc (va_cpy fc fd (((n - 1) * 34) + 0) 0 8) fr fp (n - 1) k z t kn (min pl (n - 1)) lf pn) H := hP
    have hD : va_D A (wC G a fm fh fw (p_remN fb fc (n - 1)) fc (va_cpy fc fd (((n - 1) * 34) + 0) 0 8) fr fp (n - 1) k z t kn (min pl (n - 1)) lf pn) := hD
    refine lv_aload_n hx hb dX2_drop_61 rfl (lv_at hl 0 rfl) ?_
    refine call_Vv (wr := ([] : va_W)) [] [] ⟨hx, hb, hml, hown, hts⟩ hK hX hA hP hD hS (c_forgetNonces l G _ a fm fh fw (p_remN fb fc (n - 1)) fc (va_cpy fc fd (((n - 1) * 34) + 0) 0 8) fr fp (n - 1) k z t kn (min pl (n - 1)) lf pn  (by omega) (by omega) (by omega) (by omega) (by omega) (by omega) (by omega)) (cwV 0 hts gX2_drop_X2_forgetNonces rfl rfl rfl (by decide +kernel) ⟨Nat.le_of_ble_eq_true rfl, Nat.le_of_ble_eq_true rfl⟩) 2 0 rfl rfl rfl [0, 1, 2, 3, 4, 5, 6, 7, 8, 9, 10] [] rfl rfl (by decide) (by decide) (by decide) rfl hl.1 (Nat.le_of_ble_eq_true rfl) dX2_drop_62 ⟨Nat.zero_le _, Nat.zero_le _⟩ (fun u H locs hw hP hD hS => ?_)
    have hP : va_P G.1 vwCl (wC G a fm fh fw (p_remN fb fc (n - 1)) fc (va_cpy fc fd (((n - 1) * 34) + 0) 0 8) fr fp (n - 1) k z 0 (-1) (min pl (n - 1)) lf pn) H := hP
    have hD : va_D A (wC G a fm fh fw (p_remN fb fc (n - 1)) fc (va_cpy fc fd (((n - 1) * 34) + 0) 0 8) fr fp (n - 1) k z 0 (-1) (min pl (n - 1)) lf pn) := hD
    refine lv_aload_n hx hb dX2_drop_65 rfl (lv_at hl 0 rfl) ?_
    refine va_get (D := G.1) (ci := 2) (v := .int (nI (n - 1))) (C := RX2) (T := TX2) (N := 14) hx hb hts hiX2 hown hK hP 0 rfl rfl 6 (by decide) lk36 (fun _ h9 => h9) rfl dX2_drop_66 ?_
    exact ret 69 _ _ _ (nI (n - 1)) (p_remN fb fc (n - 1), va_cpy fc fd (((n - 1) * 34) + 0) 0 8, n - 1, 0, (-1), min pl (n - 1)) dX2_drop_69 (Or.inr ⟨c4, rfl, rfl, rfl, rfl, rfl, rfl, rfl⟩) hP hD hS
  · refine lv_iconst (v := (-1)) hx hb dX2_drop_7 (by decide) ?_
    exact ret 8 _ _ _ (-1) (fb, fd, n, t, kn, pl) dX2_drop_8 (Or.inl ⟨c4, rfl, rfl, rfl, rfl, rfl, rfl, rfl⟩) hP hD hS
end
section
def p_hc (fc : Nat → Int32) (n : Nat) (x : Int32) (i : Nat) : Int32 := if p_ok x n then fc (p_ix x * 34 + 26 + i) else nI 0
theorem hc_F {fc : Nat → Int32} {n : Nat} {x : Int32} {i : Nat} (h : p_ok x n = false) : p_hc fc n x i = nI 0 := by rw [p_hc, h]; rfl
theorem hc_T {fc : Nat → Int32} {n j i : Nat} (hj : j < n) (hn : n ≤ 60) : p_hc fc n (nI j) i = fc (j * 34 + 26 + i) := by rw [p_hc, ok_N (by omega), decide_eq_true hj, if_pos rfl, ix_N hj (by omega)]
def p_iho (fc : Nat → Int32) (n : Nat) (x : Int32) (g : Nat → Int32) (d i : Nat) : Bool := decide (g (d + i) = p_hc fc n x i)
theorem mx_eq {n : Nat} (hn : n ≤ 60) : (if nI 0 < (nI n - nI 1) then (nI n - nI 1) else nI 0) = nI (n - 1) := by
  by_cases h : n = 0
  · subst h; decide
  · rw [pk_sub (show 1 ≤ n by omega)]
    by_cases q : 0 < n - 1
    · rw [if_pos ((nI_ltI (by omega) (by omega)).mpr q)]
    · rw [if_neg (fun z => q ((nI_ltI (by omega) (by omega)).mp z)), show n - 1 = 0 by omega]
abbrev p_hdr (fc fd : Nat → Int32) (n : Nat) : Bool := allN (p_iho fc n (nI n - nI 1) fd 0) 8
def p_dif (v : Int32) : Nat := v.toBitVec.toNat / 16
theorem p_dif_lt (v : Int32) : p_dif v < 268435456 := by
  have := v.toBitVec.isLt
  simp only [p_dif]
  omega
theorem ush4 (v : Int32) : p_ush v (nI 4) = nI (p_dif v) := by
  apply Int32.toBitVec_inj.mp
  apply BitVec.eq_of_toNat_eq
  have e := pk_ushr v (nI 4) 4 (by decide)
  rw [p_ush, e, pk_tn (by have := p_dif_lt v; omega)]
  rfl
def p_flt (fc : Nat → Int32) (n y : Nat) : Nat :=
  if allN (p_iho fc n (nI y - nI 1) fc (y * 34 + 0)) 8 then
    (if allN (p_iho fc n (p_skI y) fc (y * 34 + 8)) 8 then
      (if allN (p_is (p_hash fc (y * 34)) fc (y * 34 + 26)) 8 then (if p_zeros (p_hash fc (y * 34)) < p_dif (fc (y * 34 + 24)) then 4 else 0) else 3)
    else 2)
  else 1
theorem p_flt_le (fc : Nat → Int32) (n y : Nat) : p_flt fc n y ≤ 4 := by
  simp only [p_flt]
  split
  · split
    · split
      · split <;> omega
      · omega
    · omega
  · omega
theorem allN_congr {p q : Nat → Bool} : ∀ {n : Nat}, (∀ i, i < n → p i = q i) → allN p n = allN q n
  | 0, _ => rfl
  | n + 1, h => by rw [allN, allN, allN_congr (fun i hi => h i (by omega)), h n (by omega)]
theorem is_congr {g h f : Nat → Int32} {k : Nat} (e : ∀ j, j < 8 → g j = h j) : allN (p_is g f k) 8 = allN (p_is h f k) 8 := allN_congr (fun i hi => by rw [p_is, p_is, e i hi])
def p_aud (fc fd : Nat → Int32) (n : Nat) : Nat → Nat → Int32 × Nat × Nat
  | 0, pl => ((-1), pl, 0)
  | q + 1, pl => if n ≤ pl then (if p_hdr fc fd n then ((-5), pl, 0) else (nI (n - 1), pl, if n = 0 then 6 else 5)) else if p_flt fc n pl = 0 then p_aud fc fd n q (pl + 1) else (nI pl, pl, p_flt fc n pl)
def q_audit (fc fd : Nat → Int32) (n pl lf : Nat) (x r : Int32) (pl' lf' : Nat) : Prop :=
  ((x.toInt < 1 ∨ 100 < x.toInt) ∧ r = (-2) ∧ pl' = pl ∧ lf' = lf) ∨ (∃ q : Nat, 1 ≤ q ∧ q ≤ 100 ∧ x = nI q ∧ (r, pl', lf') = p_aud fc fd n q pl)
def q_way (n : Nat) (x w r : Int32) : Prop :=
  (p_ok x n = false ∧ r = (-2)) ∨ (∃ y K : Nat, y < n ∧ x = nI y ∧ p_end (n - 1) y K ∧ (((w.toInt < 0 ∨ (K : Int) < w.toInt) ∧ r = (-1)) ∨ (∃ j : Nat, j ≤ K ∧ w = nI j ∧ r = nI (p_way (n - 1) y j))))
def q_prove (fc fp : Nat → Int32) (n pn : Nat) (x r : Int32) (fp' : Nat → Int32) (pn' : Nat) : Prop :=
  (p_ok x n = false ∧ r = (-2) ∧ fp' = fp ∧ pn' = pn) ∨ (∃ y K : Nat, y < n ∧ x = nI y ∧ p_end (n - 1) y K ∧ r = nI (26 * (K + 1)) ∧ pn' = 26 * (K + 1) ∧ ∀ k j, k ≤ K → j < 26 → fp' (26 * k + j) = fc (34 * p_way (n - 1) y k + j))
def p_due (fd fp : Nat → Int32) (x y : Nat) : Nat → Nat → Int32
  | 0, j => fd j
  | k + 1, j => fp (26 * k + (if p_by (p_way x y k) y then 8 else 0) + j)
def p_chk (fd fp : Nat → Int32) (x y k : Nat) : Bool := allN (fun j => decide (p_due fd fp x y k j = p_hash fp (26 * k) j)) 8
def q_check (fd fp : Nat → Int32) (n pn : Nat) (x r : Int32) : Prop :=
  (p_ok x n = false ∧ r = (-2)) ∨ (∃ y K : Nat, y < n ∧ x = nI y ∧ p_end (n - 1) y K ∧ r = bI (decide (pn = 26 * (K + 1)) && allN (p_chk fd fp (n - 1) y) (K + 1)))
theorem end_ex {x e : Nat} (hx : x < 64) (he : e ≤ x) : ∃ K, p_end x e K := by
  obtain ⟨K, h1, h2⟩ := pk_least (fun k => p_way x e k ≤ e) (Classical.byContradiction fun q => by
    have h : ∀ k, e < p_way x e k := fun k => Nat.lt_of_not_le fun z => q ⟨k, z⟩
    have := way_le hx (x + 1) (fun j _ => h j)
    omega)
  have h3 : ∀ j, j < K → e < p_way x e j := fun j hj => Nat.lt_of_not_le (h2 j hj)
  exact ⟨K, h3, Nat.le_antisymm h1 (way_ge hx he K h3)⟩
theorem end_le {n y K i : Nat} (hn : n ≤ 60) (h : p_end (n - 1) y K) (hi : i ≤ K) : p_way (n - 1) y i + i ≤ n - 1 := way_le (by omega) i (fun j hj => h.1 j (by omega))
set_option maxHeartbeats 4000000 in
set_option maxRecDepth 100000 in
theorem c_isHashOf_c (l : Launch) (G : gG) (sz : Nat) (a : Nat → Nat) (fm fh fw fb fc fd fr fp : Nat → Int32) (n k z t : Nat) (kn : Int32) (pl lf pn : Nat) (x : Int32) (d : Nat) (hn : n ≤ 60) (hk : k ≤ 8) (hz : z ≤ 20) (ht : t ≤ 100000) (hpl : pl ≤ 60) (hlf : lf ≤ 6) (hpn : pn ≤ 1560) (hd : d + 8 ≤ 2040) : MetI l yX2_isHashOf wsX2_isHashOf ({ frames := 1, cells := 0, slots := 0, locals := 21 } : Room) [.ref (a 0), .int x, .ref (a 7), .int (nI d)] G (wC G a fm fh fw fb fc fd fr fp n k z t kn pl lf pn) sz (fun _ : Unit => wC G a fm fh fw fb fc fd fr fp n k z t kn pl lf pn) (fun r _ => r = bI (allN (p_iho fc n x fc d) 8)) := by
  refine ent_z _ cX2_isHashOf 7 RX2 (by decide) rfl rfl (Nat.le_of_ble_eq_true rfl) ?_
  intro p e s m args below meth c A Q ls hx hb hml hts hown hA hK hX ret hl hP hD hS
  have hl : lv_has ls 7 [(0, .ref (a 0)), (1, .int x), (2, .ref (a 7)), (3, .int (nI d))] := hl
  have lk23 := hts (.fieldLink RX2 23 "MinedLedger" "cells" "[I") (by decide +kernel)
  have hiX2 : ∀ w ∈ wsX20, w ∈ wsX2_isHashOf := by decide +kernel
  refine lv_aload_n hx hb dX2_isHashOf_0 rfl (lv_at hl 0 rfl) ?_
  refine lv_iload_n hx hb dX2_isHashOf_1 rfl (lv_at hl 1 rfl) ?_
  refine call_Vi (wr := ([] : va_W)) [.int x] [] ⟨hx, hb, hml, hown, hts⟩ hK hX hA hP hD hS (c_hasEntry l G _ a fm fh fw fb fc fd fr fp n k z t kn pl lf pn x (by omega) (by omega) (by omega) (by omega) (by omega) (by omega) (by omega)) (cwV 1 hts gX2_isHashOf_X2_hasEntry rfl rfl rfl (by decide +kernel) ⟨Nat.le_of_ble_eq_true rfl, Nat.le_of_ble_eq_true rfl⟩) 2 0 rfl rfl rfl [0, 1, 2, 3, 4, 5, 6, 7, 8, 9, 10] [] rfl rfl (by decide) (by decide) (by decide) rfl hl.1 (Nat.le_of_ble_eq_true rfl) dX2_isHashOf_2 ⟨Nat.zero_le _, Nat.zero_le _⟩ (fun r_1 u H locs hw hP hD hS => ?_)
  obtain rfl := hw
  have hP : va_P G.1 vwCl (wC G a fm fh fw fb fc fd fr fp n k z t kn pl lf pn) H := hP
  have hD : va_D A (wC G a fm fh fw fb fc fd fr fp n k z t kn pl lf pn) := hD
  refine lv_istore (lv' := [(4, .int (bI (p_ok x n))), (0, .ref (a 0)), (1, .int x), (2, .ref (a 7)), (3, .int (nI d))]) hx hb dX2_isHashOf_5 hl (by decide) rfl (fun ls hl => ?_)
  refine lv_iconst (v := nI 0) hx hb dX2_isHashOf_7 (by decide) ?_
  refine lv_istore (lv' := [(5, .int (nI 0)), (4, .int (bI (p_ok x n))), (0, .ref (a 0)), (1, .int x), (2, .ref (a 7)), (3, .int (nI d))]) hx hb dX2_isHashOf_8 hl (by decide) rfl (fun ls hl => ?_)
  suffices hloop1 : ∀ (fu1 : Nat) (i : Nat), (i ≤ 8) → (∀ j, j < i → p_iho fc n x fc d j = true) → 8 - i < fu1 → ∀ (H : Heap) (locs : List Loc) (ls : Array Slot), va_P G.1 vwCl (wC G a fm fh fw fb fc fd fr fp n k z t kn pl lf pn) H → va_D A (wC G a fm fh fw fb fc fd fr fp n k z t kn pl lf pn) → va_S A s.heap H locs → lv_has ls 7 [(0, .ref (a 0)), (1, .int x), (2, .ref (a 7)), (3, .int (nI d)), (4, .int (bI (p_ok x n))), (5, .int (nI i))] → W p l e ({ frames := 1, cells := 0, slots := 0, locals := 21 } : Room) s m args below meth c H locs 0 0 Q (F0 m 10 ls []) from hloop1 _ 0 (Nat.zero_le _) (fun j h => absurd h (Nat.not_lt_zero j)) (Nat.lt_succ_self _) _ _ _ hP hD hS (lv_sub hl [2, 3, 4, 5, 1, 0] rfl)
  clear hP hD hS hl
  intro fu1
  induction fu1 with
  | zero => intro i hi hm hfu; exact absurd hfu (Nat.not_lt_zero _)
  | succ fu1 ih1 =>
    intro i hi hm hfu1 H locs ls hP hD hS hl
    refine lv_iload hx hb dX2_isHashOf_10 (lv_at hl 5 rfl) ?_
    refine lv_bipush (v := nI 8) hx hb dX2_isHashOf_12 (by decide) ?_
    refine cmp_ge hx hb i 8 62 (by omega) (by omega) dX2_isHashOf_14 (by decide) (fun c14 => ?_) (fun c14 => ?_)
    · have e62 : i = 8 := by omega
      subst e62
      refine lv_iconst (v := nI 1) hx hb dX2_isHashOf_62 (by decide) ?_
      exact ret 63 _ _ _ (nI 1) () dX2_isHashOf_63 (by first | exact Or.inl rfl | exact Or.inr rfl) (al_T hm) hP hD hS
    · refine lv_iload hx hb dX2_isHashOf_17 (lv_at hl 4 rfl) ?_
      refine lv_if_eq (tgt := 40) hx hb dX2_isHashOf_19 (by decide) (fun c19 => ?_) (fun c19 => ?_)
      · refine lv_iconst (v := nI 0) hx hb dX2_isHashOf_40 (by decide) ?_
        refine lv_istore (lv' := [(6, .int (nI 0)), (0, .ref (a 0)), (1, .int x), (2, .ref (a 7)), (3, .int (nI d)), (4, .int (bI (p_ok x n))), (5, .int (nI i))]) hx hb dX2_isHashOf_41 hl (by decide) rfl (fun ls hl => ?_)
        refine lv_aload_n hx hb dX2_isHashOf_43 rfl (lv_at hl 3 rfl) ?_
        refine lv_iload_n hx hb dX2_isHashOf_44 rfl (lv_at hl 4 rfl) ?_
        refine lv_iload hx hb dX2_isHashOf_45 (lv_at hl 6 rfl) ?_
        refine ad_N hx hb d i dX2_isHashOf_47 ?_
        refine rd_i hx hb hK hP 7 rfl (d + i) (by omega) (by omega) dX2_isHashOf_48 ?_
        refine lv_iload hx hb dX2_isHashOf_49 (lv_at hl 0 rfl) ?_
        refine lv_icmp_eq (tgt := 56) hx hb dX2_isHashOf_51 (by decide) (fun c51 => ?_) (fun c51 => ?_)
        · refine lv_iinc (v := nI (i + 1)) (lv' := [(5, .int (nI (i + 1))), (6, .int (nI 0)), (0, .ref (a 0)), (1, .int x), (2, .ref (a 7)), (3, .int (nI d)), (4, .int (bI (p_ok x n)))]) hx hb dX2_isHashOf_56 hl (k := 6) rfl (inc_N i 1) (by decide) rfl (fun ls hl => ?_)
          refine lv_goto (tgt := 10) hx hb dX2_isHashOf_59 (by decide) ?_
          exact ih1 (i + 1) (by omega) (lt_s hm (decide_eq_true (c51.trans (hc_F (bI_z c19)).symm))) (by omega) _ _ _ hP hD hS (lv_sub hl [2, 3, 4, 5, 6, 0] rfl)
        · refine lv_iconst (v := nI 0) hx hb dX2_isHashOf_54 (by decide) ?_
          exact ret 55 _ _ _ (nI 0) () dX2_isHashOf_55 (by first | exact Or.inl rfl | exact Or.inr rfl) (al_F (i := i) (by omega) (fun z => c51 ((of_decide_eq_true z).trans (hc_F (bI_z c19))))) hP hD hS
      · obtain ⟨j, hj, rfl⟩ := ok_of (by omega) (bI_n c19)
        refine lv_aload_n hx hb dX2_isHashOf_22 rfl (lv_at hl 0 rfl) ?_
        refine va_get (D := G.1) (ci := 2) (v := .ref (a 7)) (C := RX2) (T := TX2) (N := 14) hx hb hts hiX2 hown hK hP 0 rfl rfl 2 (by decide) lk23 (fun _ h9 => h9) rfl dX2_isHashOf_23 ?_
        refine lv_iload_n hx hb dX2_isHashOf_26 rfl (lv_at hl 1 rfl) ?_
        refine lv_bipush (v := nI 34) hx hb dX2_isHashOf_27 (by decide) ?_
        refine mu_N hx hb j 34 dX2_isHashOf_29 ?_
        refine lv_bipush (v := nI 26) hx hb dX2_isHashOf_30 (by decide) ?_
        refine ad_N hx hb (j * 34) 26 dX2_isHashOf_32 ?_
        refine lv_iload hx hb dX2_isHashOf_33 (lv_at hl 5 rfl) ?_
        refine ad_N hx hb ((j * 34) + 26) i dX2_isHashOf_35 ?_
        refine rd_i hx hb hK hP 7 rfl (((j * 34) + 26) + i) (by omega) (by omega) dX2_isHashOf_36 ?_
        refine lv_goto (tgt := 41) hx hb dX2_isHashOf_37 (by decide) ?_
        refine lv_istore (lv' := [(6, .int (fc (((j * 34) + 26) + i))), (0, .ref (a 0)), (1, .int (nI j)), (2, .ref (a 7)), (3, .int (nI d)), (4, .int (bI (p_ok (nI j) n))), (5, .int (nI i))]) hx hb dX2_isHashOf_41 hl (by decide) rfl (fun ls hl => ?_)
        refine lv_aload_n hx hb dX2_isHashOf_43 rfl (lv_at hl 3 rfl) ?_
        refine lv_iload_n hx hb dX2_isHashOf_44 rfl (lv_at hl 4 rfl) ?_
        refine lv_iload hx hb dX2_isHashOf_45 (lv_at hl 6 rfl) ?_
        refine ad_N hx hb d i dX2_isHashOf_47 ?_
        refine rd_i hx hb hK hP 7 rfl (d + i) (by omega) (by omega) dX2_isHashOf_48 ?_
        refine lv_iload hx hb dX2_isHashOf_49 (lv_at hl 0 rfl) ?_
        refine lv_icmp_eq (tgt := 56) hx hb dX2_isHashOf_51 (by decide) (fun c51 => ?_) (fun c51 => ?_)
        · refine lv_iinc (v := nI (i + 1)) (lv' := [(5, .int (nI (i + 1))), (6, .int (fc (((j * 34) + 26) + i))), (0, .ref (a 0)), (1, .int (nI j)), (2, .ref (a 7)), (3, .int (nI d)), (4, .int (bI (p_ok (nI j) n)))]) hx hb dX2_isHashOf_56 hl (k := 6) rfl (inc_N i 1) (by decide) rfl (fun ls hl => ?_)
          refine lv_goto (tgt := 10) hx hb dX2_isHashOf_59 (by decide) ?_
          exact ih1 (i + 1) (by omega) (lt_s hm (decide_eq_true (c51.trans (hc_T hj hn).symm))) (by omega) _ _ _ hP hD hS (lv_sub hl [2, 3, 4, 5, 6, 0] rfl)
        · refine lv_iconst (v := nI 0) hx hb dX2_isHashOf_54 (by decide) ?_
          exact ret 55 _ _ _ (nI 0) () dX2_isHashOf_55 (by first | exact Or.inl rfl | exact Or.inr rfl) (al_F (i := i) (by omega) (fun z => c51 ((of_decide_eq_true z).trans (hc_T hj hn)))) hP hD hS
set_option maxHeartbeats 4000000 in
set_option maxRecDepth 100000 in
theorem c_isHashOf_d (l : Launch) (G : gG) (sz : Nat) (a : Nat → Nat) (fm fh fw fb fc fd fr fp : Nat → Int32) (n k z t : Nat) (kn : Int32) (pl lf pn : Nat) (x : Int32) (d : Nat) (hn : n ≤ 60) (hk : k ≤ 8) (hz : z ≤ 20) (ht : t ≤ 100000) (hpl : pl ≤ 60) (hlf : lf ≤ 6) (hpn : pn ≤ 1560) (hd : d + 8 ≤ 8) : MetI l yX2_isHashOf wsX2_isHashOf ({ frames := 1, cells := 0, slots := 0, locals := 21 } : Room) [.ref (a 0), .int x, .ref (a 8), .int (nI d)] G (wC G a fm fh fw fb fc fd fr fp n k z t kn pl lf pn) sz (fun _ : Unit => wC G a fm fh fw fb fc fd fr fp n k z t kn pl lf pn) (fun r _ => r = bI (allN (p_iho fc n x fd d) 8)) := by
  refine ent_z _ cX2_isHashOf 7 RX2 (by decide) rfl rfl (Nat.le_of_ble_eq_true rfl) ?_
  intro p e s m args below meth c A Q ls hx hb hml hts hown hA hK hX ret hl hP hD hS
  have hl : lv_has ls 7 [(0, .ref (a 0)), (1, .int x), (2, .ref (a 8)), (3, .int (nI d))] := hl
  have lk23 := hts (.fieldLink RX2 23 "MinedLedger" "cells" "[I") (by decide +kernel)
  have hiX2 : ∀ w ∈ wsX20, w ∈ wsX2_isHashOf := by decide +kernel
  refine lv_aload_n hx hb dX2_isHashOf_0 rfl (lv_at hl 0 rfl) ?_
  refine lv_iload_n hx hb dX2_isHashOf_1 rfl (lv_at hl 1 rfl) ?_
  refine call_Vi (wr := ([] : va_W)) [.int x] [] ⟨hx, hb, hml, hown, hts⟩ hK hX hA hP hD hS (c_hasEntry l G _ a fm fh fw fb fc fd fr fp n k z t kn pl lf pn x (by omega) (by omega) (by omega) (by omega) (by omega) (by omega) (by omega)) (cwV 1 hts gX2_isHashOf_X2_hasEntry rfl rfl rfl (by decide +kernel) ⟨Nat.le_of_ble_eq_true rfl, Nat.le_of_ble_eq_true rfl⟩) 2 0 rfl rfl rfl [0, 1, 2, 3, 4, 5, 6, 7, 8, 9, 10] [] rfl rfl (by decide) (by decide) (by decide) rfl hl.1 (Nat.le_of_ble_eq_true rfl) dX2_isHashOf_2 ⟨Nat.zero_le _, Nat.zero_le _⟩ (fun r_1 u H locs hw hP hD hS => ?_)
  obtain rfl := hw
  have hP : va_P G.1 vwCl (wC G a fm fh fw fb fc fd fr fp n k z t kn pl lf pn) H := hP
  have hD : va_D A (wC G a fm fh fw fb fc fd fr fp n k z t kn pl lf pn) := hD
  refine lv_istore (lv' := [(4, .int (bI (p_ok x n))), (0, .ref (a 0)), (1, .int x), (2, .ref (a 8)), (3, .int (nI d))]) hx hb dX2_isHashOf_5 hl (by decide) rfl (fun ls hl => ?_)
  refine lv_iconst (v := nI 0) hx hb dX2_isHashOf_7 (by decide) ?_
  refine lv_istore (lv' := [(5, .int (nI 0)), (4, .int (bI (p_ok x n))), (0, .ref (a 0)), (1, .int x), (2, .ref (a 8)), (3, .int (nI d))]) hx hb dX2_isHashOf_8 hl (by decide) rfl (fun ls hl => ?_)
  suffices hloop1 : ∀ (fu1 : Nat) (i : Nat), (i ≤ 8) → (∀ j, j < i → p_iho fc n x fd d j = true) → 8 - i < fu1 → ∀ (H : Heap) (locs : List Loc) (ls : Array Slot), va_P G.1 vwCl (wC G a fm fh fw fb fc fd fr fp n k z t kn pl lf pn) H → va_D A (wC G a fm fh fw fb fc fd fr fp n k z t kn pl lf pn) → va_S A s.heap H locs → lv_has ls 7 [(0, .ref (a 0)), (1, .int x), (2, .ref (a 8)), (3, .int (nI d)), (4, .int (bI (p_ok x n))), (5, .int (nI i))] → W p l e ({ frames := 1, cells := 0, slots := 0, locals := 21 } : Room) s m args below meth c H locs 0 0 Q (F0 m 10 ls []) from hloop1 _ 0 (Nat.zero_le _) (fun j h => absurd h (Nat.not_lt_zero j)) (Nat.lt_succ_self _) _ _ _ hP hD hS (lv_sub hl [2, 3, 4, 5, 1, 0] rfl)
  clear hP hD hS hl
  intro fu1
  induction fu1 with
  | zero => intro i hi hm hfu; exact absurd hfu (Nat.not_lt_zero _)
  | succ fu1 ih1 =>
    intro i hi hm hfu1 H locs ls hP hD hS hl
    refine lv_iload hx hb dX2_isHashOf_10 (lv_at hl 5 rfl) ?_
    refine lv_bipush (v := nI 8) hx hb dX2_isHashOf_12 (by decide) ?_
    refine cmp_ge hx hb i 8 62 (by omega) (by omega) dX2_isHashOf_14 (by decide) (fun c14 => ?_) (fun c14 => ?_)
    · have e62 : i = 8 := by omega
      subst e62
      refine lv_iconst (v := nI 1) hx hb dX2_isHashOf_62 (by decide) ?_
      exact ret 63 _ _ _ (nI 1) () dX2_isHashOf_63 (by first | exact Or.inl rfl | exact Or.inr rfl) (al_T hm) hP hD hS
    · refine lv_iload hx hb dX2_isHashOf_17 (lv_at hl 4 rfl) ?_
      refine lv_if_eq (tgt := 40) hx hb dX2_isHashOf_19 (by decide) (fun c19 => ?_) (fun c19 => ?_)
      · refine lv_iconst (v := nI 0) hx hb dX2_isHashOf_40 (by decide) ?_
        refine lv_istore (lv' := [(6, .int (nI 0)), (0, .ref (a 0)), (1, .int x), (2, .ref (a 8)), (3, .int (nI d)), (4, .int (bI (p_ok x n))), (5, .int (nI i))]) hx hb dX2_isHashOf_41 hl (by decide) rfl (fun ls hl => ?_)
        refine lv_aload_n hx hb dX2_isHashOf_43 rfl (lv_at hl 3 rfl) ?_
        refine lv_iload_n hx hb dX2_isHashOf_44 rfl (lv_at hl 4 rfl) ?_
        refine lv_iload hx hb dX2_isHashOf_45 (lv_at hl 6 rfl) ?_
        refine ad_N hx hb d i dX2_isHashOf_47 ?_
        refine rd_i hx hb hK hP 8 rfl (d + i) (by omega) (by omega) dX2_isHashOf_48 ?_
        refine lv_iload hx hb dX2_isHashOf_49 (lv_at hl 0 rfl) ?_
        refine lv_icmp_eq (tgt := 56) hx hb dX2_isHashOf_51 (by decide) (fun c51 => ?_) (fun c51 => ?_)
        · refine lv_iinc (v := nI (i + 1)) (lv' := [(5, .int (nI (i + 1))), (6, .int (nI 0)), (0, .ref (a 0)), (1, .int x), (2, .ref (a 8)), (3, .int (nI d)), (4, .int (bI (p_ok x n)))]) hx hb dX2_isHashOf_56 hl (k := 6) rfl (inc_N i 1) (by decide) rfl (fun ls hl => ?_)
          refine lv_goto (tgt := 10) hx hb dX2_isHashOf_59 (by decide) ?_
          exact ih1 (i + 1) (by omega) (lt_s hm (decide_eq_true (c51.trans (hc_F (bI_z c19)).symm))) (by omega) _ _ _ hP hD hS (lv_sub hl [2, 3, 4, 5, 6, 0] rfl)
        · refine lv_iconst (v := nI 0) hx hb dX2_isHashOf_54 (by decide) ?_
          exact ret 55 _ _ _ (nI 0) () dX2_isHashOf_55 (by first | exact Or.inl rfl | exact Or.inr rfl) (al_F (i := i) (by omega) (fun z => c51 ((of_decide_eq_true z).trans (hc_F (bI_z c19))))) hP hD hS
      · obtain ⟨j, hj, rfl⟩ := ok_of (by omega) (bI_n c19)
        refine lv_aload_n hx hb dX2_isHashOf_22 rfl (lv_at hl 0 rfl) ?_
        refine va_get (D := G.1) (ci := 2) (v := .ref (a 7)) (C := RX2) (T := TX2) (N := 14) hx hb hts hiX2 hown hK hP 0 rfl rfl 2 (by decide) lk23 (fun _ h9 => h9) rfl dX2_isHashOf_23 ?_
        refine lv_iload_n hx hb dX2_isHashOf_26 rfl (lv_at hl 1 rfl) ?_
        refine lv_bipush (v := nI 34) hx hb dX2_isHashOf_27 (by decide) ?_
        refine mu_N hx hb j 34 dX2_isHashOf_29 ?_
        refine lv_bipush (v := nI 26) hx hb dX2_isHashOf_30 (by decide) ?_
        refine ad_N hx hb (j * 34) 26 dX2_isHashOf_32 ?_
        refine lv_iload hx hb dX2_isHashOf_33 (lv_at hl 5 rfl) ?_
        refine ad_N hx hb ((j * 34) + 26) i dX2_isHashOf_35 ?_
        refine rd_i hx hb hK hP 7 rfl (((j * 34) + 26) + i) (by omega) (by omega) dX2_isHashOf_36 ?_
        refine lv_goto (tgt := 41) hx hb dX2_isHashOf_37 (by decide) ?_
        refine lv_istore (lv' := [(6, .int (fc (((j * 34) + 26) + i))), (0, .ref (a 0)), (1, .int (nI j)), (2, .ref (a 8)), (3, .int (nI d)), (4, .int (bI (p_ok (nI j) n))), (5, .int (nI i))]) hx hb dX2_isHashOf_41 hl (by decide) rfl (fun ls hl => ?_)
        refine lv_aload_n hx hb dX2_isHashOf_43 rfl (lv_at hl 3 rfl) ?_
        refine lv_iload_n hx hb dX2_isHashOf_44 rfl (lv_at hl 4 rfl) ?_
        refine lv_iload hx hb dX2_isHashOf_45 (lv_at hl 6 rfl) ?_
        refine ad_N hx hb d i dX2_isHashOf_47 ?_
        refine rd_i hx hb hK hP 8 rfl (d + i) (by omega) (by omega) dX2_isHashOf_48 ?_
        refine lv_iload hx hb dX2_isHashOf_49 (lv_at hl 0 rfl) ?_
        refine lv_icmp_eq (tgt := 56) hx hb dX2_isHashOf_51 (by decide) (fun c51 => ?_) (fun c51 => ?_)
        · refine lv_iinc (v := nI (i + 1)) (lv' := [(5, .int (nI (i + 1))), (6, .int (fc (((j * 34) + 26) + i))), (0, .ref (a 0)), (1, .int (nI j)), (2, .ref (a 8)), (3, .int (nI d)), (4, .int (bI (p_ok (nI j) n)))]) hx hb dX2_isHashOf_56 hl (k := 6) rfl (inc_N i 1) (by decide) rfl (fun ls hl => ?_)
          refine lv_goto (tgt := 10) hx hb dX2_isHashOf_59 (by decide) ?_
          exact ih1 (i + 1) (by omega) (lt_s hm (decide_eq_true (c51.trans (hc_T hj hn).symm))) (by omega) _ _ _ hP hD hS (lv_sub hl [2, 3, 4, 5, 6, 0] rfl)
        · refine lv_iconst (v := nI 0) hx hb dX2_isHashOf_54 (by decide) ?_
          exact ret 55 _ _ _ (nI 0) () dX2_isHashOf_55 (by first | exact Or.inl rfl | exact Or.inr rfl) (al_F (i := i) (by omega) (fun z => c51 ((of_decide_eq_true z).trans (hc_T hj hn)))) hP hD hS
set_option maxHeartbeats 4000000 in
set_option maxRecDepth 100000 in
theorem c_auditHead (l : Launch) (G : gG) (sz : Nat) (a : Nat → Nat) (fm fh fw fb fc fd fr fp : Nat → Int32) (n k z t : Nat) (kn : Int32) (pl lf pn : Nat)  (hn : n ≤ 60) (hk : k ≤ 8) (hz : z ≤ 20) (ht : t ≤ 100000) (hpl : pl ≤ 60) (hlf : lf ≤ 6) (hpn : pn ≤ 1560)  : MetI l yX2_auditHead wsX2_auditHead ({ frames := 2, cells := 0, slots := 0, locals := 47 } : Room) [.ref (a 0)] G (wC G a fm fh fw fb fc fd fr fp n k z t kn pl lf pn) sz (fun u : Nat => wC G a fm fh fw fb fc fd fr fp n k z t kn pl u pn) (fun r u => (fun r lf2 => (p_hdr fc fd n = true ∧ r = (-5) ∧ lf2 = lf) ∨ (p_hdr fc fd n = false ∧ r = nI (n - 1) ∧ lf2 = if n = 0 then 6 else 5)) r u) := by
  refine ent_i _ cX2_auditHead 1 RX2 (by decide) rfl rfl (Nat.le_of_ble_eq_true rfl) ?_
  intro p e s m args below meth c A Q ls hx hb hml hts hown hA hK hX ret hl hP hD hS
  have hl : lv_has ls 1 [(0, .ref (a 0))] := hl
  have lk27 := hts (.fieldLink RX2 27 "MinedLedger" "headWords" "[I") (by decide +kernel)
  have lk36 := hts (.fieldLink RX2 36 "MinedLedger" "entryCount" "I") (by decide +kernel)
  have lk64 := hts (.fieldLink RX2 64 "MinedLedger" "latestFault" "I") (by decide +kernel)
  have hiX2 : ∀ w ∈ wsX20, w ∈ wsX2_auditHead := by decide +kernel
  refine lv_aload_n hx hb dX2_auditHead_0 rfl (lv_at hl 0 rfl) ?_
  refine lv_aload_n hx hb dX2_auditHead_1 rfl (lv_at hl 0 rfl) ?_
  refine va_get (D := G.1) (ci := 2) (v := .int (nI n)) (C := RX2) (T := TX2) (N := 14) hx hb hts hiX2 hown hK hP 0 rfl rfl 6 (by decide) lk36 (fun _ h9 => h9) rfl dX2_auditHead_2 ?_
  refine lv_iconst (v := nI 1) hx hb dX2_auditHead_5 (by decide) ?_
  refine lv_isub hx hb dX2_auditHead_6 ?_
  refine lv_aload_n hx hb dX2_auditHead_7 rfl (lv_at hl 0 rfl) ?_
  refine va_get (D := G.1) (ci := 2) (v := .ref (a 8)) (C := RX2) (T := TX2) (N := 14) hx hb hts hiX2 hown hK hP 0 rfl rfl 3 (by decide) lk27 (fun _ h9 => h9) rfl dX2_auditHead_8 ?_
  refine lv_iconst (v := nI 0) hx hb dX2_auditHead_11 (by decide) ?_
  refine call_Vi (wr := ([] : va_W)) [.int (nI n - nI 1), .ref (a 8), .int (nI 0)] [] ⟨hx, hb, hml, hown, hts⟩ hK hX hA hP hD hS (c_isHashOf_d l G _ a fm fh fw fb fc fd fr fp n k z t kn pl lf pn (nI n - nI 1) 0 (by omega) (by omega) (by omega) (by omega) (by omega) (by omega) (by omega) (by omega)) (cwV 3 hts gX2_auditHead_X2_isHashOf rfl rfl rfl (by decide +kernel) ⟨Nat.le_of_ble_eq_true rfl, Nat.le_of_ble_eq_true rfl⟩) 2 0 rfl rfl rfl [0, 1, 2, 3, 4, 5, 6, 7, 8, 9, 10] [] rfl rfl (by decide) (by decide) (by decide) rfl hl.1 (Nat.le_of_ble_eq_true rfl) dX2_auditHead_12 ⟨Nat.zero_le _, Nat.zero_le _⟩ (fun r_1 u H locs hw hP hD hS => ?_)
  obtain rfl := hw
  have hP : va_P G.1 vwCl (wC G a fm fh fw fb fc fd fr fp n k z t kn pl lf pn) H := hP
  have hD : va_D A (wC G a fm fh fw fb fc fd fr fp n k z t kn pl lf pn) := hD
  refine lv_if_eq (tgt := 21) hx hb dX2_auditHead_15 (by decide) (fun c15 => ?_) (fun c15 => ?_)
  · refine lv_aload_n hx hb dX2_auditHead_21 rfl (lv_at hl 0 rfl) ?_
    refine lv_aload_n hx hb dX2_auditHead_22 rfl (lv_at hl 0 rfl) ?_
    refine va_get (D := G.1) (ci := 2) (v := .int (nI n)) (C := RX2) (T := TX2) (N := 14) hx hb hts hiX2 hown hK hP 0 rfl rfl 6 (by decide) lk36 (fun _ h9 => h9) rfl dX2_auditHead_23 ?_
    refine if0_ne hx hb n 34 (by omega) dX2_auditHead_26 (by decide) (fun c26 => ?_) (fun c26 => ?_)
    · refine lv_iconst (v := nI 5) hx hb dX2_auditHead_34 (by decide) ?_
      refine va_put (D := G.1) (ci := 2) (v := .int (nI 5)) (ty := .int) (C := RX2) (T := TX2) (N := 14) hx hb hts hiX2 tyX2 tyX2_ok nmX2 hown hK hP hD hS 0 rfl rfl 12 (by decide) lk64 (fun _ h9 => h9) rfl (by decide +kernel) rfl rfl (Nat.le_of_ble_eq_true rfl) dX2_auditHead_35 (fun H locs hP hD hS => ?_)
      have hP : va_P G.1 vwCl (wC G a fm fh fw fb fc fd fr fp n k z t kn pl 5 pn) H := hP
      have hD : va_D A (wC G a fm fh fw fb fc fd fr fp n k z t kn pl 5 pn) := hD
      refine lv_iconst (v := nI 0) hx hb dX2_auditHead_38 (by decide) ?_
      refine lv_aload_n hx hb dX2_auditHead_39 rfl (lv_at hl 0 rfl) ?_
      refine va_get (D := G.1) (ci := 2) (v := .int (nI n)) (C := RX2) (T := TX2) (N := 14) hx hb hts hiX2 hown hK hP 0 rfl rfl 6 (by decide) lk36 (fun _ h9 => h9) rfl dX2_auditHead_40 ?_
      refine lv_iconst (v := nI 1) hx hb dX2_auditHead_43 (by decide) ?_
      refine lv_isub hx hb dX2_auditHead_44 ?_
      refine va_mmax (x := nI 0) (y := (nI n - nI 1)) hx hb (by rw [hml]; exact hl.1.symm) hown (hts (.methodLink RX2 49 Lib.Math.max.name) (by decide +kernel)) (hts (.static Lib.Math.max.name) (by decide +kernel)) (hts (.initialized "java/lang/Math") (by decide +kernel)) (hts (.code Lib.Math.max.name Lib.Math.max.code 2 (some .int)) (by decide +kernel)) (Nat.le_of_ble_eq_true rfl) (Nat.le_of_ble_eq_true rfl) (Nat.zero_le _) (Nat.zero_le _) dX2_auditHead_45 ?_
      refine top_i (nI (n - 1)) (mx_eq hn) ?_
      exact ret 48 _ _ _ (nI (n - 1)) 5 dX2_auditHead_48 (Or.inr ⟨bI_z c15, rfl, by rw [if_neg (by omega)]⟩) hP hD hS
    · refine lv_bipush (v := nI 6) hx hb dX2_auditHead_29 (by decide) ?_
      refine lv_goto (tgt := 35) hx hb dX2_auditHead_31 (by decide) ?_
      refine va_put (D := G.1) (ci := 2) (v := .int (nI 6)) (ty := .int) (C := RX2) (T := TX2) (N := 14) hx hb hts hiX2 tyX2 tyX2_ok nmX2 hown hK hP hD hS 0 rfl rfl 12 (by decide) lk64 (fun _ h9 => h9) rfl (by decide +kernel) rfl rfl (Nat.le_of_ble_eq_true rfl) dX2_auditHead_35 (fun H locs hP hD hS => ?_)
      have hP : va_P G.1 vwCl (wC G a fm fh fw fb fc fd fr fp n k z t kn pl 6 pn) H := hP
      have hD : va_D A (wC G a fm fh fw fb fc fd fr fp n k z t kn pl 6 pn) := hD
      refine lv_iconst (v := nI 0) hx hb dX2_auditHead_38 (by decide) ?_
      refine lv_aload_n hx hb dX2_auditHead_39 rfl (lv_at hl 0 rfl) ?_
      refine va_get (D := G.1) (ci := 2) (v := .int (nI n)) (C := RX2) (T := TX2) (N := 14) hx hb hts hiX2 hown hK hP 0 rfl rfl 6 (by decide) lk36 (fun _ h9 => h9) rfl dX2_auditHead_40 ?_
      refine lv_iconst (v := nI 1) hx hb dX2_auditHead_43 (by decide) ?_
      refine lv_isub hx hb dX2_auditHead_44 ?_
      refine va_mmax (x := nI 0) (y := (nI n - nI 1)) hx hb (by rw [hml]; exact hl.1.symm) hown (hts (.methodLink RX2 49 Lib.Math.max.name) (by decide +kernel)) (hts (.static Lib.Math.max.name) (by decide +kernel)) (hts (.initialized "java/lang/Math") (by decide +kernel)) (hts (.code Lib.Math.max.name Lib.Math.max.code 2 (some .int)) (by decide +kernel)) (Nat.le_of_ble_eq_true rfl) (Nat.le_of_ble_eq_true rfl) (Nat.zero_le _) (Nat.zero_le _) dX2_auditHead_45 ?_
      refine top_i (nI (n - 1)) (mx_eq hn) ?_
      exact ret 48 _ _ _ (nI (n - 1)) 6 dX2_auditHead_48 (Or.inr ⟨bI_z c15, rfl, by rw [if_pos c26]⟩) hP hD hS
  · refine lv_bipush (v := (-5)) hx hb dX2_auditHead_18 (by decide) ?_
    exact ret 20 _ _ _ (-5) lf dX2_auditHead_20 (Or.inl ⟨bI_n c15, rfl, rfl⟩) hP hD hS
set_option maxHeartbeats 4000000 in
set_option maxRecDepth 100000 in
theorem c_faultOf (l : Launch) (G : gG) (sz : Nat) (a : Nat → Nat) (fm fh fw fb fc fd fr fp : Nat → Int32) (n k z t : Nat) (kn : Int32) (pl lf pn : Nat) (y : Nat) (hn : n ≤ 60) (hk : k ≤ 8) (hz : z ≤ 20) (ht : t ≤ 100000) (hpl : pl ≤ 60) (hlf : lf ≤ 6) (hpn : pn ≤ 1560) (hy : y < n) : MetI l yX2_faultOf wsX2_faultOf ({ frames := 5, cells := 0, slots := 0, locals := 121 } : Room) [.ref (a 0), .int (nI y)] G (wC G a fm fh fw fb fc fd fr fp n k z t kn pl lf pn) sz (fun u : (Nat → Int32) × (Nat → Int32) × (Nat → Int32) => wC G a u.1 u.2.1 u.2.2 fb fc fd fr fp n k z t kn pl lf pn) (fun r u => (fun r _ _ _ => r = nI (p_flt fc n y)) r u.1 u.2.1 u.2.2) := by
  refine ent_i _ cX2_faultOf 3 RX2 (by decide) rfl rfl (Nat.le_of_ble_eq_true rfl) ?_
  intro p e s m args below meth c A Q ls hx hb hml hts hown hA hK hX ret hl hP hD hS
  have hl : lv_has ls 3 [(0, .ref (a 0)), (1, .int (nI y))] := hl
  have lk10 := hts (.fieldLink RX2 10 "MinedLedger" "hasher" "LMinedLedger$Hasher;") (by decide +kernel)
  have lk23 := hts (.fieldLink RX2 23 "MinedLedger" "cells" "[I") (by decide +kernel)
  have hiX2 : ∀ w ∈ wsX20, w ∈ wsX2_faultOf := by decide +kernel
  refine lv_iload_n hx hb dX2_faultOf_0 rfl (lv_at hl 1 rfl) ?_
  refine lv_bipush (v := nI 34) hx hb dX2_faultOf_1 (by decide) ?_
  refine mu_N hx hb y 34 dX2_faultOf_3 ?_
  refine lv_istore_n (lv' := [(2, .int (nI (y * 34))), (0, .ref (a 0)), (1, .int (nI y))]) hx hb dX2_faultOf_4 rfl hl (by decide) rfl (fun ls hl => ?_)
  refine lv_aload_n hx hb dX2_faultOf_5 rfl (lv_at hl 1 rfl) ?_
  refine lv_iload_n hx hb dX2_faultOf_6 rfl (lv_at hl 2 rfl) ?_
  refine lv_iconst (v := nI 1) hx hb dX2_faultOf_7 (by decide) ?_
  refine lv_isub hx hb dX2_faultOf_8 ?_
  refine lv_aload_n hx hb dX2_faultOf_9 rfl (lv_at hl 1 rfl) ?_
  refine va_get (D := G.1) (ci := 2) (v := .ref (a 7)) (C := RX2) (T := TX2) (N := 14) hx hb hts hiX2 hown hK hP 0 rfl rfl 2 (by decide) lk23 (fun _ h9 => h9) rfl dX2_faultOf_10 ?_
  refine lv_iload_n hx hb dX2_faultOf_13 rfl (lv_at hl 0 rfl) ?_
  refine lv_iconst (v := nI 0) hx hb dX2_faultOf_14 (by decide) ?_
  refine ad_N hx hb (y * 34) 0 dX2_faultOf_15 ?_
  refine call_Vi (wr := ([] : va_W)) [.int (nI y - nI 1), .ref (a 7), .int (nI ((y * 34) + 0))] [] ⟨hx, hb, hml, hown, hts⟩ hK hX hA hP hD hS (c_isHashOf_c l G _ a fm fh fw fb fc fd fr fp n k z t kn pl lf pn (nI y - nI 1) ((y * 34) + 0) (by omega) (by omega) (by omega) (by omega) (by omega) (by omega) (by omega) (by omega)) (cwV 3 hts gX2_faultOf_X2_isHashOf rfl rfl rfl (by decide +kernel) ⟨Nat.le_of_ble_eq_true rfl, Nat.le_of_ble_eq_true rfl⟩) 2 0 rfl rfl rfl [0, 1, 2, 3, 4, 5, 6, 7, 8, 9, 10] [] rfl rfl (by decide) (by decide) (by decide) rfl hl.1 (Nat.le_of_ble_eq_true rfl) dX2_faultOf_16 ⟨Nat.zero_le _, Nat.zero_le _⟩ (fun r_1 u H locs hw hP hD hS => ?_)
  obtain rfl := hw
  have hP : va_P G.1 vwCl (wC G a fm fh fw fb fc fd fr fp n k z t kn pl lf pn) H := hP
  have hD : va_D A (wC G a fm fh fw fb fc fd fr fp n k z t kn pl lf pn) := hD
  refine lv_if_ne (tgt := 24) hx hb dX2_faultOf_19 (by decide) (fun c19 => ?_) (fun c19 => ?_)
  · refine lv_aload_n hx hb dX2_faultOf_24 rfl (lv_at hl 1 rfl) ?_
    refine lv_iload_n hx hb dX2_faultOf_25 rfl (lv_at hl 2 rfl) ?_
    refine call_Si (wr := ([(a 0, .inr (2, [.ref (a 1), .ref (a 5), .ref (a 7), .ref (a 8), .ref (a 9), .ref (a 10), .int (nI n), .int (nI k), .int (nI z), .int (nI t), .int kn, .int (nI pl), .int (nI lf), .int (nI pn)])), (a 1, .inr (1, [.ref (a 2), .ref (a 3), .ref (a 4)])), (a 2, .inl (G.2.2.1, 8, .inl fm)), (a 3, .inl (G.2.2.1, 8, .inl fh)), (a 4, .inl (G.2.2.1, 64, .inl fw)), (a 5, .inr (0, [.ref (a 6)])), (a 6, .inl (G.2.2.1, 32, .inl fb)), (a 7, .inl (G.2.2.1, 2040, .inl fc)), (a 8, .inl (G.2.2.1, 8, .inl fd)), (a 9, .inl (G.2.2.1, 34, .inl fr)), (a 10, .inl (G.2.2.1, 1560, .inl fp))] : va_W)) [.int (nI y)] [.ref (a 0)] ⟨hx, hb, hml, hown, hts⟩ hK hX hA hP hD hS (c_skipOf l G _ y (by omega)) (va_cwS 1 hts gX2_faultOf_X2_skipOf rfl rfl rfl (by decide +kernel) ⟨Nat.le_of_ble_eq_true rfl, Nat.le_of_ble_eq_true rfl⟩) [] [0, 1, 2, 3, 4, 5, 6, 7, 8, 9, 10] rfl rfl (by decide) (by decide) (by decide) rfl hl.1 (Nat.le_of_ble_eq_true rfl) dX2_faultOf_26 ⟨Nat.zero_le _, Nat.zero_le _⟩ (fun r_3 u H locs hw hP hD hS => ?_)
    obtain rfl := hw
    have hP : va_P G.1 vwCl (wC G a fm fh fw fb fc fd fr fp n k z t kn pl lf pn) H := hP
    have hD : va_D A (wC G a fm fh fw fb fc fd fr fp n k z t kn pl lf pn) := hD
    refine lv_aload_n hx hb dX2_faultOf_29 rfl (lv_at hl 1 rfl) ?_
    refine va_get (D := G.1) (ci := 2) (v := .ref (a 7)) (C := RX2) (T := TX2) (N := 14) hx hb hts hiX2 hown hK hP 0 rfl rfl 2 (by decide) lk23 (fun _ h9 => h9) rfl dX2_faultOf_30 ?_
    refine lv_iload_n hx hb dX2_faultOf_33 rfl (lv_at hl 0 rfl) ?_
    refine lv_bipush (v := nI 8) hx hb dX2_faultOf_34 (by decide) ?_
    refine ad_N hx hb (y * 34) 8 dX2_faultOf_36 ?_
    refine call_Vi (wr := ([] : va_W)) [.int (p_skI y), .ref (a 7), .int (nI ((y * 34) + 8))] [] ⟨hx, hb, hml, hown, hts⟩ hK hX hA hP hD hS (c_isHashOf_c l G _ a fm fh fw fb fc fd fr fp n k z t kn pl lf pn (p_skI y) ((y * 34) + 8) (by omega) (by omega) (by omega) (by omega) (by omega) (by omega) (by omega) (by omega)) (cwV 3 hts gX2_faultOf_X2_isHashOf rfl rfl rfl (by decide +kernel) ⟨Nat.le_of_ble_eq_true rfl, Nat.le_of_ble_eq_true rfl⟩) 2 0 rfl rfl rfl [0, 1, 2, 3, 4, 5, 6, 7, 8, 9, 10] [] rfl rfl (by decide) (by decide) (by decide) rfl hl.1 (Nat.le_of_ble_eq_true rfl) dX2_faultOf_37 ⟨Nat.zero_le _, Nat.zero_le _⟩ (fun r_4 u H locs hw hP hD hS => ?_)
    obtain rfl := hw
    have hP : va_P G.1 vwCl (wC G a fm fh fw fb fc fd fr fp n k z t kn pl lf pn) H := hP
    have hD : va_D A (wC G a fm fh fw fb fc fd fr fp n k z t kn pl lf pn) := hD
    refine lv_if_ne (tgt := 45) hx hb dX2_faultOf_40 (by decide) (fun c40 => ?_) (fun c40 => ?_)
    · refine lv_aload_n hx hb dX2_faultOf_45 rfl (lv_at hl 1 rfl) ?_
      refine va_get (D := G.1) (ci := 2) (v := .ref (a 1)) (C := RX2) (T := TX2) (N := 14) hx hb hts hiX2 hown hK hP 0 rfl rfl 0 (by decide) lk10 (fun _ h9 => h9) rfl dX2_faultOf_46 ?_
      refine lv_aload_n hx hb dX2_faultOf_49 rfl (lv_at hl 1 rfl) ?_
      refine va_get (D := G.1) (ci := 2) (v := .ref (a 7)) (C := RX2) (T := TX2) (N := 14) hx hb hts hiX2 hown hK hP 0 rfl rfl 2 (by decide) lk23 (fun _ h9 => h9) rfl dX2_faultOf_50 ?_
      refine lv_iload_n hx hb dX2_faultOf_53 rfl (lv_at hl 0 rfl) ?_
      refine call_Vv (wr := ([(a 0, .inr (2, [.ref (a 1), .ref (a 5), .ref (a 7), .ref (a 8), .ref (a 9), .ref (a 10), .int (nI n), .int (nI k), .int (nI z), .int (nI t), .int kn, .int (nI pl), .int (nI lf), .int (nI pn)])), (a 5, .inr (0, [.ref (a 6)])), (a 6, .inl (G.2.2.1, 32, .inl fb)), (a 8, .inl (G.2.2.1, 8, .inl fd)), (a 9, .inl (G.2.2.1, 34, .inl fr)), (a 10, .inl (G.2.2.1, 1560, .inl fp))] : va_W)) [.ref (a 7), .int (nI (y * 34))] [] ⟨hx, hb, hml, hown, hts⟩ hK hX hA hP hD hS (c_takeAll l G _ (a 1) (a 2) (a 3) (a 4) (a 7) 2040 (y * 34) fm fh fw fc (by omega) (by omega)) (cwV 2 hts gX2_faultOf_X1_takeAll rfl rfl rfl (by decide +kernel) ⟨Nat.le_of_ble_eq_true rfl, Nat.le_of_ble_eq_true rfl⟩) 1 1 rfl rfl rfl [1, 2, 3, 4, 7] [0, 5, 6, 8, 9, 10] rfl rfl (by decide) (by decide) (by decide) rfl hl.1 (Nat.le_of_ble_eq_true rfl) dX2_faultOf_54 ⟨Nat.zero_le _, Nat.zero_le _⟩ (fun u H locs hw hP hD hS => ?_)
      obtain ⟨mu_7, yu_7, wu_7⟩ := u
      have hu_7 : ∀ j, j < 8 → yu_7 j = p_hash fc (y * 34) j := hw
      have hP : va_P G.1 vwCl (wC G a mu_7 yu_7 wu_7 fb fc fd fr fp n k z t kn pl lf pn) H := hP.sub [0, 6, 7, 8, 9, 1, 2, 10, 3, 4, 5] rfl
      have hD : va_D A (wC G a mu_7 yu_7 wu_7 fb fc fd fr fp n k z t kn pl lf pn) := hD.sub [0, 6, 7, 8, 9, 1, 2, 10, 3, 4, 5] (by decide) rfl
      refine lv_aload_n hx hb dX2_faultOf_57 rfl (lv_at hl 1 rfl) ?_
      refine va_get (D := G.1) (ci := 2) (v := .ref (a 1)) (C := RX2) (T := TX2) (N := 14) hx hb hts hiX2 hown hK hP 0 rfl rfl 0 (by decide) lk10 (fun _ h9 => h9) rfl dX2_faultOf_58 ?_
      refine lv_aload_n hx hb dX2_faultOf_61 rfl (lv_at hl 1 rfl) ?_
      refine va_get (D := G.1) (ci := 2) (v := .ref (a 7)) (C := RX2) (T := TX2) (N := 14) hx hb hts hiX2 hown hK hP 0 rfl rfl 2 (by decide) lk23 (fun _ h9 => h9) rfl dX2_faultOf_62 ?_
      refine lv_iload_n hx hb dX2_faultOf_65 rfl (lv_at hl 0 rfl) ?_
      refine lv_bipush (v := nI 26) hx hb dX2_faultOf_66 (by decide) ?_
      refine ad_N hx hb (y * 34) 26 dX2_faultOf_68 ?_
      refine call_Vi (wr := ([(a 0, .inr (2, [.ref (a 1), .ref (a 5), .ref (a 7), .ref (a 8), .ref (a 9), .ref (a 10), .int (nI n), .int (nI k), .int (nI z), .int (nI t), .int kn, .int (nI pl), .int (nI lf), .int (nI pn)])), (a 2, .inl (G.2.2.1, 8, .inl mu_7)), (a 4, .inl (G.2.2.1, 64, .inl wu_7)), (a 5, .inr (0, [.ref (a 6)])), (a 6, .inl (G.2.2.1, 32, .inl fb)), (a 8, .inl (G.2.2.1, 8, .inl fd)), (a 9, .inl (G.2.2.1, 34, .inl fr)), (a 10, .inl (G.2.2.1, 1560, .inl fp))] : va_W)) [.ref (a 7), .int (nI ((y * 34) + 26))] [] ⟨hx, hb, hml, hown, hts⟩ hK hX hA hP hD hS (c_isAt l G _ (a 1) (a 2) (a 3) (a 4) (a 7) 2040 ((y * 34) + 26) yu_7 fc (by omega) (by omega)) (cwV 2 hts gX2_faultOf_X1_isAt rfl rfl rfl (by decide +kernel) ⟨Nat.le_of_ble_eq_true rfl, Nat.le_of_ble_eq_true rfl⟩) 1 1 rfl rfl rfl [1, 3, 7] [0, 2, 4, 5, 6, 8, 9, 10] rfl rfl (by decide) (by decide) (by decide) rfl hl.1 (Nat.le_of_ble_eq_true rfl) dX2_faultOf_69 ⟨Nat.zero_le _, Nat.zero_le _⟩ (fun r_8 u H locs hw hP hD hS => ?_)
      obtain rfl := hw
      have hP : va_P G.1 vwCl (wC G a mu_7 yu_7 wu_7 fb fc fd fr fp n k z t kn pl lf pn) H := hP.sub [0, 8, 1, 9, 2, 3, 4, 10, 5, 6, 7] rfl
      have hD : va_D A (wC G a mu_7 yu_7 wu_7 fb fc fd fr fp n k z t kn pl lf pn) := hD.sub [0, 8, 1, 9, 2, 3, 4, 10, 5, 6, 7] (by decide) rfl
      refine lv_if_ne (tgt := 77) hx hb dX2_faultOf_72 (by decide) (fun c72 => ?_) (fun c72 => ?_)
      · refine lv_aload_n hx hb dX2_faultOf_77 rfl (lv_at hl 1 rfl) ?_
        refine va_get (D := G.1) (ci := 2) (v := .ref (a 1)) (C := RX2) (T := TX2) (N := 14) hx hb hts hiX2 hown hK hP 0 rfl rfl 0 (by decide) lk10 (fun _ h9 => h9) rfl dX2_faultOf_78 ?_
        refine call_Vi (wr := ([(a 0, .inr (2, [.ref (a 1), .ref (a 5), .ref (a 7), .ref (a 8), .ref (a 9), .ref (a 10), .int (nI n), .int (nI k), .int (nI z), .int (nI t), .int kn, .int (nI pl), .int (nI lf), .int (nI pn)])), (a 2, .inl (G.2.2.1, 8, .inl mu_7)), (a 4, .inl (G.2.2.1, 64, .inl wu_7)), (a 5, .inr (0, [.ref (a 6)])), (a 6, .inl (G.2.2.1, 32, .inl fb)), (a 7, .inl (G.2.2.1, 2040, .inl fc)), (a 8, .inl (G.2.2.1, 8, .inl fd)), (a 9, .inl (G.2.2.1, 34, .inl fr)), (a 10, .inl (G.2.2.1, 1560, .inl fp))] : va_W)) [] [] ⟨hx, hb, hml, hown, hts⟩ hK hX hA hP hD hS (c_zeros l G _ (a 1) (a 2) (a 3) (a 4) yu_7) (cwV 0 hts gX2_faultOf_X1_zeros rfl rfl rfl (by decide +kernel) ⟨Nat.le_of_ble_eq_true rfl, Nat.le_of_ble_eq_true rfl⟩) 1 1 rfl rfl rfl [1, 3] [0, 2, 4, 5, 6, 7, 8, 9, 10] rfl rfl (by decide) (by decide) (by decide) rfl hl.1 (Nat.le_of_ble_eq_true rfl) dX2_faultOf_81 ⟨Nat.zero_le _, Nat.zero_le _⟩ (fun r_10 u H locs hw hP hD hS => ?_)
        obtain rfl := hw
        have hP : va_P G.1 vwCl (wC G a mu_7 yu_7 wu_7 fb fc fd fr fp n k z t kn pl lf pn) H := hP.sub [0, 9, 1, 10, 2, 3, 4, 5, 6, 7, 8] rfl
        have hD : va_D A (wC G a mu_7 yu_7 wu_7 fb fc fd fr fp n k z t kn pl lf pn) := hD.sub [0, 9, 1, 10, 2, 3, 4, 5, 6, 7, 8] (by decide) rfl
        refine lv_aload_n hx hb dX2_faultOf_84 rfl (lv_at hl 1 rfl) ?_
        refine va_get (D := G.1) (ci := 2) (v := .ref (a 7)) (C := RX2) (T := TX2) (N := 14) hx hb hts hiX2 hown hK hP 0 rfl rfl 2 (by decide) lk23 (fun _ h9 => h9) rfl dX2_faultOf_85 ?_
        refine lv_iload_n hx hb dX2_faultOf_88 rfl (lv_at hl 0 rfl) ?_
        refine lv_bipush (v := nI 24) hx hb dX2_faultOf_89 (by decide) ?_
        refine ad_N hx hb (y * 34) 24 dX2_faultOf_91 ?_
        refine rd_i hx hb hK hP 7 rfl ((y * 34) + 24) (by omega) (by omega) dX2_faultOf_92 ?_
        refine lv_iconst (v := nI 4) hx hb dX2_faultOf_93 (by decide) ?_
        refine lv_iushr (v := (p_ush (fc ((y * 34) + 24)) (nI 4))) hx hb dX2_faultOf_94 rfl ?_
        refine top_i (nI (p_dif (fc ((y * 34) + 24)))) (ush4 _) ?_
        have hdl := p_dif_lt (fc ((y * 34) + 24))
        have hzl := p_zeros_le yu_7
        refine cmp_ge hx hb (p_zeros yu_7) (p_dif (fc ((y * 34) + 24))) 100 (by omega) (by omega) dX2_faultOf_95 (by decide) (fun c95 => ?_) (fun c95 => ?_)
        · refine lv_iconst (v := nI 0) hx hb dX2_faultOf_100 (by decide) ?_
          exact ret 101 _ _ _ (nI 0) (mu_7, yu_7, wu_7) dX2_faultOf_101 (by rw [p_flt, bI_n c19, bI_n c40, ← is_congr hu_7, bI_n c72, ← p_zeros_congr hu_7, if_pos rfl, if_pos rfl, if_pos rfl, if_neg (by omega)]) hP hD hS
        · refine lv_iconst (v := nI 4) hx hb dX2_faultOf_98 (by decide) ?_
          exact ret 99 _ _ _ (nI 4) (mu_7, yu_7, wu_7) dX2_faultOf_99 (by rw [p_flt, bI_n c19, bI_n c40, ← is_congr hu_7, bI_n c72, ← p_zeros_congr hu_7, if_pos rfl, if_pos rfl, if_pos rfl, if_pos c95]) hP hD hS
      · refine lv_iconst (v := nI 3) hx hb dX2_faultOf_75 (by decide) ?_
        exact ret 76 _ _ _ (nI 3) (mu_7, yu_7, wu_7) dX2_faultOf_76 (by rw [p_flt, bI_n c19, bI_n c40, ← is_congr hu_7, bI_z c72]; rfl) hP hD hS
    · refine lv_iconst (v := nI 2) hx hb dX2_faultOf_43 (by decide) ?_
      exact ret 44 _ _ _ (nI 2) (fm, fh, fw) dX2_faultOf_44 (by rw [p_flt, bI_n c19, bI_z c40]; rfl) hP hD hS
  · refine lv_iconst (v := nI 1) hx hb dX2_faultOf_22 (by decide) ?_
    exact ret 23 _ _ _ (nI 1) (fm, fh, fw) dX2_faultOf_23 (by rw [p_flt, bI_z c19]; rfl) hP hD hS
set_option maxHeartbeats 4000000 in
set_option maxRecDepth 100000 in
theorem c_audit (l : Launch) (G : gG) (sz : Nat) (a : Nat → Nat) (fm fh fw fb fc fd fr fp : Nat → Int32) (n k z t : Nat) (kn : Int32) (pl lf pn : Nat) (x : Int32) (hn : n ≤ 60) (hk : k ≤ 8) (hz : z ≤ 20) (ht : t ≤ 100000) (hpl : pl ≤ 60) (hlf : lf ≤ 6) (hpn : pn ≤ 1560)  : MetI l yX2_audit wsX2_audit ({ frames := 6, cells := 0, slots := 0, locals := 143 } : Room) [.ref (a 0), .int x] G (wC G a fm fh fw fb fc fd fr fp n k z t kn pl lf pn) sz (fun u : (Nat → Int32) × (Nat → Int32) × (Nat → Int32) × Nat × Nat => wC G a u.1 u.2.1 u.2.2.1 fb fc fd fr fp n k z t kn u.2.2.2.1 u.2.2.2.2 pn) (fun r u => (fun r _ _ _ pl2 lf2 => q_audit fc fd n pl lf x r pl2 lf2) r u.1 u.2.1 u.2.2.1 u.2.2.2.1 u.2.2.2.2) := by
  refine ent_i _ cX2_audit 3 RX2 (by decide) rfl rfl (Nat.le_of_ble_eq_true rfl) ?_
  intro p e s m args below meth c A Q ls hx hb hml hts hown hA hK hX ret hl hP hD hS
  have hl : lv_has ls 3 [(0, .ref (a 0)), (1, .int x)] := hl
  have lk36 := hts (.fieldLink RX2 36 "MinedLedger" "entryCount" "I") (by decide +kernel)
  have lk61 := hts (.fieldLink RX2 61 "MinedLedger" "place" "I") (by decide +kernel)
  have lk64 := hts (.fieldLink RX2 64 "MinedLedger" "latestFault" "I") (by decide +kernel)
  have hiX2 : ∀ w ∈ wsX20, w ∈ wsX2_audit := by decide +kernel
  refine lv_iload_n hx hb dX2_audit_0 rfl (lv_at hl 1 rfl) ?_
  refine lv_iconst (v := nI 1) hx hb dX2_audit_1 (by decide) ?_
  refine cmz_ltzn hx hb x 1 11 (by omega) dX2_audit_2 (by decide) (fun c2 => ?_) (fun c2 => ?_)
  · refine lv_bipush (v := (-2)) hx hb dX2_audit_11 (by decide) ?_
    exact ret 13 _ _ _ (-2) (fm, fh, fw, pl, lf) dX2_audit_13 (Or.inl ⟨Or.inl c2, rfl, rfl, rfl⟩) hP hD hS
  · refine lv_iload_n hx hb dX2_audit_5 rfl (lv_at hl 1 rfl) ?_
    refine lv_bipush (v := nI 100) hx hb dX2_audit_6 (by decide) ?_
    refine cmz_lezn hx hb x 100 14 (by omega) dX2_audit_8 (by decide) (fun c8 => ?_) (fun c8 => ?_)
    · obtain ⟨q, hq, rfl⟩ := of_nn (x := x) (by omega)
      rw [tI_N hq] at c2 c8
      refine lv_aload_n hx hb dX2_audit_14 rfl (lv_at hl 0 rfl) ?_
      refine lv_iconst (v := nI 0) hx hb dX2_audit_15 (by decide) ?_
      refine va_put (D := G.1) (ci := 2) (v := .int (nI 0)) (ty := .int) (C := RX2) (T := TX2) (N := 14) hx hb hts hiX2 tyX2 tyX2_ok nmX2 hown hK hP hD hS 0 rfl rfl 12 (by decide) lk64 (fun _ h9 => h9) rfl (by decide +kernel) rfl rfl (Nat.le_of_ble_eq_true rfl) dX2_audit_16 (fun H locs hP hD hS => ?_)
      have hP : va_P G.1 vwCl (wC G a fm fh fw fb fc fd fr fp n k z t kn pl 0 pn) H := hP
      have hD : va_D A (wC G a fm fh fw fb fc fd fr fp n k z t kn pl 0 pn) := hD
      refine lv_iconst (v := nI 0) hx hb dX2_audit_19 (by decide) ?_
      refine lv_istore_n (lv' := [(2, .int (nI 0)), (0, .ref (a 0)), (1, .int (nI q))]) hx hb dX2_audit_20 rfl hl (by decide) rfl (fun ls hl => ?_)
      suffices hloop1 : ∀ (fu1 : Nat) (i : Nat) (mm : Nat → Int32) (hh : Nat → Int32) (ww : Nat → Int32), (i ≤ q) → (pl + i ≤ 60) → (p_aud fc fd n (q - i) (pl + i) = p_aud fc fd n q pl) → q - i < fu1 → ∀ (H : Heap) (locs : List Loc) (ls : Array Slot), va_P G.1 vwCl (wC G a mm hh ww fb fc fd fr fp n k z t kn (pl + i) 0 pn) H → va_D A (wC G a mm hh ww fb fc fd fr fp n k z t kn (pl + i) 0 pn) → va_S A s.heap H locs → lv_has ls 3 [(0, .ref (a 0)), (1, .int (nI q)), (2, .int (nI i))] → W p l e ({ frames := 6, cells := 0, slots := 0, locals := 143 } : Room) s m args below meth c H locs 0 0 Q (F0 m 21 ls []) from hloop1 _ 0 fm fh fw (Nat.zero_le _) hpl rfl (Nat.lt_succ_self _) _ _ _ hP hD hS (lv_sub hl [1, 2, 0] rfl)
      clear hP hD hS hl
      intro fu1
      induction fu1 with
      | zero => intro i mm hh ww hi hpi hau hfu; exact absurd hfu (Nat.not_lt_zero _)
      | succ fu1 ih1 =>
        intro i mm hh ww hi hpi hau hfu1 H locs ls hP hD hS hl
        refine lv_iload_n hx hb dX2_audit_21 rfl (lv_at hl 2 rfl) ?_
        refine lv_iload_n hx hb dX2_audit_22 rfl (lv_at hl 1 rfl) ?_
        refine cmp_ge hx hb i q 82 (by omega) (by omega) dX2_audit_23 (by decide) (fun c23 => ?_) (fun c23 => ?_)
        · refine lv_iconst (v := (-1)) hx hb dX2_audit_82 (by decide) ?_
          exact ret 83 _ _ _ (-1) (mm, hh, ww, pl + i, 0) dX2_audit_83 (Or.inr ⟨q, by omega, by omega, rfl, by rw [← hau, show q - i = 0 by omega]; rfl⟩) hP hD hS
        · refine lv_aload_n hx hb dX2_audit_26 rfl (lv_at hl 0 rfl) ?_
          refine va_get (D := G.1) (ci := 2) (v := .int (nI (pl + i))) (C := RX2) (T := TX2) (N := 14) hx hb hts hiX2 hown hK hP 0 rfl rfl 11 (by decide) lk61 (fun _ h9 => h9) rfl dX2_audit_27 ?_
          refine lv_aload_n hx hb dX2_audit_30 rfl (lv_at hl 0 rfl) ?_
          refine va_get (D := G.1) (ci := 2) (v := .int (nI n)) (C := RX2) (T := TX2) (N := 14) hx hb hts hiX2 hown hK hP 0 rfl rfl 6 (by decide) lk36 (fun _ h9 => h9) rfl dX2_audit_31 ?_
          refine cmp_lt hx hb (pl + i) n 42 (by omega) (by omega) dX2_audit_34 (by decide) (fun c34 => ?_) (fun c34 => ?_)
          · refine lv_aload_n hx hb dX2_audit_42 rfl (lv_at hl 0 rfl) ?_
            refine lv_aload_n hx hb dX2_audit_43 rfl (lv_at hl 0 rfl) ?_
            refine lv_aload_n hx hb dX2_audit_44 rfl (lv_at hl 0 rfl) ?_
            refine va_get (D := G.1) (ci := 2) (v := .int (nI (pl + i))) (C := RX2) (T := TX2) (N := 14) hx hb hts hiX2 hown hK hP 0 rfl rfl 11 (by decide) lk61 (fun _ h9 => h9) rfl dX2_audit_45 ?_
            refine call_Vi (wr := ([] : va_W)) [.int (nI (pl + i))] [.ref (a 0)] ⟨hx, hb, hml, hown, hts⟩ hK hX hA hP hD hS (c_faultOf l G _ a mm hh ww fb fc fd fr fp n k z t kn (pl + i) 0 pn (pl + i) (by omega) (by omega) (by omega) (by omega) (by omega) (by omega) (by omega) (by omega)) (cwV 1 hts gX2_audit_X2_faultOf rfl rfl rfl (by decide +kernel) ⟨Nat.le_of_ble_eq_true rfl, Nat.le_of_ble_eq_true rfl⟩) 2 0 rfl rfl rfl [0, 1, 2, 3, 4, 5, 6, 7, 8, 9, 10] [] rfl rfl (by decide) (by decide) (by decide) rfl hl.1 (Nat.le_of_ble_eq_true rfl) dX2_audit_48 ⟨Nat.zero_le _, Nat.zero_le _⟩ (fun r_5 u H locs hw hP hD hS => ?_)
            obtain ⟨mu_6, yu_6, wu_6⟩ := u
            obtain rfl := hw
            have hP : va_P G.1 vwCl (wC G a mu_6 yu_6 wu_6 fb fc fd fr fp n k z t kn (pl + i) 0 pn) H := hP
            have hD : va_D A (wC G a mu_6 yu_6 wu_6 fb fc fd fr fp n k z t kn (pl + i) 0 pn) := hD
            have hflu_6 := p_flt_le fc n (pl + i)
            refine va_put (D := G.1) (ci := 2) (v := .int (nI (p_flt fc n (pl + i)))) (ty := .int) (C := RX2) (T := TX2) (N := 14) hx hb hts hiX2 tyX2 tyX2_ok nmX2 hown hK hP hD hS 0 rfl rfl 12 (by decide) lk64 (fun _ h9 => h9) rfl (by decide +kernel) rfl rfl (Nat.le_of_ble_eq_true rfl) dX2_audit_51 (fun H locs hP hD hS => ?_)
            have hP : va_P G.1 vwCl (wC G a mu_6 yu_6 wu_6 fb fc fd fr fp n k z t kn (pl + i) (p_flt fc n (pl + i)) pn) H := hP
            have hD : va_D A (wC G a mu_6 yu_6 wu_6 fb fc fd fr fp n k z t kn (pl + i) (p_flt fc n (pl + i)) pn) := hD
            refine lv_aload_n hx hb dX2_audit_54 rfl (lv_at hl 0 rfl) ?_
            refine va_get (D := G.1) (ci := 2) (v := .int (nI (p_flt fc n (pl + i)))) (C := RX2) (T := TX2) (N := 14) hx hb hts hiX2 hown hK hP 0 rfl rfl 12 (by decide) lk64 (fun _ h9 => h9) rfl dX2_audit_55 ?_
            refine if0_eq hx hb (p_flt fc n (pl + i)) 66 (by omega) dX2_audit_58 (by decide) (fun c58 => ?_) (fun c58 => ?_)
            · rw [c58] at hP hD
              have hP : va_P G.1 vwCl (wC G a mu_6 yu_6 wu_6 fb fc fd fr fp n k z t kn (pl + i) 0 pn) H := hP
              have hD : va_D A (wC G a mu_6 yu_6 wu_6 fb fc fd fr fp n k z t kn (pl + i) 0 pn) := hD
              refine lv_aload_n hx hb dX2_audit_66 rfl (lv_at hl 0 rfl) ?_
              refine lv_dup hx hb dX2_audit_67 rfl ?_
              refine va_get (D := G.1) (ci := 2) (v := .int (nI (pl + i))) (C := RX2) (T := TX2) (N := 14) hx hb hts hiX2 hown hK hP 0 rfl rfl 11 (by decide) lk61 (fun _ h9 => h9) rfl dX2_audit_68 ?_
              refine lv_iconst (v := nI 1) hx hb dX2_audit_71 (by decide) ?_
              refine ad_N hx hb (pl + i) 1 dX2_audit_72 ?_
              refine va_put (D := G.1) (ci := 2) (v := .int (nI ((pl + i) + 1))) (ty := .int) (C := RX2) (T := TX2) (N := 14) hx hb hts hiX2 tyX2 tyX2_ok nmX2 hown hK hP hD hS 0 rfl rfl 11 (by decide) lk61 (fun _ h9 => h9) rfl (by decide +kernel) rfl rfl (Nat.le_of_ble_eq_true rfl) dX2_audit_73 (fun H locs hP hD hS => ?_)
              have hP : va_P G.1 vwCl (wC G a mu_6 yu_6 wu_6 fb fc fd fr fp n k z t kn ((pl + i) + 1) 0 pn) H := hP
              have hD : va_D A (wC G a mu_6 yu_6 wu_6 fb fc fd fr fp n k z t kn ((pl + i) + 1) 0 pn) := hD
              refine lv_iinc (v := nI (i + 1)) (lv' := [(2, .int (nI (i + 1))), (0, .ref (a 0)), (1, .int (nI q))]) hx hb dX2_audit_76 hl (k := 2) rfl (inc_N i 1) (by decide) rfl (fun ls hl => ?_)
              refine lv_goto (tgt := 21) hx hb dX2_audit_79 (by decide) ?_
              exact ih1 (i + 1) mu_6 yu_6 wu_6 (by omega) (by omega) (by rw [← hau, show q - i = (q - (i + 1)) + 1 by omega, p_aud, if_neg (by omega), if_pos c58]; rfl) (by omega) _ _ _ hP hD hS (lv_sub hl [1, 2, 0] rfl)
            · refine lv_aload_n hx hb dX2_audit_61 rfl (lv_at hl 0 rfl) ?_
              refine va_get (D := G.1) (ci := 2) (v := .int (nI (pl + i))) (C := RX2) (T := TX2) (N := 14) hx hb hts hiX2 hown hK hP 0 rfl rfl 11 (by decide) lk61 (fun _ h9 => h9) rfl dX2_audit_62 ?_
              exact ret 65 _ _ _ (nI (pl + i)) (mu_6, yu_6, wu_6, pl + i, p_flt fc n (pl + i)) dX2_audit_65 (Or.inr ⟨q, by omega, by omega, rfl, by rw [← hau, show q - i = (q - (i + 1)) + 1 by omega, p_aud, if_neg (by omega), if_neg (by omega)]⟩) hP hD hS
          · refine lv_aload_n hx hb dX2_audit_37 rfl (lv_at hl 0 rfl) ?_
            refine call_Vi (wr := ([] : va_W)) [] [] ⟨hx, hb, hml, hown, hts⟩ hK hX hA hP hD hS (c_auditHead l G _ a mm hh ww fb fc fd fr fp n k z t kn (pl + i) 0 pn  (by omega) (by omega) (by omega) (by omega) (by omega) (by omega) (by omega)) (cwV 0 hts gX2_audit_X2_auditHead rfl rfl rfl (by decide +kernel) ⟨Nat.le_of_ble_eq_true rfl, Nat.le_of_ble_eq_true rfl⟩) 2 0 rfl rfl rfl [0, 1, 2, 3, 4, 5, 6, 7, 8, 9, 10] [] rfl rfl (by decide) (by decide) (by decide) rfl hl.1 (Nat.le_of_ble_eq_true rfl) dX2_audit_38 ⟨Nat.zero_le _, Nat.zero_le _⟩ (fun r_8 u H locs hw hP hD hS => ?_)
            obtain ⟨lf_9, rfl⟩ : ∃ z, z = u := ⟨_, rfl⟩
            have hah := hw
            have hP : va_P G.1 vwCl (wC G a mm hh ww fb fc fd fr fp n k z t kn (pl + i) lf_9 pn) H := hP
            have hD : va_D A (wC G a mm hh ww fb fc fd fr fp n k z t kn (pl + i) lf_9 pn) := hD
            exact ret 41 _ _ _ r_8 (mm, hh, ww, pl + i, lf_9) dX2_audit_41 (Or.inr ⟨q, by omega, by omega, rfl, by rw [← hau, show q - i = (q - (i + 1)) + 1 by omega, p_aud, if_pos c34]; rcases hah with ⟨h1, h2, h3⟩ | ⟨h1, h2, h3⟩; rw [h1, if_pos rfl, h2, h3]; rw [h1, h2, h3]; rfl⟩) hP hD hS
    · refine lv_bipush (v := (-2)) hx hb dX2_audit_11 (by decide) ?_
      exact ret 13 _ _ _ (-2) (fm, fh, fw, pl, lf) dX2_audit_13 (Or.inl ⟨Or.inr c8, rfl, rfl, rfl⟩) hP hD hS
set_option maxHeartbeats 4000000 in
set_option maxRecDepth 100000 in
theorem c_way (l : Launch) (G : gG) (sz : Nat) (a : Nat → Nat) (fm fh fw fb fc fd fr fp : Nat → Int32) (n k z t : Nat) (kn : Int32) (pl lf pn : Nat) (x w : Int32) (hn : n ≤ 60) (hk : k ≤ 8) (hz : z ≤ 20) (ht : t ≤ 100000) (hpl : pl ≤ 60) (hlf : lf ≤ 6) (hpn : pn ≤ 1560)  : MetI l yX2_way wsX2_way ({ frames := 4, cells := 0, slots := 0, locals := 85 } : Room) [.ref (a 0), .int x, .int w] G (wC G a fm fh fw fb fc fd fr fp n k z t kn pl lf pn) sz (fun _ : Unit => wC G a fm fh fw fb fc fd fr fp n k z t kn pl lf pn) (fun r _ => q_way n x w r) := by
  refine ent_i _ cX2_way 5 RX2 (by decide) rfl rfl (Nat.le_of_ble_eq_true rfl) ?_
  intro p e s m args below meth c A Q ls hx hb hml hts hown hA hK hX ret hl hP hD hS
  have hl : lv_has ls 5 [(0, .ref (a 0)), (1, .int x), (2, .int w)] := hl
  have lk36 := hts (.fieldLink RX2 36 "MinedLedger" "entryCount" "I") (by decide +kernel)
  have hiX2 : ∀ w ∈ wsX20, w ∈ wsX2_way := by decide +kernel
  refine lv_aload_n hx hb dX2_way_0 rfl (lv_at hl 0 rfl) ?_
  refine lv_iload_n hx hb dX2_way_1 rfl (lv_at hl 1 rfl) ?_
  refine call_Vi (wr := ([] : va_W)) [.int x] [] ⟨hx, hb, hml, hown, hts⟩ hK hX hA hP hD hS (c_hasEntry l G _ a fm fh fw fb fc fd fr fp n k z t kn pl lf pn x (by omega) (by omega) (by omega) (by omega) (by omega) (by omega) (by omega)) (cwV 1 hts gX2_way_X2_hasEntry rfl rfl rfl (by decide +kernel) ⟨Nat.le_of_ble_eq_true rfl, Nat.le_of_ble_eq_true rfl⟩) 2 0 rfl rfl rfl [0, 1, 2, 3, 4, 5, 6, 7, 8, 9, 10] [] rfl rfl (by decide) (by decide) (by decide) rfl hl.1 (Nat.le_of_ble_eq_true rfl) dX2_way_2 ⟨Nat.zero_le _, Nat.zero_le _⟩ (fun r_1 u H locs hw hP hD hS => ?_)
  obtain rfl := hw
  have hP : va_P G.1 vwCl (wC G a fm fh fw fb fc fd fr fp n k z t kn pl lf pn) H := hP
  have hD : va_D A (wC G a fm fh fw fb fc fd fr fp n k z t kn pl lf pn) := hD
  refine lv_if_ne (tgt := 11) hx hb dX2_way_5 (by decide) (fun c5 => ?_) (fun c5 => ?_)
  · obtain ⟨y, hy, rfl⟩ := ok_of (by omega) (bI_n c5)
    refine lv_iload_n hx hb dX2_way_11 rfl (lv_at hl 2 rfl) ?_
    refine ifz_lt hx hb w 24 dX2_way_12 (by decide) (fun c12 => ?_) (fun c12 => ?_)
    · refine lv_iconst (v := (-1)) hx hb dX2_way_24 (by decide) ?_
      exact ret 25 _ _ _ (-1) () dX2_way_25 (by obtain ⟨K0, hK0⟩ := end_ex (x := n - 1) (e := y) (by omega) (by omega); exact Or.inr ⟨y, K0, hy, rfl, hK0, Or.inl ⟨Or.inl c12, rfl⟩⟩) hP hD hS
    · refine lv_iload_n hx hb dX2_way_15 rfl (lv_at hl 2 rfl) ?_
      refine lv_aload_n hx hb dX2_way_16 rfl (lv_at hl 0 rfl) ?_
      refine lv_iload_n hx hb dX2_way_17 rfl (lv_at hl 1 rfl) ?_
      refine call_Vi (wr := ([] : va_W)) [.int (nI y)] [.int w] ⟨hx, hb, hml, hown, hts⟩ hK hX hA hP hD hS (c_levelsTo l G _ a fm fh fw fb fc fd fr fp n k z t kn pl lf pn y (by omega) (by omega) (by omega) (by omega) (by omega) (by omega) (by omega) (by omega)) (cwV 1 hts gX2_way_X2_levelsTo rfl rfl rfl (by decide +kernel) ⟨Nat.le_of_ble_eq_true rfl, Nat.le_of_ble_eq_true rfl⟩) 2 0 rfl rfl rfl [0, 1, 2, 3, 4, 5, 6, 7, 8, 9, 10] [] rfl rfl (by decide) (by decide) (by decide) rfl hl.1 (Nat.le_of_ble_eq_true rfl) dX2_way_18 ⟨Nat.zero_le _, Nat.zero_le _⟩ (fun r_4 u H locs hw hP hD hS => ?_)
      obtain ⟨K_5, heK_5⟩ : ∃ z, z = u := ⟨_, rfl⟩
      subst heK_5
      obtain ⟨rfl, heK_5⟩ := hw
      have hlK_5 := way_le (x := n - 1) (e := y) (by omega) _ heK_5.1
      have hP : va_P G.1 vwCl (wC G a fm fh fw fb fc fd fr fp n k z t kn pl lf pn) H := hP
      have hD : va_D A (wC G a fm fh fw fb fc fd fr fp n k z t kn pl lf pn) := hD
      refine cmz_ltzn hx hb w (1 + K_5) 26 (by omega) dX2_way_21 (by decide) (fun c21 => ?_) (fun c21 => ?_)
      · obtain ⟨j, hj, rfl⟩ := of_nn (x := w) c12
        rw [tI_N hj] at c12 c21
        refine lv_aload_n hx hb dX2_way_26 rfl (lv_at hl 0 rfl) ?_
        refine va_get (D := G.1) (ci := 2) (v := .int (nI n)) (C := RX2) (T := TX2) (N := 14) hx hb hts hiX2 hown hK hP 0 rfl rfl 6 (by decide) lk36 (fun _ h9 => h9) rfl dX2_way_27 ?_
        refine lv_iconst (v := nI 1) hx hb dX2_way_30 (by decide) ?_
        refine su_N hx hb n 1 (by omega) dX2_way_31 ?_
        refine lv_istore_n (lv' := [(3, .int (nI (n - 1))), (0, .ref (a 0)), (1, .int (nI y)), (2, .int (nI j))]) hx hb dX2_way_32 rfl hl (by decide) rfl (fun ls hl => ?_)
        refine lv_iconst (v := nI 0) hx hb dX2_way_33 (by decide) ?_
        refine lv_istore (lv' := [(4, .int (nI 0)), (3, .int (nI (n - 1))), (0, .ref (a 0)), (1, .int (nI y)), (2, .int (nI j))]) hx hb dX2_way_34 hl (by decide) rfl (fun ls hl => ?_)
        suffices hloop1 : ∀ (fu1 : Nat) (i : Nat), (i ≤ j) → j - i < fu1 → ∀ (H : Heap) (locs : List Loc) (ls : Array Slot), va_P G.1 vwCl (wC G a fm fh fw fb fc fd fr fp n k z t kn pl lf pn) H → va_D A (wC G a fm fh fw fb fc fd fr fp n k z t kn pl lf pn) → va_S A s.heap H locs → lv_has ls 5 [(0, .ref (a 0)), (1, .int (nI y)), (2, .int (nI j)), (3, .int (nI (p_way (n - 1) y i))), (4, .int (nI i))] → W p l e ({ frames := 4, cells := 0, slots := 0, locals := 85 } : Room) s m args below meth c H locs 0 0 Q (F0 m 36 ls []) from hloop1 _ 0 (Nat.zero_le _) (Nat.lt_succ_self _) _ _ _ hP hD hS (lv_sub hl [2, 3, 4, 1, 0] rfl)
        clear hP hD hS hl
        intro fu1
        induction fu1 with
        | zero => intro i hi hfu; exact absurd hfu (Nat.not_lt_zero _)
        | succ fu1 ih1 =>
          intro i hi hfu1 H locs ls hP hD hS hl
          refine lv_iload hx hb dX2_way_36 (lv_at hl 4 rfl) ?_
          refine lv_iload_n hx hb dX2_way_38 rfl (lv_at hl 2 rfl) ?_
          refine cmp_ge hx hb i j 54 (by omega) (by omega) dX2_way_39 (by decide) (fun c39 => ?_) (fun c39 => ?_)
          · refine lv_iload_n hx hb dX2_way_54 rfl (lv_at hl 3 rfl) ?_
            exact ret 55 _ _ _ (nI (p_way (n - 1) y i)) () dX2_way_55 (Or.inr ⟨y, K_5, hy, rfl, heK_5, Or.inr ⟨j, by omega, rfl, by rw [show j = i by omega]⟩⟩) hP hD hS
          · have hwl := end_le (i := i) hn heK_5 (by omega)
            refine lv_iload_n hx hb dX2_way_42 rfl (lv_at hl 3 rfl) ?_
            refine lv_iload_n hx hb dX2_way_43 rfl (lv_at hl 1 rfl) ?_
            refine call_Si (wr := ([(a 0, .inr (2, [.ref (a 1), .ref (a 5), .ref (a 7), .ref (a 8), .ref (a 9), .ref (a 10), .int (nI n), .int (nI k), .int (nI z), .int (nI t), .int kn, .int (nI pl), .int (nI lf), .int (nI pn)])), (a 1, .inr (1, [.ref (a 2), .ref (a 3), .ref (a 4)])), (a 2, .inl (G.2.2.1, 8, .inl fm)), (a 3, .inl (G.2.2.1, 8, .inl fh)), (a 4, .inl (G.2.2.1, 64, .inl fw)), (a 5, .inr (0, [.ref (a 6)])), (a 6, .inl (G.2.2.1, 32, .inl fb)), (a 7, .inl (G.2.2.1, 2040, .inl fc)), (a 8, .inl (G.2.2.1, 8, .inl fd)), (a 9, .inl (G.2.2.1, 34, .inl fr)), (a 10, .inl (G.2.2.1, 1560, .inl fp))] : va_W)) [.int (nI (p_way (n - 1) y i)), .int (nI y)] [] ⟨hx, hb, hml, hown, hts⟩ hK hX hA hP hD hS (c_nextOnWay l G _ (p_way (n - 1) y i) y (by omega) (by omega)) (va_cwS 2 hts gX2_way_X2_nextOnWay rfl rfl rfl (by decide +kernel) ⟨Nat.le_of_ble_eq_true rfl, Nat.le_of_ble_eq_true rfl⟩) [] [0, 1, 2, 3, 4, 5, 6, 7, 8, 9, 10] rfl rfl (by decide) (by decide) (by decide) rfl hl.1 (Nat.le_of_ble_eq_true rfl) dX2_way_44 ⟨Nat.zero_le _, Nat.zero_le _⟩ (fun r_8 u H locs hw hP hD hS => ?_)
            obtain rfl := hw
            have hP : va_P G.1 vwCl (wC G a fm fh fw fb fc fd fr fp n k z t kn pl lf pn) H := hP
            have hD : va_D A (wC G a fm fh fw fb fc fd fr fp n k z t kn pl lf pn) := hD
            refine lv_istore_n (lv' := [(3, .int (nI (p_nx (p_way (n - 1) y i) y))), (0, .ref (a 0)), (1, .int (nI y)), (2, .int (nI j)), (4, .int (nI i))]) hx hb dX2_way_47 rfl hl (by decide) rfl (fun ls hl => ?_)
            refine lv_iinc (v := nI (i + 1)) (lv' := [(4, .int (nI (i + 1))), (3, .int (nI (p_nx (p_way (n - 1) y i) y))), (0, .ref (a 0)), (1, .int (nI y)), (2, .int (nI j))]) hx hb dX2_way_48 hl (k := 4) rfl (inc_N i 1) (by decide) rfl (fun ls hl => ?_)
            refine lv_goto (tgt := 36) hx hb dX2_way_51 (by decide) ?_
            exact ih1 (i + 1) (by omega) (by omega) _ _ _ hP hD hS (lv_sub hl [2, 3, 4, 1, 0] rfl)
      · refine lv_iconst (v := (-1)) hx hb dX2_way_24 (by decide) ?_
        exact ret 25 _ _ _ (-1) () dX2_way_25 (Or.inr ⟨y, K_5, hy, rfl, heK_5, Or.inl ⟨Or.inr (by omega), rfl⟩⟩) hP hD hS
  · refine lv_bipush (v := (-2)) hx hb dX2_way_8 (by decide) ?_
    exact ret 10 _ _ _ (-2) () dX2_way_10 (Or.inl ⟨bI_z c5, rfl⟩) hP hD hS
set_option maxHeartbeats 4000000 in
set_option maxRecDepth 100000 in
theorem c_prove (l : Launch) (G : gG) (sz : Nat) (a : Nat → Nat) (fm fh fw fb fc fd fr fp : Nat → Int32) (n k z t : Nat) (kn : Int32) (pl lf pn : Nat) (x : Int32) (hn : n ≤ 60) (hk : k ≤ 8) (hz : z ≤ 20) (ht : t ≤ 100000) (hpl : pl ≤ 60) (hlf : lf ≤ 6) (hpn : pn ≤ 1560)  : MetI l yX2_prove wsX2_prove ({ frames := 4, cells := 0, slots := 0, locals := 85 } : Room) [.ref (a 0), .int x] G (wC G a fm fh fw fb fc fd fr fp n k z t kn pl lf pn) sz (fun u : (Nat → Int32) × Nat => wC G a fm fh fw fb fc fd fr u.1 n k z t kn pl lf u.2) (fun r u => q_prove fc fp n pn x r u.1 u.2) := by
  refine ent_i _ cX2_prove 5 RX2 (by decide) rfl rfl (Nat.le_of_ble_eq_true rfl) ?_
  intro p e s m args below meth c A Q ls hx hb hml hts hown hA hK hX ret hl hP hD hS
  have hl : lv_has ls 5 [(0, .ref (a 0)), (1, .int x)] := hl
  have lk23 := hts (.fieldLink RX2 23 "MinedLedger" "cells" "[I") (by decide +kernel)
  have lk33 := hts (.fieldLink RX2 33 "MinedLedger" "proofWords" "[I") (by decide +kernel)
  have lk36 := hts (.fieldLink RX2 36 "MinedLedger" "entryCount" "I") (by decide +kernel)
  have lk67 := hts (.fieldLink RX2 67 "MinedLedger" "proofLength" "I") (by decide +kernel)
  have hiX2 : ∀ w ∈ wsX20, w ∈ wsX2_prove := by decide +kernel
  refine lv_aload_n hx hb dX2_prove_0 rfl (lv_at hl 0 rfl) ?_
  refine lv_iload_n hx hb dX2_prove_1 rfl (lv_at hl 1 rfl) ?_
  refine call_Vi (wr := ([] : va_W)) [.int x] [] ⟨hx, hb, hml, hown, hts⟩ hK hX hA hP hD hS (c_hasEntry l G _ a fm fh fw fb fc fd fr fp n k z t kn pl lf pn x (by omega) (by omega) (by omega) (by omega) (by omega) (by omega) (by omega)) (cwV 1 hts gX2_prove_X2_hasEntry rfl rfl rfl (by decide +kernel) ⟨Nat.le_of_ble_eq_true rfl, Nat.le_of_ble_eq_true rfl⟩) 2 0 rfl rfl rfl [0, 1, 2, 3, 4, 5, 6, 7, 8, 9, 10] [] rfl rfl (by decide) (by decide) (by decide) rfl hl.1 (Nat.le_of_ble_eq_true rfl) dX2_prove_2 ⟨Nat.zero_le _, Nat.zero_le _⟩ (fun r_1 u H locs hw hP hD hS => ?_)
  obtain rfl := hw
  have hP : va_P G.1 vwCl (wC G a fm fh fw fb fc fd fr fp n k z t kn pl lf pn) H := hP
  have hD : va_D A (wC G a fm fh fw fb fc fd fr fp n k z t kn pl lf pn) := hD
  refine lv_if_ne (tgt := 11) hx hb dX2_prove_5 (by decide) (fun c5 => ?_) (fun c5 => ?_)
  · obtain ⟨y, hy, rfl⟩ := ok_of (by omega) (bI_n c5)
    refine lv_aload_n hx hb dX2_prove_11 rfl (lv_at hl 0 rfl) ?_
    refine lv_iload_n hx hb dX2_prove_12 rfl (lv_at hl 1 rfl) ?_
    refine call_Vi (wr := ([] : va_W)) [.int (nI y)] [] ⟨hx, hb, hml, hown, hts⟩ hK hX hA hP hD hS (c_levelsTo l G _ a fm fh fw fb fc fd fr fp n k z t kn pl lf pn y (by omega) (by omega) (by omega) (by omega) (by omega) (by omega) (by omega) (by omega)) (cwV 1 hts gX2_prove_X2_levelsTo rfl rfl rfl (by decide +kernel) ⟨Nat.le_of_ble_eq_true rfl, Nat.le_of_ble_eq_true rfl⟩) 2 0 rfl rfl rfl [0, 1, 2, 3, 4, 5, 6, 7, 8, 9, 10] [] rfl rfl (by decide) (by decide) (by decide) rfl hl.1 (Nat.le_of_ble_eq_true rfl) dX2_prove_13 ⟨Nat.zero_le _, Nat.zero_le _⟩ (fun r_3 u H locs hw hP hD hS => ?_)
    obtain ⟨K, heK⟩ : ∃ z, z = u := ⟨_, rfl⟩
    subst heK
    obtain ⟨rfl, heK⟩ := hw
    have hlK := way_le (x := n - 1) (e := y) (by omega) _ heK.1
    have hP : va_P G.1 vwCl (wC G a fm fh fw fb fc fd fr fp n k z t kn pl lf pn) H := hP
    have hD : va_D A (wC G a fm fh fw fb fc fd fr fp n k z t kn pl lf pn) := hD
    refine lv_istore_n (lv' := [(2, .int (nI (1 + K))), (0, .ref (a 0)), (1, .int (nI y))]) hx hb dX2_prove_16 rfl hl (by decide) rfl (fun ls hl => ?_)
    refine lv_aload_n hx hb dX2_prove_17 rfl (lv_at hl 1 rfl) ?_
    refine va_get (D := G.1) (ci := 2) (v := .int (nI n)) (C := RX2) (T := TX2) (N := 14) hx hb hts hiX2 hown hK hP 0 rfl rfl 6 (by decide) lk36 (fun _ h9 => h9) rfl dX2_prove_18 ?_
    refine lv_iconst (v := nI 1) hx hb dX2_prove_21 (by decide) ?_
    refine su_N hx hb n 1 (by omega) dX2_prove_22 ?_
    refine lv_istore_n (lv' := [(3, .int (nI (n - 1))), (2, .int (nI (1 + K))), (0, .ref (a 0)), (1, .int (nI y))]) hx hb dX2_prove_23 rfl hl (by decide) rfl (fun ls hl => ?_)
    refine lv_iconst (v := nI 0) hx hb dX2_prove_24 (by decide) ?_
    refine lv_istore (lv' := [(4, .int (nI 0)), (3, .int (nI (n - 1))), (2, .int (nI (1 + K))), (0, .ref (a 0)), (1, .int (nI y))]) hx hb dX2_prove_25 hl (by decide) rfl (fun ls hl => ?_)
    suffices hloop1 : ∀ (fu1 : Nat) (i : Nat) (ff : Nat → Int32), (i ≤ 1 + K) → (∀ k j, k < i → j < 26 → ff (26 * k + j) = fc (34 * p_way (n - 1) y k + j)) → 1 + K - i < fu1 → ∀ (H : Heap) (locs : List Loc) (ls : Array Slot), va_P G.1 vwCl (wC G a fm fh fw fb fc fd fr ff n k z t kn pl lf pn) H → va_D A (wC G a fm fh fw fb fc fd fr ff n k z t kn pl lf pn) → va_S A s.heap H locs → lv_has ls 5 [(0, .ref (a 0)), (1, .int (nI y)), (2, .int (nI (1 + K))), (3, .int (nI (p_way (n - 1) y i))), (4, .int (nI i))] → W p l e ({ frames := 4, cells := 0, slots := 0, locals := 85 } : Room) s m args below meth c H locs 0 0 Q (F0 m 27 ls []) from hloop1 _ 0 fp (Nat.zero_le _) (fun k j h _ => absurd h (Nat.not_lt_zero k)) (Nat.lt_succ_self _) _ _ _ hP hD hS (lv_sub hl [3, 4, 2, 1, 0] rfl)
    clear hP hD hS hl
    intro fu1
    induction fu1 with
    | zero => intro i ff hi hff hfu; exact absurd hfu (Nat.not_lt_zero _)
    | succ fu1 ih1 =>
      intro i ff hi hff hfu1 H locs ls hP hD hS hl
      refine lv_iload hx hb dX2_prove_27 (lv_at hl 4 rfl) ?_
      refine lv_iload_n hx hb dX2_prove_29 rfl (lv_at hl 2 rfl) ?_
      refine cmp_ge hx hb i (1 + K) 67 (by omega) (by omega) dX2_prove_30 (by decide) (fun c30 => ?_) (fun c30 => ?_)
      · refine lv_aload_n hx hb dX2_prove_67 rfl (lv_at hl 0 rfl) ?_
        refine lv_iload_n hx hb dX2_prove_68 rfl (lv_at hl 2 rfl) ?_
        refine lv_bipush (v := nI 26) hx hb dX2_prove_69 (by decide) ?_
        refine mu_N hx hb (1 + K) 26 dX2_prove_71 ?_
        refine va_put (D := G.1) (ci := 2) (v := .int (nI ((1 + K) * 26))) (ty := .int) (C := RX2) (T := TX2) (N := 14) hx hb hts hiX2 tyX2 tyX2_ok nmX2 hown hK hP hD hS 0 rfl rfl 13 (by decide) lk67 (fun _ h9 => h9) rfl (by decide +kernel) rfl rfl (Nat.le_of_ble_eq_true rfl) dX2_prove_72 (fun H locs hP hD hS => ?_)
        have hP : va_P G.1 vwCl (wC G a fm fh fw fb fc fd fr ff n k z t kn pl lf ((1 + K) * 26)) H := hP
        have hD : va_D A (wC G a fm fh fw fb fc fd fr ff n k z t kn pl lf ((1 + K) * 26)) := hD
        refine lv_aload_n hx hb dX2_prove_75 rfl (lv_at hl 0 rfl) ?_
        refine va_get (D := G.1) (ci := 2) (v := .int (nI ((1 + K) * 26))) (C := RX2) (T := TX2) (N := 14) hx hb hts hiX2 hown hK hP 0 rfl rfl 13 (by decide) lk67 (fun _ h9 => h9) rfl dX2_prove_76 ?_
        exact ret 79 _ _ _ (nI ((1 + K) * 26)) (ff, (1 + K) * 26) dX2_prove_79 (Or.inr ⟨y, K, hy, rfl, heK, by congr 1; omega, by omega, fun k j hk hj => hff k j (by omega) hj⟩) hP hD hS
      · have hwl := end_le (i := i) hn heK (by omega)
        refine lv_aload_n hx hb dX2_prove_33 rfl (lv_at hl 0 rfl) ?_
        refine va_get (D := G.1) (ci := 2) (v := .ref (a 7)) (C := RX2) (T := TX2) (N := 14) hx hb hts hiX2 hown hK hP 0 rfl rfl 2 (by decide) lk23 (fun _ h9 => h9) rfl dX2_prove_34 ?_
        refine lv_iload_n hx hb dX2_prove_37 rfl (lv_at hl 3 rfl) ?_
        refine lv_bipush (v := nI 34) hx hb dX2_prove_38 (by decide) ?_
        refine mu_N hx hb (p_way (n - 1) y i) 34 dX2_prove_40 ?_
        refine lv_aload_n hx hb dX2_prove_41 rfl (lv_at hl 0 rfl) ?_
        refine va_get (D := G.1) (ci := 2) (v := .ref (a 10)) (C := RX2) (T := TX2) (N := 14) hx hb hts hiX2 hown hK hP 0 rfl rfl 5 (by decide) lk33 (fun _ h9 => h9) rfl dX2_prove_42 ?_
        refine lv_iload hx hb dX2_prove_45 (lv_at hl 4 rfl) ?_
        refine lv_bipush (v := nI 26) hx hb dX2_prove_47 (by decide) ?_
        refine mu_N hx hb i 26 dX2_prove_49 ?_
        refine lv_bipush (v := nI 26) hx hb dX2_prove_50 (by decide) ?_
        refine cpy_i hx hb (by rw [hml]; exact hl.1.symm) hown (hts (.methodLink RX2 84 arraycopyName) (by decide +kernel)) (hts (.native arraycopyName) (by decide +kernel)) (hts (.static arraycopyName) (by decide +kernel)) (hts (.initialized "java/lang/System") (by decide +kernel)) hK hP hD hS 7 10 rfl rfl ((p_way (n - 1) y i) * 34) (i * 26) 26 (by omega) (by omega) (by omega) (Nat.le_of_ble_eq_true rfl) (Nat.le_of_ble_eq_true rfl) dX2_prove_52 (fun H locs hP hD hS => ?_)
        have hP : va_P G.1 vwCl (wC G a fm fh fw fb fc fd fr (va_cpy fc ff ((p_way (n - 1) y i) * 34) (i * 26) 26) n k z t kn pl lf pn) H := hP
        have hD : va_D A (wC G a fm fh fw fb fc fd fr (va_cpy fc ff ((p_way (n - 1) y i) * 34) (i * 26) 26) n k z t kn pl lf pn) := hD
        refine lv_iload_n hx hb dX2_prove_55 rfl (lv_at hl 3 rfl) ?_
        refine lv_iload_n hx hb dX2_prove_56 rfl (lv_at hl 1 rfl) ?_
        refine call_Si (wr := ([(a 0, .inr (2, [.ref (a 1), .ref (a 5), .ref (a 7), .ref (a 8), .ref (a 9), .ref (a 10), .int (nI n), .int (nI k), .int (nI z), .int (nI t), .int kn, .int (nI pl), .int (nI lf), .int (nI pn)])), (a 1, .inr (1, [.ref (a 2), .ref (a 3), .ref (a 4)])), (a 2, .inl (G.2.2.1, 8, .inl fm)), (a 3, .inl (G.2.2.1, 8, .inl fh)), (a 4, .inl (G.2.2.1, 64, .inl fw)), (a 5, .inr (0, [.ref (a 6)])), (a 6, .inl (G.2.2.1, 32, .inl fb)), (a 7, .inl (G.2.2.1, 2040, .inl fc)), (a 8, .inl (G.2.2.1, 8, .inl fd)), (a 9, .inl (G.2.2.1, 34, .inl fr)), (a 10, .inl (G.2.2.1, 1560, .inl (va_cpy fc ff ((p_way (n - 1) y i) * 34) (i * 26) 26)))] : va_W)) [.int (nI (p_way (n - 1) y i)), .int (nI y)] [] ⟨hx, hb, hml, hown, hts⟩ hK hX hA hP hD hS (c_nextOnWay l G _ (p_way (n - 1) y i) y (by omega) (by omega)) (va_cwS 2 hts gX2_prove_X2_nextOnWay rfl rfl rfl (by decide +kernel) ⟨Nat.le_of_ble_eq_true rfl, Nat.le_of_ble_eq_true rfl⟩) [] [0, 1, 2, 3, 4, 5, 6, 7, 8, 9, 10] rfl rfl (by decide) (by decide) (by decide) rfl hl.1 (Nat.le_of_ble_eq_true rfl) dX2_prove_57 ⟨Nat.zero_le _, Nat.zero_le _⟩ (fun r_6 u H locs hw hP hD hS => ?_)
        obtain rfl := hw
        have hP : va_P G.1 vwCl (wC G a fm fh fw fb fc fd fr (va_cpy fc ff ((p_way (n - 1) y i) * 34) (i * 26) 26) n k z t kn pl lf pn) H := hP
        have hD : va_D A (wC G a fm fh fw fb fc fd fr (va_cpy fc ff ((p_way (n - 1) y i) * 34) (i * 26) 26) n k z t kn pl lf pn) := hD
        refine lv_istore_n (lv' := [(3, .int (nI (p_nx (p_way (n - 1) y i) y))), (0, .ref (a 0)), (1, .int (nI y)), (2, .int (nI (1 + K))), (4, .int (nI i))]) hx hb dX2_prove_60 rfl hl (by decide) rfl (fun ls hl => ?_)
        refine lv_iinc (v := nI (i + 1)) (lv' := [(4, .int (nI (i + 1))), (3, .int (nI (p_nx (p_way (n - 1) y i) y))), (0, .ref (a 0)), (1, .int (nI y)), (2, .int (nI (1 + K)))]) hx hb dX2_prove_61 hl (k := 4) rfl (inc_N i 1) (by decide) rfl (fun ls hl => ?_)
        refine lv_goto (tgt := 27) hx hb dX2_prove_64 (by decide) ?_
        exact ih1 (i + 1) (va_cpy fc ff ((p_way (n - 1) y i) * 34) (i * 26) 26) (by omega) (fun k j hk hj => by rcases Nat.lt_or_ge k i with q1 | q1; rw [pk_cpy_out (by omega)]; exact hff k j q1 hj; rw [show k = i by omega, pk_cpy_in (by omega) (by omega)]; congr 1; omega) (by omega) _ _ _ hP hD hS (lv_sub hl [2, 3, 4, 1, 0] rfl)
  · refine lv_bipush (v := (-2)) hx hb dX2_prove_8 (by decide) ?_
    exact ret 10 _ _ _ (-2) (fp, pn) dX2_prove_10 (Or.inl ⟨bI_z c5, rfl, rfl, rfl⟩) hP hD hS
theorem chk_T {fd fp g yu : Nat → Int32} {x y k d b : Nat} (h : ∀ j, j < 8 → p_is yu g d j = true) (hd : ∀ j, g (d + j) = p_due fd fp x y k j) (hy : ∀ j, j < 8 → yu j = p_hash fp (b) j) (hb : b = 26 * k) : p_chk fd fp x y k = true := by
  refine allN_iff.mpr (fun j hj => decide_eq_true ?_)
  rw [← hd j, ← hb, ← hy j hj]
  exact of_decide_eq_true (h j hj)
theorem chk_F {fd fp g yu : Nat → Int32} {x y k d b : Nat} (h : allN (p_is yu g d) 8 = false) (hd : ∀ j, g (d + j) = p_due fd fp x y k j) (hy : ∀ j, j < 8 → yu j = p_hash fp (b) j) (hb : b = 26 * k) : ¬ p_chk fd fp x y k = true := by
  intro z
  have e : allN (p_is yu g d) 8 = true := allN_iff.mpr (fun j hj => decide_eq_true (by rw [hd j, hy j hj, hb]; exact of_decide_eq_true (allN_iff.mp z j hj)))
  rw [e] at h
  cases h
set_option maxHeartbeats 4000000 in
set_option maxRecDepth 100000 in
theorem c_proofHolds (l : Launch) (G : gG) (sz : Nat) (a : Nat → Nat) (fm fh fw fb fc fd fr fp : Nat → Int32) (n k z t : Nat) (kn : Int32) (pl lf pn : Nat) (y : Nat) (hn : n ≤ 60) (hk : k ≤ 8) (hz : z ≤ 20) (ht : t ≤ 100000) (hpl : pl ≤ 60) (hlf : lf ≤ 6) (hpn : pn ≤ 1560) (hy : y < n) : MetI l yX2_proofHolds wsX2_proofHolds ({ frames := 5, cells := 0, slots := 0, locals := 121 } : Room) [.ref (a 0), .int (nI y)] G (wC G a fm fh fw fb fc fd fr fp n k z t kn pl lf pn) sz (fun u : (Nat → Int32) × (Nat → Int32) × (Nat → Int32) => wC G a u.1 u.2.1 u.2.2 fb fc fd fr fp n k z t kn pl lf pn) (fun r u => (fun r _ _ _ => ∃ K, p_end (n - 1) y K ∧ r = bI (decide (pn = 26 * (K + 1)) && allN (p_chk fd fp (n - 1) y) (K + 1))) r u.1 u.2.1 u.2.2) := by
  refine ent_z _ cX2_proofHolds 7 RX2 (by decide) rfl rfl (Nat.le_of_ble_eq_true rfl) ?_
  intro p e s m args below meth c A Q ls hx hb hml hts hown hA hK hX ret hl hP hD hS
  have hl : lv_has ls 7 [(0, .ref (a 0)), (1, .int (nI y))] := hl
  have lk10 := hts (.fieldLink RX2 10 "MinedLedger" "hasher" "LMinedLedger$Hasher;") (by decide +kernel)
  have lk27 := hts (.fieldLink RX2 27 "MinedLedger" "headWords" "[I") (by decide +kernel)
  have lk33 := hts (.fieldLink RX2 33 "MinedLedger" "proofWords" "[I") (by decide +kernel)
  have lk36 := hts (.fieldLink RX2 36 "MinedLedger" "entryCount" "I") (by decide +kernel)
  have lk67 := hts (.fieldLink RX2 67 "MinedLedger" "proofLength" "I") (by decide +kernel)
  have hiX2 : ∀ w ∈ wsX20, w ∈ wsX2_proofHolds := by decide +kernel
  refine lv_aload_n hx hb dX2_proofHolds_0 rfl (lv_at hl 0 rfl) ?_
  refine lv_iload_n hx hb dX2_proofHolds_1 rfl (lv_at hl 1 rfl) ?_
  refine call_Vi (wr := ([] : va_W)) [.int (nI y)] [] ⟨hx, hb, hml, hown, hts⟩ hK hX hA hP hD hS (c_levelsTo l G _ a fm fh fw fb fc fd fr fp n k z t kn pl lf pn y (by omega) (by omega) (by omega) (by omega) (by omega) (by omega) (by omega) (by omega)) (cwV 1 hts gX2_proofHolds_X2_levelsTo rfl rfl rfl (by decide +kernel) ⟨Nat.le_of_ble_eq_true rfl, Nat.le_of_ble_eq_true rfl⟩) 2 0 rfl rfl rfl [0, 1, 2, 3, 4, 5, 6, 7, 8, 9, 10] [] rfl rfl (by decide) (by decide) (by decide) rfl hl.1 (Nat.le_of_ble_eq_true rfl) dX2_proofHolds_2 ⟨Nat.zero_le _, Nat.zero_le _⟩ (fun r_1 u H locs hw hP hD hS => ?_)
  obtain ⟨K, heK⟩ : ∃ z, z = u := ⟨_, rfl⟩
  subst heK
  obtain ⟨rfl, heK⟩ := hw
  have hlK := way_le (x := n - 1) (e := y) (by omega) _ heK.1
  have hP : va_P G.1 vwCl (wC G a fm fh fw fb fc fd fr fp n k z t kn pl lf pn) H := hP
  have hD : va_D A (wC G a fm fh fw fb fc fd fr fp n k z t kn pl lf pn) := hD
  refine lv_istore_n (lv' := [(2, .int (nI (1 + K))), (0, .ref (a 0)), (1, .int (nI y))]) hx hb dX2_proofHolds_5 rfl hl (by decide) rfl (fun ls hl => ?_)
  refine lv_aload_n hx hb dX2_proofHolds_6 rfl (lv_at hl 1 rfl) ?_
  refine va_get (D := G.1) (ci := 2) (v := .int (nI pn)) (C := RX2) (T := TX2) (N := 14) hx hb hts hiX2 hown hK hP 0 rfl rfl 13 (by decide) lk67 (fun _ h9 => h9) rfl dX2_proofHolds_7 ?_
  refine lv_iload_n hx hb dX2_proofHolds_10 rfl (lv_at hl 0 rfl) ?_
  refine lv_bipush (v := nI 26) hx hb dX2_proofHolds_11 (by decide) ?_
  refine mu_N hx hb (1 + K) 26 dX2_proofHolds_13 ?_
  refine cmp_eq hx hb pn ((1 + K) * 26) 19 (by omega) (by omega) dX2_proofHolds_14 (by decide) (fun c14 => ?_) (fun c14 => ?_)
  · refine lv_aload_n hx hb dX2_proofHolds_19 rfl (lv_at hl 1 rfl) ?_
    refine va_get (D := G.1) (ci := 2) (v := .ref (a 8)) (C := RX2) (T := TX2) (N := 14) hx hb hts hiX2 hown hK hP 0 rfl rfl 3 (by decide) lk27 (fun _ h9 => h9) rfl dX2_proofHolds_20 ?_
    refine lv_astore_n (lv' := [(3, .ref (a 8)), (2, .int (nI (1 + K))), (0, .ref (a 0)), (1, .int (nI y))]) hx hb dX2_proofHolds_23 rfl hl (by decide) rfl (fun ls hl => ?_)
    refine lv_iconst (v := nI 0) hx hb dX2_proofHolds_24 (by decide) ?_
    refine lv_istore (lv' := [(4, .int (nI 0)), (3, .ref (a 8)), (2, .int (nI (1 + K))), (0, .ref (a 0)), (1, .int (nI y))]) hx hb dX2_proofHolds_25 hl (by decide) rfl (fun ls hl => ?_)
    refine lv_aload_n hx hb dX2_proofHolds_27 rfl (lv_at hl 3 rfl) ?_
    refine va_get (D := G.1) (ci := 2) (v := .int (nI n)) (C := RX2) (T := TX2) (N := 14) hx hb hts hiX2 hown hK hP 0 rfl rfl 6 (by decide) lk36 (fun _ h9 => h9) rfl dX2_proofHolds_28 ?_
    refine lv_iconst (v := nI 1) hx hb dX2_proofHolds_31 (by decide) ?_
    refine su_N hx hb n 1 (by omega) dX2_proofHolds_32 ?_
    refine lv_istore (lv' := [(5, .int (nI (n - 1))), (4, .int (nI 0)), (3, .ref (a 8)), (2, .int (nI (1 + K))), (0, .ref (a 0)), (1, .int (nI y))]) hx hb dX2_proofHolds_33 hl (by decide) rfl (fun ls hl => ?_)
    refine lv_iconst (v := nI 0) hx hb dX2_proofHolds_35 (by decide) ?_
    refine lv_istore (lv' := [(6, .int (nI 0)), (5, .int (nI (n - 1))), (4, .int (nI 0)), (3, .ref (a 8)), (2, .int (nI (1 + K))), (0, .ref (a 0)), (1, .int (nI y))]) hx hb dX2_proofHolds_36 hl (by decide) rfl (fun ls hl => ?_)
    refine lv_iload hx hb dX2_proofHolds_38 (lv_at hl 0 rfl) ?_
    refine lv_iload_n hx hb dX2_proofHolds_40 rfl (lv_at hl 4 rfl) ?_
    refine cmp_ge hx hb 0 (1 + K) 117 (by omega) (by omega) dX2_proofHolds_41 (by decide) (fun c41 => ?_) (fun c41 => ?_)
    · exfalso; omega
    · have hwl := end_le (i := 0) hn heK (by omega)
      refine lv_aload_n hx hb dX2_proofHolds_44 rfl (lv_at hl 5 rfl) ?_
      refine va_get (D := G.1) (ci := 2) (v := .ref (a 1)) (C := RX2) (T := TX2) (N := 14) hx hb hts hiX2 hown hK hP 0 rfl rfl 0 (by decide) lk10 (fun _ h9 => h9) rfl dX2_proofHolds_45 ?_
      refine lv_aload_n hx hb dX2_proofHolds_48 rfl (lv_at hl 5 rfl) ?_
      refine va_get (D := G.1) (ci := 2) (v := .ref (a 10)) (C := RX2) (T := TX2) (N := 14) hx hb hts hiX2 hown hK hP 0 rfl rfl 5 (by decide) lk33 (fun _ h9 => h9) rfl dX2_proofHolds_49 ?_
      refine lv_iload hx hb dX2_proofHolds_52 (lv_at hl 0 rfl) ?_
      refine lv_bipush (v := nI 26) hx hb dX2_proofHolds_54 (by decide) ?_
      refine mu_N hx hb 0 26 dX2_proofHolds_56 ?_
      refine call_Vv (wr := ([(a 0, .inr (2, [.ref (a 1), .ref (a 5), .ref (a 7), .ref (a 8), .ref (a 9), .ref (a 10), .int (nI n), .int (nI k), .int (nI z), .int (nI t), .int kn, .int (nI pl), .int (nI lf), .int (nI pn)])), (a 5, .inr (0, [.ref (a 6)])), (a 6, .inl (G.2.2.1, 32, .inl fb)), (a 7, .inl (G.2.2.1, 2040, .inl fc)), (a 8, .inl (G.2.2.1, 8, .inl fd)), (a 9, .inl (G.2.2.1, 34, .inl fr))] : va_W)) [.ref (a 10), .int (nI (0 * 26))] [] ⟨hx, hb, hml, hown, hts⟩ hK hX hA hP hD hS (c_takeAll l G _ (a 1) (a 2) (a 3) (a 4) (a 10) 1560 (0 * 26) fm fh fw fp (by omega) (by omega)) (cwV 2 hts gX2_proofHolds_X1_takeAll rfl rfl rfl (by decide +kernel) ⟨Nat.le_of_ble_eq_true rfl, Nat.le_of_ble_eq_true rfl⟩) 1 1 rfl rfl rfl [1, 2, 3, 4, 10] [0, 5, 6, 7, 8, 9] rfl rfl (by decide) (by decide) (by decide) rfl hl.1 (Nat.le_of_ble_eq_true rfl) dX2_proofHolds_57 ⟨Nat.zero_le _, Nat.zero_le _⟩ (fun u H locs hw hP hD hS => ?_)
      obtain ⟨mu_6, yu_6, wu_6⟩ := u
      have hu_6 : ∀ j, j < 8 → yu_6 j = p_hash fp (0 * 26) j := hw
      have hP : va_P G.1 vwCl (wC G a mu_6 yu_6 wu_6 fb fc fd fr fp n k z t kn pl lf pn) H := hP.sub [0, 6, 7, 8, 9, 1, 2, 3, 4, 5, 10] rfl
      have hD : va_D A (wC G a mu_6 yu_6 wu_6 fb fc fd fr fp n k z t kn pl lf pn) := hD.sub [0, 6, 7, 8, 9, 1, 2, 3, 4, 5, 10] (by decide) rfl
      refine lv_aload_n hx hb dX2_proofHolds_60 rfl (lv_at hl 5 rfl) ?_
      refine va_get (D := G.1) (ci := 2) (v := .ref (a 1)) (C := RX2) (T := TX2) (N := 14) hx hb hts hiX2 hown hK hP 0 rfl rfl 0 (by decide) lk10 (fun _ h9 => h9) rfl dX2_proofHolds_61 ?_
      refine lv_aload_n hx hb dX2_proofHolds_64 rfl (lv_at hl 3 rfl) ?_
      refine lv_iload hx hb dX2_proofHolds_65 (lv_at hl 2 rfl) ?_
      refine call_Vi (wr := ([(a 0, .inr (2, [.ref (a 1), .ref (a 5), .ref (a 7), .ref (a 8), .ref (a 9), .ref (a 10), .int (nI n), .int (nI k), .int (nI z), .int (nI t), .int kn, .int (nI pl), .int (nI lf), .int (nI pn)])), (a 2, .inl (G.2.2.1, 8, .inl mu_6)), (a 4, .inl (G.2.2.1, 64, .inl wu_6)), (a 5, .inr (0, [.ref (a 6)])), (a 6, .inl (G.2.2.1, 32, .inl fb)), (a 7, .inl (G.2.2.1, 2040, .inl fc)), (a 9, .inl (G.2.2.1, 34, .inl fr)), (a 10, .inl (G.2.2.1, 1560, .inl fp))] : va_W)) [.ref (a 8), .int (nI 0)] [] ⟨hx, hb, hml, hown, hts⟩ hK hX hA hP hD hS (c_isAt l G _ (a 1) (a 2) (a 3) (a 4) (a 8) 8 0 yu_6 fd (by omega) (by omega)) (cwV 2 hts gX2_proofHolds_X1_isAt rfl rfl rfl (by decide +kernel) ⟨Nat.le_of_ble_eq_true rfl, Nat.le_of_ble_eq_true rfl⟩) 1 1 rfl rfl rfl [1, 3, 8] [0, 2, 4, 5, 6, 7, 9, 10] rfl rfl (by decide) (by decide) (by decide) rfl hl.1 (Nat.le_of_ble_eq_true rfl) dX2_proofHolds_67 ⟨Nat.zero_le _, Nat.zero_le _⟩ (fun r_7 u H locs hw hP hD hS => ?_)
      obtain rfl := hw
      have hP : va_P G.1 vwCl (wC G a mu_6 yu_6 wu_6 fb fc fd fr fp n k z t kn pl lf pn) H := hP.sub [0, 8, 1, 9, 2, 3, 4, 5, 10, 6, 7] rfl
      have hD : va_D A (wC G a mu_6 yu_6 wu_6 fb fc fd fr fp n k z t kn pl lf pn) := hD.sub [0, 8, 1, 9, 2, 3, 4, 5, 10, 6, 7] (by decide) rfl
      refine lv_if_ne (tgt := 75) hx hb dX2_proofHolds_70 (by decide) (fun c70 => ?_) (fun c70 => ?_)
      · refine lv_aload_n hx hb dX2_proofHolds_75 rfl (lv_at hl 5 rfl) ?_
        refine va_get (D := G.1) (ci := 2) (v := .ref (a 10)) (C := RX2) (T := TX2) (N := 14) hx hb hts hiX2 hown hK hP 0 rfl rfl 5 (by decide) lk33 (fun _ h9 => h9) rfl dX2_proofHolds_76 ?_
        refine lv_astore_n (lv' := [(3, .ref (a 10)), (6, .int (nI 0)), (5, .int (nI (n - 1))), (4, .int (nI 0)), (2, .int (nI (1 + K))), (0, .ref (a 0)), (1, .int (nI y))]) hx hb dX2_proofHolds_79 rfl hl (by decide) rfl (fun ls hl => ?_)
        refine lv_iload hx hb dX2_proofHolds_80 (lv_at hl 1 rfl) ?_
        refine lv_bipush (v := nI 26) hx hb dX2_proofHolds_82 (by decide) ?_
        refine mu_N hx hb 0 26 dX2_proofHolds_84 ?_
        refine lv_iload hx hb dX2_proofHolds_85 (lv_at hl 2 rfl) ?_
        refine lv_iload_n hx hb dX2_proofHolds_87 rfl (lv_at hl 6 rfl) ?_
        refine call_Si (wr := ([(a 0, .inr (2, [.ref (a 1), .ref (a 5), .ref (a 7), .ref (a 8), .ref (a 9), .ref (a 10), .int (nI n), .int (nI k), .int (nI z), .int (nI t), .int kn, .int (nI pl), .int (nI lf), .int (nI pn)])), (a 1, .inr (1, [.ref (a 2), .ref (a 3), .ref (a 4)])), (a 2, .inl (G.2.2.1, 8, .inl mu_6)), (a 3, .inl (G.2.2.1, 8, .inl yu_6)), (a 4, .inl (G.2.2.1, 64, .inl wu_6)), (a 5, .inr (0, [.ref (a 6)])), (a 6, .inl (G.2.2.1, 32, .inl fb)), (a 7, .inl (G.2.2.1, 2040, .inl fc)), (a 8, .inl (G.2.2.1, 8, .inl fd)), (a 9, .inl (G.2.2.1, 34, .inl fr)), (a 10, .inl (G.2.2.1, 1560, .inl fp))] : va_W)) [.int (nI (n - 1)), .int (nI y)] [.int (nI (0 * 26))] ⟨hx, hb, hml, hown, hts⟩ hK hX hA hP hD hS (c_goesBySkip l G _ (n - 1) y (by omega) (by omega)) (va_cwS 2 hts gX2_proofHolds_X2_goesBySkip rfl rfl rfl (by decide +kernel) ⟨Nat.le_of_ble_eq_true rfl, Nat.le_of_ble_eq_true rfl⟩) [] [0, 1, 2, 3, 4, 5, 6, 7, 8, 9, 10] rfl rfl (by decide) (by decide) (by decide) rfl hl.1 (Nat.le_of_ble_eq_true rfl) dX2_proofHolds_88 ⟨Nat.zero_le _, Nat.zero_le _⟩ (fun r_9 u H locs hw hP hD hS => ?_)
        obtain rfl := hw
        have hP : va_P G.1 vwCl (wC G a mu_6 yu_6 wu_6 fb fc fd fr fp n k z t kn pl lf pn) H := hP
        have hD : va_D A (wC G a mu_6 yu_6 wu_6 fb fc fd fr fp n k z t kn pl lf pn) := hD
        refine lv_if_eq (tgt := 99) hx hb dX2_proofHolds_91 (by decide) (fun c91 => ?_) (fun c91 => ?_)
        · refine lv_iconst (v := nI 0) hx hb dX2_proofHolds_99 (by decide) ?_
          refine ad_N hx hb (0 * 26) 0 dX2_proofHolds_100 ?_
          refine lv_istore (lv' := [(4, .int (nI ((0 * 26) + 0))), (3, .ref (a 10)), (6, .int (nI 0)), (5, .int (nI (n - 1))), (2, .int (nI (1 + K))), (0, .ref (a 0)), (1, .int (nI y))]) hx hb dX2_proofHolds_101 hl (by decide) rfl (fun ls hl => ?_)
          refine lv_iload hx hb dX2_proofHolds_103 (lv_at hl 3 rfl) ?_
          refine lv_iload_n hx hb dX2_proofHolds_105 rfl (lv_at hl 6 rfl) ?_
          refine call_Si (wr := ([(a 0, .inr (2, [.ref (a 1), .ref (a 5), .ref (a 7), .ref (a 8), .ref (a 9), .ref (a 10), .int (nI n), .int (nI k), .int (nI z), .int (nI t), .int kn, .int (nI pl), .int (nI lf), .int (nI pn)])), (a 1, .inr (1, [.ref (a 2), .ref (a 3), .ref (a 4)])), (a 2, .inl (G.2.2.1, 8, .inl mu_6)), (a 3, .inl (G.2.2.1, 8, .inl yu_6)), (a 4, .inl (G.2.2.1, 64, .inl wu_6)), (a 5, .inr (0, [.ref (a 6)])), (a 6, .inl (G.2.2.1, 32, .inl fb)), (a 7, .inl (G.2.2.1, 2040, .inl fc)), (a 8, .inl (G.2.2.1, 8, .inl fd)), (a 9, .inl (G.2.2.1, 34, .inl fr)), (a 10, .inl (G.2.2.1, 1560, .inl fp))] : va_W)) [.int (nI (n - 1)), .int (nI y)] [] ⟨hx, hb, hml, hown, hts⟩ hK hX hA hP hD hS (c_nextOnWay l G _ (n - 1) y (by omega) (by omega)) (va_cwS 2 hts gX2_proofHolds_X2_nextOnWay rfl rfl rfl (by decide +kernel) ⟨Nat.le_of_ble_eq_true rfl, Nat.le_of_ble_eq_true rfl⟩) [] [0, 1, 2, 3, 4, 5, 6, 7, 8, 9, 10] rfl rfl (by decide) (by decide) (by decide) rfl hl.1 (Nat.le_of_ble_eq_true rfl) dX2_proofHolds_106 ⟨Nat.zero_le _, Nat.zero_le _⟩ (fun r_11 u H locs hw hP hD hS => ?_)
          obtain rfl := hw
          have hP : va_P G.1 vwCl (wC G a mu_6 yu_6 wu_6 fb fc fd fr fp n k z t kn pl lf pn) H := hP
          have hD : va_D A (wC G a mu_6 yu_6 wu_6 fb fc fd fr fp n k z t kn pl lf pn) := hD
          refine lv_istore (lv' := [(5, .int (nI (p_nx (n - 1) y))), (4, .int (nI ((0 * 26) + 0))), (3, .ref (a 10)), (6, .int (nI 0)), (2, .int (nI (1 + K))), (0, .ref (a 0)), (1, .int (nI y))]) hx hb dX2_proofHolds_109 hl (by decide) rfl (fun ls hl => ?_)
          refine lv_iinc (v := nI (0 + 1)) (lv' := [(6, .int (nI (0 + 1))), (5, .int (nI (p_nx (n - 1) y))), (4, .int (nI ((0 * 26) + 0))), (3, .ref (a 10)), (2, .int (nI (1 + K))), (0, .ref (a 0)), (1, .int (nI y))]) hx hb dX2_proofHolds_111 hl (k := 3) rfl (inc_N 0 1) (by decide) rfl (fun ls hl => ?_)
          refine lv_goto (tgt := 38) hx hb dX2_proofHolds_114 (by decide) ?_
          suffices hloop1 : ∀ (fu1 : Nat) (i : Nat) (da : Nat) (mm : Nat → Int32) (hh : Nat → Int32) (ww : Nat → Int32), (1 ≤ i) → (i ≤ 1 + K) → (∀ j, fp (da + j) = p_due fd fp (n - 1) y i j) → (da + 8 ≤ 1560) → (∀ k, k < i → p_chk fd fp (n - 1) y k = true) → 1 + K - i < fu1 → ∀ (H : Heap) (locs : List Loc) (ls : Array Slot), va_P G.1 vwCl (wC G a mm hh ww fb fc fd fr fp n k z t kn pl lf pn) H → va_D A (wC G a mm hh ww fb fc fd fr fp n k z t kn pl lf pn) → va_S A s.heap H locs → lv_has ls 7 [(0, .ref (a 0)), (1, .int (nI y)), (2, .int (nI (1 + K))), (3, .ref (a 10)), (4, .int (nI da)), (5, .int (nI (p_way (n - 1) y i))), (6, .int (nI i))] → W p l e ({ frames := 5, cells := 0, slots := 0, locals := 121 } : Room) s m args below meth c H locs 0 0 Q (F0 m 38 ls []) from hloop1 _ (0 + 1) ((0 * 26) + 0) mu_6 yu_6 wu_6 (Nat.le_refl _) (by omega) (fun j => by show _ = fp (26 * 0 + (if p_by (n - 1) y then 8 else 0) + j); rw [if_neg (by rw [bI_z c91]; decide)]; first | done | (congr 1; omega)) (by omega) (fun k hk => by rw [show k = 0 by omega]; exact chk_T (k := 0) (allN_iff.mp (bI_n c70)) (fun j => by rw [Nat.zero_add]; rfl) hu_6 rfl) (Nat.lt_succ_self _) _ _ _ hP hD hS (lv_sub hl [5, 6, 4, 3, 2, 1, 0] rfl)
          clear hP hD hS hl
          intro fu1
          induction fu1 with
          | zero => intro i da mm hh ww hi1 hi hda hda2 hm hfu; exact absurd hfu (Nat.not_lt_zero _)
          | succ fu1 ih1 =>
            intro i da mm hh ww hi1 hi hda hda2 hm hfu1 H locs ls hP hD hS hl
            refine lv_iload hx hb dX2_proofHolds_38 (lv_at hl 6 rfl) ?_
            refine lv_iload_n hx hb dX2_proofHolds_40 rfl (lv_at hl 2 rfl) ?_
            refine cmp_ge hx hb i (1 + K) 117 (by omega) (by omega) dX2_proofHolds_41 (by decide) (fun c41 => ?_) (fun c41 => ?_)
            · have e117 : i = 1 + K := by omega
              subst e117
              refine lv_iconst (v := nI 1) hx hb dX2_proofHolds_117 (by decide) ?_
              exact ret 118 _ _ _ (nI 1) (mm, hh, ww) dX2_proofHolds_118 (by first | exact Or.inl rfl | exact Or.inr rfl) (⟨K, heK, by rw [decide_eq_true (by omega), Bool.true_and, Nat.add_comm K 1]; exact al_T hm⟩) hP hD hS
            · have hwl := end_le (i := i) hn heK (by omega)
              refine lv_aload_n hx hb dX2_proofHolds_44 rfl (lv_at hl 0 rfl) ?_
              refine va_get (D := G.1) (ci := 2) (v := .ref (a 1)) (C := RX2) (T := TX2) (N := 14) hx hb hts hiX2 hown hK hP 0 rfl rfl 0 (by decide) lk10 (fun _ h9 => h9) rfl dX2_proofHolds_45 ?_
              refine lv_aload_n hx hb dX2_proofHolds_48 rfl (lv_at hl 0 rfl) ?_
              refine va_get (D := G.1) (ci := 2) (v := .ref (a 10)) (C := RX2) (T := TX2) (N := 14) hx hb hts hiX2 hown hK hP 0 rfl rfl 5 (by decide) lk33 (fun _ h9 => h9) rfl dX2_proofHolds_49 ?_
              refine lv_iload hx hb dX2_proofHolds_52 (lv_at hl 6 rfl) ?_
              refine lv_bipush (v := nI 26) hx hb dX2_proofHolds_54 (by decide) ?_
              refine mu_N hx hb i 26 dX2_proofHolds_56 ?_
              refine call_Vv (wr := ([(a 0, .inr (2, [.ref (a 1), .ref (a 5), .ref (a 7), .ref (a 8), .ref (a 9), .ref (a 10), .int (nI n), .int (nI k), .int (nI z), .int (nI t), .int kn, .int (nI pl), .int (nI lf), .int (nI pn)])), (a 5, .inr (0, [.ref (a 6)])), (a 6, .inl (G.2.2.1, 32, .inl fb)), (a 7, .inl (G.2.2.1, 2040, .inl fc)), (a 8, .inl (G.2.2.1, 8, .inl fd)), (a 9, .inl (G.2.2.1, 34, .inl fr))] : va_W)) [.ref (a 10), .int (nI (i * 26))] [] ⟨hx, hb, hml, hown, hts⟩ hK hX hA hP hD hS (c_takeAll l G _ (a 1) (a 2) (a 3) (a 4) (a 10) 1560 (i * 26) mm hh ww fp (by omega) (by omega)) (cwV 2 hts gX2_proofHolds_X1_takeAll rfl rfl rfl (by decide +kernel) ⟨Nat.le_of_ble_eq_true rfl, Nat.le_of_ble_eq_true rfl⟩) 1 1 rfl rfl rfl [1, 2, 3, 4, 10] [0, 5, 6, 7, 8, 9] rfl rfl (by decide) (by decide) (by decide) rfl hl.1 (Nat.le_of_ble_eq_true rfl) dX2_proofHolds_57 ⟨Nat.zero_le _, Nat.zero_le _⟩ (fun u H locs hw hP hD hS => ?_)
              obtain ⟨mu_14, yu_14, wu_14⟩ := u
              have hu_14 : ∀ j, j < 8 → yu_14 j = p_hash fp (i * 26) j := hw
              have hP : va_P G.1 vwCl (wC G a mu_14 yu_14 wu_14 fb fc fd fr fp n k z t kn pl lf pn) H := hP.sub [0, 6, 7, 8, 9, 1, 2, 3, 4, 5, 10] rfl
              have hD : va_D A (wC G a mu_14 yu_14 wu_14 fb fc fd fr fp n k z t kn pl lf pn) := hD.sub [0, 6, 7, 8, 9, 1, 2, 3, 4, 5, 10] (by decide) rfl
              refine lv_aload_n hx hb dX2_proofHolds_60 rfl (lv_at hl 0 rfl) ?_
              refine va_get (D := G.1) (ci := 2) (v := .ref (a 1)) (C := RX2) (T := TX2) (N := 14) hx hb hts hiX2 hown hK hP 0 rfl rfl 0 (by decide) lk10 (fun _ h9 => h9) rfl dX2_proofHolds_61 ?_
              refine lv_aload_n hx hb dX2_proofHolds_64 rfl (lv_at hl 3 rfl) ?_
              refine lv_iload hx hb dX2_proofHolds_65 (lv_at hl 4 rfl) ?_
              refine call_Vi (wr := ([(a 0, .inr (2, [.ref (a 1), .ref (a 5), .ref (a 7), .ref (a 8), .ref (a 9), .ref (a 10), .int (nI n), .int (nI k), .int (nI z), .int (nI t), .int kn, .int (nI pl), .int (nI lf), .int (nI pn)])), (a 2, .inl (G.2.2.1, 8, .inl mu_14)), (a 4, .inl (G.2.2.1, 64, .inl wu_14)), (a 5, .inr (0, [.ref (a 6)])), (a 6, .inl (G.2.2.1, 32, .inl fb)), (a 7, .inl (G.2.2.1, 2040, .inl fc)), (a 8, .inl (G.2.2.1, 8, .inl fd)), (a 9, .inl (G.2.2.1, 34, .inl fr))] : va_W)) [.ref (a 10), .int (nI da)] [] ⟨hx, hb, hml, hown, hts⟩ hK hX hA hP hD hS (c_isAt l G _ (a 1) (a 2) (a 3) (a 4) (a 10) 1560 da yu_14 fp (by omega) (by omega)) (cwV 2 hts gX2_proofHolds_X1_isAt rfl rfl rfl (by decide +kernel) ⟨Nat.le_of_ble_eq_true rfl, Nat.le_of_ble_eq_true rfl⟩) 1 1 rfl rfl rfl [1, 3, 10] [0, 2, 4, 5, 6, 7, 8, 9] rfl rfl (by decide) (by decide) (by decide) rfl hl.1 (Nat.le_of_ble_eq_true rfl) dX2_proofHolds_67 ⟨Nat.zero_le _, Nat.zero_le _⟩ (fun r_15 u H locs hw hP hD hS => ?_)
              obtain rfl := hw
              have hP : va_P G.1 vwCl (wC G a mu_14 yu_14 wu_14 fb fc fd fr fp n k z t kn pl lf pn) H := hP.sub [0, 8, 1, 9, 2, 3, 4, 5, 6, 7, 10] rfl
              have hD : va_D A (wC G a mu_14 yu_14 wu_14 fb fc fd fr fp n k z t kn pl lf pn) := hD.sub [0, 8, 1, 9, 2, 3, 4, 5, 6, 7, 10] (by decide) rfl
              refine lv_if_ne (tgt := 75) hx hb dX2_proofHolds_70 (by decide) (fun c70 => ?_) (fun c70 => ?_)
              · refine lv_aload_n hx hb dX2_proofHolds_75 rfl (lv_at hl 0 rfl) ?_
                refine va_get (D := G.1) (ci := 2) (v := .ref (a 10)) (C := RX2) (T := TX2) (N := 14) hx hb hts hiX2 hown hK hP 0 rfl rfl 5 (by decide) lk33 (fun _ h9 => h9) rfl dX2_proofHolds_76 ?_
                refine lv_astore_n (lv' := [(3, .ref (a 10)), (0, .ref (a 0)), (1, .int (nI y)), (2, .int (nI (1 + K))), (4, .int (nI da)), (5, .int (nI (p_way (n - 1) y i))), (6, .int (nI i))]) hx hb dX2_proofHolds_79 rfl hl (by decide) rfl (fun ls hl => ?_)
                refine lv_iload hx hb dX2_proofHolds_80 (lv_at hl 6 rfl) ?_
                refine lv_bipush (v := nI 26) hx hb dX2_proofHolds_82 (by decide) ?_
                refine mu_N hx hb i 26 dX2_proofHolds_84 ?_
                refine lv_iload hx hb dX2_proofHolds_85 (lv_at hl 5 rfl) ?_
                refine lv_iload_n hx hb dX2_proofHolds_87 rfl (lv_at hl 2 rfl) ?_
                refine call_Si (wr := ([(a 0, .inr (2, [.ref (a 1), .ref (a 5), .ref (a 7), .ref (a 8), .ref (a 9), .ref (a 10), .int (nI n), .int (nI k), .int (nI z), .int (nI t), .int kn, .int (nI pl), .int (nI lf), .int (nI pn)])), (a 1, .inr (1, [.ref (a 2), .ref (a 3), .ref (a 4)])), (a 2, .inl (G.2.2.1, 8, .inl mu_14)), (a 3, .inl (G.2.2.1, 8, .inl yu_14)), (a 4, .inl (G.2.2.1, 64, .inl wu_14)), (a 5, .inr (0, [.ref (a 6)])), (a 6, .inl (G.2.2.1, 32, .inl fb)), (a 7, .inl (G.2.2.1, 2040, .inl fc)), (a 8, .inl (G.2.2.1, 8, .inl fd)), (a 9, .inl (G.2.2.1, 34, .inl fr)), (a 10, .inl (G.2.2.1, 1560, .inl fp))] : va_W)) [.int (nI (p_way (n - 1) y i)), .int (nI y)] [.int (nI (i * 26))] ⟨hx, hb, hml, hown, hts⟩ hK hX hA hP hD hS (c_goesBySkip l G _ (p_way (n - 1) y i) y (by omega) (by omega)) (va_cwS 2 hts gX2_proofHolds_X2_goesBySkip rfl rfl rfl (by decide +kernel) ⟨Nat.le_of_ble_eq_true rfl, Nat.le_of_ble_eq_true rfl⟩) [] [0, 1, 2, 3, 4, 5, 6, 7, 8, 9, 10] rfl rfl (by decide) (by decide) (by decide) rfl hl.1 (Nat.le_of_ble_eq_true rfl) dX2_proofHolds_88 ⟨Nat.zero_le _, Nat.zero_le _⟩ (fun r_17 u H locs hw hP hD hS => ?_)
                obtain rfl := hw
                have hP : va_P G.1 vwCl (wC G a mu_14 yu_14 wu_14 fb fc fd fr fp n k z t kn pl lf pn) H := hP
                have hD : va_D A (wC G a mu_14 yu_14 wu_14 fb fc fd fr fp n k z t kn pl lf pn) := hD
                refine lv_if_eq (tgt := 99) hx hb dX2_proofHolds_91 (by decide) (fun c91 => ?_) (fun c91 => ?_)
                · refine lv_iconst (v := nI 0) hx hb dX2_proofHolds_99 (by decide) ?_
                  refine ad_N hx hb (i * 26) 0 dX2_proofHolds_100 ?_
                  refine lv_istore (lv' := [(4, .int (nI ((i * 26) + 0))), (3, .ref (a 10)), (0, .ref (a 0)), (1, .int (nI y)), (2, .int (nI (1 + K))), (5, .int (nI (p_way (n - 1) y i))), (6, .int (nI i))]) hx hb dX2_proofHolds_101 hl (by decide) rfl (fun ls hl => ?_)
                  refine lv_iload hx hb dX2_proofHolds_103 (lv_at hl 5 rfl) ?_
                  refine lv_iload_n hx hb dX2_proofHolds_105 rfl (lv_at hl 3 rfl) ?_
                  refine call_Si (wr := ([(a 0, .inr (2, [.ref (a 1), .ref (a 5), .ref (a 7), .ref (a 8), .ref (a 9), .ref (a 10), .int (nI n), .int (nI k), .int (nI z), .int (nI t), .int kn, .int (nI pl), .int (nI lf), .int (nI pn)])), (a 1, .inr (1, [.ref (a 2), .ref (a 3), .ref (a 4)])), (a 2, .inl (G.2.2.1, 8, .inl mu_14)), (a 3, .inl (G.2.2.1, 8, .inl yu_14)), (a 4, .inl (G.2.2.1, 64, .inl wu_14)), (a 5, .inr (0, [.ref (a 6)])), (a 6, .inl (G.2.2.1, 32, .inl fb)), (a 7, .inl (G.2.2.1, 2040, .inl fc)), (a 8, .inl (G.2.2.1, 8, .inl fd)), (a 9, .inl (G.2.2.1, 34, .inl fr)), (a 10, .inl (G.2.2.1, 1560, .inl fp))] : va_W)) [.int (nI (p_way (n - 1) y i)), .int (nI y)] [] ⟨hx, hb, hml, hown, hts⟩ hK hX hA hP hD hS (c_nextOnWay l G _ (p_way (n - 1) y i) y (by omega) (by omega)) (va_cwS 2 hts gX2_proofHolds_X2_nextOnWay rfl rfl rfl (by decide +kernel) ⟨Nat.le_of_ble_eq_true rfl, Nat.le_of_ble_eq_true rfl⟩) [] [0, 1, 2, 3, 4, 5, 6, 7, 8, 9, 10] rfl rfl (by decide) (by decide) (by decide) rfl hl.1 (Nat.le_of_ble_eq_true rfl) dX2_proofHolds_106 ⟨Nat.zero_le _, Nat.zero_le _⟩ (fun r_19 u H locs hw hP hD hS => ?_)
                  obtain rfl := hw
                  have hP : va_P G.1 vwCl (wC G a mu_14 yu_14 wu_14 fb fc fd fr fp n k z t kn pl lf pn) H := hP
                  have hD : va_D A (wC G a mu_14 yu_14 wu_14 fb fc fd fr fp n k z t kn pl lf pn) := hD
                  refine lv_istore (lv' := [(5, .int (nI (p_nx (p_way (n - 1) y i) y))), (4, .int (nI ((i * 26) + 0))), (3, .ref (a 10)), (0, .ref (a 0)), (1, .int (nI y)), (2, .int (nI (1 + K))), (6, .int (nI i))]) hx hb dX2_proofHolds_109 hl (by decide) rfl (fun ls hl => ?_)
                  refine lv_iinc (v := nI (i + 1)) (lv' := [(6, .int (nI (i + 1))), (5, .int (nI (p_nx (p_way (n - 1) y i) y))), (4, .int (nI ((i * 26) + 0))), (3, .ref (a 10)), (0, .ref (a 0)), (1, .int (nI y)), (2, .int (nI (1 + K)))]) hx hb dX2_proofHolds_111 hl (k := 6) rfl (inc_N i 1) (by decide) rfl (fun ls hl => ?_)
                  refine lv_goto (tgt := 38) hx hb dX2_proofHolds_114 (by decide) ?_
                  exact ih1 (i + 1) ((i * 26) + 0) mu_14 yu_14 wu_14 (by omega) (by omega) (fun j => by show _ = fp (26 * i + (if p_by (p_way (n - 1) y i) y then 8 else 0) + j); rw [if_neg (by rw [bI_z c91]; decide)]; first | done | (congr 1; omega)) (by omega) (lt_s hm (chk_T (k := i) (allN_iff.mp (bI_n c70)) hda hu_14 (by omega))) (by omega) _ _ _ hP hD hS (lv_sub hl [4, 5, 6, 3, 2, 1, 0] rfl)
                · refine lv_bipush (v := nI 8) hx hb dX2_proofHolds_94 (by decide) ?_
                  refine lv_goto (tgt := 100) hx hb dX2_proofHolds_96 (by decide) ?_
                  refine ad_N hx hb (i * 26) 8 dX2_proofHolds_100 ?_
                  refine lv_istore (lv' := [(4, .int (nI ((i * 26) + 8))), (3, .ref (a 10)), (0, .ref (a 0)), (1, .int (nI y)), (2, .int (nI (1 + K))), (5, .int (nI (p_way (n - 1) y i))), (6, .int (nI i))]) hx hb dX2_proofHolds_101 hl (by decide) rfl (fun ls hl => ?_)
                  refine lv_iload hx hb dX2_proofHolds_103 (lv_at hl 5 rfl) ?_
                  refine lv_iload_n hx hb dX2_proofHolds_105 rfl (lv_at hl 3 rfl) ?_
                  refine call_Si (wr := ([(a 0, .inr (2, [.ref (a 1), .ref (a 5), .ref (a 7), .ref (a 8), .ref (a 9), .ref (a 10), .int (nI n), .int (nI k), .int (nI z), .int (nI t), .int kn, .int (nI pl), .int (nI lf), .int (nI pn)])), (a 1, .inr (1, [.ref (a 2), .ref (a 3), .ref (a 4)])), (a 2, .inl (G.2.2.1, 8, .inl mu_14)), (a 3, .inl (G.2.2.1, 8, .inl yu_14)), (a 4, .inl (G.2.2.1, 64, .inl wu_14)), (a 5, .inr (0, [.ref (a 6)])), (a 6, .inl (G.2.2.1, 32, .inl fb)), (a 7, .inl (G.2.2.1, 2040, .inl fc)), (a 8, .inl (G.2.2.1, 8, .inl fd)), (a 9, .inl (G.2.2.1, 34, .inl fr)), (a 10, .inl (G.2.2.1, 1560, .inl fp))] : va_W)) [.int (nI (p_way (n - 1) y i)), .int (nI y)] [] ⟨hx, hb, hml, hown, hts⟩ hK hX hA hP hD hS (c_nextOnWay l G _ (p_way (n - 1) y i) y (by omega) (by omega)) (va_cwS 2 hts gX2_proofHolds_X2_nextOnWay rfl rfl rfl (by decide +kernel) ⟨Nat.le_of_ble_eq_true rfl, Nat.le_of_ble_eq_true rfl⟩) [] [0, 1, 2, 3, 4, 5, 6, 7, 8, 9, 10] rfl rfl (by decide) (by decide) (by decide) rfl hl.1 (Nat.le_of_ble_eq_true rfl) dX2_proofHolds_106 ⟨Nat.zero_le _, Nat.zero_le _⟩ (fun r_20 u H locs hw hP hD hS => ?_)
                  obtain rfl := hw
                  have hP : va_P G.1 vwCl (wC G a mu_14 yu_14 wu_14 fb fc fd fr fp n k z t kn pl lf pn) H := hP
                  have hD : va_D A (wC G a mu_14 yu_14 wu_14 fb fc fd fr fp n k z t kn pl lf pn) := hD
                  refine lv_istore (lv' := [(5, .int (nI (p_nx (p_way (n - 1) y i) y))), (4, .int (nI ((i * 26) + 8))), (3, .ref (a 10)), (0, .ref (a 0)), (1, .int (nI y)), (2, .int (nI (1 + K))), (6, .int (nI i))]) hx hb dX2_proofHolds_109 hl (by decide) rfl (fun ls hl => ?_)
                  refine lv_iinc (v := nI (i + 1)) (lv' := [(6, .int (nI (i + 1))), (5, .int (nI (p_nx (p_way (n - 1) y i) y))), (4, .int (nI ((i * 26) + 8))), (3, .ref (a 10)), (0, .ref (a 0)), (1, .int (nI y)), (2, .int (nI (1 + K)))]) hx hb dX2_proofHolds_111 hl (k := 6) rfl (inc_N i 1) (by decide) rfl (fun ls hl => ?_)
                  refine lv_goto (tgt := 38) hx hb dX2_proofHolds_114 (by decide) ?_
                  exact ih1 (i + 1) ((i * 26) + 8) mu_14 yu_14 wu_14 (by omega) (by omega) (fun j => by show _ = fp (26 * i + (if p_by (p_way (n - 1) y i) y then 8 else 0) + j); rw [if_pos (bI_n c91)]; first | done | (congr 1; omega)) (by omega) (lt_s hm (chk_T (k := i) (allN_iff.mp (bI_n c70)) hda hu_14 (by omega))) (by omega) _ _ _ hP hD hS (lv_sub hl [4, 5, 6, 3, 2, 1, 0] rfl)
              · refine lv_iconst (v := nI 0) hx hb dX2_proofHolds_73 (by decide) ?_
                exact ret 74 _ _ _ (nI 0) (mu_14, yu_14, wu_14) dX2_proofHolds_74 (by first | exact Or.inl rfl | exact Or.inr rfl) (⟨K, heK, by rw [decide_eq_true (by omega), Bool.true_and]; exact al_F (i := i) (by omega) (chk_F (bI_z c70) hda hu_14 (by omega))⟩) hP hD hS
        · refine lv_bipush (v := nI 8) hx hb dX2_proofHolds_94 (by decide) ?_
          refine lv_goto (tgt := 100) hx hb dX2_proofHolds_96 (by decide) ?_
          refine ad_N hx hb (0 * 26) 8 dX2_proofHolds_100 ?_
          refine lv_istore (lv' := [(4, .int (nI ((0 * 26) + 8))), (3, .ref (a 10)), (6, .int (nI 0)), (5, .int (nI (n - 1))), (2, .int (nI (1 + K))), (0, .ref (a 0)), (1, .int (nI y))]) hx hb dX2_proofHolds_101 hl (by decide) rfl (fun ls hl => ?_)
          refine lv_iload hx hb dX2_proofHolds_103 (lv_at hl 3 rfl) ?_
          refine lv_iload_n hx hb dX2_proofHolds_105 rfl (lv_at hl 6 rfl) ?_
          refine call_Si (wr := ([(a 0, .inr (2, [.ref (a 1), .ref (a 5), .ref (a 7), .ref (a 8), .ref (a 9), .ref (a 10), .int (nI n), .int (nI k), .int (nI z), .int (nI t), .int kn, .int (nI pl), .int (nI lf), .int (nI pn)])), (a 1, .inr (1, [.ref (a 2), .ref (a 3), .ref (a 4)])), (a 2, .inl (G.2.2.1, 8, .inl mu_6)), (a 3, .inl (G.2.2.1, 8, .inl yu_6)), (a 4, .inl (G.2.2.1, 64, .inl wu_6)), (a 5, .inr (0, [.ref (a 6)])), (a 6, .inl (G.2.2.1, 32, .inl fb)), (a 7, .inl (G.2.2.1, 2040, .inl fc)), (a 8, .inl (G.2.2.1, 8, .inl fd)), (a 9, .inl (G.2.2.1, 34, .inl fr)), (a 10, .inl (G.2.2.1, 1560, .inl fp))] : va_W)) [.int (nI (n - 1)), .int (nI y)] [] ⟨hx, hb, hml, hown, hts⟩ hK hX hA hP hD hS (c_nextOnWay l G _ (n - 1) y (by omega) (by omega)) (va_cwS 2 hts gX2_proofHolds_X2_nextOnWay rfl rfl rfl (by decide +kernel) ⟨Nat.le_of_ble_eq_true rfl, Nat.le_of_ble_eq_true rfl⟩) [] [0, 1, 2, 3, 4, 5, 6, 7, 8, 9, 10] rfl rfl (by decide) (by decide) (by decide) rfl hl.1 (Nat.le_of_ble_eq_true rfl) dX2_proofHolds_106 ⟨Nat.zero_le _, Nat.zero_le _⟩ (fun r_21 u H locs hw hP hD hS => ?_)
          obtain rfl := hw
          have hP : va_P G.1 vwCl (wC G a mu_6 yu_6 wu_6 fb fc fd fr fp n k z t kn pl lf pn) H := hP
          have hD : va_D A (wC G a mu_6 yu_6 wu_6 fb fc fd fr fp n k z t kn pl lf pn) := hD
          refine lv_istore (lv' := [(5, .int (nI (p_nx (n - 1) y))), (4, .int (nI ((0 * 26) + 8))), (3, .ref (a 10)), (6, .int (nI 0)), (2, .int (nI (1 + K))), (0, .ref (a 0)), (1, .int (nI y))]) hx hb dX2_proofHolds_109 hl (by decide) rfl (fun ls hl => ?_)
          refine lv_iinc (v := nI (0 + 1)) (lv' := [(6, .int (nI (0 + 1))), (5, .int (nI (p_nx (n - 1) y))), (4, .int (nI ((0 * 26) + 8))), (3, .ref (a 10)), (2, .int (nI (1 + K))), (0, .ref (a 0)), (1, .int (nI y))]) hx hb dX2_proofHolds_111 hl (k := 3) rfl (inc_N 0 1) (by decide) rfl (fun ls hl => ?_)
          refine lv_goto (tgt := 38) hx hb dX2_proofHolds_114 (by decide) ?_
          suffices hloop1 : ∀ (fu1 : Nat) (i : Nat) (da : Nat) (mm : Nat → Int32) (hh : Nat → Int32) (ww : Nat → Int32), (1 ≤ i) → (i ≤ 1 + K) → (∀ j, fp (da + j) = p_due fd fp (n - 1) y i j) → (da + 8 ≤ 1560) → (∀ k, k < i → p_chk fd fp (n - 1) y k = true) → 1 + K - i < fu1 → ∀ (H : Heap) (locs : List Loc) (ls : Array Slot), va_P G.1 vwCl (wC G a mm hh ww fb fc fd fr fp n k z t kn pl lf pn) H → va_D A (wC G a mm hh ww fb fc fd fr fp n k z t kn pl lf pn) → va_S A s.heap H locs → lv_has ls 7 [(0, .ref (a 0)), (1, .int (nI y)), (2, .int (nI (1 + K))), (3, .ref (a 10)), (4, .int (nI da)), (5, .int (nI (p_way (n - 1) y i))), (6, .int (nI i))] → W p l e ({ frames := 5, cells := 0, slots := 0, locals := 121 } : Room) s m args below meth c H locs 0 0 Q (F0 m 38 ls []) from hloop1 _ (0 + 1) ((0 * 26) + 8) mu_6 yu_6 wu_6 (Nat.le_refl _) (by omega) (fun j => by show _ = fp (26 * 0 + (if p_by (n - 1) y then 8 else 0) + j); rw [if_pos (bI_n c91)]; first | done | (congr 1; omega)) (by omega) (fun k hk => by rw [show k = 0 by omega]; exact chk_T (k := 0) (allN_iff.mp (bI_n c70)) (fun j => by rw [Nat.zero_add]; rfl) hu_6 rfl) (Nat.lt_succ_self _) _ _ _ hP hD hS (lv_sub hl [5, 6, 4, 3, 2, 1, 0] rfl)
          clear hP hD hS hl
          intro fu1
          induction fu1 with
          | zero => intro i da mm hh ww hi1 hi hda hda2 hm hfu; exact absurd hfu (Nat.not_lt_zero _)
          | succ fu1 ih1 =>
            intro i da mm hh ww hi1 hi hda hda2 hm hfu1 H locs ls hP hD hS hl
            refine lv_iload hx hb dX2_proofHolds_38 (lv_at hl 6 rfl) ?_
            refine lv_iload_n hx hb dX2_proofHolds_40 rfl (lv_at hl 2 rfl) ?_
            refine cmp_ge hx hb i (1 + K) 117 (by omega) (by omega) dX2_proofHolds_41 (by decide) (fun c41 => ?_) (fun c41 => ?_)
            · have e117 : i = 1 + K := by omega
              subst e117
              refine lv_iconst (v := nI 1) hx hb dX2_proofHolds_117 (by decide) ?_
              exact ret 118 _ _ _ (nI 1) (mm, hh, ww) dX2_proofHolds_118 (by first | exact Or.inl rfl | exact Or.inr rfl) (⟨K, heK, by rw [decide_eq_true (by omega), Bool.true_and, Nat.add_comm K 1]; exact al_T hm⟩) hP hD hS
            · have hwl := end_le (i := i) hn heK (by omega)
              refine lv_aload_n hx hb dX2_proofHolds_44 rfl (lv_at hl 0 rfl) ?_
              refine va_get (D := G.1) (ci := 2) (v := .ref (a 1)) (C := RX2) (T := TX2) (N := 14) hx hb hts hiX2 hown hK hP 0 rfl rfl 0 (by decide) lk10 (fun _ h9 => h9) rfl dX2_proofHolds_45 ?_
              refine lv_aload_n hx hb dX2_proofHolds_48 rfl (lv_at hl 0 rfl) ?_
              refine va_get (D := G.1) (ci := 2) (v := .ref (a 10)) (C := RX2) (T := TX2) (N := 14) hx hb hts hiX2 hown hK hP 0 rfl rfl 5 (by decide) lk33 (fun _ h9 => h9) rfl dX2_proofHolds_49 ?_
              refine lv_iload hx hb dX2_proofHolds_52 (lv_at hl 6 rfl) ?_
              refine lv_bipush (v := nI 26) hx hb dX2_proofHolds_54 (by decide) ?_
              refine mu_N hx hb i 26 dX2_proofHolds_56 ?_
              refine call_Vv (wr := ([(a 0, .inr (2, [.ref (a 1), .ref (a 5), .ref (a 7), .ref (a 8), .ref (a 9), .ref (a 10), .int (nI n), .int (nI k), .int (nI z), .int (nI t), .int kn, .int (nI pl), .int (nI lf), .int (nI pn)])), (a 5, .inr (0, [.ref (a 6)])), (a 6, .inl (G.2.2.1, 32, .inl fb)), (a 7, .inl (G.2.2.1, 2040, .inl fc)), (a 8, .inl (G.2.2.1, 8, .inl fd)), (a 9, .inl (G.2.2.1, 34, .inl fr))] : va_W)) [.ref (a 10), .int (nI (i * 26))] [] ⟨hx, hb, hml, hown, hts⟩ hK hX hA hP hD hS (c_takeAll l G _ (a 1) (a 2) (a 3) (a 4) (a 10) 1560 (i * 26) mm hh ww fp (by omega) (by omega)) (cwV 2 hts gX2_proofHolds_X1_takeAll rfl rfl rfl (by decide +kernel) ⟨Nat.le_of_ble_eq_true rfl, Nat.le_of_ble_eq_true rfl⟩) 1 1 rfl rfl rfl [1, 2, 3, 4, 10] [0, 5, 6, 7, 8, 9] rfl rfl (by decide) (by decide) (by decide) rfl hl.1 (Nat.le_of_ble_eq_true rfl) dX2_proofHolds_57 ⟨Nat.zero_le _, Nat.zero_le _⟩ (fun u H locs hw hP hD hS => ?_)
              obtain ⟨mu_24, yu_24, wu_24⟩ := u
              have hu_24 : ∀ j, j < 8 → yu_24 j = p_hash fp (i * 26) j := hw
              have hP : va_P G.1 vwCl (wC G a mu_24 yu_24 wu_24 fb fc fd fr fp n k z t kn pl lf pn) H := hP.sub [0, 6, 7, 8, 9, 1, 2, 3, 4, 5, 10] rfl
              have hD : va_D A (wC G a mu_24 yu_24 wu_24 fb fc fd fr fp n k z t kn pl lf pn) := hD.sub [0, 6, 7, 8, 9, 1, 2, 3, 4, 5, 10] (by decide) rfl
              refine lv_aload_n hx hb dX2_proofHolds_60 rfl (lv_at hl 0 rfl) ?_
              refine va_get (D := G.1) (ci := 2) (v := .ref (a 1)) (C := RX2) (T := TX2) (N := 14) hx hb hts hiX2 hown hK hP 0 rfl rfl 0 (by decide) lk10 (fun _ h9 => h9) rfl dX2_proofHolds_61 ?_
              refine lv_aload_n hx hb dX2_proofHolds_64 rfl (lv_at hl 3 rfl) ?_
              refine lv_iload hx hb dX2_proofHolds_65 (lv_at hl 4 rfl) ?_
              refine call_Vi (wr := ([(a 0, .inr (2, [.ref (a 1), .ref (a 5), .ref (a 7), .ref (a 8), .ref (a 9), .ref (a 10), .int (nI n), .int (nI k), .int (nI z), .int (nI t), .int kn, .int (nI pl), .int (nI lf), .int (nI pn)])), (a 2, .inl (G.2.2.1, 8, .inl mu_24)), (a 4, .inl (G.2.2.1, 64, .inl wu_24)), (a 5, .inr (0, [.ref (a 6)])), (a 6, .inl (G.2.2.1, 32, .inl fb)), (a 7, .inl (G.2.2.1, 2040, .inl fc)), (a 8, .inl (G.2.2.1, 8, .inl fd)), (a 9, .inl (G.2.2.1, 34, .inl fr))] : va_W)) [.ref (a 10), .int (nI da)] [] ⟨hx, hb, hml, hown, hts⟩ hK hX hA hP hD hS (c_isAt l G _ (a 1) (a 2) (a 3) (a 4) (a 10) 1560 da yu_24 fp (by omega) (by omega)) (cwV 2 hts gX2_proofHolds_X1_isAt rfl rfl rfl (by decide +kernel) ⟨Nat.le_of_ble_eq_true rfl, Nat.le_of_ble_eq_true rfl⟩) 1 1 rfl rfl rfl [1, 3, 10] [0, 2, 4, 5, 6, 7, 8, 9] rfl rfl (by decide) (by decide) (by decide) rfl hl.1 (Nat.le_of_ble_eq_true rfl) dX2_proofHolds_67 ⟨Nat.zero_le _, Nat.zero_le _⟩ (fun r_25 u H locs hw hP hD hS => ?_)
              obtain rfl := hw
              have hP : va_P G.1 vwCl (wC G a mu_24 yu_24 wu_24 fb fc fd fr fp n k z t kn pl lf pn) H := hP.sub [0, 8, 1, 9, 2, 3, 4, 5, 6, 7, 10] rfl
              have hD : va_D A (wC G a mu_24 yu_24 wu_24 fb fc fd fr fp n k z t kn pl lf pn) := hD.sub [0, 8, 1, 9, 2, 3, 4, 5, 6, 7, 10] (by decide) rfl
              refine lv_if_ne (tgt := 75) hx hb dX2_proofHolds_70 (by decide) (fun c70 => ?_) (fun c70 => ?_)
              · refine lv_aload_n hx hb dX2_proofHolds_75 rfl (lv_at hl 0 rfl) ?_
                refine va_get (D := G.1) (ci := 2) (v := .ref (a 10)) (C := RX2) (T := TX2) (N := 14) hx hb hts hiX2 hown hK hP 0 rfl rfl 5 (by decide) lk33 (fun _ h9 => h9) rfl dX2_proofHolds_76 ?_
                refine lv_astore_n (lv' := [(3, .ref (a 10)), (0, .ref (a 0)), (1, .int (nI y)), (2, .int (nI (1 + K))), (4, .int (nI da)), (5, .int (nI (p_way (n - 1) y i))), (6, .int (nI i))]) hx hb dX2_proofHolds_79 rfl hl (by decide) rfl (fun ls hl => ?_)
                refine lv_iload hx hb dX2_proofHolds_80 (lv_at hl 6 rfl) ?_
                refine lv_bipush (v := nI 26) hx hb dX2_proofHolds_82 (by decide) ?_
                refine mu_N hx hb i 26 dX2_proofHolds_84 ?_
                refine lv_iload hx hb dX2_proofHolds_85 (lv_at hl 5 rfl) ?_
                refine lv_iload_n hx hb dX2_proofHolds_87 rfl (lv_at hl 2 rfl) ?_
                refine call_Si (wr := ([(a 0, .inr (2, [.ref (a 1), .ref (a 5), .ref (a 7), .ref (a 8), .ref (a 9), .ref (a 10), .int (nI n), .int (nI k), .int (nI z), .int (nI t), .int kn, .int (nI pl), .int (nI lf), .int (nI pn)])), (a 1, .inr (1, [.ref (a 2), .ref (a 3), .ref (a 4)])), (a 2, .inl (G.2.2.1, 8, .inl mu_24)), (a 3, .inl (G.2.2.1, 8, .inl yu_24)), (a 4, .inl (G.2.2.1, 64, .inl wu_24)), (a 5, .inr (0, [.ref (a 6)])), (a 6, .inl (G.2.2.1, 32, .inl fb)), (a 7, .inl (G.2.2.1, 2040, .inl fc)), (a 8, .inl (G.2.2.1, 8, .inl fd)), (a 9, .inl (G.2.2.1, 34, .inl fr)), (a 10, .inl (G.2.2.1, 1560, .inl fp))] : va_W)) [.int (nI (p_way (n - 1) y i)), .int (nI y)] [.int (nI (i * 26))] ⟨hx, hb, hml, hown, hts⟩ hK hX hA hP hD hS (c_goesBySkip l G _ (p_way (n - 1) y i) y (by omega) (by omega)) (va_cwS 2 hts gX2_proofHolds_X2_goesBySkip rfl rfl rfl (by decide +kernel) ⟨Nat.le_of_ble_eq_true rfl, Nat.le_of_ble_eq_true rfl⟩) [] [0, 1, 2, 3, 4, 5, 6, 7, 8, 9, 10] rfl rfl (by decide) (by decide) (by decide) rfl hl.1 (Nat.le_of_ble_eq_true rfl) dX2_proofHolds_88 ⟨Nat.zero_le _, Nat.zero_le _⟩ (fun r_27 u H locs hw hP hD hS => ?_)
                obtain rfl := hw
                have hP : va_P G.1 vwCl (wC G a mu_24 yu_24 wu_24 fb fc fd fr fp n k z t kn pl lf pn) H := hP
                have hD : va_D A (wC G a mu_24 yu_24 wu_24 fb fc fd fr fp n k z t kn pl lf pn) := hD
                refine lv_if_eq (tgt := 99) hx hb dX2_proofHolds_91 (by decide) (fun c91 => ?_) (fun c91 => ?_)
                · refine lv_iconst (v := nI 0) hx hb dX2_proofHolds_99 (by decide) ?_
                  refine ad_N hx hb (i * 26) 0 dX2_proofHolds_100 ?_
                  refine lv_istore (lv' := [(4, .int (nI ((i * 26) + 0))), (3, .ref (a 10)), (0, .ref (a 0)), (1, .int (nI y)), (2, .int (nI (1 + K))), (5, .int (nI (p_way (n - 1) y i))), (6, .int (nI i))]) hx hb dX2_proofHolds_101 hl (by decide) rfl (fun ls hl => ?_)
                  refine lv_iload hx hb dX2_proofHolds_103 (lv_at hl 5 rfl) ?_
                  refine lv_iload_n hx hb dX2_proofHolds_105 rfl (lv_at hl 3 rfl) ?_
                  refine call_Si (wr := ([(a 0, .inr (2, [.ref (a 1), .ref (a 5), .ref (a 7), .ref (a 8), .ref (a 9), .ref (a 10), .int (nI n), .int (nI k), .int (nI z), .int (nI t), .int kn, .int (nI pl), .int (nI lf), .int (nI pn)])), (a 1, .inr (1, [.ref (a 2), .ref (a 3), .ref (a 4)])), (a 2, .inl (G.2.2.1, 8, .inl mu_24)), (a 3, .inl (G.2.2.1, 8, .inl yu_24)), (a 4, .inl (G.2.2.1, 64, .inl wu_24)), (a 5, .inr (0, [.ref (a 6)])), (a 6, .inl (G.2.2.1, 32, .inl fb)), (a 7, .inl (G.2.2.1, 2040, .inl fc)), (a 8, .inl (G.2.2.1, 8, .inl fd)), (a 9, .inl (G.2.2.1, 34, .inl fr)), (a 10, .inl (G.2.2.1, 1560, .inl fp))] : va_W)) [.int (nI (p_way (n - 1) y i)), .int (nI y)] [] ⟨hx, hb, hml, hown, hts⟩ hK hX hA hP hD hS (c_nextOnWay l G _ (p_way (n - 1) y i) y (by omega) (by omega)) (va_cwS 2 hts gX2_proofHolds_X2_nextOnWay rfl rfl rfl (by decide +kernel) ⟨Nat.le_of_ble_eq_true rfl, Nat.le_of_ble_eq_true rfl⟩) [] [0, 1, 2, 3, 4, 5, 6, 7, 8, 9, 10] rfl rfl (by decide) (by decide) (by decide) rfl hl.1 (Nat.le_of_ble_eq_true rfl) dX2_proofHolds_106 ⟨Nat.zero_le _, Nat.zero_le _⟩ (fun r_29 u H locs hw hP hD hS => ?_)
                  obtain rfl := hw
                  have hP : va_P G.1 vwCl (wC G a mu_24 yu_24 wu_24 fb fc fd fr fp n k z t kn pl lf pn) H := hP
                  have hD : va_D A (wC G a mu_24 yu_24 wu_24 fb fc fd fr fp n k z t kn pl lf pn) := hD
                  refine lv_istore (lv' := [(5, .int (nI (p_nx (p_way (n - 1) y i) y))), (4, .int (nI ((i * 26) + 0))), (3, .ref (a 10)), (0, .ref (a 0)), (1, .int (nI y)), (2, .int (nI (1 + K))), (6, .int (nI i))]) hx hb dX2_proofHolds_109 hl (by decide) rfl (fun ls hl => ?_)
                  refine lv_iinc (v := nI (i + 1)) (lv' := [(6, .int (nI (i + 1))), (5, .int (nI (p_nx (p_way (n - 1) y i) y))), (4, .int (nI ((i * 26) + 0))), (3, .ref (a 10)), (0, .ref (a 0)), (1, .int (nI y)), (2, .int (nI (1 + K)))]) hx hb dX2_proofHolds_111 hl (k := 6) rfl (inc_N i 1) (by decide) rfl (fun ls hl => ?_)
                  refine lv_goto (tgt := 38) hx hb dX2_proofHolds_114 (by decide) ?_
                  exact ih1 (i + 1) ((i * 26) + 0) mu_24 yu_24 wu_24 (by omega) (by omega) (fun j => by show _ = fp (26 * i + (if p_by (p_way (n - 1) y i) y then 8 else 0) + j); rw [if_neg (by rw [bI_z c91]; decide)]; first | done | (congr 1; omega)) (by omega) (lt_s hm (chk_T (k := i) (allN_iff.mp (bI_n c70)) hda hu_24 (by omega))) (by omega) _ _ _ hP hD hS (lv_sub hl [4, 5, 6, 3, 2, 1, 0] rfl)
                · refine lv_bipush (v := nI 8) hx hb dX2_proofHolds_94 (by decide) ?_
                  refine lv_goto (tgt := 100) hx hb dX2_proofHolds_96 (by decide) ?_
                  refine ad_N hx hb (i * 26) 8 dX2_proofHolds_100 ?_
                  refine lv_istore (lv' := [(4, .int (nI ((i * 26) + 8))), (3, .ref (a 10)), (0, .ref (a 0)), (1, .int (nI y)), (2, .int (nI (1 + K))), (5, .int (nI (p_way (n - 1) y i))), (6, .int (nI i))]) hx hb dX2_proofHolds_101 hl (by decide) rfl (fun ls hl => ?_)
                  refine lv_iload hx hb dX2_proofHolds_103 (lv_at hl 5 rfl) ?_
                  refine lv_iload_n hx hb dX2_proofHolds_105 rfl (lv_at hl 3 rfl) ?_
                  refine call_Si (wr := ([(a 0, .inr (2, [.ref (a 1), .ref (a 5), .ref (a 7), .ref (a 8), .ref (a 9), .ref (a 10), .int (nI n), .int (nI k), .int (nI z), .int (nI t), .int kn, .int (nI pl), .int (nI lf), .int (nI pn)])), (a 1, .inr (1, [.ref (a 2), .ref (a 3), .ref (a 4)])), (a 2, .inl (G.2.2.1, 8, .inl mu_24)), (a 3, .inl (G.2.2.1, 8, .inl yu_24)), (a 4, .inl (G.2.2.1, 64, .inl wu_24)), (a 5, .inr (0, [.ref (a 6)])), (a 6, .inl (G.2.2.1, 32, .inl fb)), (a 7, .inl (G.2.2.1, 2040, .inl fc)), (a 8, .inl (G.2.2.1, 8, .inl fd)), (a 9, .inl (G.2.2.1, 34, .inl fr)), (a 10, .inl (G.2.2.1, 1560, .inl fp))] : va_W)) [.int (nI (p_way (n - 1) y i)), .int (nI y)] [] ⟨hx, hb, hml, hown, hts⟩ hK hX hA hP hD hS (c_nextOnWay l G _ (p_way (n - 1) y i) y (by omega) (by omega)) (va_cwS 2 hts gX2_proofHolds_X2_nextOnWay rfl rfl rfl (by decide +kernel) ⟨Nat.le_of_ble_eq_true rfl, Nat.le_of_ble_eq_true rfl⟩) [] [0, 1, 2, 3, 4, 5, 6, 7, 8, 9, 10] rfl rfl (by decide) (by decide) (by decide) rfl hl.1 (Nat.le_of_ble_eq_true rfl) dX2_proofHolds_106 ⟨Nat.zero_le _, Nat.zero_le _⟩ (fun r_30 u H locs hw hP hD hS => ?_)
                  obtain rfl := hw
                  have hP : va_P G.1 vwCl (wC G a mu_24 yu_24 wu_24 fb fc fd fr fp n k z t kn pl lf pn) H := hP
                  have hD : va_D A (wC G a mu_24 yu_24 wu_24 fb fc fd fr fp n k z t kn pl lf pn) := hD
                  refine lv_istore (lv' := [(5, .int (nI (p_nx (p_way (n - 1) y i) y))), (4, .int (nI ((i * 26) + 8))), (3, .ref (a 10)), (0, .ref (a 0)), (1, .int (nI y)), (2, .int (nI (1 + K))), (6, .int (nI i))]) hx hb dX2_proofHolds_109 hl (by decide) rfl (fun ls hl => ?_)
                  refine lv_iinc (v := nI (i + 1)) (lv' := [(6, .int (nI (i + 1))), (5, .int (nI (p_nx (p_way (n - 1) y i) y))), (4, .int (nI ((i * 26) + 8))), (3, .ref (a 10)), (0, .ref (a 0)), (1, .int (nI y)), (2, .int (nI (1 + K)))]) hx hb dX2_proofHolds_111 hl (k := 6) rfl (inc_N i 1) (by decide) rfl (fun ls hl => ?_)
                  refine lv_goto (tgt := 38) hx hb dX2_proofHolds_114 (by decide) ?_
                  exact ih1 (i + 1) ((i * 26) + 8) mu_24 yu_24 wu_24 (by omega) (by omega) (fun j => by show _ = fp (26 * i + (if p_by (p_way (n - 1) y i) y then 8 else 0) + j); rw [if_pos (bI_n c91)]; first | done | (congr 1; omega)) (by omega) (lt_s hm (chk_T (k := i) (allN_iff.mp (bI_n c70)) hda hu_24 (by omega))) (by omega) _ _ _ hP hD hS (lv_sub hl [4, 5, 6, 3, 2, 1, 0] rfl)
              · refine lv_iconst (v := nI 0) hx hb dX2_proofHolds_73 (by decide) ?_
                exact ret 74 _ _ _ (nI 0) (mu_24, yu_24, wu_24) dX2_proofHolds_74 (by first | exact Or.inl rfl | exact Or.inr rfl) (⟨K, heK, by rw [decide_eq_true (by omega), Bool.true_and]; exact al_F (i := i) (by omega) (chk_F (bI_z c70) hda hu_24 (by omega))⟩) hP hD hS
      · refine lv_iconst (v := nI 0) hx hb dX2_proofHolds_73 (by decide) ?_
        exact ret 74 _ _ _ (nI 0) (mu_6, yu_6, wu_6) dX2_proofHolds_74 (by first | exact Or.inl rfl | exact Or.inr rfl) (⟨K, heK, by rw [decide_eq_true (by omega), Bool.true_and]; exact al_F (i := 0) (by omega) (chk_F (bI_z c70) (fun j => by rw [Nat.zero_add]; rfl) hu_6 rfl)⟩) hP hD hS
  · refine lv_iconst (v := nI 0) hx hb dX2_proofHolds_17 (by decide) ?_
    exact ret 18 _ _ _ (nI 0) (fm, fh, fw) dX2_proofHolds_18 (by first | exact Or.inl rfl | exact Or.inr rfl) (⟨K, heK, by rw [decide_eq_false (by omega)]; rfl⟩) hP hD hS
set_option maxHeartbeats 4000000 in
set_option maxRecDepth 100000 in
theorem c_check (l : Launch) (G : gG) (sz : Nat) (a : Nat → Nat) (fm fh fw fb fc fd fr fp : Nat → Int32) (n k z t : Nat) (kn : Int32) (pl lf pn : Nat) (x : Int32) (hn : n ≤ 60) (hk : k ≤ 8) (hz : z ≤ 20) (ht : t ≤ 100000) (hpl : pl ≤ 60) (hlf : lf ≤ 6) (hpn : pn ≤ 1560)  : MetI l yX2_check wsX2_check ({ frames := 6, cells := 0, slots := 0, locals := 147 } : Room) [.ref (a 0), .int x] G (wC G a fm fh fw fb fc fd fr fp n k z t kn pl lf pn) sz (fun u : (Nat → Int32) × (Nat → Int32) × (Nat → Int32) => wC G a u.1 u.2.1 u.2.2 fb fc fd fr fp n k z t kn pl lf pn) (fun r u => (fun r _ _ _ => q_check fd fp n pn x r) r u.1 u.2.1 u.2.2) := by
  refine ent_i _ cX2_check 2 RX2 (by decide) rfl rfl (Nat.le_of_ble_eq_true rfl) ?_
  intro p e s m args below meth c A Q ls hx hb hml hts hown hA hK hX ret hl hP hD hS
  have hl : lv_has ls 2 [(0, .ref (a 0)), (1, .int x)] := hl
  refine lv_aload_n hx hb dX2_check_0 rfl (lv_at hl 0 rfl) ?_
  refine lv_iload_n hx hb dX2_check_1 rfl (lv_at hl 1 rfl) ?_
  refine call_Vi (wr := ([] : va_W)) [.int x] [] ⟨hx, hb, hml, hown, hts⟩ hK hX hA hP hD hS (c_hasEntry l G _ a fm fh fw fb fc fd fr fp n k z t kn pl lf pn x (by omega) (by omega) (by omega) (by omega) (by omega) (by omega) (by omega)) (cwV 1 hts gX2_check_X2_hasEntry rfl rfl rfl (by decide +kernel) ⟨Nat.le_of_ble_eq_true rfl, Nat.le_of_ble_eq_true rfl⟩) 2 0 rfl rfl rfl [0, 1, 2, 3, 4, 5, 6, 7, 8, 9, 10] [] rfl rfl (by decide) (by decide) (by decide) rfl hl.1 (Nat.le_of_ble_eq_true rfl) dX2_check_2 ⟨Nat.zero_le _, Nat.zero_le _⟩ (fun r_1 u H locs hw hP hD hS => ?_)
  obtain rfl := hw
  have hP : va_P G.1 vwCl (wC G a fm fh fw fb fc fd fr fp n k z t kn pl lf pn) H := hP
  have hD : va_D A (wC G a fm fh fw fb fc fd fr fp n k z t kn pl lf pn) := hD
  refine lv_if_ne (tgt := 11) hx hb dX2_check_5 (by decide) (fun c5 => ?_) (fun c5 => ?_)
  · obtain ⟨y, hy, rfl⟩ := ok_of (by omega) (bI_n c5)
    refine lv_aload_n hx hb dX2_check_11 rfl (lv_at hl 0 rfl) ?_
    refine lv_iload_n hx hb dX2_check_12 rfl (lv_at hl 1 rfl) ?_
    refine call_Vi (wr := ([] : va_W)) [.int (nI y)] [] ⟨hx, hb, hml, hown, hts⟩ hK hX hA hP hD hS (c_proofHolds l G _ a fm fh fw fb fc fd fr fp n k z t kn pl lf pn y (by omega) (by omega) (by omega) (by omega) (by omega) (by omega) (by omega) (by omega)) (cwV 1 hts gX2_check_X2_proofHolds rfl rfl rfl (by decide +kernel) ⟨Nat.le_of_ble_eq_true rfl, Nat.le_of_ble_eq_true rfl⟩) 2 0 rfl rfl rfl [0, 1, 2, 3, 4, 5, 6, 7, 8, 9, 10] [] rfl rfl (by decide) (by decide) (by decide) rfl hl.1 (Nat.le_of_ble_eq_true rfl) dX2_check_13 ⟨Nat.zero_le _, Nat.zero_le _⟩ (fun r_3 u H locs hw hP hD hS => ?_)
    obtain ⟨mu_4, yu_4, wu_4⟩ := u
    obtain ⟨K, heK, rfl⟩ := hw
    have hP : va_P G.1 vwCl (wC G a mu_4 yu_4 wu_4 fb fc fd fr fp n k z t kn pl lf pn) H := hP
    have hD : va_D A (wC G a mu_4 yu_4 wu_4 fb fc fd fr fp n k z t kn pl lf pn) := hD
    refine lv_if_eq (tgt := 23) hx hb dX2_check_16 (by decide) (fun c16 => ?_) (fun c16 => ?_)
    · refine lv_iconst (v := nI 0) hx hb dX2_check_23 (by decide) ?_
      exact ret 24 _ _ _ (nI 0) (mu_4, yu_4, wu_4) dX2_check_24 (Or.inr ⟨y, K, hy, rfl, heK, by rw [bI_z c16]; rfl⟩) hP hD hS
    · refine lv_iconst (v := nI 1) hx hb dX2_check_19 (by decide) ?_
      refine lv_goto (tgt := 24) hx hb dX2_check_20 (by decide) ?_
      exact ret 24 _ _ _ (nI 1) (mu_4, yu_4, wu_4) dX2_check_24 (Or.inr ⟨y, K, hy, rfl, heK, by rw [bI_n c16]; rfl⟩) hP hD hS
  · refine lv_bipush (v := (-2)) hx hb dX2_check_8 (by decide) ?_
    exact ret 10 _ _ _ (-2) (fm, fh, fw) dX2_check_10 (Or.inl ⟨bI_z c5, rfl⟩) hP hD hS
end
section
set_option maxRecDepth 20000 in
theorem ggX3_init_X3_firstHalf : GoodIn wsX3_init wsX3_firstHalf := goodIn_r _ [31, 12, 32, 33, 34, 35, 36, 37, 38, 39, 40, 41, 42, 43, 44, 45, 46, 47, 48, 49, 50, 51, 52, 53, 54, 55, 56, 57, 58, 59, 60, 61, 62, 63, 100, 101, 102, 103, 104, 105, 106, 107, 108, 109, 110, 111, 112, 113, 114, 115, 116, 117, 118] (by decide +kernel) (by decide +kernel)
set_option maxRecDepth 20000 in
theorem gX3_init_X3_firstHalf : GoodIn wsX3_init (wsV RX3 59 RX3 yX3_firstHalf wsX3_firstHalf) := goodIn_app (goodIn_of _ (by decide +kernel)) ggX3_init_X3_firstHalf
set_option maxRecDepth 20000 in
theorem ggX3_init_X3_secondHalf : GoodIn wsX3_init wsX3_secondHalf := goodIn_r _ [67, 12, 68, 69, 70, 71, 72, 73, 74, 75, 76, 77, 78, 79, 80, 81, 82, 83, 84, 85, 86, 87, 88, 89, 90, 91, 92, 93, 94, 95, 96, 97, 98, 99, 100, 101, 102, 103, 104, 105, 106, 107, 108, 109, 110, 111, 112, 113, 114, 115, 116, 117, 118] (by decide +kernel) (by decide +kernel)
set_option maxRecDepth 20000 in
theorem gX3_init_X3_secondHalf : GoodIn wsX3_init (wsV RX3 62 RX3 yX3_secondHalf wsX3_secondHalf) := goodIn_app (goodIn_of _ (by decide +kernel)) ggX3_init_X3_secondHalf
theorem dX3_init_0 : decode cX3_init 0 = .ok (.aload_n 0, 1) := by decide +kernel
theorem dX3_init_1 : decode cX3_init 1 = .ok (.invokespecial 1, 3) := by decide +kernel
theorem dX3_init_4 : decode cX3_init 4 = .ok (.aload_n 0, 1) := by decide +kernel
theorem dX3_init_5 : decode cX3_init 5 = .ok (.sipush 2040, 3) := by decide +kernel
theorem dX3_init_8 : decode cX3_init 8 = .ok (.newarray .int, 2) := by decide +kernel
theorem dX3_init_10 : decode cX3_init 10 = .ok (.putfield 7, 3) := by decide +kernel
theorem dX3_init_13 : decode cX3_init 13 = .ok (.aload_n 0, 1) := by decide +kernel
theorem dX3_init_14 : decode cX3_init 14 = .ok (.bipush 8, 2) := by decide +kernel
theorem dX3_init_16 : decode cX3_init 16 = .ok (.newarray .int, 2) := by decide +kernel
theorem dX3_init_18 : decode cX3_init 18 = .ok (.putfield 13, 3) := by decide +kernel
theorem dX3_init_21 : decode cX3_init 21 = .ok (.aload_n 0, 1) := by decide +kernel
theorem dX3_init_22 : decode cX3_init 22 = .ok (.bipush 8, 2) := by decide +kernel
theorem dX3_init_24 : decode cX3_init 24 = .ok (.newarray .int, 2) := by decide +kernel
theorem dX3_init_26 : decode cX3_init 26 = .ok (.putfield 16, 3) := by decide +kernel
theorem dX3_init_29 : decode cX3_init 29 = .ok (.aload_n 0, 1) := by decide +kernel
theorem dX3_init_30 : decode cX3_init 30 = .ok (.iconst (-1), 1) := by decide +kernel
theorem dX3_init_31 : decode cX3_init 31 = .ok (.putfield 19, 3) := by decide +kernel
theorem dX3_init_34 : decode cX3_init 34 = .ok (.aload_n 0, 1) := by decide +kernel
theorem dX3_init_35 : decode cX3_init 35 = .ok (.sipush 1024, 3) := by decide +kernel
theorem dX3_init_38 : decode cX3_init 38 = .ok (.newarray .boolean, 2) := by decide +kernel
theorem dX3_init_40 : decode cX3_init 40 = .ok (.putfield 23, 3) := by decide +kernel
theorem dX3_init_43 : decode cX3_init 43 = .ok (.aload_n 0, 1) := by decide +kernel
theorem dX3_init_44 : decode cX3_init 44 = .ok (.sipush 1600, 3) := by decide +kernel
theorem dX3_init_47 : decode cX3_init 47 = .ok (.newarray .int, 2) := by decide +kernel
theorem dX3_init_49 : decode cX3_init 49 = .ok (.putfield 27, 3) := by decide +kernel
theorem dX3_init_52 : decode cX3_init 52 = .ok (.aload_n 0, 1) := by decide +kernel
theorem dX3_init_53 : decode cX3_init 53 = .ok (.bipush 64, 2) := by decide +kernel
theorem dX3_init_55 : decode cX3_init 55 = .ok (.newarray .int, 2) := by decide +kernel
theorem dX3_init_57 : decode cX3_init 57 = .ok (.putfield 30, 3) := by decide +kernel
theorem dX3_init_60 : decode cX3_init 60 = .ok (.aload_n 0, 1) := by decide +kernel
theorem dX3_init_61 : decode cX3_init 61 = .ok (.bipush 8, 2) := by decide +kernel
theorem dX3_init_63 : decode cX3_init 63 = .ok (.newarray .int, 2) := by decide +kernel
theorem dX3_init_65 : decode cX3_init 65 = .ok (.putfield 33, 3) := by decide +kernel
theorem dX3_init_68 : decode cX3_init 68 = .ok (.aload_n 0, 1) := by decide +kernel
theorem dX3_init_69 : decode cX3_init 69 = .ok (.bipush 8, 2) := by decide +kernel
theorem dX3_init_71 : decode cX3_init 71 = .ok (.newarray .int, 2) := by decide +kernel
theorem dX3_init_73 : decode cX3_init 73 = .ok (.putfield 36, 3) := by decide +kernel
theorem dX3_init_76 : decode cX3_init 76 = .ok (.aload_n 0, 1) := by decide +kernel
theorem dX3_init_77 : decode cX3_init 77 = .ok (.bipush 8, 2) := by decide +kernel
theorem dX3_init_79 : decode cX3_init 79 = .ok (.newarray .int, 2) := by decide +kernel
theorem dX3_init_81 : decode cX3_init 81 = .ok (.putfield 39, 3) := by decide +kernel
theorem dX3_init_84 : decode cX3_init 84 = .ok (.aload_n 0, 1) := by decide +kernel
theorem dX3_init_85 : decode cX3_init 85 = .ok (.bipush 64, 2) := by decide +kernel
theorem dX3_init_87 : decode cX3_init 87 = .ok (.newarray .int, 2) := by decide +kernel
theorem dX3_init_89 : decode cX3_init 89 = .ok (.putfield 42, 3) := by decide +kernel
theorem dX3_init_92 : decode cX3_init 92 = .ok (.aload_n 0, 1) := by decide +kernel
theorem dX3_init_93 : decode cX3_init 93 = .ok (.bipush 26, 2) := by decide +kernel
theorem dX3_init_95 : decode cX3_init 95 = .ok (.newarray .int, 2) := by decide +kernel
theorem dX3_init_97 : decode cX3_init 97 = .ok (.putfield 45, 3) := by decide +kernel
theorem dX3_init_100 : decode cX3_init 100 = .ok (.aload_n 0, 1) := by decide +kernel
theorem dX3_init_101 : decode cX3_init 101 = .ok (.iload_n 1, 1) := by decide +kernel
theorem dX3_init_102 : decode cX3_init 102 = .ok (.ifCond .ge 7, 3) := by decide +kernel
theorem dX3_init_105 : decode cX3_init 105 = .ok (.iconst 0, 1) := by decide +kernel
theorem dX3_init_106 : decode cX3_init 106 = .ok (.goto 15, 3) := by decide +kernel
theorem dX3_init_109 : decode cX3_init 109 = .ok (.iload_n 1, 1) := by decide +kernel
theorem dX3_init_110 : decode cX3_init 110 = .ok (.bipush 20, 2) := by decide +kernel
theorem dX3_init_112 : decode cX3_init 112 = .ok (.if_icmp .le 8, 3) := by decide +kernel
theorem dX3_init_115 : decode cX3_init 115 = .ok (.bipush 20, 2) := by decide +kernel
theorem dX3_init_117 : decode cX3_init 117 = .ok (.goto 4, 3) := by decide +kernel
theorem dX3_init_120 : decode cX3_init 120 = .ok (.iload_n 1, 1) := by decide +kernel
theorem dX3_init_121 : decode cX3_init 121 = .ok (.putfield 48, 3) := by decide +kernel
theorem dX3_init_124 : decode cX3_init 124 = .ok (.aload_n 0, 1) := by decide +kernel
theorem dX3_init_125 : decode cX3_init 125 = .ok (.getfield 33, 3) := by decide +kernel
theorem dX3_init_128 : decode cX3_init 128 = .ok (.iconst 0, 1) := by decide +kernel
theorem dX3_init_129 : decode cX3_init 129 = .ok (.ldc 51, 2) := by decide +kernel
theorem dX3_init_131 : decode cX3_init 131 = .ok (.iastore, 1) := by decide +kernel
theorem dX3_init_132 : decode cX3_init 132 = .ok (.aload_n 0, 1) := by decide +kernel
theorem dX3_init_133 : decode cX3_init 133 = .ok (.getfield 33, 3) := by decide +kernel
theorem dX3_init_136 : decode cX3_init 136 = .ok (.iconst 1, 1) := by decide +kernel
theorem dX3_init_137 : decode cX3_init 137 = .ok (.ldc 52, 2) := by decide +kernel
theorem dX3_init_139 : decode cX3_init 139 = .ok (.iastore, 1) := by decide +kernel
theorem dX3_init_140 : decode cX3_init 140 = .ok (.aload_n 0, 1) := by decide +kernel
theorem dX3_init_141 : decode cX3_init 141 = .ok (.getfield 33, 3) := by decide +kernel
theorem dX3_init_144 : decode cX3_init 144 = .ok (.iconst 2, 1) := by decide +kernel
theorem dX3_init_145 : decode cX3_init 145 = .ok (.ldc 53, 2) := by decide +kernel
theorem dX3_init_147 : decode cX3_init 147 = .ok (.iastore, 1) := by decide +kernel
theorem dX3_init_148 : decode cX3_init 148 = .ok (.aload_n 0, 1) := by decide +kernel
theorem dX3_init_149 : decode cX3_init 149 = .ok (.getfield 33, 3) := by decide +kernel
theorem dX3_init_152 : decode cX3_init 152 = .ok (.iconst 3, 1) := by decide +kernel
theorem dX3_init_153 : decode cX3_init 153 = .ok (.ldc 54, 2) := by decide +kernel
theorem dX3_init_155 : decode cX3_init 155 = .ok (.iastore, 1) := by decide +kernel
theorem dX3_init_156 : decode cX3_init 156 = .ok (.aload_n 0, 1) := by decide +kernel
theorem dX3_init_157 : decode cX3_init 157 = .ok (.getfield 33, 3) := by decide +kernel
theorem dX3_init_160 : decode cX3_init 160 = .ok (.iconst 4, 1) := by decide +kernel
theorem dX3_init_161 : decode cX3_init 161 = .ok (.ldc 55, 2) := by decide +kernel
theorem dX3_init_163 : decode cX3_init 163 = .ok (.iastore, 1) := by decide +kernel
theorem dX3_init_164 : decode cX3_init 164 = .ok (.aload_n 0, 1) := by decide +kernel
theorem dX3_init_165 : decode cX3_init 165 = .ok (.getfield 33, 3) := by decide +kernel
theorem dX3_init_168 : decode cX3_init 168 = .ok (.iconst 5, 1) := by decide +kernel
theorem dX3_init_169 : decode cX3_init 169 = .ok (.ldc 56, 2) := by decide +kernel
theorem dX3_init_171 : decode cX3_init 171 = .ok (.iastore, 1) := by decide +kernel
theorem dX3_init_172 : decode cX3_init 172 = .ok (.aload_n 0, 1) := by decide +kernel
theorem dX3_init_173 : decode cX3_init 173 = .ok (.getfield 33, 3) := by decide +kernel
theorem dX3_init_176 : decode cX3_init 176 = .ok (.bipush 6, 2) := by decide +kernel
theorem dX3_init_178 : decode cX3_init 178 = .ok (.ldc 57, 2) := by decide +kernel
theorem dX3_init_180 : decode cX3_init 180 = .ok (.iastore, 1) := by decide +kernel
theorem dX3_init_181 : decode cX3_init 181 = .ok (.aload_n 0, 1) := by decide +kernel
theorem dX3_init_182 : decode cX3_init 182 = .ok (.getfield 33, 3) := by decide +kernel
theorem dX3_init_185 : decode cX3_init 185 = .ok (.bipush 7, 2) := by decide +kernel
theorem dX3_init_187 : decode cX3_init 187 = .ok (.ldc 58, 2) := by decide +kernel
theorem dX3_init_189 : decode cX3_init 189 = .ok (.iastore, 1) := by decide +kernel
theorem dX3_init_190 : decode cX3_init 190 = .ok (.aload_n 0, 1) := by decide +kernel
theorem dX3_init_191 : decode cX3_init 191 = .ok (.invokevirtual 59, 3) := by decide +kernel
theorem dX3_init_194 : decode cX3_init 194 = .ok (.aload_n 0, 1) := by decide +kernel
theorem dX3_init_195 : decode cX3_init 195 = .ok (.invokevirtual 62, 3) := by decide +kernel
theorem dX3_init_198 : decode cX3_init 198 = .ok (.return_, 1) := by decide +kernel
theorem dX3_firstHalf_0 : decode cX3_firstHalf 0 = .ok (.aload_n 0, 1) := by decide +kernel
theorem dX3_firstHalf_1 : decode cX3_firstHalf 1 = .ok (.getfield 30, 3) := by decide +kernel
theorem dX3_firstHalf_4 : decode cX3_firstHalf 4 = .ok (.iconst 0, 1) := by decide +kernel
theorem dX3_firstHalf_5 : decode cX3_firstHalf 5 = .ok (.ldc 65, 2) := by decide +kernel
theorem dX3_firstHalf_7 : decode cX3_firstHalf 7 = .ok (.iastore, 1) := by decide +kernel
theorem dX3_firstHalf_8 : decode cX3_firstHalf 8 = .ok (.aload_n 0, 1) := by decide +kernel
theorem dX3_firstHalf_9 : decode cX3_firstHalf 9 = .ok (.getfield 30, 3) := by decide +kernel
theorem dX3_firstHalf_12 : decode cX3_firstHalf 12 = .ok (.iconst 1, 1) := by decide +kernel
theorem dX3_firstHalf_13 : decode cX3_firstHalf 13 = .ok (.ldc 66, 2) := by decide +kernel
theorem dX3_firstHalf_15 : decode cX3_firstHalf 15 = .ok (.iastore, 1) := by decide +kernel
theorem dX3_firstHalf_16 : decode cX3_firstHalf 16 = .ok (.aload_n 0, 1) := by decide +kernel
theorem dX3_firstHalf_17 : decode cX3_firstHalf 17 = .ok (.getfield 30, 3) := by decide +kernel
theorem dX3_firstHalf_20 : decode cX3_firstHalf 20 = .ok (.iconst 2, 1) := by decide +kernel
theorem dX3_firstHalf_21 : decode cX3_firstHalf 21 = .ok (.ldc 67, 2) := by decide +kernel
theorem dX3_firstHalf_23 : decode cX3_firstHalf 23 = .ok (.iastore, 1) := by decide +kernel
theorem dX3_firstHalf_24 : decode cX3_firstHalf 24 = .ok (.aload_n 0, 1) := by decide +kernel
theorem dX3_firstHalf_25 : decode cX3_firstHalf 25 = .ok (.getfield 30, 3) := by decide +kernel
theorem dX3_firstHalf_28 : decode cX3_firstHalf 28 = .ok (.iconst 3, 1) := by decide +kernel
theorem dX3_firstHalf_29 : decode cX3_firstHalf 29 = .ok (.ldc 68, 2) := by decide +kernel
theorem dX3_firstHalf_31 : decode cX3_firstHalf 31 = .ok (.iastore, 1) := by decide +kernel
theorem dX3_firstHalf_32 : decode cX3_firstHalf 32 = .ok (.aload_n 0, 1) := by decide +kernel
theorem dX3_firstHalf_33 : decode cX3_firstHalf 33 = .ok (.getfield 30, 3) := by decide +kernel
theorem dX3_firstHalf_36 : decode cX3_firstHalf 36 = .ok (.iconst 4, 1) := by decide +kernel
theorem dX3_firstHalf_37 : decode cX3_firstHalf 37 = .ok (.ldc 69, 2) := by decide +kernel
theorem dX3_firstHalf_39 : decode cX3_firstHalf 39 = .ok (.iastore, 1) := by decide +kernel
theorem dX3_firstHalf_40 : decode cX3_firstHalf 40 = .ok (.aload_n 0, 1) := by decide +kernel
theorem dX3_firstHalf_41 : decode cX3_firstHalf 41 = .ok (.getfield 30, 3) := by decide +kernel
theorem dX3_firstHalf_44 : decode cX3_firstHalf 44 = .ok (.iconst 5, 1) := by decide +kernel
theorem dX3_firstHalf_45 : decode cX3_firstHalf 45 = .ok (.ldc 70, 2) := by decide +kernel
theorem dX3_firstHalf_47 : decode cX3_firstHalf 47 = .ok (.iastore, 1) := by decide +kernel
theorem dX3_firstHalf_48 : decode cX3_firstHalf 48 = .ok (.aload_n 0, 1) := by decide +kernel
theorem dX3_firstHalf_49 : decode cX3_firstHalf 49 = .ok (.getfield 30, 3) := by decide +kernel
theorem dX3_firstHalf_52 : decode cX3_firstHalf 52 = .ok (.bipush 6, 2) := by decide +kernel
theorem dX3_firstHalf_54 : decode cX3_firstHalf 54 = .ok (.ldc 71, 2) := by decide +kernel
theorem dX3_firstHalf_56 : decode cX3_firstHalf 56 = .ok (.iastore, 1) := by decide +kernel
theorem dX3_firstHalf_57 : decode cX3_firstHalf 57 = .ok (.aload_n 0, 1) := by decide +kernel
theorem dX3_firstHalf_58 : decode cX3_firstHalf 58 = .ok (.getfield 30, 3) := by decide +kernel
theorem dX3_firstHalf_61 : decode cX3_firstHalf 61 = .ok (.bipush 7, 2) := by decide +kernel
theorem dX3_firstHalf_63 : decode cX3_firstHalf 63 = .ok (.ldc 72, 2) := by decide +kernel
theorem dX3_firstHalf_65 : decode cX3_firstHalf 65 = .ok (.iastore, 1) := by decide +kernel
theorem dX3_firstHalf_66 : decode cX3_firstHalf 66 = .ok (.aload_n 0, 1) := by decide +kernel
theorem dX3_firstHalf_67 : decode cX3_firstHalf 67 = .ok (.getfield 30, 3) := by decide +kernel
theorem dX3_firstHalf_70 : decode cX3_firstHalf 70 = .ok (.bipush 8, 2) := by decide +kernel
theorem dX3_firstHalf_72 : decode cX3_firstHalf 72 = .ok (.ldc 73, 2) := by decide +kernel
theorem dX3_firstHalf_74 : decode cX3_firstHalf 74 = .ok (.iastore, 1) := by decide +kernel
theorem dX3_firstHalf_75 : decode cX3_firstHalf 75 = .ok (.aload_n 0, 1) := by decide +kernel
theorem dX3_firstHalf_76 : decode cX3_firstHalf 76 = .ok (.getfield 30, 3) := by decide +kernel
theorem dX3_firstHalf_79 : decode cX3_firstHalf 79 = .ok (.bipush 9, 2) := by decide +kernel
theorem dX3_firstHalf_81 : decode cX3_firstHalf 81 = .ok (.ldc 74, 2) := by decide +kernel
theorem dX3_firstHalf_83 : decode cX3_firstHalf 83 = .ok (.iastore, 1) := by decide +kernel
theorem dX3_firstHalf_84 : decode cX3_firstHalf 84 = .ok (.aload_n 0, 1) := by decide +kernel
theorem dX3_firstHalf_85 : decode cX3_firstHalf 85 = .ok (.getfield 30, 3) := by decide +kernel
theorem dX3_firstHalf_88 : decode cX3_firstHalf 88 = .ok (.bipush 10, 2) := by decide +kernel
theorem dX3_firstHalf_90 : decode cX3_firstHalf 90 = .ok (.ldc 75, 2) := by decide +kernel
theorem dX3_firstHalf_92 : decode cX3_firstHalf 92 = .ok (.iastore, 1) := by decide +kernel
theorem dX3_firstHalf_93 : decode cX3_firstHalf 93 = .ok (.aload_n 0, 1) := by decide +kernel
theorem dX3_firstHalf_94 : decode cX3_firstHalf 94 = .ok (.getfield 30, 3) := by decide +kernel
theorem dX3_firstHalf_97 : decode cX3_firstHalf 97 = .ok (.bipush 11, 2) := by decide +kernel
theorem dX3_firstHalf_99 : decode cX3_firstHalf 99 = .ok (.ldc 76, 2) := by decide +kernel
theorem dX3_firstHalf_101 : decode cX3_firstHalf 101 = .ok (.iastore, 1) := by decide +kernel
theorem dX3_firstHalf_102 : decode cX3_firstHalf 102 = .ok (.aload_n 0, 1) := by decide +kernel
theorem dX3_firstHalf_103 : decode cX3_firstHalf 103 = .ok (.getfield 30, 3) := by decide +kernel
theorem dX3_firstHalf_106 : decode cX3_firstHalf 106 = .ok (.bipush 12, 2) := by decide +kernel
theorem dX3_firstHalf_108 : decode cX3_firstHalf 108 = .ok (.ldc 77, 2) := by decide +kernel
theorem dX3_firstHalf_110 : decode cX3_firstHalf 110 = .ok (.iastore, 1) := by decide +kernel
theorem dX3_firstHalf_111 : decode cX3_firstHalf 111 = .ok (.aload_n 0, 1) := by decide +kernel
theorem dX3_firstHalf_112 : decode cX3_firstHalf 112 = .ok (.getfield 30, 3) := by decide +kernel
theorem dX3_firstHalf_115 : decode cX3_firstHalf 115 = .ok (.bipush 13, 2) := by decide +kernel
theorem dX3_firstHalf_117 : decode cX3_firstHalf 117 = .ok (.ldc 78, 2) := by decide +kernel
theorem dX3_firstHalf_119 : decode cX3_firstHalf 119 = .ok (.iastore, 1) := by decide +kernel
theorem dX3_firstHalf_120 : decode cX3_firstHalf 120 = .ok (.aload_n 0, 1) := by decide +kernel
theorem dX3_firstHalf_121 : decode cX3_firstHalf 121 = .ok (.getfield 30, 3) := by decide +kernel
theorem dX3_firstHalf_124 : decode cX3_firstHalf 124 = .ok (.bipush 14, 2) := by decide +kernel
theorem dX3_firstHalf_126 : decode cX3_firstHalf 126 = .ok (.ldc 79, 2) := by decide +kernel
theorem dX3_firstHalf_128 : decode cX3_firstHalf 128 = .ok (.iastore, 1) := by decide +kernel
theorem dX3_firstHalf_129 : decode cX3_firstHalf 129 = .ok (.aload_n 0, 1) := by decide +kernel
theorem dX3_firstHalf_130 : decode cX3_firstHalf 130 = .ok (.getfield 30, 3) := by decide +kernel
theorem dX3_firstHalf_133 : decode cX3_firstHalf 133 = .ok (.bipush 15, 2) := by decide +kernel
theorem dX3_firstHalf_135 : decode cX3_firstHalf 135 = .ok (.ldc 80, 2) := by decide +kernel
theorem dX3_firstHalf_137 : decode cX3_firstHalf 137 = .ok (.iastore, 1) := by decide +kernel
theorem dX3_firstHalf_138 : decode cX3_firstHalf 138 = .ok (.aload_n 0, 1) := by decide +kernel
theorem dX3_firstHalf_139 : decode cX3_firstHalf 139 = .ok (.getfield 30, 3) := by decide +kernel
theorem dX3_firstHalf_142 : decode cX3_firstHalf 142 = .ok (.bipush 16, 2) := by decide +kernel
theorem dX3_firstHalf_144 : decode cX3_firstHalf 144 = .ok (.ldc 81, 2) := by decide +kernel
theorem dX3_firstHalf_146 : decode cX3_firstHalf 146 = .ok (.iastore, 1) := by decide +kernel
theorem dX3_firstHalf_147 : decode cX3_firstHalf 147 = .ok (.aload_n 0, 1) := by decide +kernel
theorem dX3_firstHalf_148 : decode cX3_firstHalf 148 = .ok (.getfield 30, 3) := by decide +kernel
theorem dX3_firstHalf_151 : decode cX3_firstHalf 151 = .ok (.bipush 17, 2) := by decide +kernel
theorem dX3_firstHalf_153 : decode cX3_firstHalf 153 = .ok (.ldc 82, 2) := by decide +kernel
theorem dX3_firstHalf_155 : decode cX3_firstHalf 155 = .ok (.iastore, 1) := by decide +kernel
theorem dX3_firstHalf_156 : decode cX3_firstHalf 156 = .ok (.aload_n 0, 1) := by decide +kernel
theorem dX3_firstHalf_157 : decode cX3_firstHalf 157 = .ok (.getfield 30, 3) := by decide +kernel
theorem dX3_firstHalf_160 : decode cX3_firstHalf 160 = .ok (.bipush 18, 2) := by decide +kernel
theorem dX3_firstHalf_162 : decode cX3_firstHalf 162 = .ok (.ldc 83, 2) := by decide +kernel
theorem dX3_firstHalf_164 : decode cX3_firstHalf 164 = .ok (.iastore, 1) := by decide +kernel
theorem dX3_firstHalf_165 : decode cX3_firstHalf 165 = .ok (.aload_n 0, 1) := by decide +kernel
theorem dX3_firstHalf_166 : decode cX3_firstHalf 166 = .ok (.getfield 30, 3) := by decide +kernel
theorem dX3_firstHalf_169 : decode cX3_firstHalf 169 = .ok (.bipush 19, 2) := by decide +kernel
theorem dX3_firstHalf_171 : decode cX3_firstHalf 171 = .ok (.ldc 84, 2) := by decide +kernel
theorem dX3_firstHalf_173 : decode cX3_firstHalf 173 = .ok (.iastore, 1) := by decide +kernel
theorem dX3_firstHalf_174 : decode cX3_firstHalf 174 = .ok (.aload_n 0, 1) := by decide +kernel
theorem dX3_firstHalf_175 : decode cX3_firstHalf 175 = .ok (.getfield 30, 3) := by decide +kernel
theorem dX3_firstHalf_178 : decode cX3_firstHalf 178 = .ok (.bipush 20, 2) := by decide +kernel
theorem dX3_firstHalf_180 : decode cX3_firstHalf 180 = .ok (.ldc 85, 2) := by decide +kernel
theorem dX3_firstHalf_182 : decode cX3_firstHalf 182 = .ok (.iastore, 1) := by decide +kernel
theorem dX3_firstHalf_183 : decode cX3_firstHalf 183 = .ok (.aload_n 0, 1) := by decide +kernel
theorem dX3_firstHalf_184 : decode cX3_firstHalf 184 = .ok (.getfield 30, 3) := by decide +kernel
theorem dX3_firstHalf_187 : decode cX3_firstHalf 187 = .ok (.bipush 21, 2) := by decide +kernel
theorem dX3_firstHalf_189 : decode cX3_firstHalf 189 = .ok (.ldc 86, 2) := by decide +kernel
theorem dX3_firstHalf_191 : decode cX3_firstHalf 191 = .ok (.iastore, 1) := by decide +kernel
theorem dX3_firstHalf_192 : decode cX3_firstHalf 192 = .ok (.aload_n 0, 1) := by decide +kernel
theorem dX3_firstHalf_193 : decode cX3_firstHalf 193 = .ok (.getfield 30, 3) := by decide +kernel
theorem dX3_firstHalf_196 : decode cX3_firstHalf 196 = .ok (.bipush 22, 2) := by decide +kernel
theorem dX3_firstHalf_198 : decode cX3_firstHalf 198 = .ok (.ldc 87, 2) := by decide +kernel
theorem dX3_firstHalf_200 : decode cX3_firstHalf 200 = .ok (.iastore, 1) := by decide +kernel
theorem dX3_firstHalf_201 : decode cX3_firstHalf 201 = .ok (.aload_n 0, 1) := by decide +kernel
theorem dX3_firstHalf_202 : decode cX3_firstHalf 202 = .ok (.getfield 30, 3) := by decide +kernel
theorem dX3_firstHalf_205 : decode cX3_firstHalf 205 = .ok (.bipush 23, 2) := by decide +kernel
theorem dX3_firstHalf_207 : decode cX3_firstHalf 207 = .ok (.ldc 88, 2) := by decide +kernel
theorem dX3_firstHalf_209 : decode cX3_firstHalf 209 = .ok (.iastore, 1) := by decide +kernel
theorem dX3_firstHalf_210 : decode cX3_firstHalf 210 = .ok (.aload_n 0, 1) := by decide +kernel
theorem dX3_firstHalf_211 : decode cX3_firstHalf 211 = .ok (.getfield 30, 3) := by decide +kernel
theorem dX3_firstHalf_214 : decode cX3_firstHalf 214 = .ok (.bipush 24, 2) := by decide +kernel
theorem dX3_firstHalf_216 : decode cX3_firstHalf 216 = .ok (.ldc 89, 2) := by decide +kernel
theorem dX3_firstHalf_218 : decode cX3_firstHalf 218 = .ok (.iastore, 1) := by decide +kernel
theorem dX3_firstHalf_219 : decode cX3_firstHalf 219 = .ok (.aload_n 0, 1) := by decide +kernel
theorem dX3_firstHalf_220 : decode cX3_firstHalf 220 = .ok (.getfield 30, 3) := by decide +kernel
theorem dX3_firstHalf_223 : decode cX3_firstHalf 223 = .ok (.bipush 25, 2) := by decide +kernel
theorem dX3_firstHalf_225 : decode cX3_firstHalf 225 = .ok (.ldc 90, 2) := by decide +kernel
theorem dX3_firstHalf_227 : decode cX3_firstHalf 227 = .ok (.iastore, 1) := by decide +kernel
theorem dX3_firstHalf_228 : decode cX3_firstHalf 228 = .ok (.aload_n 0, 1) := by decide +kernel
theorem dX3_firstHalf_229 : decode cX3_firstHalf 229 = .ok (.getfield 30, 3) := by decide +kernel
theorem dX3_firstHalf_232 : decode cX3_firstHalf 232 = .ok (.bipush 26, 2) := by decide +kernel
theorem dX3_firstHalf_234 : decode cX3_firstHalf 234 = .ok (.ldc 91, 2) := by decide +kernel
theorem dX3_firstHalf_236 : decode cX3_firstHalf 236 = .ok (.iastore, 1) := by decide +kernel
theorem dX3_firstHalf_237 : decode cX3_firstHalf 237 = .ok (.aload_n 0, 1) := by decide +kernel
theorem dX3_firstHalf_238 : decode cX3_firstHalf 238 = .ok (.getfield 30, 3) := by decide +kernel
theorem dX3_firstHalf_241 : decode cX3_firstHalf 241 = .ok (.bipush 27, 2) := by decide +kernel
theorem dX3_firstHalf_243 : decode cX3_firstHalf 243 = .ok (.ldc 92, 2) := by decide +kernel
theorem dX3_firstHalf_245 : decode cX3_firstHalf 245 = .ok (.iastore, 1) := by decide +kernel
theorem dX3_firstHalf_246 : decode cX3_firstHalf 246 = .ok (.aload_n 0, 1) := by decide +kernel
theorem dX3_firstHalf_247 : decode cX3_firstHalf 247 = .ok (.getfield 30, 3) := by decide +kernel
theorem dX3_firstHalf_250 : decode cX3_firstHalf 250 = .ok (.bipush 28, 2) := by decide +kernel
theorem dX3_firstHalf_252 : decode cX3_firstHalf 252 = .ok (.ldc 93, 2) := by decide +kernel
theorem dX3_firstHalf_254 : decode cX3_firstHalf 254 = .ok (.iastore, 1) := by decide +kernel
theorem dX3_firstHalf_255 : decode cX3_firstHalf 255 = .ok (.aload_n 0, 1) := by decide +kernel
theorem dX3_firstHalf_256 : decode cX3_firstHalf 256 = .ok (.getfield 30, 3) := by decide +kernel
theorem dX3_firstHalf_259 : decode cX3_firstHalf 259 = .ok (.bipush 29, 2) := by decide +kernel
theorem dX3_firstHalf_261 : decode cX3_firstHalf 261 = .ok (.ldc 94, 2) := by decide +kernel
theorem dX3_firstHalf_263 : decode cX3_firstHalf 263 = .ok (.iastore, 1) := by decide +kernel
theorem dX3_firstHalf_264 : decode cX3_firstHalf 264 = .ok (.aload_n 0, 1) := by decide +kernel
theorem dX3_firstHalf_265 : decode cX3_firstHalf 265 = .ok (.getfield 30, 3) := by decide +kernel
theorem dX3_firstHalf_268 : decode cX3_firstHalf 268 = .ok (.bipush 30, 2) := by decide +kernel
theorem dX3_firstHalf_270 : decode cX3_firstHalf 270 = .ok (.ldc 95, 2) := by decide +kernel
theorem dX3_firstHalf_272 : decode cX3_firstHalf 272 = .ok (.iastore, 1) := by decide +kernel
theorem dX3_firstHalf_273 : decode cX3_firstHalf 273 = .ok (.aload_n 0, 1) := by decide +kernel
theorem dX3_firstHalf_274 : decode cX3_firstHalf 274 = .ok (.getfield 30, 3) := by decide +kernel
theorem dX3_firstHalf_277 : decode cX3_firstHalf 277 = .ok (.bipush 31, 2) := by decide +kernel
theorem dX3_firstHalf_279 : decode cX3_firstHalf 279 = .ok (.ldc 96, 2) := by decide +kernel
theorem dX3_firstHalf_281 : decode cX3_firstHalf 281 = .ok (.iastore, 1) := by decide +kernel
theorem dX3_firstHalf_282 : decode cX3_firstHalf 282 = .ok (.return_, 1) := by decide +kernel
theorem dX3_secondHalf_0 : decode cX3_secondHalf 0 = .ok (.aload_n 0, 1) := by decide +kernel
theorem dX3_secondHalf_1 : decode cX3_secondHalf 1 = .ok (.getfield 30, 3) := by decide +kernel
theorem dX3_secondHalf_4 : decode cX3_secondHalf 4 = .ok (.bipush 32, 2) := by decide +kernel
theorem dX3_secondHalf_6 : decode cX3_secondHalf 6 = .ok (.ldc 97, 2) := by decide +kernel
theorem dX3_secondHalf_8 : decode cX3_secondHalf 8 = .ok (.iastore, 1) := by decide +kernel
theorem dX3_secondHalf_9 : decode cX3_secondHalf 9 = .ok (.aload_n 0, 1) := by decide +kernel
theorem dX3_secondHalf_10 : decode cX3_secondHalf 10 = .ok (.getfield 30, 3) := by decide +kernel
theorem dX3_secondHalf_13 : decode cX3_secondHalf 13 = .ok (.bipush 33, 2) := by decide +kernel
theorem dX3_secondHalf_15 : decode cX3_secondHalf 15 = .ok (.ldc 98, 2) := by decide +kernel
theorem dX3_secondHalf_17 : decode cX3_secondHalf 17 = .ok (.iastore, 1) := by decide +kernel
theorem dX3_secondHalf_18 : decode cX3_secondHalf 18 = .ok (.aload_n 0, 1) := by decide +kernel
theorem dX3_secondHalf_19 : decode cX3_secondHalf 19 = .ok (.getfield 30, 3) := by decide +kernel
theorem dX3_secondHalf_22 : decode cX3_secondHalf 22 = .ok (.bipush 34, 2) := by decide +kernel
theorem dX3_secondHalf_24 : decode cX3_secondHalf 24 = .ok (.ldc 99, 2) := by decide +kernel
theorem dX3_secondHalf_26 : decode cX3_secondHalf 26 = .ok (.iastore, 1) := by decide +kernel
theorem dX3_secondHalf_27 : decode cX3_secondHalf 27 = .ok (.aload_n 0, 1) := by decide +kernel
theorem dX3_secondHalf_28 : decode cX3_secondHalf 28 = .ok (.getfield 30, 3) := by decide +kernel
theorem dX3_secondHalf_31 : decode cX3_secondHalf 31 = .ok (.bipush 35, 2) := by decide +kernel
theorem dX3_secondHalf_33 : decode cX3_secondHalf 33 = .ok (.ldc 100, 2) := by decide +kernel
theorem dX3_secondHalf_35 : decode cX3_secondHalf 35 = .ok (.iastore, 1) := by decide +kernel
theorem dX3_secondHalf_36 : decode cX3_secondHalf 36 = .ok (.aload_n 0, 1) := by decide +kernel
theorem dX3_secondHalf_37 : decode cX3_secondHalf 37 = .ok (.getfield 30, 3) := by decide +kernel
theorem dX3_secondHalf_40 : decode cX3_secondHalf 40 = .ok (.bipush 36, 2) := by decide +kernel
theorem dX3_secondHalf_42 : decode cX3_secondHalf 42 = .ok (.ldc 101, 2) := by decide +kernel
theorem dX3_secondHalf_44 : decode cX3_secondHalf 44 = .ok (.iastore, 1) := by decide +kernel
theorem dX3_secondHalf_45 : decode cX3_secondHalf 45 = .ok (.aload_n 0, 1) := by decide +kernel
theorem dX3_secondHalf_46 : decode cX3_secondHalf 46 = .ok (.getfield 30, 3) := by decide +kernel
theorem dX3_secondHalf_49 : decode cX3_secondHalf 49 = .ok (.bipush 37, 2) := by decide +kernel
theorem dX3_secondHalf_51 : decode cX3_secondHalf 51 = .ok (.ldc 102, 2) := by decide +kernel
theorem dX3_secondHalf_53 : decode cX3_secondHalf 53 = .ok (.iastore, 1) := by decide +kernel
theorem dX3_secondHalf_54 : decode cX3_secondHalf 54 = .ok (.aload_n 0, 1) := by decide +kernel
theorem dX3_secondHalf_55 : decode cX3_secondHalf 55 = .ok (.getfield 30, 3) := by decide +kernel
theorem dX3_secondHalf_58 : decode cX3_secondHalf 58 = .ok (.bipush 38, 2) := by decide +kernel
theorem dX3_secondHalf_60 : decode cX3_secondHalf 60 = .ok (.ldc 103, 2) := by decide +kernel
theorem dX3_secondHalf_62 : decode cX3_secondHalf 62 = .ok (.iastore, 1) := by decide +kernel
theorem dX3_secondHalf_63 : decode cX3_secondHalf 63 = .ok (.aload_n 0, 1) := by decide +kernel
theorem dX3_secondHalf_64 : decode cX3_secondHalf 64 = .ok (.getfield 30, 3) := by decide +kernel
theorem dX3_secondHalf_67 : decode cX3_secondHalf 67 = .ok (.bipush 39, 2) := by decide +kernel
theorem dX3_secondHalf_69 : decode cX3_secondHalf 69 = .ok (.ldc 104, 2) := by decide +kernel
theorem dX3_secondHalf_71 : decode cX3_secondHalf 71 = .ok (.iastore, 1) := by decide +kernel
theorem dX3_secondHalf_72 : decode cX3_secondHalf 72 = .ok (.aload_n 0, 1) := by decide +kernel
theorem dX3_secondHalf_73 : decode cX3_secondHalf 73 = .ok (.getfield 30, 3) := by decide +kernel
theorem dX3_secondHalf_76 : decode cX3_secondHalf 76 = .ok (.bipush 40, 2) := by decide +kernel
theorem dX3_secondHalf_78 : decode cX3_secondHalf 78 = .ok (.ldc 105, 2) := by decide +kernel
theorem dX3_secondHalf_80 : decode cX3_secondHalf 80 = .ok (.iastore, 1) := by decide +kernel
theorem dX3_secondHalf_81 : decode cX3_secondHalf 81 = .ok (.aload_n 0, 1) := by decide +kernel
theorem dX3_secondHalf_82 : decode cX3_secondHalf 82 = .ok (.getfield 30, 3) := by decide +kernel
theorem dX3_secondHalf_85 : decode cX3_secondHalf 85 = .ok (.bipush 41, 2) := by decide +kernel
theorem dX3_secondHalf_87 : decode cX3_secondHalf 87 = .ok (.ldc 106, 2) := by decide +kernel
theorem dX3_secondHalf_89 : decode cX3_secondHalf 89 = .ok (.iastore, 1) := by decide +kernel
theorem dX3_secondHalf_90 : decode cX3_secondHalf 90 = .ok (.aload_n 0, 1) := by decide +kernel
theorem dX3_secondHalf_91 : decode cX3_secondHalf 91 = .ok (.getfield 30, 3) := by decide +kernel
theorem dX3_secondHalf_94 : decode cX3_secondHalf 94 = .ok (.bipush 42, 2) := by decide +kernel
theorem dX3_secondHalf_96 : decode cX3_secondHalf 96 = .ok (.ldc 107, 2) := by decide +kernel
theorem dX3_secondHalf_98 : decode cX3_secondHalf 98 = .ok (.iastore, 1) := by decide +kernel
theorem dX3_secondHalf_99 : decode cX3_secondHalf 99 = .ok (.aload_n 0, 1) := by decide +kernel
theorem dX3_secondHalf_100 : decode cX3_secondHalf 100 = .ok (.getfield 30, 3) := by decide +kernel
theorem dX3_secondHalf_103 : decode cX3_secondHalf 103 = .ok (.bipush 43, 2) := by decide +kernel
theorem dX3_secondHalf_105 : decode cX3_secondHalf 105 = .ok (.ldc 108, 2) := by decide +kernel
theorem dX3_secondHalf_107 : decode cX3_secondHalf 107 = .ok (.iastore, 1) := by decide +kernel
theorem dX3_secondHalf_108 : decode cX3_secondHalf 108 = .ok (.aload_n 0, 1) := by decide +kernel
theorem dX3_secondHalf_109 : decode cX3_secondHalf 109 = .ok (.getfield 30, 3) := by decide +kernel
theorem dX3_secondHalf_112 : decode cX3_secondHalf 112 = .ok (.bipush 44, 2) := by decide +kernel
theorem dX3_secondHalf_114 : decode cX3_secondHalf 114 = .ok (.ldc 109, 2) := by decide +kernel
theorem dX3_secondHalf_116 : decode cX3_secondHalf 116 = .ok (.iastore, 1) := by decide +kernel
theorem dX3_secondHalf_117 : decode cX3_secondHalf 117 = .ok (.aload_n 0, 1) := by decide +kernel
theorem dX3_secondHalf_118 : decode cX3_secondHalf 118 = .ok (.getfield 30, 3) := by decide +kernel
theorem dX3_secondHalf_121 : decode cX3_secondHalf 121 = .ok (.bipush 45, 2) := by decide +kernel
theorem dX3_secondHalf_123 : decode cX3_secondHalf 123 = .ok (.ldc 110, 2) := by decide +kernel
theorem dX3_secondHalf_125 : decode cX3_secondHalf 125 = .ok (.iastore, 1) := by decide +kernel
theorem dX3_secondHalf_126 : decode cX3_secondHalf 126 = .ok (.aload_n 0, 1) := by decide +kernel
theorem dX3_secondHalf_127 : decode cX3_secondHalf 127 = .ok (.getfield 30, 3) := by decide +kernel
theorem dX3_secondHalf_130 : decode cX3_secondHalf 130 = .ok (.bipush 46, 2) := by decide +kernel
theorem dX3_secondHalf_132 : decode cX3_secondHalf 132 = .ok (.ldc 111, 2) := by decide +kernel
theorem dX3_secondHalf_134 : decode cX3_secondHalf 134 = .ok (.iastore, 1) := by decide +kernel
theorem dX3_secondHalf_135 : decode cX3_secondHalf 135 = .ok (.aload_n 0, 1) := by decide +kernel
theorem dX3_secondHalf_136 : decode cX3_secondHalf 136 = .ok (.getfield 30, 3) := by decide +kernel
theorem dX3_secondHalf_139 : decode cX3_secondHalf 139 = .ok (.bipush 47, 2) := by decide +kernel
theorem dX3_secondHalf_141 : decode cX3_secondHalf 141 = .ok (.ldc 112, 2) := by decide +kernel
theorem dX3_secondHalf_143 : decode cX3_secondHalf 143 = .ok (.iastore, 1) := by decide +kernel
theorem dX3_secondHalf_144 : decode cX3_secondHalf 144 = .ok (.aload_n 0, 1) := by decide +kernel
theorem dX3_secondHalf_145 : decode cX3_secondHalf 145 = .ok (.getfield 30, 3) := by decide +kernel
theorem dX3_secondHalf_148 : decode cX3_secondHalf 148 = .ok (.bipush 48, 2) := by decide +kernel
theorem dX3_secondHalf_150 : decode cX3_secondHalf 150 = .ok (.ldc 113, 2) := by decide +kernel
theorem dX3_secondHalf_152 : decode cX3_secondHalf 152 = .ok (.iastore, 1) := by decide +kernel
theorem dX3_secondHalf_153 : decode cX3_secondHalf 153 = .ok (.aload_n 0, 1) := by decide +kernel
theorem dX3_secondHalf_154 : decode cX3_secondHalf 154 = .ok (.getfield 30, 3) := by decide +kernel
theorem dX3_secondHalf_157 : decode cX3_secondHalf 157 = .ok (.bipush 49, 2) := by decide +kernel
theorem dX3_secondHalf_159 : decode cX3_secondHalf 159 = .ok (.ldc 114, 2) := by decide +kernel
theorem dX3_secondHalf_161 : decode cX3_secondHalf 161 = .ok (.iastore, 1) := by decide +kernel
theorem dX3_secondHalf_162 : decode cX3_secondHalf 162 = .ok (.aload_n 0, 1) := by decide +kernel
theorem dX3_secondHalf_163 : decode cX3_secondHalf 163 = .ok (.getfield 30, 3) := by decide +kernel
theorem dX3_secondHalf_166 : decode cX3_secondHalf 166 = .ok (.bipush 50, 2) := by decide +kernel
theorem dX3_secondHalf_168 : decode cX3_secondHalf 168 = .ok (.ldc 115, 2) := by decide +kernel
theorem dX3_secondHalf_170 : decode cX3_secondHalf 170 = .ok (.iastore, 1) := by decide +kernel
theorem dX3_secondHalf_171 : decode cX3_secondHalf 171 = .ok (.aload_n 0, 1) := by decide +kernel
theorem dX3_secondHalf_172 : decode cX3_secondHalf 172 = .ok (.getfield 30, 3) := by decide +kernel
theorem dX3_secondHalf_175 : decode cX3_secondHalf 175 = .ok (.bipush 51, 2) := by decide +kernel
theorem dX3_secondHalf_177 : decode cX3_secondHalf 177 = .ok (.ldc 116, 2) := by decide +kernel
theorem dX3_secondHalf_179 : decode cX3_secondHalf 179 = .ok (.iastore, 1) := by decide +kernel
theorem dX3_secondHalf_180 : decode cX3_secondHalf 180 = .ok (.aload_n 0, 1) := by decide +kernel
theorem dX3_secondHalf_181 : decode cX3_secondHalf 181 = .ok (.getfield 30, 3) := by decide +kernel
theorem dX3_secondHalf_184 : decode cX3_secondHalf 184 = .ok (.bipush 52, 2) := by decide +kernel
theorem dX3_secondHalf_186 : decode cX3_secondHalf 186 = .ok (.ldc 117, 2) := by decide +kernel
theorem dX3_secondHalf_188 : decode cX3_secondHalf 188 = .ok (.iastore, 1) := by decide +kernel
theorem dX3_secondHalf_189 : decode cX3_secondHalf 189 = .ok (.aload_n 0, 1) := by decide +kernel
theorem dX3_secondHalf_190 : decode cX3_secondHalf 190 = .ok (.getfield 30, 3) := by decide +kernel
theorem dX3_secondHalf_193 : decode cX3_secondHalf 193 = .ok (.bipush 53, 2) := by decide +kernel
theorem dX3_secondHalf_195 : decode cX3_secondHalf 195 = .ok (.ldc 118, 2) := by decide +kernel
theorem dX3_secondHalf_197 : decode cX3_secondHalf 197 = .ok (.iastore, 1) := by decide +kernel
theorem dX3_secondHalf_198 : decode cX3_secondHalf 198 = .ok (.aload_n 0, 1) := by decide +kernel
theorem dX3_secondHalf_199 : decode cX3_secondHalf 199 = .ok (.getfield 30, 3) := by decide +kernel
theorem dX3_secondHalf_202 : decode cX3_secondHalf 202 = .ok (.bipush 54, 2) := by decide +kernel
theorem dX3_secondHalf_204 : decode cX3_secondHalf 204 = .ok (.ldc 119, 2) := by decide +kernel
theorem dX3_secondHalf_206 : decode cX3_secondHalf 206 = .ok (.iastore, 1) := by decide +kernel
theorem dX3_secondHalf_207 : decode cX3_secondHalf 207 = .ok (.aload_n 0, 1) := by decide +kernel
theorem dX3_secondHalf_208 : decode cX3_secondHalf 208 = .ok (.getfield 30, 3) := by decide +kernel
theorem dX3_secondHalf_211 : decode cX3_secondHalf 211 = .ok (.bipush 55, 2) := by decide +kernel
theorem dX3_secondHalf_213 : decode cX3_secondHalf 213 = .ok (.ldc 120, 2) := by decide +kernel
theorem dX3_secondHalf_215 : decode cX3_secondHalf 215 = .ok (.iastore, 1) := by decide +kernel
theorem dX3_secondHalf_216 : decode cX3_secondHalf 216 = .ok (.aload_n 0, 1) := by decide +kernel
theorem dX3_secondHalf_217 : decode cX3_secondHalf 217 = .ok (.getfield 30, 3) := by decide +kernel
theorem dX3_secondHalf_220 : decode cX3_secondHalf 220 = .ok (.bipush 56, 2) := by decide +kernel
theorem dX3_secondHalf_222 : decode cX3_secondHalf 222 = .ok (.ldc 121, 2) := by decide +kernel
theorem dX3_secondHalf_224 : decode cX3_secondHalf 224 = .ok (.iastore, 1) := by decide +kernel
theorem dX3_secondHalf_225 : decode cX3_secondHalf 225 = .ok (.aload_n 0, 1) := by decide +kernel
theorem dX3_secondHalf_226 : decode cX3_secondHalf 226 = .ok (.getfield 30, 3) := by decide +kernel
theorem dX3_secondHalf_229 : decode cX3_secondHalf 229 = .ok (.bipush 57, 2) := by decide +kernel
theorem dX3_secondHalf_231 : decode cX3_secondHalf 231 = .ok (.ldc 122, 2) := by decide +kernel
theorem dX3_secondHalf_233 : decode cX3_secondHalf 233 = .ok (.iastore, 1) := by decide +kernel
theorem dX3_secondHalf_234 : decode cX3_secondHalf 234 = .ok (.aload_n 0, 1) := by decide +kernel
theorem dX3_secondHalf_235 : decode cX3_secondHalf 235 = .ok (.getfield 30, 3) := by decide +kernel
theorem dX3_secondHalf_238 : decode cX3_secondHalf 238 = .ok (.bipush 58, 2) := by decide +kernel
theorem dX3_secondHalf_240 : decode cX3_secondHalf 240 = .ok (.ldc 123, 2) := by decide +kernel
theorem dX3_secondHalf_242 : decode cX3_secondHalf 242 = .ok (.iastore, 1) := by decide +kernel
theorem dX3_secondHalf_243 : decode cX3_secondHalf 243 = .ok (.aload_n 0, 1) := by decide +kernel
theorem dX3_secondHalf_244 : decode cX3_secondHalf 244 = .ok (.getfield 30, 3) := by decide +kernel
theorem dX3_secondHalf_247 : decode cX3_secondHalf 247 = .ok (.bipush 59, 2) := by decide +kernel
theorem dX3_secondHalf_249 : decode cX3_secondHalf 249 = .ok (.ldc 124, 2) := by decide +kernel
theorem dX3_secondHalf_251 : decode cX3_secondHalf 251 = .ok (.iastore, 1) := by decide +kernel
theorem dX3_secondHalf_252 : decode cX3_secondHalf 252 = .ok (.aload_n 0, 1) := by decide +kernel
theorem dX3_secondHalf_253 : decode cX3_secondHalf 253 = .ok (.getfield 30, 3) := by decide +kernel
theorem dX3_secondHalf_256 : decode cX3_secondHalf 256 = .ok (.bipush 60, 2) := by decide +kernel
theorem dX3_secondHalf_258 : decode cX3_secondHalf 258 = .ok (.ldc 125, 2) := by decide +kernel
theorem dX3_secondHalf_260 : decode cX3_secondHalf 260 = .ok (.iastore, 1) := by decide +kernel
theorem dX3_secondHalf_261 : decode cX3_secondHalf 261 = .ok (.aload_n 0, 1) := by decide +kernel
theorem dX3_secondHalf_262 : decode cX3_secondHalf 262 = .ok (.getfield 30, 3) := by decide +kernel
theorem dX3_secondHalf_265 : decode cX3_secondHalf 265 = .ok (.bipush 61, 2) := by decide +kernel
theorem dX3_secondHalf_267 : decode cX3_secondHalf 267 = .ok (.ldc 126, 2) := by decide +kernel
theorem dX3_secondHalf_269 : decode cX3_secondHalf 269 = .ok (.iastore, 1) := by decide +kernel
theorem dX3_secondHalf_270 : decode cX3_secondHalf 270 = .ok (.aload_n 0, 1) := by decide +kernel
theorem dX3_secondHalf_271 : decode cX3_secondHalf 271 = .ok (.getfield 30, 3) := by decide +kernel
theorem dX3_secondHalf_274 : decode cX3_secondHalf 274 = .ok (.bipush 62, 2) := by decide +kernel
theorem dX3_secondHalf_276 : decode cX3_secondHalf 276 = .ok (.ldc 127, 2) := by decide +kernel
theorem dX3_secondHalf_278 : decode cX3_secondHalf 278 = .ok (.iastore, 1) := by decide +kernel
theorem dX3_secondHalf_279 : decode cX3_secondHalf 279 = .ok (.aload_n 0, 1) := by decide +kernel
theorem dX3_secondHalf_280 : decode cX3_secondHalf 280 = .ok (.getfield 30, 3) := by decide +kernel
theorem dX3_secondHalf_283 : decode cX3_secondHalf 283 = .ok (.bipush 63, 2) := by decide +kernel
theorem dX3_secondHalf_285 : decode cX3_secondHalf 285 = .ok (.ldc 128, 2) := by decide +kernel
theorem dX3_secondHalf_287 : decode cX3_secondHalf 287 = .ok (.iastore, 1) := by decide +kernel
theorem dX3_secondHalf_288 : decode cX3_secondHalf 288 = .ok (.return_, 1) := by decide +kernel
theorem dX3_turned_0 : decode cX3_turned 0 = .ok (.iload_n 0, 1) := by decide +kernel
theorem dX3_turned_1 : decode cX3_turned 1 = .ok (.iload_n 1, 1) := by decide +kernel
theorem dX3_turned_2 : decode cX3_turned 2 = .ok (.iushr, 1) := by decide +kernel
theorem dX3_turned_3 : decode cX3_turned 3 = .ok (.iload_n 0, 1) := by decide +kernel
theorem dX3_turned_4 : decode cX3_turned 4 = .ok (.bipush 32, 2) := by decide +kernel
theorem dX3_turned_6 : decode cX3_turned 6 = .ok (.iload_n 1, 1) := by decide +kernel
theorem dX3_turned_7 : decode cX3_turned 7 = .ok (.isub, 1) := by decide +kernel
theorem dX3_turned_8 : decode cX3_turned 8 = .ok (.ishl, 1) := by decide +kernel
theorem dX3_turned_9 : decode cX3_turned 9 = .ok (.ior, 1) := by decide +kernel
theorem dX3_turned_10 : decode cX3_turned 10 = .ok (.ireturn, 1) := by decide +kernel
set_option maxRecDepth 20000 in
theorem ggX3_mix_X3_turned : GoodIn wsX3_mix wsX3_turned := goodIn_r _ [7] (by decide +kernel) (by decide +kernel)
set_option maxRecDepth 20000 in
theorem gX3_mix_X3_turned : GoodIn wsX3_mix (va_wsS RX3 129 yX3_turned wsX3_turned) := goodIn_app (goodIn_of _ (by decide +kernel)) ggX3_mix_X3_turned
theorem dX3_mix_0 : decode cX3_mix 0 = .ok (.bipush 16, 2) := by decide +kernel
theorem dX3_mix_2 : decode cX3_mix 2 = .ok (.istore_n 1, 1) := by decide +kernel
theorem dX3_mix_3 : decode cX3_mix 3 = .ok (.iload_n 1, 1) := by decide +kernel
theorem dX3_mix_4 : decode cX3_mix 4 = .ok (.bipush 64, 2) := by decide +kernel
theorem dX3_mix_6 : decode cX3_mix 6 = .ok (.if_icmp .ge 90, 3) := by decide +kernel
theorem dX3_mix_9 : decode cX3_mix 9 = .ok (.aload_n 0, 1) := by decide +kernel
theorem dX3_mix_10 : decode cX3_mix 10 = .ok (.getfield 42, 3) := by decide +kernel
theorem dX3_mix_13 : decode cX3_mix 13 = .ok (.iload_n 1, 1) := by decide +kernel
theorem dX3_mix_14 : decode cX3_mix 14 = .ok (.bipush 15, 2) := by decide +kernel
theorem dX3_mix_16 : decode cX3_mix 16 = .ok (.isub, 1) := by decide +kernel
theorem dX3_mix_17 : decode cX3_mix 17 = .ok (.iaload, 1) := by decide +kernel
theorem dX3_mix_18 : decode cX3_mix 18 = .ok (.istore_n 2, 1) := by decide +kernel
theorem dX3_mix_19 : decode cX3_mix 19 = .ok (.aload_n 0, 1) := by decide +kernel
theorem dX3_mix_20 : decode cX3_mix 20 = .ok (.getfield 42, 3) := by decide +kernel
theorem dX3_mix_23 : decode cX3_mix 23 = .ok (.iload_n 1, 1) := by decide +kernel
theorem dX3_mix_24 : decode cX3_mix 24 = .ok (.iconst 2, 1) := by decide +kernel
theorem dX3_mix_25 : decode cX3_mix 25 = .ok (.isub, 1) := by decide +kernel
theorem dX3_mix_26 : decode cX3_mix 26 = .ok (.iaload, 1) := by decide +kernel
theorem dX3_mix_27 : decode cX3_mix 27 = .ok (.istore_n 3, 1) := by decide +kernel
theorem dX3_mix_28 : decode cX3_mix 28 = .ok (.aload_n 0, 1) := by decide +kernel
theorem dX3_mix_29 : decode cX3_mix 29 = .ok (.getfield 42, 3) := by decide +kernel
theorem dX3_mix_32 : decode cX3_mix 32 = .ok (.iload_n 1, 1) := by decide +kernel
theorem dX3_mix_33 : decode cX3_mix 33 = .ok (.aload_n 0, 1) := by decide +kernel
theorem dX3_mix_34 : decode cX3_mix 34 = .ok (.getfield 42, 3) := by decide +kernel
theorem dX3_mix_37 : decode cX3_mix 37 = .ok (.iload_n 1, 1) := by decide +kernel
theorem dX3_mix_38 : decode cX3_mix 38 = .ok (.bipush 16, 2) := by decide +kernel
theorem dX3_mix_40 : decode cX3_mix 40 = .ok (.isub, 1) := by decide +kernel
theorem dX3_mix_41 : decode cX3_mix 41 = .ok (.iaload, 1) := by decide +kernel
theorem dX3_mix_42 : decode cX3_mix 42 = .ok (.iload_n 2, 1) := by decide +kernel
theorem dX3_mix_43 : decode cX3_mix 43 = .ok (.bipush 7, 2) := by decide +kernel
theorem dX3_mix_45 : decode cX3_mix 45 = .ok (.invokestatic 129, 3) := by decide +kernel
theorem dX3_mix_48 : decode cX3_mix 48 = .ok (.iload_n 2, 1) := by decide +kernel
theorem dX3_mix_49 : decode cX3_mix 49 = .ok (.bipush 18, 2) := by decide +kernel
theorem dX3_mix_51 : decode cX3_mix 51 = .ok (.invokestatic 129, 3) := by decide +kernel
theorem dX3_mix_54 : decode cX3_mix 54 = .ok (.ixor, 1) := by decide +kernel
theorem dX3_mix_55 : decode cX3_mix 55 = .ok (.iload_n 2, 1) := by decide +kernel
theorem dX3_mix_56 : decode cX3_mix 56 = .ok (.iconst 3, 1) := by decide +kernel
theorem dX3_mix_57 : decode cX3_mix 57 = .ok (.iushr, 1) := by decide +kernel
theorem dX3_mix_58 : decode cX3_mix 58 = .ok (.ixor, 1) := by decide +kernel
theorem dX3_mix_59 : decode cX3_mix 59 = .ok (.iadd, 1) := by decide +kernel
theorem dX3_mix_60 : decode cX3_mix 60 = .ok (.aload_n 0, 1) := by decide +kernel
theorem dX3_mix_61 : decode cX3_mix 61 = .ok (.getfield 42, 3) := by decide +kernel
theorem dX3_mix_64 : decode cX3_mix 64 = .ok (.iload_n 1, 1) := by decide +kernel
theorem dX3_mix_65 : decode cX3_mix 65 = .ok (.bipush 7, 2) := by decide +kernel
theorem dX3_mix_67 : decode cX3_mix 67 = .ok (.isub, 1) := by decide +kernel
theorem dX3_mix_68 : decode cX3_mix 68 = .ok (.iaload, 1) := by decide +kernel
theorem dX3_mix_69 : decode cX3_mix 69 = .ok (.iadd, 1) := by decide +kernel
theorem dX3_mix_70 : decode cX3_mix 70 = .ok (.iload_n 3, 1) := by decide +kernel
theorem dX3_mix_71 : decode cX3_mix 71 = .ok (.bipush 17, 2) := by decide +kernel
theorem dX3_mix_73 : decode cX3_mix 73 = .ok (.invokestatic 129, 3) := by decide +kernel
theorem dX3_mix_76 : decode cX3_mix 76 = .ok (.iload_n 3, 1) := by decide +kernel
theorem dX3_mix_77 : decode cX3_mix 77 = .ok (.bipush 19, 2) := by decide +kernel
theorem dX3_mix_79 : decode cX3_mix 79 = .ok (.invokestatic 129, 3) := by decide +kernel
theorem dX3_mix_82 : decode cX3_mix 82 = .ok (.ixor, 1) := by decide +kernel
theorem dX3_mix_83 : decode cX3_mix 83 = .ok (.iload_n 3, 1) := by decide +kernel
theorem dX3_mix_84 : decode cX3_mix 84 = .ok (.bipush 10, 2) := by decide +kernel
theorem dX3_mix_86 : decode cX3_mix 86 = .ok (.iushr, 1) := by decide +kernel
theorem dX3_mix_87 : decode cX3_mix 87 = .ok (.ixor, 1) := by decide +kernel
theorem dX3_mix_88 : decode cX3_mix 88 = .ok (.iadd, 1) := by decide +kernel
theorem dX3_mix_89 : decode cX3_mix 89 = .ok (.iastore, 1) := by decide +kernel
theorem dX3_mix_90 : decode cX3_mix 90 = .ok (.iinc 1 1, 3) := by decide +kernel
theorem dX3_mix_93 : decode cX3_mix 93 = .ok (.goto (-90), 3) := by decide +kernel
theorem dX3_mix_96 : decode cX3_mix 96 = .ok (.aload_n 0, 1) := by decide +kernel
theorem dX3_mix_97 : decode cX3_mix 97 = .ok (.getfield 36, 3) := by decide +kernel
theorem dX3_mix_100 : decode cX3_mix 100 = .ok (.iconst 0, 1) := by decide +kernel
theorem dX3_mix_101 : decode cX3_mix 101 = .ok (.iaload, 1) := by decide +kernel
theorem dX3_mix_102 : decode cX3_mix 102 = .ok (.istore_n 1, 1) := by decide +kernel
theorem dX3_mix_103 : decode cX3_mix 103 = .ok (.aload_n 0, 1) := by decide +kernel
theorem dX3_mix_104 : decode cX3_mix 104 = .ok (.getfield 36, 3) := by decide +kernel
theorem dX3_mix_107 : decode cX3_mix 107 = .ok (.iconst 1, 1) := by decide +kernel
theorem dX3_mix_108 : decode cX3_mix 108 = .ok (.iaload, 1) := by decide +kernel
theorem dX3_mix_109 : decode cX3_mix 109 = .ok (.istore_n 2, 1) := by decide +kernel
theorem dX3_mix_110 : decode cX3_mix 110 = .ok (.aload_n 0, 1) := by decide +kernel
theorem dX3_mix_111 : decode cX3_mix 111 = .ok (.getfield 36, 3) := by decide +kernel
theorem dX3_mix_114 : decode cX3_mix 114 = .ok (.iconst 2, 1) := by decide +kernel
theorem dX3_mix_115 : decode cX3_mix 115 = .ok (.iaload, 1) := by decide +kernel
theorem dX3_mix_116 : decode cX3_mix 116 = .ok (.istore_n 3, 1) := by decide +kernel
theorem dX3_mix_117 : decode cX3_mix 117 = .ok (.aload_n 0, 1) := by decide +kernel
theorem dX3_mix_118 : decode cX3_mix 118 = .ok (.getfield 36, 3) := by decide +kernel
theorem dX3_mix_121 : decode cX3_mix 121 = .ok (.iconst 3, 1) := by decide +kernel
theorem dX3_mix_122 : decode cX3_mix 122 = .ok (.iaload, 1) := by decide +kernel
theorem dX3_mix_123 : decode cX3_mix 123 = .ok (.istore 4, 2) := by decide +kernel
theorem dX3_mix_125 : decode cX3_mix 125 = .ok (.aload_n 0, 1) := by decide +kernel
theorem dX3_mix_126 : decode cX3_mix 126 = .ok (.getfield 36, 3) := by decide +kernel
theorem dX3_mix_129 : decode cX3_mix 129 = .ok (.iconst 4, 1) := by decide +kernel
theorem dX3_mix_130 : decode cX3_mix 130 = .ok (.iaload, 1) := by decide +kernel
theorem dX3_mix_131 : decode cX3_mix 131 = .ok (.istore 5, 2) := by decide +kernel
theorem dX3_mix_133 : decode cX3_mix 133 = .ok (.aload_n 0, 1) := by decide +kernel
theorem dX3_mix_134 : decode cX3_mix 134 = .ok (.getfield 36, 3) := by decide +kernel
theorem dX3_mix_137 : decode cX3_mix 137 = .ok (.iconst 5, 1) := by decide +kernel
theorem dX3_mix_138 : decode cX3_mix 138 = .ok (.iaload, 1) := by decide +kernel
theorem dX3_mix_139 : decode cX3_mix 139 = .ok (.istore 6, 2) := by decide +kernel
theorem dX3_mix_141 : decode cX3_mix 141 = .ok (.aload_n 0, 1) := by decide +kernel
theorem dX3_mix_142 : decode cX3_mix 142 = .ok (.getfield 36, 3) := by decide +kernel
theorem dX3_mix_145 : decode cX3_mix 145 = .ok (.bipush 6, 2) := by decide +kernel
theorem dX3_mix_147 : decode cX3_mix 147 = .ok (.iaload, 1) := by decide +kernel
theorem dX3_mix_148 : decode cX3_mix 148 = .ok (.istore 7, 2) := by decide +kernel
theorem dX3_mix_150 : decode cX3_mix 150 = .ok (.aload_n 0, 1) := by decide +kernel
theorem dX3_mix_151 : decode cX3_mix 151 = .ok (.getfield 36, 3) := by decide +kernel
theorem dX3_mix_154 : decode cX3_mix 154 = .ok (.bipush 7, 2) := by decide +kernel
theorem dX3_mix_156 : decode cX3_mix 156 = .ok (.iaload, 1) := by decide +kernel
theorem dX3_mix_157 : decode cX3_mix 157 = .ok (.istore 8, 2) := by decide +kernel
theorem dX3_mix_159 : decode cX3_mix 159 = .ok (.iconst 0, 1) := by decide +kernel
theorem dX3_mix_160 : decode cX3_mix 160 = .ok (.istore 9, 2) := by decide +kernel
theorem dX3_mix_162 : decode cX3_mix 162 = .ok (.iload 9, 2) := by decide +kernel
theorem dX3_mix_164 : decode cX3_mix 164 = .ok (.bipush 64, 2) := by decide +kernel
theorem dX3_mix_166 : decode cX3_mix 166 = .ok (.if_icmp .ge 132, 3) := by decide +kernel
theorem dX3_mix_169 : decode cX3_mix 169 = .ok (.iload 8, 2) := by decide +kernel
theorem dX3_mix_171 : decode cX3_mix 171 = .ok (.iload 5, 2) := by decide +kernel
theorem dX3_mix_173 : decode cX3_mix 173 = .ok (.bipush 6, 2) := by decide +kernel
theorem dX3_mix_175 : decode cX3_mix 175 = .ok (.invokestatic 129, 3) := by decide +kernel
theorem dX3_mix_178 : decode cX3_mix 178 = .ok (.iload 5, 2) := by decide +kernel
theorem dX3_mix_180 : decode cX3_mix 180 = .ok (.bipush 11, 2) := by decide +kernel
theorem dX3_mix_182 : decode cX3_mix 182 = .ok (.invokestatic 129, 3) := by decide +kernel
theorem dX3_mix_185 : decode cX3_mix 185 = .ok (.ixor, 1) := by decide +kernel
theorem dX3_mix_186 : decode cX3_mix 186 = .ok (.iload 5, 2) := by decide +kernel
theorem dX3_mix_188 : decode cX3_mix 188 = .ok (.bipush 25, 2) := by decide +kernel
theorem dX3_mix_190 : decode cX3_mix 190 = .ok (.invokestatic 129, 3) := by decide +kernel
theorem dX3_mix_193 : decode cX3_mix 193 = .ok (.ixor, 1) := by decide +kernel
theorem dX3_mix_194 : decode cX3_mix 194 = .ok (.iadd, 1) := by decide +kernel
theorem dX3_mix_195 : decode cX3_mix 195 = .ok (.iload 5, 2) := by decide +kernel
theorem dX3_mix_197 : decode cX3_mix 197 = .ok (.iload 6, 2) := by decide +kernel
theorem dX3_mix_199 : decode cX3_mix 199 = .ok (.iand, 1) := by decide +kernel
theorem dX3_mix_200 : decode cX3_mix 200 = .ok (.iload 5, 2) := by decide +kernel
theorem dX3_mix_202 : decode cX3_mix 202 = .ok (.iconst (-1), 1) := by decide +kernel
theorem dX3_mix_203 : decode cX3_mix 203 = .ok (.ixor, 1) := by decide +kernel
theorem dX3_mix_204 : decode cX3_mix 204 = .ok (.iload 7, 2) := by decide +kernel
theorem dX3_mix_206 : decode cX3_mix 206 = .ok (.iand, 1) := by decide +kernel
theorem dX3_mix_207 : decode cX3_mix 207 = .ok (.ixor, 1) := by decide +kernel
theorem dX3_mix_208 : decode cX3_mix 208 = .ok (.iadd, 1) := by decide +kernel
theorem dX3_mix_209 : decode cX3_mix 209 = .ok (.aload_n 0, 1) := by decide +kernel
theorem dX3_mix_210 : decode cX3_mix 210 = .ok (.getfield 30, 3) := by decide +kernel
theorem dX3_mix_213 : decode cX3_mix 213 = .ok (.iload 9, 2) := by decide +kernel
theorem dX3_mix_215 : decode cX3_mix 215 = .ok (.iaload, 1) := by decide +kernel
theorem dX3_mix_216 : decode cX3_mix 216 = .ok (.iadd, 1) := by decide +kernel
theorem dX3_mix_217 : decode cX3_mix 217 = .ok (.aload_n 0, 1) := by decide +kernel
theorem dX3_mix_218 : decode cX3_mix 218 = .ok (.getfield 42, 3) := by decide +kernel
theorem dX3_mix_221 : decode cX3_mix 221 = .ok (.iload 9, 2) := by decide +kernel
theorem dX3_mix_223 : decode cX3_mix 223 = .ok (.iaload, 1) := by decide +kernel
theorem dX3_mix_224 : decode cX3_mix 224 = .ok (.iadd, 1) := by decide +kernel
theorem dX3_mix_225 : decode cX3_mix 225 = .ok (.istore 10, 2) := by decide +kernel
theorem dX3_mix_227 : decode cX3_mix 227 = .ok (.iload_n 1, 1) := by decide +kernel
theorem dX3_mix_228 : decode cX3_mix 228 = .ok (.iconst 2, 1) := by decide +kernel
theorem dX3_mix_229 : decode cX3_mix 229 = .ok (.invokestatic 129, 3) := by decide +kernel
theorem dX3_mix_232 : decode cX3_mix 232 = .ok (.iload_n 1, 1) := by decide +kernel
theorem dX3_mix_233 : decode cX3_mix 233 = .ok (.bipush 13, 2) := by decide +kernel
theorem dX3_mix_235 : decode cX3_mix 235 = .ok (.invokestatic 129, 3) := by decide +kernel
theorem dX3_mix_238 : decode cX3_mix 238 = .ok (.ixor, 1) := by decide +kernel
theorem dX3_mix_239 : decode cX3_mix 239 = .ok (.iload_n 1, 1) := by decide +kernel
theorem dX3_mix_240 : decode cX3_mix 240 = .ok (.bipush 22, 2) := by decide +kernel
theorem dX3_mix_242 : decode cX3_mix 242 = .ok (.invokestatic 129, 3) := by decide +kernel
theorem dX3_mix_245 : decode cX3_mix 245 = .ok (.ixor, 1) := by decide +kernel
theorem dX3_mix_246 : decode cX3_mix 246 = .ok (.iload_n 1, 1) := by decide +kernel
theorem dX3_mix_247 : decode cX3_mix 247 = .ok (.iload_n 2, 1) := by decide +kernel
theorem dX3_mix_248 : decode cX3_mix 248 = .ok (.iand, 1) := by decide +kernel
theorem dX3_mix_249 : decode cX3_mix 249 = .ok (.iload_n 1, 1) := by decide +kernel
theorem dX3_mix_250 : decode cX3_mix 250 = .ok (.iload_n 3, 1) := by decide +kernel
theorem dX3_mix_251 : decode cX3_mix 251 = .ok (.iand, 1) := by decide +kernel
theorem dX3_mix_252 : decode cX3_mix 252 = .ok (.ixor, 1) := by decide +kernel
theorem dX3_mix_253 : decode cX3_mix 253 = .ok (.iload_n 2, 1) := by decide +kernel
theorem dX3_mix_254 : decode cX3_mix 254 = .ok (.iload_n 3, 1) := by decide +kernel
theorem dX3_mix_255 : decode cX3_mix 255 = .ok (.iand, 1) := by decide +kernel
theorem dX3_mix_256 : decode cX3_mix 256 = .ok (.ixor, 1) := by decide +kernel
theorem dX3_mix_257 : decode cX3_mix 257 = .ok (.iadd, 1) := by decide +kernel
theorem dX3_mix_258 : decode cX3_mix 258 = .ok (.istore 11, 2) := by decide +kernel
theorem dX3_mix_260 : decode cX3_mix 260 = .ok (.iload 7, 2) := by decide +kernel
theorem dX3_mix_262 : decode cX3_mix 262 = .ok (.istore 8, 2) := by decide +kernel
theorem dX3_mix_264 : decode cX3_mix 264 = .ok (.iload 6, 2) := by decide +kernel
theorem dX3_mix_266 : decode cX3_mix 266 = .ok (.istore 7, 2) := by decide +kernel
theorem dX3_mix_268 : decode cX3_mix 268 = .ok (.iload 5, 2) := by decide +kernel
theorem dX3_mix_270 : decode cX3_mix 270 = .ok (.istore 6, 2) := by decide +kernel
theorem dX3_mix_272 : decode cX3_mix 272 = .ok (.iload 4, 2) := by decide +kernel
theorem dX3_mix_274 : decode cX3_mix 274 = .ok (.iload 10, 2) := by decide +kernel
theorem dX3_mix_276 : decode cX3_mix 276 = .ok (.iadd, 1) := by decide +kernel
theorem dX3_mix_277 : decode cX3_mix 277 = .ok (.istore 5, 2) := by decide +kernel
theorem dX3_mix_279 : decode cX3_mix 279 = .ok (.iload_n 3, 1) := by decide +kernel
theorem dX3_mix_280 : decode cX3_mix 280 = .ok (.istore 4, 2) := by decide +kernel
theorem dX3_mix_282 : decode cX3_mix 282 = .ok (.iload_n 2, 1) := by decide +kernel
theorem dX3_mix_283 : decode cX3_mix 283 = .ok (.istore_n 3, 1) := by decide +kernel
theorem dX3_mix_284 : decode cX3_mix 284 = .ok (.iload_n 1, 1) := by decide +kernel
theorem dX3_mix_285 : decode cX3_mix 285 = .ok (.istore_n 2, 1) := by decide +kernel
theorem dX3_mix_286 : decode cX3_mix 286 = .ok (.iload 10, 2) := by decide +kernel
theorem dX3_mix_288 : decode cX3_mix 288 = .ok (.iload 11, 2) := by decide +kernel
theorem dX3_mix_290 : decode cX3_mix 290 = .ok (.iadd, 1) := by decide +kernel
theorem dX3_mix_291 : decode cX3_mix 291 = .ok (.istore_n 1, 1) := by decide +kernel
theorem dX3_mix_292 : decode cX3_mix 292 = .ok (.iinc 9 1, 3) := by decide +kernel
theorem dX3_mix_295 : decode cX3_mix 295 = .ok (.goto (-133), 3) := by decide +kernel
theorem dX3_mix_298 : decode cX3_mix 298 = .ok (.aload_n 0, 1) := by decide +kernel
theorem dX3_mix_299 : decode cX3_mix 299 = .ok (.getfield 36, 3) := by decide +kernel
theorem dX3_mix_302 : decode cX3_mix 302 = .ok (.iconst 0, 1) := by decide +kernel
theorem dX3_mix_303 : decode cX3_mix 303 = .ok (.dup2, 1) := by decide +kernel
theorem dX3_mix_304 : decode cX3_mix 304 = .ok (.iaload, 1) := by decide +kernel
theorem dX3_mix_305 : decode cX3_mix 305 = .ok (.iload_n 1, 1) := by decide +kernel
theorem dX3_mix_306 : decode cX3_mix 306 = .ok (.iadd, 1) := by decide +kernel
theorem dX3_mix_307 : decode cX3_mix 307 = .ok (.iastore, 1) := by decide +kernel
theorem dX3_mix_308 : decode cX3_mix 308 = .ok (.aload_n 0, 1) := by decide +kernel
theorem dX3_mix_309 : decode cX3_mix 309 = .ok (.getfield 36, 3) := by decide +kernel
theorem dX3_mix_312 : decode cX3_mix 312 = .ok (.iconst 1, 1) := by decide +kernel
theorem dX3_mix_313 : decode cX3_mix 313 = .ok (.dup2, 1) := by decide +kernel
theorem dX3_mix_314 : decode cX3_mix 314 = .ok (.iaload, 1) := by decide +kernel
theorem dX3_mix_315 : decode cX3_mix 315 = .ok (.iload_n 2, 1) := by decide +kernel
theorem dX3_mix_316 : decode cX3_mix 316 = .ok (.iadd, 1) := by decide +kernel
theorem dX3_mix_317 : decode cX3_mix 317 = .ok (.iastore, 1) := by decide +kernel
theorem dX3_mix_318 : decode cX3_mix 318 = .ok (.aload_n 0, 1) := by decide +kernel
theorem dX3_mix_319 : decode cX3_mix 319 = .ok (.getfield 36, 3) := by decide +kernel
theorem dX3_mix_322 : decode cX3_mix 322 = .ok (.iconst 2, 1) := by decide +kernel
theorem dX3_mix_323 : decode cX3_mix 323 = .ok (.dup2, 1) := by decide +kernel
theorem dX3_mix_324 : decode cX3_mix 324 = .ok (.iaload, 1) := by decide +kernel
theorem dX3_mix_325 : decode cX3_mix 325 = .ok (.iload_n 3, 1) := by decide +kernel
theorem dX3_mix_326 : decode cX3_mix 326 = .ok (.iadd, 1) := by decide +kernel
theorem dX3_mix_327 : decode cX3_mix 327 = .ok (.iastore, 1) := by decide +kernel
theorem dX3_mix_328 : decode cX3_mix 328 = .ok (.aload_n 0, 1) := by decide +kernel
theorem dX3_mix_329 : decode cX3_mix 329 = .ok (.getfield 36, 3) := by decide +kernel
theorem dX3_mix_332 : decode cX3_mix 332 = .ok (.iconst 3, 1) := by decide +kernel
theorem dX3_mix_333 : decode cX3_mix 333 = .ok (.dup2, 1) := by decide +kernel
theorem dX3_mix_334 : decode cX3_mix 334 = .ok (.iaload, 1) := by decide +kernel
theorem dX3_mix_335 : decode cX3_mix 335 = .ok (.iload 4, 2) := by decide +kernel
theorem dX3_mix_337 : decode cX3_mix 337 = .ok (.iadd, 1) := by decide +kernel
theorem dX3_mix_338 : decode cX3_mix 338 = .ok (.iastore, 1) := by decide +kernel
theorem dX3_mix_339 : decode cX3_mix 339 = .ok (.aload_n 0, 1) := by decide +kernel
theorem dX3_mix_340 : decode cX3_mix 340 = .ok (.getfield 36, 3) := by decide +kernel
theorem dX3_mix_343 : decode cX3_mix 343 = .ok (.iconst 4, 1) := by decide +kernel
theorem dX3_mix_344 : decode cX3_mix 344 = .ok (.dup2, 1) := by decide +kernel
theorem dX3_mix_345 : decode cX3_mix 345 = .ok (.iaload, 1) := by decide +kernel
theorem dX3_mix_346 : decode cX3_mix 346 = .ok (.iload 5, 2) := by decide +kernel
theorem dX3_mix_348 : decode cX3_mix 348 = .ok (.iadd, 1) := by decide +kernel
theorem dX3_mix_349 : decode cX3_mix 349 = .ok (.iastore, 1) := by decide +kernel
theorem dX3_mix_350 : decode cX3_mix 350 = .ok (.aload_n 0, 1) := by decide +kernel
theorem dX3_mix_351 : decode cX3_mix 351 = .ok (.getfield 36, 3) := by decide +kernel
theorem dX3_mix_354 : decode cX3_mix 354 = .ok (.iconst 5, 1) := by decide +kernel
theorem dX3_mix_355 : decode cX3_mix 355 = .ok (.dup2, 1) := by decide +kernel
theorem dX3_mix_356 : decode cX3_mix 356 = .ok (.iaload, 1) := by decide +kernel
theorem dX3_mix_357 : decode cX3_mix 357 = .ok (.iload 6, 2) := by decide +kernel
theorem dX3_mix_359 : decode cX3_mix 359 = .ok (.iadd, 1) := by decide +kernel
theorem dX3_mix_360 : decode cX3_mix 360 = .ok (.iastore, 1) := by decide +kernel
theorem dX3_mix_361 : decode cX3_mix 361 = .ok (.aload_n 0, 1) := by decide +kernel
theorem dX3_mix_362 : decode cX3_mix 362 = .ok (.getfield 36, 3) := by decide +kernel
theorem dX3_mix_365 : decode cX3_mix 365 = .ok (.bipush 6, 2) := by decide +kernel
theorem dX3_mix_367 : decode cX3_mix 367 = .ok (.dup2, 1) := by decide +kernel
theorem dX3_mix_368 : decode cX3_mix 368 = .ok (.iaload, 1) := by decide +kernel
theorem dX3_mix_369 : decode cX3_mix 369 = .ok (.iload 7, 2) := by decide +kernel
theorem dX3_mix_371 : decode cX3_mix 371 = .ok (.iadd, 1) := by decide +kernel
theorem dX3_mix_372 : decode cX3_mix 372 = .ok (.iastore, 1) := by decide +kernel
theorem dX3_mix_373 : decode cX3_mix 373 = .ok (.aload_n 0, 1) := by decide +kernel
theorem dX3_mix_374 : decode cX3_mix 374 = .ok (.getfield 36, 3) := by decide +kernel
theorem dX3_mix_377 : decode cX3_mix 377 = .ok (.bipush 7, 2) := by decide +kernel
theorem dX3_mix_379 : decode cX3_mix 379 = .ok (.dup2, 1) := by decide +kernel
theorem dX3_mix_380 : decode cX3_mix 380 = .ok (.iaload, 1) := by decide +kernel
theorem dX3_mix_381 : decode cX3_mix 381 = .ok (.iload 8, 2) := by decide +kernel
end
section
theorem dX3_mix_383 : decode cX3_mix 383 = .ok (.iadd, 1) := by decide +kernel
theorem dX3_mix_384 : decode cX3_mix 384 = .ok (.iastore, 1) := by decide +kernel
theorem dX3_mix_385 : decode cX3_mix 385 = .ok (.return_, 1) := by decide +kernel
set_option maxRecDepth 20000 in
theorem ggX3_mixFirst_X3_mix : GoodIn wsX3_mixFirst wsX3_mix := goodIn_r _ [10, 3, 1, 11, 12, 13, 9, 14, 15, 16, 17, 18, 19, 20, 21, 22, 23, 24, 25, 26, 27, 28, 29, 30, 31, 32, 33] (by decide +kernel) (by decide +kernel)
set_option maxRecDepth 20000 in
theorem gX3_mixFirst_X3_mix : GoodIn wsX3_mixFirst (wsV RX3 133 RX3 yX3_mix wsX3_mix) := goodIn_app (goodIn_of _ (by decide +kernel)) ggX3_mixFirst_X3_mix
theorem dX3_mixFirst_0 : decode cX3_mixFirst 0 = .ok (.iconst 0, 1) := by decide +kernel
theorem dX3_mixFirst_1 : decode cX3_mixFirst 1 = .ok (.istore_n 1, 1) := by decide +kernel
theorem dX3_mixFirst_2 : decode cX3_mixFirst 2 = .ok (.iload_n 1, 1) := by decide +kernel
theorem dX3_mixFirst_3 : decode cX3_mixFirst 3 = .ok (.bipush 8, 2) := by decide +kernel
theorem dX3_mixFirst_5 : decode cX3_mixFirst 5 = .ok (.if_icmp .ge 21, 3) := by decide +kernel
theorem dX3_mixFirst_8 : decode cX3_mixFirst 8 = .ok (.aload_n 0, 1) := by decide +kernel
theorem dX3_mixFirst_9 : decode cX3_mixFirst 9 = .ok (.getfield 36, 3) := by decide +kernel
theorem dX3_mixFirst_12 : decode cX3_mixFirst 12 = .ok (.iload_n 1, 1) := by decide +kernel
theorem dX3_mixFirst_13 : decode cX3_mixFirst 13 = .ok (.aload_n 0, 1) := by decide +kernel
theorem dX3_mixFirst_14 : decode cX3_mixFirst 14 = .ok (.getfield 33, 3) := by decide +kernel
theorem dX3_mixFirst_17 : decode cX3_mixFirst 17 = .ok (.iload_n 1, 1) := by decide +kernel
theorem dX3_mixFirst_18 : decode cX3_mixFirst 18 = .ok (.iaload, 1) := by decide +kernel
theorem dX3_mixFirst_19 : decode cX3_mixFirst 19 = .ok (.iastore, 1) := by decide +kernel
theorem dX3_mixFirst_20 : decode cX3_mixFirst 20 = .ok (.iinc 1 1, 3) := by decide +kernel
theorem dX3_mixFirst_23 : decode cX3_mixFirst 23 = .ok (.goto (-21), 3) := by decide +kernel
theorem dX3_mixFirst_26 : decode cX3_mixFirst 26 = .ok (.iconst 0, 1) := by decide +kernel
theorem dX3_mixFirst_27 : decode cX3_mixFirst 27 = .ok (.istore_n 1, 1) := by decide +kernel
theorem dX3_mixFirst_28 : decode cX3_mixFirst 28 = .ok (.iload_n 1, 1) := by decide +kernel
theorem dX3_mixFirst_29 : decode cX3_mixFirst 29 = .ok (.bipush 16, 2) := by decide +kernel
theorem dX3_mixFirst_31 : decode cX3_mixFirst 31 = .ok (.if_icmp .ge 21, 3) := by decide +kernel
theorem dX3_mixFirst_34 : decode cX3_mixFirst 34 = .ok (.aload_n 0, 1) := by decide +kernel
theorem dX3_mixFirst_35 : decode cX3_mixFirst 35 = .ok (.getfield 42, 3) := by decide +kernel
theorem dX3_mixFirst_38 : decode cX3_mixFirst 38 = .ok (.iload_n 1, 1) := by decide +kernel
theorem dX3_mixFirst_39 : decode cX3_mixFirst 39 = .ok (.aload_n 0, 1) := by decide +kernel
theorem dX3_mixFirst_40 : decode cX3_mixFirst 40 = .ok (.getfield 45, 3) := by decide +kernel
theorem dX3_mixFirst_43 : decode cX3_mixFirst 43 = .ok (.iload_n 1, 1) := by decide +kernel
theorem dX3_mixFirst_44 : decode cX3_mixFirst 44 = .ok (.iaload, 1) := by decide +kernel
theorem dX3_mixFirst_45 : decode cX3_mixFirst 45 = .ok (.iastore, 1) := by decide +kernel
theorem dX3_mixFirst_46 : decode cX3_mixFirst 46 = .ok (.iinc 1 1, 3) := by decide +kernel
theorem dX3_mixFirst_49 : decode cX3_mixFirst 49 = .ok (.goto (-21), 3) := by decide +kernel
theorem dX3_mixFirst_52 : decode cX3_mixFirst 52 = .ok (.aload_n 0, 1) := by decide +kernel
theorem dX3_mixFirst_53 : decode cX3_mixFirst 53 = .ok (.invokevirtual 133, 3) := by decide +kernel
theorem dX3_mixFirst_56 : decode cX3_mixFirst 56 = .ok (.iconst 0, 1) := by decide +kernel
theorem dX3_mixFirst_57 : decode cX3_mixFirst 57 = .ok (.istore_n 1, 1) := by decide +kernel
theorem dX3_mixFirst_58 : decode cX3_mixFirst 58 = .ok (.iload_n 1, 1) := by decide +kernel
theorem dX3_mixFirst_59 : decode cX3_mixFirst 59 = .ok (.bipush 8, 2) := by decide +kernel
theorem dX3_mixFirst_61 : decode cX3_mixFirst 61 = .ok (.if_icmp .ge 21, 3) := by decide +kernel
theorem dX3_mixFirst_64 : decode cX3_mixFirst 64 = .ok (.aload_n 0, 1) := by decide +kernel
theorem dX3_mixFirst_65 : decode cX3_mixFirst 65 = .ok (.getfield 39, 3) := by decide +kernel
theorem dX3_mixFirst_68 : decode cX3_mixFirst 68 = .ok (.iload_n 1, 1) := by decide +kernel
theorem dX3_mixFirst_69 : decode cX3_mixFirst 69 = .ok (.aload_n 0, 1) := by decide +kernel
theorem dX3_mixFirst_70 : decode cX3_mixFirst 70 = .ok (.getfield 36, 3) := by decide +kernel
theorem dX3_mixFirst_73 : decode cX3_mixFirst 73 = .ok (.iload_n 1, 1) := by decide +kernel
theorem dX3_mixFirst_74 : decode cX3_mixFirst 74 = .ok (.iaload, 1) := by decide +kernel
theorem dX3_mixFirst_75 : decode cX3_mixFirst 75 = .ok (.iastore, 1) := by decide +kernel
theorem dX3_mixFirst_76 : decode cX3_mixFirst 76 = .ok (.iinc 1 1, 3) := by decide +kernel
theorem dX3_mixFirst_79 : decode cX3_mixFirst 79 = .ok (.goto (-21), 3) := by decide +kernel
theorem dX3_mixFirst_82 : decode cX3_mixFirst 82 = .ok (.return_, 1) := by decide +kernel
set_option maxRecDepth 20000 in
theorem ggX3_mixSecond_X3_mix : GoodIn wsX3_mixSecond wsX3_mix := goodIn_r _ [10, 3, 1, 11, 12, 13, 9, 14, 15, 16, 17, 18, 19, 20, 21, 22, 23, 24, 25, 26, 27, 28, 29, 30, 31, 32, 33] (by decide +kernel) (by decide +kernel)
set_option maxRecDepth 20000 in
theorem gX3_mixSecond_X3_mix : GoodIn wsX3_mixSecond (wsV RX3 133 RX3 yX3_mix wsX3_mix) := goodIn_app (goodIn_of _ (by decide +kernel)) ggX3_mixSecond_X3_mix
theorem dX3_mixSecond_0 : decode cX3_mixSecond 0 = .ok (.iconst 0, 1) := by decide +kernel
theorem dX3_mixSecond_1 : decode cX3_mixSecond 1 = .ok (.istore_n 1, 1) := by decide +kernel
theorem dX3_mixSecond_2 : decode cX3_mixSecond 2 = .ok (.iload_n 1, 1) := by decide +kernel
theorem dX3_mixSecond_3 : decode cX3_mixSecond 3 = .ok (.bipush 8, 2) := by decide +kernel
theorem dX3_mixSecond_5 : decode cX3_mixSecond 5 = .ok (.if_icmp .ge 21, 3) := by decide +kernel
theorem dX3_mixSecond_8 : decode cX3_mixSecond 8 = .ok (.aload_n 0, 1) := by decide +kernel
theorem dX3_mixSecond_9 : decode cX3_mixSecond 9 = .ok (.getfield 36, 3) := by decide +kernel
theorem dX3_mixSecond_12 : decode cX3_mixSecond 12 = .ok (.iload_n 1, 1) := by decide +kernel
theorem dX3_mixSecond_13 : decode cX3_mixSecond 13 = .ok (.aload_n 0, 1) := by decide +kernel
theorem dX3_mixSecond_14 : decode cX3_mixSecond 14 = .ok (.getfield 39, 3) := by decide +kernel
theorem dX3_mixSecond_17 : decode cX3_mixSecond 17 = .ok (.iload_n 1, 1) := by decide +kernel
theorem dX3_mixSecond_18 : decode cX3_mixSecond 18 = .ok (.iaload, 1) := by decide +kernel
theorem dX3_mixSecond_19 : decode cX3_mixSecond 19 = .ok (.iastore, 1) := by decide +kernel
theorem dX3_mixSecond_20 : decode cX3_mixSecond 20 = .ok (.iinc 1 1, 3) := by decide +kernel
theorem dX3_mixSecond_23 : decode cX3_mixSecond 23 = .ok (.goto (-21), 3) := by decide +kernel
theorem dX3_mixSecond_26 : decode cX3_mixSecond 26 = .ok (.iconst 0, 1) := by decide +kernel
theorem dX3_mixSecond_27 : decode cX3_mixSecond 27 = .ok (.istore_n 1, 1) := by decide +kernel
theorem dX3_mixSecond_28 : decode cX3_mixSecond 28 = .ok (.iload_n 1, 1) := by decide +kernel
theorem dX3_mixSecond_29 : decode cX3_mixSecond 29 = .ok (.bipush 16, 2) := by decide +kernel
theorem dX3_mixSecond_31 : decode cX3_mixSecond 31 = .ok (.if_icmp .ge 34, 3) := by decide +kernel
theorem dX3_mixSecond_34 : decode cX3_mixSecond 34 = .ok (.aload_n 0, 1) := by decide +kernel
theorem dX3_mixSecond_35 : decode cX3_mixSecond 35 = .ok (.getfield 42, 3) := by decide +kernel
theorem dX3_mixSecond_38 : decode cX3_mixSecond 38 = .ok (.iload_n 1, 1) := by decide +kernel
theorem dX3_mixSecond_39 : decode cX3_mixSecond 39 = .ok (.iload_n 1, 1) := by decide +kernel
theorem dX3_mixSecond_40 : decode cX3_mixSecond 40 = .ok (.bipush 10, 2) := by decide +kernel
theorem dX3_mixSecond_42 : decode cX3_mixSecond 42 = .ok (.if_icmp .ge 15, 3) := by decide +kernel
theorem dX3_mixSecond_45 : decode cX3_mixSecond 45 = .ok (.aload_n 0, 1) := by decide +kernel
theorem dX3_mixSecond_46 : decode cX3_mixSecond 46 = .ok (.getfield 45, 3) := by decide +kernel
theorem dX3_mixSecond_49 : decode cX3_mixSecond 49 = .ok (.bipush 16, 2) := by decide +kernel
theorem dX3_mixSecond_51 : decode cX3_mixSecond 51 = .ok (.iload_n 1, 1) := by decide +kernel
theorem dX3_mixSecond_52 : decode cX3_mixSecond 52 = .ok (.iadd, 1) := by decide +kernel
theorem dX3_mixSecond_53 : decode cX3_mixSecond 53 = .ok (.iaload, 1) := by decide +kernel
theorem dX3_mixSecond_54 : decode cX3_mixSecond 54 = .ok (.goto 4, 3) := by decide +kernel
theorem dX3_mixSecond_57 : decode cX3_mixSecond 57 = .ok (.iconst 0, 1) := by decide +kernel
theorem dX3_mixSecond_58 : decode cX3_mixSecond 58 = .ok (.iastore, 1) := by decide +kernel
theorem dX3_mixSecond_59 : decode cX3_mixSecond 59 = .ok (.iinc 1 1, 3) := by decide +kernel
theorem dX3_mixSecond_62 : decode cX3_mixSecond 62 = .ok (.goto (-34), 3) := by decide +kernel
theorem dX3_mixSecond_65 : decode cX3_mixSecond 65 = .ok (.aload_n 0, 1) := by decide +kernel
theorem dX3_mixSecond_66 : decode cX3_mixSecond 66 = .ok (.getfield 42, 3) := by decide +kernel
theorem dX3_mixSecond_69 : decode cX3_mixSecond 69 = .ok (.bipush 10, 2) := by decide +kernel
theorem dX3_mixSecond_71 : decode cX3_mixSecond 71 = .ok (.ldc 136, 2) := by decide +kernel
theorem dX3_mixSecond_73 : decode cX3_mixSecond 73 = .ok (.iastore, 1) := by decide +kernel
theorem dX3_mixSecond_74 : decode cX3_mixSecond 74 = .ok (.aload_n 0, 1) := by decide +kernel
theorem dX3_mixSecond_75 : decode cX3_mixSecond 75 = .ok (.getfield 42, 3) := by decide +kernel
theorem dX3_mixSecond_78 : decode cX3_mixSecond 78 = .ok (.bipush 15, 2) := by decide +kernel
theorem dX3_mixSecond_80 : decode cX3_mixSecond 80 = .ok (.sipush 832, 3) := by decide +kernel
theorem dX3_mixSecond_83 : decode cX3_mixSecond 83 = .ok (.iastore, 1) := by decide +kernel
theorem dX3_mixSecond_84 : decode cX3_mixSecond 84 = .ok (.aload_n 0, 1) := by decide +kernel
theorem dX3_mixSecond_85 : decode cX3_mixSecond 85 = .ok (.invokevirtual 133, 3) := by decide +kernel
theorem dX3_mixSecond_88 : decode cX3_mixSecond 88 = .ok (.return_, 1) := by decide +kernel
theorem dX3_zerosOf_0 : decode cX3_zerosOf 0 = .ok (.iconst 0, 1) := by decide +kernel
theorem dX3_zerosOf_1 : decode cX3_zerosOf 1 = .ok (.istore_n 1, 1) := by decide +kernel
theorem dX3_zerosOf_2 : decode cX3_zerosOf 2 = .ok (.iload_n 1, 1) := by decide +kernel
theorem dX3_zerosOf_3 : decode cX3_zerosOf 3 = .ok (.bipush 32, 2) := by decide +kernel
theorem dX3_zerosOf_5 : decode cX3_zerosOf 5 = .ok (.if_icmp .ge 15, 3) := by decide +kernel
theorem dX3_zerosOf_8 : decode cX3_zerosOf 8 = .ok (.iload_n 0, 1) := by decide +kernel
theorem dX3_zerosOf_9 : decode cX3_zerosOf 9 = .ok (.iload_n 1, 1) := by decide +kernel
theorem dX3_zerosOf_10 : decode cX3_zerosOf 10 = .ok (.ishl, 1) := by decide +kernel
theorem dX3_zerosOf_11 : decode cX3_zerosOf 11 = .ok (.ifCond .lt 9, 3) := by decide +kernel
theorem dX3_zerosOf_14 : decode cX3_zerosOf 14 = .ok (.iinc 1 1, 3) := by decide +kernel
theorem dX3_zerosOf_17 : decode cX3_zerosOf 17 = .ok (.goto (-15), 3) := by decide +kernel
theorem dX3_zerosOf_20 : decode cX3_zerosOf 20 = .ok (.iload_n 1, 1) := by decide +kernel
theorem dX3_zerosOf_21 : decode cX3_zerosOf 21 = .ok (.ireturn, 1) := by decide +kernel
set_option maxRecDepth 20000 in
theorem ggX3_zeros_X3_zerosOf : GoodIn wsX3_zeros wsX3_zerosOf := goodIn_r _ [5] (by decide +kernel) (by decide +kernel)
set_option maxRecDepth 20000 in
theorem gX3_zeros_X3_zerosOf : GoodIn wsX3_zeros (va_wsS RX3 137 yX3_zerosOf wsX3_zerosOf) := goodIn_app (goodIn_of _ (by decide +kernel)) ggX3_zeros_X3_zerosOf
theorem dX3_zeros_0 : decode cX3_zeros 0 = .ok (.iconst 0, 1) := by decide +kernel
theorem dX3_zeros_1 : decode cX3_zeros 1 = .ok (.istore_n 1, 1) := by decide +kernel
theorem dX3_zeros_2 : decode cX3_zeros 2 = .ok (.iconst 0, 1) := by decide +kernel
theorem dX3_zeros_3 : decode cX3_zeros 3 = .ok (.istore_n 2, 1) := by decide +kernel
theorem dX3_zeros_4 : decode cX3_zeros 4 = .ok (.iload_n 2, 1) := by decide +kernel
theorem dX3_zeros_5 : decode cX3_zeros 5 = .ok (.bipush 8, 2) := by decide +kernel
theorem dX3_zeros_7 : decode cX3_zeros 7 = .ok (.if_icmp .ge 21, 3) := by decide +kernel
theorem dX3_zeros_10 : decode cX3_zeros 10 = .ok (.aload_n 0, 1) := by decide +kernel
theorem dX3_zeros_11 : decode cX3_zeros 11 = .ok (.getfield 36, 3) := by decide +kernel
theorem dX3_zeros_14 : decode cX3_zeros 14 = .ok (.iload_n 2, 1) := by decide +kernel
theorem dX3_zeros_15 : decode cX3_zeros 15 = .ok (.iaload, 1) := by decide +kernel
theorem dX3_zeros_16 : decode cX3_zeros 16 = .ok (.ifCond .ne 12, 3) := by decide +kernel
theorem dX3_zeros_19 : decode cX3_zeros 19 = .ok (.iinc 1 32, 3) := by decide +kernel
theorem dX3_zeros_22 : decode cX3_zeros 22 = .ok (.iinc 2 1, 3) := by decide +kernel
theorem dX3_zeros_25 : decode cX3_zeros 25 = .ok (.goto (-21), 3) := by decide +kernel
theorem dX3_zeros_28 : decode cX3_zeros 28 = .ok (.iload_n 2, 1) := by decide +kernel
theorem dX3_zeros_29 : decode cX3_zeros 29 = .ok (.bipush 8, 2) := by decide +kernel
theorem dX3_zeros_31 : decode cX3_zeros 31 = .ok (.if_icmp .ge 17, 3) := by decide +kernel
theorem dX3_zeros_34 : decode cX3_zeros 34 = .ok (.iload_n 1, 1) := by decide +kernel
theorem dX3_zeros_35 : decode cX3_zeros 35 = .ok (.aload_n 0, 1) := by decide +kernel
theorem dX3_zeros_36 : decode cX3_zeros 36 = .ok (.getfield 36, 3) := by decide +kernel
theorem dX3_zeros_39 : decode cX3_zeros 39 = .ok (.iload_n 2, 1) := by decide +kernel
theorem dX3_zeros_40 : decode cX3_zeros 40 = .ok (.iaload, 1) := by decide +kernel
theorem dX3_zeros_41 : decode cX3_zeros 41 = .ok (.invokestatic 137, 3) := by decide +kernel
theorem dX3_zeros_44 : decode cX3_zeros 44 = .ok (.iadd, 1) := by decide +kernel
theorem dX3_zeros_45 : decode cX3_zeros 45 = .ok (.goto 4, 3) := by decide +kernel
theorem dX3_zeros_48 : decode cX3_zeros 48 = .ok (.iload_n 1, 1) := by decide +kernel
theorem dX3_zeros_49 : decode cX3_zeros 49 = .ok (.ireturn, 1) := by decide +kernel
theorem dX3_lowest_0 : decode cX3_lowest 0 = .ok (.iload_n 0, 1) := by decide +kernel
theorem dX3_lowest_1 : decode cX3_lowest 1 = .ok (.iload_n 0, 1) := by decide +kernel
theorem dX3_lowest_2 : decode cX3_lowest 2 = .ok (.ineg, 1) := by decide +kernel
theorem dX3_lowest_3 : decode cX3_lowest 3 = .ok (.iand, 1) := by decide +kernel
theorem dX3_lowest_4 : decode cX3_lowest 4 = .ok (.ireturn, 1) := by decide +kernel
theorem dX3_hashCell_0 : decode cX3_hashCell 0 = .ok (.aload_n 0, 1) := by decide +kernel
theorem dX3_hashCell_1 : decode cX3_hashCell 1 = .ok (.getfield 7, 3) := by decide +kernel
theorem dX3_hashCell_4 : decode cX3_hashCell 4 = .ok (.bipush 34, 2) := by decide +kernel
theorem dX3_hashCell_6 : decode cX3_hashCell 6 = .ok (.iload_n 1, 1) := by decide +kernel
theorem dX3_hashCell_7 : decode cX3_hashCell 7 = .ok (.imul, 1) := by decide +kernel
theorem dX3_hashCell_8 : decode cX3_hashCell 8 = .ok (.bipush 26, 2) := by decide +kernel
theorem dX3_hashCell_10 : decode cX3_hashCell 10 = .ok (.iadd, 1) := by decide +kernel
theorem dX3_hashCell_11 : decode cX3_hashCell 11 = .ok (.iload_n 2, 1) := by decide +kernel
theorem dX3_hashCell_12 : decode cX3_hashCell 12 = .ok (.iadd, 1) := by decide +kernel
theorem dX3_hashCell_13 : decode cX3_hashCell 13 = .ok (.iaload, 1) := by decide +kernel
theorem dX3_hashCell_14 : decode cX3_hashCell 14 = .ok (.ireturn, 1) := by decide +kernel
set_option maxRecDepth 20000 in
theorem ggX3_draft_X3_hashCell : GoodIn wsX3_draft wsX3_hashCell := goodIn_r _ [10, 11, 15, 16, 17, 18, 19, 20, 21, 22, 23, 24, 25, 26, 27, 28, 29, 30, 31, 32, 33] (by decide +kernel) (by decide +kernel)
set_option maxRecDepth 20000 in
theorem gX3_draft_X3_hashCell : GoodIn wsX3_draft (wsV RX3 144 RX3 yX3_hashCell wsX3_hashCell) := goodIn_app (goodIn_of _ (by decide +kernel)) ggX3_draft_X3_hashCell
set_option maxRecDepth 20000 in
theorem ggX3_draft_X3_lowest : GoodIn wsX3_draft wsX3_lowest := goodIn_r _ [14] (by decide +kernel) (by decide +kernel)
set_option maxRecDepth 20000 in
theorem gX3_draft_X3_lowest : GoodIn wsX3_draft (va_wsS RX3 147 yX3_lowest wsX3_lowest) := goodIn_app (goodIn_of _ (by decide +kernel)) ggX3_draft_X3_lowest
theorem dX3_draft_0 : decode cX3_draft 0 = .ok (.iconst 0, 1) := by decide +kernel
theorem dX3_draft_1 : decode cX3_draft 1 = .ok (.istore_n 1, 1) := by decide +kernel
theorem dX3_draft_2 : decode cX3_draft 2 = .ok (.iload_n 1, 1) := by decide +kernel
theorem dX3_draft_3 : decode cX3_draft 3 = .ok (.bipush 8, 2) := by decide +kernel
theorem dX3_draft_5 : decode cX3_draft 5 = .ok (.if_icmp .ge 101, 3) := by decide +kernel
theorem dX3_draft_8 : decode cX3_draft 8 = .ok (.aload_n 0, 1) := by decide +kernel
theorem dX3_draft_9 : decode cX3_draft 9 = .ok (.getfield 45, 3) := by decide +kernel
theorem dX3_draft_12 : decode cX3_draft 12 = .ok (.iload_n 1, 1) := by decide +kernel
theorem dX3_draft_13 : decode cX3_draft 13 = .ok (.aload_n 0, 1) := by decide +kernel
theorem dX3_draft_14 : decode cX3_draft 14 = .ok (.getfield 141, 3) := by decide +kernel
theorem dX3_draft_17 : decode cX3_draft 17 = .ok (.ifCond .ne 7, 3) := by decide +kernel
theorem dX3_draft_20 : decode cX3_draft 20 = .ok (.iconst 0, 1) := by decide +kernel
theorem dX3_draft_21 : decode cX3_draft 21 = .ok (.goto 14, 3) := by decide +kernel
theorem dX3_draft_24 : decode cX3_draft 24 = .ok (.aload_n 0, 1) := by decide +kernel
theorem dX3_draft_25 : decode cX3_draft 25 = .ok (.aload_n 0, 1) := by decide +kernel
theorem dX3_draft_26 : decode cX3_draft 26 = .ok (.getfield 141, 3) := by decide +kernel
theorem dX3_draft_29 : decode cX3_draft 29 = .ok (.iconst 1, 1) := by decide +kernel
theorem dX3_draft_30 : decode cX3_draft 30 = .ok (.isub, 1) := by decide +kernel
theorem dX3_draft_31 : decode cX3_draft 31 = .ok (.iload_n 1, 1) := by decide +kernel
theorem dX3_draft_32 : decode cX3_draft 32 = .ok (.invokevirtual 144, 3) := by decide +kernel
theorem dX3_draft_35 : decode cX3_draft 35 = .ok (.iastore, 1) := by decide +kernel
theorem dX3_draft_36 : decode cX3_draft 36 = .ok (.aload_n 0, 1) := by decide +kernel
theorem dX3_draft_37 : decode cX3_draft 37 = .ok (.getfield 45, 3) := by decide +kernel
theorem dX3_draft_40 : decode cX3_draft 40 = .ok (.bipush 8, 2) := by decide +kernel
theorem dX3_draft_42 : decode cX3_draft 42 = .ok (.iload_n 1, 1) := by decide +kernel
theorem dX3_draft_43 : decode cX3_draft 43 = .ok (.iadd, 1) := by decide +kernel
theorem dX3_draft_44 : decode cX3_draft 44 = .ok (.aload_n 0, 1) := by decide +kernel
theorem dX3_draft_45 : decode cX3_draft 45 = .ok (.getfield 141, 3) := by decide +kernel
theorem dX3_draft_48 : decode cX3_draft 48 = .ok (.ifCond .ne 7, 3) := by decide +kernel
theorem dX3_draft_51 : decode cX3_draft 51 = .ok (.iconst 0, 1) := by decide +kernel
theorem dX3_draft_52 : decode cX3_draft 52 = .ok (.goto 20, 3) := by decide +kernel
theorem dX3_draft_55 : decode cX3_draft 55 = .ok (.aload_n 0, 1) := by decide +kernel
theorem dX3_draft_56 : decode cX3_draft 56 = .ok (.aload_n 0, 1) := by decide +kernel
theorem dX3_draft_57 : decode cX3_draft 57 = .ok (.getfield 141, 3) := by decide +kernel
theorem dX3_draft_60 : decode cX3_draft 60 = .ok (.aload_n 0, 1) := by decide +kernel
theorem dX3_draft_61 : decode cX3_draft 61 = .ok (.getfield 141, 3) := by decide +kernel
theorem dX3_draft_64 : decode cX3_draft 64 = .ok (.invokestatic 147, 3) := by decide +kernel
theorem dX3_draft_67 : decode cX3_draft 67 = .ok (.isub, 1) := by decide +kernel
theorem dX3_draft_68 : decode cX3_draft 68 = .ok (.iload_n 1, 1) := by decide +kernel
theorem dX3_draft_69 : decode cX3_draft 69 = .ok (.invokevirtual 144, 3) := by decide +kernel
theorem dX3_draft_72 : decode cX3_draft 72 = .ok (.iastore, 1) := by decide +kernel
theorem dX3_draft_73 : decode cX3_draft 73 = .ok (.aload_n 0, 1) := by decide +kernel
theorem dX3_draft_74 : decode cX3_draft 74 = .ok (.getfield 45, 3) := by decide +kernel
theorem dX3_draft_77 : decode cX3_draft 77 = .ok (.bipush 16, 2) := by decide +kernel
theorem dX3_draft_79 : decode cX3_draft 79 = .ok (.iload_n 1, 1) := by decide +kernel
theorem dX3_draft_80 : decode cX3_draft 80 = .ok (.iadd, 1) := by decide +kernel
theorem dX3_draft_81 : decode cX3_draft 81 = .ok (.iload_n 1, 1) := by decide +kernel
theorem dX3_draft_82 : decode cX3_draft 82 = .ok (.aload_n 0, 1) := by decide +kernel
theorem dX3_draft_83 : decode cX3_draft 83 = .ok (.getfield 150, 3) := by decide +kernel
theorem dX3_draft_86 : decode cX3_draft 86 = .ok (.if_icmp .ge 12, 3) := by decide +kernel
theorem dX3_draft_89 : decode cX3_draft 89 = .ok (.aload_n 0, 1) := by decide +kernel
theorem dX3_draft_90 : decode cX3_draft 90 = .ok (.getfield 16, 3) := by decide +kernel
theorem dX3_draft_93 : decode cX3_draft 93 = .ok (.iload_n 1, 1) := by decide +kernel
theorem dX3_draft_94 : decode cX3_draft 94 = .ok (.iaload, 1) := by decide +kernel
theorem dX3_draft_95 : decode cX3_draft 95 = .ok (.goto 4, 3) := by decide +kernel
theorem dX3_draft_98 : decode cX3_draft 98 = .ok (.iconst 0, 1) := by decide +kernel
theorem dX3_draft_99 : decode cX3_draft 99 = .ok (.iastore, 1) := by decide +kernel
theorem dX3_draft_100 : decode cX3_draft 100 = .ok (.iinc 1 1, 3) := by decide +kernel
theorem dX3_draft_103 : decode cX3_draft 103 = .ok (.goto (-101), 3) := by decide +kernel
theorem dX3_draft_106 : decode cX3_draft 106 = .ok (.aload_n 0, 1) := by decide +kernel
theorem dX3_draft_107 : decode cX3_draft 107 = .ok (.getfield 45, 3) := by decide +kernel
theorem dX3_draft_110 : decode cX3_draft 110 = .ok (.bipush 24, 2) := by decide +kernel
theorem dX3_draft_112 : decode cX3_draft 112 = .ok (.bipush 16, 2) := by decide +kernel
theorem dX3_draft_114 : decode cX3_draft 114 = .ok (.aload_n 0, 1) := by decide +kernel
theorem dX3_draft_115 : decode cX3_draft 115 = .ok (.getfield 48, 3) := by decide +kernel
theorem dX3_draft_118 : decode cX3_draft 118 = .ok (.imul, 1) := by decide +kernel
theorem dX3_draft_119 : decode cX3_draft 119 = .ok (.aload_n 0, 1) := by decide +kernel
theorem dX3_draft_120 : decode cX3_draft 120 = .ok (.getfield 150, 3) := by decide +kernel
theorem dX3_draft_123 : decode cX3_draft 123 = .ok (.iadd, 1) := by decide +kernel
theorem dX3_draft_124 : decode cX3_draft 124 = .ok (.iastore, 1) := by decide +kernel
theorem dX3_draft_125 : decode cX3_draft 125 = .ok (.return_, 1) := by decide +kernel
theorem dX3_forget_0 : decode cX3_forget 0 = .ok (.aload_n 0, 1) := by decide +kernel
theorem dX3_forget_1 : decode cX3_forget 1 = .ok (.iconst 0, 1) := by decide +kernel
theorem dX3_forget_2 : decode cX3_forget 2 = .ok (.putfield 153, 3) := by decide +kernel
theorem dX3_forget_5 : decode cX3_forget 5 = .ok (.aload_n 0, 1) := by decide +kernel
theorem dX3_forget_6 : decode cX3_forget 6 = .ok (.iconst (-1), 1) := by decide +kernel
theorem dX3_forget_7 : decode cX3_forget 7 = .ok (.putfield 19, 3) := by decide +kernel
theorem dX3_forget_10 : decode cX3_forget 10 = .ok (.return_, 1) := by decide +kernel
set_option maxRecDepth 20000 in
theorem ggX3_put_X3_forget : GoodIn wsX3_put wsX3_forget := goodIn_r _ [7, 8, 9, 10, 11, 12, 13, 14, 15, 16, 17, 18, 19, 20, 21, 22, 23, 24, 25, 26, 27, 28] (by decide +kernel) (by decide +kernel)
set_option maxRecDepth 20000 in
theorem gX3_put_X3_forget : GoodIn wsX3_put (wsV RX3 156 RX3 yX3_forget wsX3_forget) := goodIn_app (goodIn_of _ (by decide +kernel)) ggX3_put_X3_forget
theorem dX3_put_0 : decode cX3_put 0 = .ok (.aload_n 0, 1) := by decide +kernel
theorem dX3_put_1 : decode cX3_put 1 = .ok (.getfield 150, 3) := by decide +kernel
theorem dX3_put_4 : decode cX3_put 4 = .ok (.bipush 8, 2) := by decide +kernel
theorem dX3_put_6 : decode cX3_put 6 = .ok (.if_icmp .ne 6, 3) := by decide +kernel
theorem dX3_put_9 : decode cX3_put 9 = .ok (.bipush (-3), 2) := by decide +kernel
theorem dX3_put_11 : decode cX3_put 11 = .ok (.ireturn, 1) := by decide +kernel
theorem dX3_put_12 : decode cX3_put 12 = .ok (.aload_n 0, 1) := by decide +kernel
theorem dX3_put_13 : decode cX3_put 13 = .ok (.getfield 16, 3) := by decide +kernel
theorem dX3_put_16 : decode cX3_put 16 = .ok (.aload_n 0, 1) := by decide +kernel
theorem dX3_put_17 : decode cX3_put 17 = .ok (.getfield 150, 3) := by decide +kernel
theorem dX3_put_20 : decode cX3_put 20 = .ok (.iload_n 1, 1) := by decide +kernel
theorem dX3_put_21 : decode cX3_put 21 = .ok (.iastore, 1) := by decide +kernel
theorem dX3_put_22 : decode cX3_put 22 = .ok (.aload_n 0, 1) := by decide +kernel
theorem dX3_put_23 : decode cX3_put 23 = .ok (.dup, 1) := by decide +kernel
theorem dX3_put_24 : decode cX3_put 24 = .ok (.getfield 150, 3) := by decide +kernel
theorem dX3_put_27 : decode cX3_put 27 = .ok (.iconst 1, 1) := by decide +kernel
theorem dX3_put_28 : decode cX3_put 28 = .ok (.iadd, 1) := by decide +kernel
theorem dX3_put_29 : decode cX3_put 29 = .ok (.putfield 150, 3) := by decide +kernel
theorem dX3_put_32 : decode cX3_put 32 = .ok (.aload_n 0, 1) := by decide +kernel
theorem dX3_put_33 : decode cX3_put 33 = .ok (.invokevirtual 156, 3) := by decide +kernel
theorem dX3_put_36 : decode cX3_put 36 = .ok (.aload_n 0, 1) := by decide +kernel
theorem dX3_put_37 : decode cX3_put 37 = .ok (.getfield 150, 3) := by decide +kernel
theorem dX3_put_40 : decode cX3_put 40 = .ok (.ireturn, 1) := by decide +kernel
set_option maxRecDepth 20000 in
theorem ggX3_takeBack_X3_forget : GoodIn wsX3_takeBack wsX3_forget := goodIn_r _ [6, 7, 8, 9, 10, 11, 12, 13, 14, 15, 16, 17, 18, 19, 20, 21, 22, 23, 24, 25, 26, 27] (by decide +kernel) (by decide +kernel)
set_option maxRecDepth 20000 in
theorem gX3_takeBack_X3_forget : GoodIn wsX3_takeBack (wsV RX3 156 RX3 yX3_forget wsX3_forget) := goodIn_app (goodIn_of _ (by decide +kernel)) ggX3_takeBack_X3_forget
theorem dX3_takeBack_0 : decode cX3_takeBack 0 = .ok (.iload_n 1, 1) := by decide +kernel
theorem dX3_takeBack_1 : decode cX3_takeBack 1 = .ok (.iconst 1, 1) := by decide +kernel
theorem dX3_takeBack_2 : decode cX3_takeBack 2 = .ok (.if_icmp .lt 11, 3) := by decide +kernel
theorem dX3_takeBack_5 : decode cX3_takeBack 5 = .ok (.iload_n 1, 1) := by decide +kernel
theorem dX3_takeBack_6 : decode cX3_takeBack 6 = .ok (.aload_n 0, 1) := by decide +kernel
theorem dX3_takeBack_7 : decode cX3_takeBack 7 = .ok (.getfield 150, 3) := by decide +kernel
theorem dX3_takeBack_10 : decode cX3_takeBack 10 = .ok (.if_icmp .le 6, 3) := by decide +kernel
theorem dX3_takeBack_13 : decode cX3_takeBack 13 = .ok (.bipush (-2), 2) := by decide +kernel
theorem dX3_takeBack_15 : decode cX3_takeBack 15 = .ok (.ireturn, 1) := by decide +kernel
theorem dX3_takeBack_16 : decode cX3_takeBack 16 = .ok (.aload_n 0, 1) := by decide +kernel
theorem dX3_takeBack_17 : decode cX3_takeBack 17 = .ok (.dup, 1) := by decide +kernel
theorem dX3_takeBack_18 : decode cX3_takeBack 18 = .ok (.getfield 150, 3) := by decide +kernel
theorem dX3_takeBack_21 : decode cX3_takeBack 21 = .ok (.iload_n 1, 1) := by decide +kernel
theorem dX3_takeBack_22 : decode cX3_takeBack 22 = .ok (.isub, 1) := by decide +kernel
theorem dX3_takeBack_23 : decode cX3_takeBack 23 = .ok (.putfield 150, 3) := by decide +kernel
theorem dX3_takeBack_26 : decode cX3_takeBack 26 = .ok (.aload_n 0, 1) := by decide +kernel
theorem dX3_takeBack_27 : decode cX3_takeBack 27 = .ok (.invokevirtual 156, 3) := by decide +kernel
theorem dX3_takeBack_30 : decode cX3_takeBack 30 = .ok (.aload_n 0, 1) := by decide +kernel
theorem dX3_takeBack_31 : decode cX3_takeBack 31 = .ok (.getfield 150, 3) := by decide +kernel
theorem dX3_takeBack_34 : decode cX3_takeBack 34 = .ok (.ireturn, 1) := by decide +kernel
theorem dX3_pending_0 : decode cX3_pending 0 = .ok (.iload_n 1, 1) := by decide +kernel
theorem dX3_pending_1 : decode cX3_pending 1 = .ok (.ifCond .lt 20, 3) := by decide +kernel
theorem dX3_pending_4 : decode cX3_pending 4 = .ok (.iload_n 1, 1) := by decide +kernel
theorem dX3_pending_5 : decode cX3_pending 5 = .ok (.aload_n 0, 1) := by decide +kernel
theorem dX3_pending_6 : decode cX3_pending 6 = .ok (.getfield 150, 3) := by decide +kernel
theorem dX3_pending_9 : decode cX3_pending 9 = .ok (.if_icmp .ge 12, 3) := by decide +kernel
theorem dX3_pending_12 : decode cX3_pending 12 = .ok (.aload_n 0, 1) := by decide +kernel
theorem dX3_pending_13 : decode cX3_pending 13 = .ok (.getfield 16, 3) := by decide +kernel
theorem dX3_pending_16 : decode cX3_pending 16 = .ok (.iload_n 1, 1) := by decide +kernel
theorem dX3_pending_17 : decode cX3_pending 17 = .ok (.iaload, 1) := by decide +kernel
theorem dX3_pending_18 : decode cX3_pending 18 = .ok (.goto 4, 3) := by decide +kernel
theorem dX3_pending_21 : decode cX3_pending 21 = .ok (.iconst 0, 1) := by decide +kernel
theorem dX3_pending_22 : decode cX3_pending 22 = .ok (.ireturn, 1) := by decide +kernel
set_option maxRecDepth 20000 in
theorem ggX3_difficulty_X3_forget : GoodIn wsX3_difficulty wsX3_forget := goodIn_r _ [6, 7, 8, 9, 10, 11, 12, 13, 14, 15, 16, 17, 18, 19, 20, 21, 22, 23, 24, 25, 26, 27] (by decide +kernel) (by decide +kernel)
set_option maxRecDepth 20000 in
theorem gX3_difficulty_X3_forget : GoodIn wsX3_difficulty (wsV RX3 156 RX3 yX3_forget wsX3_forget) := goodIn_app (goodIn_of _ (by decide +kernel)) ggX3_difficulty_X3_forget
theorem dX3_difficulty_0 : decode cX3_difficulty 0 = .ok (.iload_n 1, 1) := by decide +kernel
theorem dX3_difficulty_1 : decode cX3_difficulty 1 = .ok (.ifCond .lt 9, 3) := by decide +kernel
theorem dX3_difficulty_4 : decode cX3_difficulty 4 = .ok (.iload_n 1, 1) := by decide +kernel
theorem dX3_difficulty_5 : decode cX3_difficulty 5 = .ok (.bipush 20, 2) := by decide +kernel
theorem dX3_difficulty_7 : decode cX3_difficulty 7 = .ok (.if_icmp .le 6, 3) := by decide +kernel
theorem dX3_difficulty_10 : decode cX3_difficulty 10 = .ok (.bipush (-2), 2) := by decide +kernel
theorem dX3_difficulty_12 : decode cX3_difficulty 12 = .ok (.ireturn, 1) := by decide +kernel
theorem dX3_difficulty_13 : decode cX3_difficulty 13 = .ok (.aload_n 0, 1) := by decide +kernel
theorem dX3_difficulty_14 : decode cX3_difficulty 14 = .ok (.getfield 48, 3) := by decide +kernel
theorem dX3_difficulty_17 : decode cX3_difficulty 17 = .ok (.istore_n 2, 1) := by decide +kernel
theorem dX3_difficulty_18 : decode cX3_difficulty 18 = .ok (.aload_n 0, 1) := by decide +kernel
theorem dX3_difficulty_19 : decode cX3_difficulty 19 = .ok (.iload_n 1, 1) := by decide +kernel
theorem dX3_difficulty_20 : decode cX3_difficulty 20 = .ok (.putfield 48, 3) := by decide +kernel
theorem dX3_difficulty_23 : decode cX3_difficulty 23 = .ok (.aload_n 0, 1) := by decide +kernel
theorem dX3_difficulty_24 : decode cX3_difficulty 24 = .ok (.invokevirtual 156, 3) := by decide +kernel
theorem dX3_difficulty_27 : decode cX3_difficulty 27 = .ok (.iload_n 2, 1) := by decide +kernel
theorem dX3_difficulty_28 : decode cX3_difficulty 28 = .ok (.ireturn, 1) := by decide +kernel
set_option maxRecDepth 20000 in
theorem ggX3_mine_X3_draft : GoodIn wsX3_mine wsX3_draft := goodIn_r _ [10, 4, 11, 12, 13, 5, 14, 15, 16, 9, 17, 18, 19, 20, 21, 50, 51, 52, 53, 54, 55, 56, 57, 58, 59, 60, 61, 62, 63, 64, 65, 66, 67, 68] (by decide +kernel) (by decide +kernel)
set_option maxRecDepth 20000 in
theorem gX3_mine_X3_draft : GoodIn wsX3_mine (wsV RX3 160 RX3 yX3_draft wsX3_draft) := goodIn_app (goodIn_of _ (by decide +kernel)) ggX3_mine_X3_draft
set_option maxRecDepth 20000 in
theorem ggX3_mine_X3_mixFirst : GoodIn wsX3_mine wsX3_mixFirst := goodIn_r _ [25, 26, 27, 28, 4, 29, 30, 31, 32, 9, 33, 34, 35, 36, 37, 50, 51, 52, 53, 54, 55, 56, 57, 58, 59, 60, 61, 62, 63, 64, 65, 66, 67, 68] (by decide +kernel) (by decide +kernel)
set_option maxRecDepth 20000 in
theorem gX3_mine_X3_mixFirst : GoodIn wsX3_mine (wsV RX3 163 RX3 yX3_mixFirst wsX3_mixFirst) := goodIn_app (goodIn_of _ (by decide +kernel)) ggX3_mine_X3_mixFirst
set_option maxRecDepth 20000 in
theorem ggX3_mine_X3_mixSecond : GoodIn wsX3_mine wsX3_mixSecond := goodIn_r _ [41, 26, 29, 28, 4, 42, 30, 31, 32, 9, 33, 34, 35, 36, 37, 50, 51, 52, 53, 54, 55, 56, 57, 58, 59, 60, 61, 62, 63, 64, 65, 66, 67, 68] (by decide +kernel) (by decide +kernel)
set_option maxRecDepth 20000 in
theorem gX3_mine_X3_mixSecond : GoodIn wsX3_mine (wsV RX3 166 RX3 yX3_mixSecond wsX3_mixSecond) := goodIn_app (goodIn_of _ (by decide +kernel)) ggX3_mine_X3_mixSecond
set_option maxRecDepth 20000 in
theorem ggX3_mine_X3_zeros : GoodIn wsX3_mine wsX3_zeros := goodIn_r _ [46, 26, 47, 48, 9, 49, 50, 51, 52, 53, 54, 55, 56, 57, 58, 59, 60, 61, 62, 63, 64, 65, 66, 67, 68] (by decide +kernel) (by decide +kernel)
set_option maxRecDepth 20000 in
theorem gX3_mine_X3_zeros : GoodIn wsX3_mine (wsV RX3 169 RX3 yX3_zeros wsX3_zeros) := goodIn_app (goodIn_of _ (by decide +kernel)) ggX3_mine_X3_zeros
theorem dX3_mine_0 : decode cX3_mine 0 = .ok (.iload_n 1, 1) := by decide +kernel
theorem dX3_mine_1 : decode cX3_mine 1 = .ok (.iconst 1, 1) := by decide +kernel
theorem dX3_mine_2 : decode cX3_mine 2 = .ok (.if_icmp .lt 10, 3) := by decide +kernel
theorem dX3_mine_5 : decode cX3_mine 5 = .ok (.iload_n 1, 1) := by decide +kernel
theorem dX3_mine_6 : decode cX3_mine 6 = .ok (.sipush 3000, 3) := by decide +kernel
theorem dX3_mine_9 : decode cX3_mine 9 = .ok (.if_icmp .le 6, 3) := by decide +kernel
theorem dX3_mine_12 : decode cX3_mine 12 = .ok (.bipush (-2), 2) := by decide +kernel
theorem dX3_mine_14 : decode cX3_mine 14 = .ok (.ireturn, 1) := by decide +kernel
theorem dX3_mine_15 : decode cX3_mine 15 = .ok (.aload_n 0, 1) := by decide +kernel
theorem dX3_mine_16 : decode cX3_mine 16 = .ok (.getfield 19, 3) := by decide +kernel
theorem dX3_mine_19 : decode cX3_mine 19 = .ok (.ifCond .lt 8, 3) := by decide +kernel
theorem dX3_mine_22 : decode cX3_mine 22 = .ok (.aload_n 0, 1) := by decide +kernel
theorem dX3_mine_23 : decode cX3_mine 23 = .ok (.getfield 19, 3) := by decide +kernel
theorem dX3_mine_26 : decode cX3_mine 26 = .ok (.ireturn, 1) := by decide +kernel
theorem dX3_mine_27 : decode cX3_mine 27 = .ok (.aload_n 0, 1) := by decide +kernel
theorem dX3_mine_28 : decode cX3_mine 28 = .ok (.getfield 153, 3) := by decide +kernel
theorem dX3_mine_31 : decode cX3_mine 31 = .ok (.ldc 159, 2) := by decide +kernel
theorem dX3_mine_33 : decode cX3_mine 33 = .ok (.if_icmp .ne 6, 3) := by decide +kernel
theorem dX3_mine_36 : decode cX3_mine 36 = .ok (.bipush (-3), 2) := by decide +kernel
theorem dX3_mine_38 : decode cX3_mine 38 = .ok (.ireturn, 1) := by decide +kernel
theorem dX3_mine_39 : decode cX3_mine 39 = .ok (.aload_n 0, 1) := by decide +kernel
theorem dX3_mine_40 : decode cX3_mine 40 = .ok (.invokevirtual 160, 3) := by decide +kernel
theorem dX3_mine_43 : decode cX3_mine 43 = .ok (.aload_n 0, 1) := by decide +kernel
theorem dX3_mine_44 : decode cX3_mine 44 = .ok (.invokevirtual 163, 3) := by decide +kernel
theorem dX3_mine_47 : decode cX3_mine 47 = .ok (.iconst 0, 1) := by decide +kernel
theorem dX3_mine_48 : decode cX3_mine 48 = .ok (.istore_n 2, 1) := by decide +kernel
theorem dX3_mine_49 : decode cX3_mine 49 = .ok (.iload_n 2, 1) := by decide +kernel
theorem dX3_mine_50 : decode cX3_mine 50 = .ok (.iload_n 1, 1) := by decide +kernel
theorem dX3_mine_51 : decode cX3_mine 51 = .ok (.if_icmp .ge 73, 3) := by decide +kernel
theorem dX3_mine_54 : decode cX3_mine 54 = .ok (.aload_n 0, 1) := by decide +kernel
theorem dX3_mine_55 : decode cX3_mine 55 = .ok (.getfield 153, 3) := by decide +kernel
theorem dX3_mine_58 : decode cX3_mine 58 = .ok (.ldc 159, 2) := by decide +kernel
theorem dX3_mine_60 : decode cX3_mine 60 = .ok (.if_icmp .ge 64, 3) := by decide +kernel
theorem dX3_mine_63 : decode cX3_mine 63 = .ok (.aload_n 0, 1) := by decide +kernel
theorem dX3_mine_64 : decode cX3_mine 64 = .ok (.getfield 19, 3) := by decide +kernel
theorem dX3_mine_67 : decode cX3_mine 67 = .ok (.ifCond .ge 57, 3) := by decide +kernel
theorem dX3_mine_70 : decode cX3_mine 70 = .ok (.aload_n 0, 1) := by decide +kernel
theorem dX3_mine_71 : decode cX3_mine 71 = .ok (.getfield 45, 3) := by decide +kernel
theorem dX3_mine_74 : decode cX3_mine 74 = .ok (.bipush 25, 2) := by decide +kernel
theorem dX3_mine_76 : decode cX3_mine 76 = .ok (.aload_n 0, 1) := by decide +kernel
theorem dX3_mine_77 : decode cX3_mine 77 = .ok (.getfield 153, 3) := by decide +kernel
theorem dX3_mine_80 : decode cX3_mine 80 = .ok (.iastore, 1) := by decide +kernel
theorem dX3_mine_81 : decode cX3_mine 81 = .ok (.aload_n 0, 1) := by decide +kernel
theorem dX3_mine_82 : decode cX3_mine 82 = .ok (.invokevirtual 166, 3) := by decide +kernel
theorem dX3_mine_85 : decode cX3_mine 85 = .ok (.aload_n 0, 1) := by decide +kernel
theorem dX3_mine_86 : decode cX3_mine 86 = .ok (.aload_n 0, 1) := by decide +kernel
theorem dX3_mine_87 : decode cX3_mine 87 = .ok (.invokevirtual 169, 3) := by decide +kernel
theorem dX3_mine_90 : decode cX3_mine 90 = .ok (.aload_n 0, 1) := by decide +kernel
theorem dX3_mine_91 : decode cX3_mine 91 = .ok (.getfield 48, 3) := by decide +kernel
theorem dX3_mine_94 : decode cX3_mine 94 = .ok (.if_icmp .lt 10, 3) := by decide +kernel
theorem dX3_mine_97 : decode cX3_mine 97 = .ok (.aload_n 0, 1) := by decide +kernel
theorem dX3_mine_98 : decode cX3_mine 98 = .ok (.getfield 153, 3) := by decide +kernel
theorem dX3_mine_101 : decode cX3_mine 101 = .ok (.goto 4, 3) := by decide +kernel
theorem dX3_mine_104 : decode cX3_mine 104 = .ok (.iconst (-1), 1) := by decide +kernel
theorem dX3_mine_105 : decode cX3_mine 105 = .ok (.putfield 19, 3) := by decide +kernel
theorem dX3_mine_108 : decode cX3_mine 108 = .ok (.aload_n 0, 1) := by decide +kernel
theorem dX3_mine_109 : decode cX3_mine 109 = .ok (.dup, 1) := by decide +kernel
theorem dX3_mine_110 : decode cX3_mine 110 = .ok (.getfield 153, 3) := by decide +kernel
theorem dX3_mine_113 : decode cX3_mine 113 = .ok (.iconst 1, 1) := by decide +kernel
theorem dX3_mine_114 : decode cX3_mine 114 = .ok (.iadd, 1) := by decide +kernel
theorem dX3_mine_115 : decode cX3_mine 115 = .ok (.putfield 153, 3) := by decide +kernel
theorem dX3_mine_118 : decode cX3_mine 118 = .ok (.iinc 2 1, 3) := by decide +kernel
theorem dX3_mine_121 : decode cX3_mine 121 = .ok (.goto (-72), 3) := by decide +kernel
theorem dX3_mine_124 : decode cX3_mine 124 = .ok (.aload_n 0, 1) := by decide +kernel
theorem dX3_mine_125 : decode cX3_mine 125 = .ok (.getfield 19, 3) := by decide +kernel
theorem dX3_mine_128 : decode cX3_mine 128 = .ok (.ireturn, 1) := by decide +kernel
theorem dX3_tried_0 : decode cX3_tried 0 = .ok (.aload_n 0, 1) := by decide +kernel
theorem dX3_tried_1 : decode cX3_tried 1 = .ok (.getfield 153, 3) := by decide +kernel
theorem dX3_tried_4 : decode cX3_tried 4 = .ok (.ireturn, 1) := by decide +kernel
set_option maxRecDepth 20000 in
theorem ggX3_commit_X3_draft : GoodIn wsX3_commit wsX3_draft := goodIn_r _ [12, 3, 1, 7, 13, 14, 15, 16, 17, 11, 18, 4, 19, 20, 21, 66, 67, 68, 69, 70, 71, 72, 73, 74, 75, 76, 77, 78, 79, 80, 81, 82, 83, 84] (by decide +kernel) (by decide +kernel)
set_option maxRecDepth 20000 in
theorem gX3_commit_X3_draft : GoodIn wsX3_commit (wsV RX3 160 RX3 yX3_draft wsX3_draft) := goodIn_app (goodIn_of _ (by decide +kernel)) ggX3_commit_X3_draft
set_option maxRecDepth 20000 in
theorem ggX3_commit_X3_mixFirst : GoodIn wsX3_commit wsX3_mixFirst := goodIn_r _ [25, 5, 26, 27, 3, 28, 29, 30, 31, 11, 32, 33, 34, 35, 36, 66, 67, 68, 69, 70, 71, 72, 73, 74, 75, 76, 77, 78, 79, 80, 81, 82, 83, 84] (by decide +kernel) (by decide +kernel)
set_option maxRecDepth 20000 in
theorem gX3_commit_X3_mixFirst : GoodIn wsX3_commit (wsV RX3 163 RX3 yX3_mixFirst wsX3_mixFirst) := goodIn_app (goodIn_of _ (by decide +kernel)) ggX3_commit_X3_mixFirst
set_option maxRecDepth 20000 in
theorem ggX3_commit_X3_mixSecond : GoodIn wsX3_commit wsX3_mixSecond := goodIn_r _ [40, 5, 28, 27, 3, 41, 29, 30, 31, 11, 32, 33, 34, 35, 36, 66, 67, 68, 69, 70, 71, 72, 73, 74, 75, 76, 77, 78, 79, 80, 81, 82, 83, 84] (by decide +kernel) (by decide +kernel)
set_option maxRecDepth 20000 in
theorem gX3_commit_X3_mixSecond : GoodIn wsX3_commit (wsV RX3 166 RX3 yX3_mixSecond wsX3_mixSecond) := goodIn_app (goodIn_of _ (by decide +kernel)) ggX3_commit_X3_mixSecond
set_option maxRecDepth 20000 in
theorem ggX3_commit_X3_setBits : GoodIn wsX3_commit wsX3_setBits := goodIn_r _ [45, 46, 4, 47, 48, 49, 11, 50, 51, 52, 53, 54, 55, 56, 57, 58, 59, 60, 34, 35, 36, 66, 67, 68, 69, 70, 71, 72, 73, 74, 75, 76, 77, 78, 79, 80, 81, 82, 83, 84] (by decide +kernel) (by decide +kernel)
set_option maxRecDepth 20000 in
theorem gX3_commit_X3_setBits : GoodIn wsX3_commit (wsV RX3 173 RX3 yX3_setBits wsX3_setBits) := goodIn_app (goodIn_of _ (by decide +kernel)) ggX3_commit_X3_setBits
set_option maxRecDepth 20000 in
theorem ggX3_commit_X3_forget : GoodIn wsX3_commit wsX3_forget := goodIn_r _ [64, 65, 2, 66, 67, 68, 69, 70, 71, 72, 73, 74, 75, 76, 77, 78, 79, 80, 81, 82, 83, 84] (by decide +kernel) (by decide +kernel)
set_option maxRecDepth 20000 in
theorem gX3_commit_X3_forget : GoodIn wsX3_commit (wsV RX3 156 RX3 yX3_forget wsX3_forget) := goodIn_app (goodIn_of _ (by decide +kernel)) ggX3_commit_X3_forget
theorem dX3_commit_0 : decode cX3_commit 0 = .ok (.aload_n 0, 1) := by decide +kernel
theorem dX3_commit_1 : decode cX3_commit 1 = .ok (.getfield 141, 3) := by decide +kernel
theorem dX3_commit_4 : decode cX3_commit 4 = .ok (.bipush 60, 2) := by decide +kernel
theorem dX3_commit_6 : decode cX3_commit 6 = .ok (.if_icmp .ne 6, 3) := by decide +kernel
theorem dX3_commit_9 : decode cX3_commit 9 = .ok (.bipush (-4), 2) := by decide +kernel
theorem dX3_commit_11 : decode cX3_commit 11 = .ok (.ireturn, 1) := by decide +kernel
theorem dX3_commit_12 : decode cX3_commit 12 = .ok (.aload_n 0, 1) := by decide +kernel
theorem dX3_commit_13 : decode cX3_commit 13 = .ok (.getfield 19, 3) := by decide +kernel
theorem dX3_commit_16 : decode cX3_commit 16 = .ok (.ifCond .ge 6, 3) := by decide +kernel
theorem dX3_commit_19 : decode cX3_commit 19 = .ok (.bipush (-3), 2) := by decide +kernel
theorem dX3_commit_21 : decode cX3_commit 21 = .ok (.ireturn, 1) := by decide +kernel
theorem dX3_commit_22 : decode cX3_commit 22 = .ok (.aload_n 0, 1) := by decide +kernel
theorem dX3_commit_23 : decode cX3_commit 23 = .ok (.invokevirtual 160, 3) := by decide +kernel
theorem dX3_commit_26 : decode cX3_commit 26 = .ok (.aload_n 0, 1) := by decide +kernel
theorem dX3_commit_27 : decode cX3_commit 27 = .ok (.getfield 45, 3) := by decide +kernel
theorem dX3_commit_30 : decode cX3_commit 30 = .ok (.bipush 25, 2) := by decide +kernel
theorem dX3_commit_32 : decode cX3_commit 32 = .ok (.aload_n 0, 1) := by decide +kernel
theorem dX3_commit_33 : decode cX3_commit 33 = .ok (.getfield 19, 3) := by decide +kernel
theorem dX3_commit_36 : decode cX3_commit 36 = .ok (.iastore, 1) := by decide +kernel
theorem dX3_commit_37 : decode cX3_commit 37 = .ok (.aload_n 0, 1) := by decide +kernel
theorem dX3_commit_38 : decode cX3_commit 38 = .ok (.invokevirtual 163, 3) := by decide +kernel
theorem dX3_commit_41 : decode cX3_commit 41 = .ok (.aload_n 0, 1) := by decide +kernel
theorem dX3_commit_42 : decode cX3_commit 42 = .ok (.invokevirtual 166, 3) := by decide +kernel
theorem dX3_commit_45 : decode cX3_commit 45 = .ok (.iconst 0, 1) := by decide +kernel
theorem dX3_commit_46 : decode cX3_commit 46 = .ok (.istore_n 1, 1) := by decide +kernel
theorem dX3_commit_47 : decode cX3_commit 47 = .ok (.iload_n 1, 1) := by decide +kernel
theorem dX3_commit_48 : decode cX3_commit 48 = .ok (.bipush 26, 2) := by decide +kernel
theorem dX3_commit_50 : decode cX3_commit 50 = .ok (.if_icmp .ge 29, 3) := by decide +kernel
theorem dX3_commit_53 : decode cX3_commit 53 = .ok (.aload_n 0, 1) := by decide +kernel
theorem dX3_commit_54 : decode cX3_commit 54 = .ok (.getfield 7, 3) := by decide +kernel
theorem dX3_commit_57 : decode cX3_commit 57 = .ok (.bipush 34, 2) := by decide +kernel
theorem dX3_commit_59 : decode cX3_commit 59 = .ok (.aload_n 0, 1) := by decide +kernel
theorem dX3_commit_60 : decode cX3_commit 60 = .ok (.getfield 141, 3) := by decide +kernel
theorem dX3_commit_63 : decode cX3_commit 63 = .ok (.imul, 1) := by decide +kernel
theorem dX3_commit_64 : decode cX3_commit 64 = .ok (.iload_n 1, 1) := by decide +kernel
theorem dX3_commit_65 : decode cX3_commit 65 = .ok (.iadd, 1) := by decide +kernel
theorem dX3_commit_66 : decode cX3_commit 66 = .ok (.aload_n 0, 1) := by decide +kernel
theorem dX3_commit_67 : decode cX3_commit 67 = .ok (.getfield 45, 3) := by decide +kernel
theorem dX3_commit_70 : decode cX3_commit 70 = .ok (.iload_n 1, 1) := by decide +kernel
theorem dX3_commit_71 : decode cX3_commit 71 = .ok (.iaload, 1) := by decide +kernel
theorem dX3_commit_72 : decode cX3_commit 72 = .ok (.iastore, 1) := by decide +kernel
theorem dX3_commit_73 : decode cX3_commit 73 = .ok (.iinc 1 1, 3) := by decide +kernel
theorem dX3_commit_76 : decode cX3_commit 76 = .ok (.goto (-29), 3) := by decide +kernel
theorem dX3_commit_79 : decode cX3_commit 79 = .ok (.iconst 0, 1) := by decide +kernel
theorem dX3_commit_80 : decode cX3_commit 80 = .ok (.istore_n 1, 1) := by decide +kernel
theorem dX3_commit_81 : decode cX3_commit 81 = .ok (.iload_n 1, 1) := by decide +kernel
theorem dX3_commit_82 : decode cX3_commit 82 = .ok (.bipush 8, 2) := by decide +kernel
theorem dX3_commit_84 : decode cX3_commit 84 = .ok (.if_icmp .ge 44, 3) := by decide +kernel
theorem dX3_commit_87 : decode cX3_commit 87 = .ok (.aload_n 0, 1) := by decide +kernel
theorem dX3_commit_88 : decode cX3_commit 88 = .ok (.getfield 7, 3) := by decide +kernel
theorem dX3_commit_91 : decode cX3_commit 91 = .ok (.bipush 34, 2) := by decide +kernel
theorem dX3_commit_93 : decode cX3_commit 93 = .ok (.aload_n 0, 1) := by decide +kernel
theorem dX3_commit_94 : decode cX3_commit 94 = .ok (.getfield 141, 3) := by decide +kernel
theorem dX3_commit_97 : decode cX3_commit 97 = .ok (.imul, 1) := by decide +kernel
theorem dX3_commit_98 : decode cX3_commit 98 = .ok (.bipush 26, 2) := by decide +kernel
theorem dX3_commit_100 : decode cX3_commit 100 = .ok (.iadd, 1) := by decide +kernel
theorem dX3_commit_101 : decode cX3_commit 101 = .ok (.iload_n 1, 1) := by decide +kernel
theorem dX3_commit_102 : decode cX3_commit 102 = .ok (.iadd, 1) := by decide +kernel
theorem dX3_commit_103 : decode cX3_commit 103 = .ok (.aload_n 0, 1) := by decide +kernel
theorem dX3_commit_104 : decode cX3_commit 104 = .ok (.getfield 36, 3) := by decide +kernel
theorem dX3_commit_107 : decode cX3_commit 107 = .ok (.iload_n 1, 1) := by decide +kernel
theorem dX3_commit_108 : decode cX3_commit 108 = .ok (.iaload, 1) := by decide +kernel
theorem dX3_commit_109 : decode cX3_commit 109 = .ok (.iastore, 1) := by decide +kernel
theorem dX3_commit_110 : decode cX3_commit 110 = .ok (.aload_n 0, 1) := by decide +kernel
theorem dX3_commit_111 : decode cX3_commit 111 = .ok (.getfield 13, 3) := by decide +kernel
theorem dX3_commit_114 : decode cX3_commit 114 = .ok (.iload_n 1, 1) := by decide +kernel
theorem dX3_commit_115 : decode cX3_commit 115 = .ok (.aload_n 0, 1) := by decide +kernel
theorem dX3_commit_116 : decode cX3_commit 116 = .ok (.getfield 36, 3) := by decide +kernel
theorem dX3_commit_119 : decode cX3_commit 119 = .ok (.iload_n 1, 1) := by decide +kernel
theorem dX3_commit_120 : decode cX3_commit 120 = .ok (.iaload, 1) := by decide +kernel
theorem dX3_commit_121 : decode cX3_commit 121 = .ok (.iastore, 1) := by decide +kernel
theorem dX3_commit_122 : decode cX3_commit 122 = .ok (.iinc 1 1, 3) := by decide +kernel
theorem dX3_commit_125 : decode cX3_commit 125 = .ok (.goto (-44), 3) := by decide +kernel
theorem dX3_commit_128 : decode cX3_commit 128 = .ok (.aload_n 0, 1) := by decide +kernel
theorem dX3_commit_129 : decode cX3_commit 129 = .ok (.dup, 1) := by decide +kernel
theorem dX3_commit_130 : decode cX3_commit 130 = .ok (.getfield 141, 3) := by decide +kernel
theorem dX3_commit_133 : decode cX3_commit 133 = .ok (.iconst 1, 1) := by decide +kernel
theorem dX3_commit_134 : decode cX3_commit 134 = .ok (.iadd, 1) := by decide +kernel
theorem dX3_commit_135 : decode cX3_commit 135 = .ok (.putfield 141, 3) := by decide +kernel
theorem dX3_commit_138 : decode cX3_commit 138 = .ok (.aload_n 0, 1) := by decide +kernel
theorem dX3_commit_139 : decode cX3_commit 139 = .ok (.aload_n 0, 1) := by decide +kernel
theorem dX3_commit_140 : decode cX3_commit 140 = .ok (.getfield 141, 3) := by decide +kernel
theorem dX3_commit_143 : decode cX3_commit 143 = .ok (.iconst 1, 1) := by decide +kernel
theorem dX3_commit_144 : decode cX3_commit 144 = .ok (.isub, 1) := by decide +kernel
theorem dX3_commit_145 : decode cX3_commit 145 = .ok (.invokevirtual 173, 3) := by decide +kernel
theorem dX3_commit_148 : decode cX3_commit 148 = .ok (.aload_n 0, 1) := by decide +kernel
theorem dX3_commit_149 : decode cX3_commit 149 = .ok (.iconst 0, 1) := by decide +kernel
theorem dX3_commit_150 : decode cX3_commit 150 = .ok (.putfield 150, 3) := by decide +kernel
theorem dX3_commit_153 : decode cX3_commit 153 = .ok (.aload_n 0, 1) := by decide +kernel
theorem dX3_commit_154 : decode cX3_commit 154 = .ok (.invokevirtual 156, 3) := by decide +kernel
theorem dX3_commit_157 : decode cX3_commit 157 = .ok (.aload_n 0, 1) := by decide +kernel
theorem dX3_commit_158 : decode cX3_commit 158 = .ok (.getfield 141, 3) := by decide +kernel
theorem dX3_commit_161 : decode cX3_commit 161 = .ok (.iconst 1, 1) := by decide +kernel
theorem dX3_commit_162 : decode cX3_commit 162 = .ok (.isub, 1) := by decide +kernel
theorem dX3_commit_163 : decode cX3_commit 163 = .ok (.ireturn, 1) := by decide +kernel
theorem dX3_count_0 : decode cX3_count 0 = .ok (.aload_n 0, 1) := by decide +kernel
theorem dX3_count_1 : decode cX3_count 1 = .ok (.getfield 141, 3) := by decide +kernel
theorem dX3_count_4 : decode cX3_count 4 = .ok (.ireturn, 1) := by decide +kernel
theorem dX3_head_0 : decode cX3_head 0 = .ok (.iload_n 1, 1) := by decide +kernel
theorem dX3_head_1 : decode cX3_head 1 = .ok (.ifCond .lt 18, 3) := by decide +kernel
theorem dX3_head_4 : decode cX3_head 4 = .ok (.iload_n 1, 1) := by decide +kernel
theorem dX3_head_5 : decode cX3_head 5 = .ok (.bipush 8, 2) := by decide +kernel
theorem dX3_head_7 : decode cX3_head 7 = .ok (.if_icmp .ge 12, 3) := by decide +kernel
theorem dX3_head_10 : decode cX3_head 10 = .ok (.aload_n 0, 1) := by decide +kernel
theorem dX3_head_11 : decode cX3_head 11 = .ok (.getfield 13, 3) := by decide +kernel
theorem dX3_head_14 : decode cX3_head 14 = .ok (.iload_n 1, 1) := by decide +kernel
theorem dX3_head_15 : decode cX3_head 15 = .ok (.iaload, 1) := by decide +kernel
theorem dX3_head_16 : decode cX3_head 16 = .ok (.goto 4, 3) := by decide +kernel
theorem dX3_head_19 : decode cX3_head 19 = .ok (.iconst 0, 1) := by decide +kernel
theorem dX3_head_20 : decode cX3_head 20 = .ok (.ireturn, 1) := by decide +kernel
theorem dX3_isCell_0 : decode cX3_isCell 0 = .ok (.iload_n 1, 1) := by decide +kernel
theorem dX3_isCell_1 : decode cX3_isCell 1 = .ok (.ifCond .lt 25, 3) := by decide +kernel
theorem dX3_isCell_4 : decode cX3_isCell 4 = .ok (.iload_n 1, 1) := by decide +kernel
theorem dX3_isCell_5 : decode cX3_isCell 5 = .ok (.aload_n 0, 1) := by decide +kernel
theorem dX3_isCell_6 : decode cX3_isCell 6 = .ok (.getfield 141, 3) := by decide +kernel
theorem dX3_isCell_9 : decode cX3_isCell 9 = .ok (.if_icmp .ge 17, 3) := by decide +kernel
theorem dX3_isCell_12 : decode cX3_isCell 12 = .ok (.iload_n 2, 1) := by decide +kernel
theorem dX3_isCell_13 : decode cX3_isCell 13 = .ok (.ifCond .lt 13, 3) := by decide +kernel
theorem dX3_isCell_16 : decode cX3_isCell 16 = .ok (.iload_n 2, 1) := by decide +kernel
theorem dX3_isCell_17 : decode cX3_isCell 17 = .ok (.bipush 34, 2) := by decide +kernel
theorem dX3_isCell_19 : decode cX3_isCell 19 = .ok (.if_icmp .ge 7, 3) := by decide +kernel
theorem dX3_isCell_22 : decode cX3_isCell 22 = .ok (.iconst 1, 1) := by decide +kernel
theorem dX3_isCell_23 : decode cX3_isCell 23 = .ok (.goto 4, 3) := by decide +kernel
theorem dX3_isCell_26 : decode cX3_isCell 26 = .ok (.iconst 0, 1) := by decide +kernel
theorem dX3_isCell_27 : decode cX3_isCell 27 = .ok (.ireturn, 1) := by decide +kernel
set_option maxRecDepth 20000 in
theorem ggX3_cell_X3_isCell : GoodIn wsX3_cell wsX3_isCell := goodIn_r _ [6, 7, 8, 9, 10, 11, 12, 13, 14, 15, 16, 17, 18, 19, 20, 21, 22, 23, 24, 25, 26] (by decide +kernel) (by decide +kernel)
set_option maxRecDepth 20000 in
theorem gX3_cell_X3_isCell : GoodIn wsX3_cell (wsV RX3 177 RX3 yX3_isCell wsX3_isCell) := goodIn_app (goodIn_of _ (by decide +kernel)) ggX3_cell_X3_isCell
theorem dX3_cell_0 : decode cX3_cell 0 = .ok (.aload_n 0, 1) := by decide +kernel
theorem dX3_cell_1 : decode cX3_cell 1 = .ok (.iload_n 1, 1) := by decide +kernel
theorem dX3_cell_2 : decode cX3_cell 2 = .ok (.iload_n 2, 1) := by decide +kernel
theorem dX3_cell_3 : decode cX3_cell 3 = .ok (.invokevirtual 177, 3) := by decide +kernel
theorem dX3_cell_6 : decode cX3_cell 6 = .ok (.ifCond .eq 17, 3) := by decide +kernel
theorem dX3_cell_9 : decode cX3_cell 9 = .ok (.aload_n 0, 1) := by decide +kernel
theorem dX3_cell_10 : decode cX3_cell 10 = .ok (.getfield 7, 3) := by decide +kernel
theorem dX3_cell_13 : decode cX3_cell 13 = .ok (.bipush 34, 2) := by decide +kernel
theorem dX3_cell_15 : decode cX3_cell 15 = .ok (.iload_n 1, 1) := by decide +kernel
theorem dX3_cell_16 : decode cX3_cell 16 = .ok (.imul, 1) := by decide +kernel
theorem dX3_cell_17 : decode cX3_cell 17 = .ok (.iload_n 2, 1) := by decide +kernel
theorem dX3_cell_18 : decode cX3_cell 18 = .ok (.iadd, 1) := by decide +kernel
theorem dX3_cell_19 : decode cX3_cell 19 = .ok (.iaload, 1) := by decide +kernel
theorem dX3_cell_20 : decode cX3_cell 20 = .ok (.goto 4, 3) := by decide +kernel
theorem dX3_cell_23 : decode cX3_cell 23 = .ok (.iconst 0, 1) := by decide +kernel
theorem dX3_cell_24 : decode cX3_cell 24 = .ok (.ireturn, 1) := by decide +kernel
set_option maxRecDepth 20000 in
theorem ggX3_spoil_X3_isCell : GoodIn wsX3_spoil wsX3_isCell := goodIn_r _ [6, 7, 14, 15, 16, 17, 18, 19, 20, 21, 22, 23, 24, 25, 26, 27, 28, 29, 30, 31, 32] (by decide +kernel) (by decide +kernel)
set_option maxRecDepth 20000 in
theorem gX3_spoil_X3_isCell : GoodIn wsX3_spoil (wsV RX3 177 RX3 yX3_isCell wsX3_isCell) := goodIn_app (goodIn_of _ (by decide +kernel)) ggX3_spoil_X3_isCell
set_option maxRecDepth 20000 in
theorem ggX3_spoil_X3_forget : GoodIn wsX3_spoil wsX3_forget := goodIn_r _ [11, 12, 13, 14, 15, 16, 17, 18, 19, 20, 21, 22, 23, 24, 25, 26, 27, 28, 29, 30, 31, 32] (by decide +kernel) (by decide +kernel)
set_option maxRecDepth 20000 in
theorem gX3_spoil_X3_forget : GoodIn wsX3_spoil (wsV RX3 156 RX3 yX3_forget wsX3_forget) := goodIn_app (goodIn_of _ (by decide +kernel)) ggX3_spoil_X3_forget
theorem dX3_spoil_0 : decode cX3_spoil 0 = .ok (.aload_n 0, 1) := by decide +kernel
theorem dX3_spoil_1 : decode cX3_spoil 1 = .ok (.iload_n 1, 1) := by decide +kernel
theorem dX3_spoil_2 : decode cX3_spoil 2 = .ok (.iload_n 2, 1) := by decide +kernel
theorem dX3_spoil_3 : decode cX3_spoil 3 = .ok (.invokevirtual 177, 3) := by decide +kernel
theorem dX3_spoil_6 : decode cX3_spoil 6 = .ok (.ifCond .ne 5, 3) := by decide +kernel
theorem dX3_spoil_9 : decode cX3_spoil 9 = .ok (.iconst 0, 1) := by decide +kernel
theorem dX3_spoil_10 : decode cX3_spoil 10 = .ok (.ireturn, 1) := by decide +kernel
theorem dX3_spoil_11 : decode cX3_spoil 11 = .ok (.aload_n 0, 1) := by decide +kernel
theorem dX3_spoil_12 : decode cX3_spoil 12 = .ok (.getfield 7, 3) := by decide +kernel
theorem dX3_spoil_15 : decode cX3_spoil 15 = .ok (.bipush 34, 2) := by decide +kernel
theorem dX3_spoil_17 : decode cX3_spoil 17 = .ok (.iload_n 1, 1) := by decide +kernel
theorem dX3_spoil_18 : decode cX3_spoil 18 = .ok (.imul, 1) := by decide +kernel
theorem dX3_spoil_19 : decode cX3_spoil 19 = .ok (.iload_n 2, 1) := by decide +kernel
theorem dX3_spoil_20 : decode cX3_spoil 20 = .ok (.iadd, 1) := by decide +kernel
theorem dX3_spoil_21 : decode cX3_spoil 21 = .ok (.iaload, 1) := by decide +kernel
theorem dX3_spoil_22 : decode cX3_spoil 22 = .ok (.istore 4, 2) := by decide +kernel
theorem dX3_spoil_24 : decode cX3_spoil 24 = .ok (.aload_n 0, 1) := by decide +kernel
theorem dX3_spoil_25 : decode cX3_spoil 25 = .ok (.getfield 7, 3) := by decide +kernel
theorem dX3_spoil_28 : decode cX3_spoil 28 = .ok (.bipush 34, 2) := by decide +kernel
theorem dX3_spoil_30 : decode cX3_spoil 30 = .ok (.iload_n 1, 1) := by decide +kernel
theorem dX3_spoil_31 : decode cX3_spoil 31 = .ok (.imul, 1) := by decide +kernel
theorem dX3_spoil_32 : decode cX3_spoil 32 = .ok (.iload_n 2, 1) := by decide +kernel
theorem dX3_spoil_33 : decode cX3_spoil 33 = .ok (.iadd, 1) := by decide +kernel
theorem dX3_spoil_34 : decode cX3_spoil 34 = .ok (.iload_n 3, 1) := by decide +kernel
theorem dX3_spoil_35 : decode cX3_spoil 35 = .ok (.iastore, 1) := by decide +kernel
theorem dX3_spoil_36 : decode cX3_spoil 36 = .ok (.aload_n 0, 1) := by decide +kernel
theorem dX3_spoil_37 : decode cX3_spoil 37 = .ok (.invokevirtual 156, 3) := by decide +kernel
theorem dX3_spoil_40 : decode cX3_spoil 40 = .ok (.iload 4, 2) := by decide +kernel
theorem dX3_spoil_42 : decode cX3_spoil 42 = .ok (.ireturn, 1) := by decide +kernel
set_option maxRecDepth 20000 in
theorem ggX3_drop_X3_setBits : GoodIn wsX3_drop wsX3_setBits := goodIn_r _ [10, 4, 3, 11, 12, 13, 9, 14, 15, 16, 17, 18, 19, 20, 21, 22, 23, 24, 25, 26, 27, 34, 35, 36, 37, 38, 39, 40, 41, 42, 43, 44, 45, 46, 47, 48, 49, 50, 51, 52] (by decide +kernel) (by decide +kernel)
set_option maxRecDepth 20000 in
theorem gX3_drop_X3_setBits : GoodIn wsX3_drop (wsV RX3 173 RX3 yX3_setBits wsX3_setBits) := goodIn_app (goodIn_of _ (by decide +kernel)) ggX3_drop_X3_setBits
set_option maxRecDepth 20000 in
theorem ggX3_drop_X3_forget : GoodIn wsX3_drop wsX3_forget := goodIn_r _ [31, 32, 33, 34, 35, 36, 37, 38, 39, 40, 41, 42, 43, 44, 45, 46, 47, 48, 49, 50, 51, 52] (by decide +kernel) (by decide +kernel)
set_option maxRecDepth 20000 in
theorem gX3_drop_X3_forget : GoodIn wsX3_drop (wsV RX3 156 RX3 yX3_forget wsX3_forget) := goodIn_app (goodIn_of _ (by decide +kernel)) ggX3_drop_X3_forget
theorem dX3_drop_0 : decode cX3_drop 0 = .ok (.aload_n 0, 1) := by decide +kernel
theorem dX3_drop_1 : decode cX3_drop 1 = .ok (.getfield 141, 3) := by decide +kernel
theorem dX3_drop_4 : decode cX3_drop 4 = .ok (.ifCond .ne 5, 3) := by decide +kernel
theorem dX3_drop_7 : decode cX3_drop 7 = .ok (.iconst (-1), 1) := by decide +kernel
theorem dX3_drop_8 : decode cX3_drop 8 = .ok (.ireturn, 1) := by decide +kernel
theorem dX3_drop_9 : decode cX3_drop 9 = .ok (.aload_n 0, 1) := by decide +kernel
theorem dX3_drop_10 : decode cX3_drop 10 = .ok (.dup, 1) := by decide +kernel
theorem dX3_drop_11 : decode cX3_drop 11 = .ok (.getfield 141, 3) := by decide +kernel
theorem dX3_drop_14 : decode cX3_drop 14 = .ok (.iconst 1, 1) := by decide +kernel
theorem dX3_drop_15 : decode cX3_drop 15 = .ok (.isub, 1) := by decide +kernel
theorem dX3_drop_16 : decode cX3_drop 16 = .ok (.putfield 141, 3) := by decide +kernel
theorem dX3_drop_19 : decode cX3_drop 19 = .ok (.iconst 0, 1) := by decide +kernel
theorem dX3_drop_20 : decode cX3_drop 20 = .ok (.istore_n 1, 1) := by decide +kernel
theorem dX3_drop_21 : decode cX3_drop 21 = .ok (.iload_n 1, 1) := by decide +kernel
theorem dX3_drop_22 : decode cX3_drop 22 = .ok (.bipush 8, 2) := by decide +kernel
theorem dX3_drop_24 : decode cX3_drop 24 = .ok (.if_icmp .ge 29, 3) := by decide +kernel
theorem dX3_drop_27 : decode cX3_drop 27 = .ok (.aload_n 0, 1) := by decide +kernel
theorem dX3_drop_28 : decode cX3_drop 28 = .ok (.getfield 13, 3) := by decide +kernel
theorem dX3_drop_31 : decode cX3_drop 31 = .ok (.iload_n 1, 1) := by decide +kernel
theorem dX3_drop_32 : decode cX3_drop 32 = .ok (.aload_n 0, 1) := by decide +kernel
theorem dX3_drop_33 : decode cX3_drop 33 = .ok (.getfield 7, 3) := by decide +kernel
theorem dX3_drop_36 : decode cX3_drop 36 = .ok (.bipush 34, 2) := by decide +kernel
theorem dX3_drop_38 : decode cX3_drop 38 = .ok (.aload_n 0, 1) := by decide +kernel
theorem dX3_drop_39 : decode cX3_drop 39 = .ok (.getfield 141, 3) := by decide +kernel
theorem dX3_drop_42 : decode cX3_drop 42 = .ok (.imul, 1) := by decide +kernel
theorem dX3_drop_43 : decode cX3_drop 43 = .ok (.iload_n 1, 1) := by decide +kernel
theorem dX3_drop_44 : decode cX3_drop 44 = .ok (.iadd, 1) := by decide +kernel
theorem dX3_drop_45 : decode cX3_drop 45 = .ok (.iaload, 1) := by decide +kernel
theorem dX3_drop_46 : decode cX3_drop 46 = .ok (.iastore, 1) := by decide +kernel
theorem dX3_drop_47 : decode cX3_drop 47 = .ok (.iinc 1 1, 3) := by decide +kernel
theorem dX3_drop_50 : decode cX3_drop 50 = .ok (.goto (-29), 3) := by decide +kernel
theorem dX3_drop_53 : decode cX3_drop 53 = .ok (.iconst 0, 1) := by decide +kernel
theorem dX3_drop_54 : decode cX3_drop 54 = .ok (.istore_n 1, 1) := by decide +kernel
theorem dX3_drop_55 : decode cX3_drop 55 = .ok (.iload_n 1, 1) := by decide +kernel
theorem dX3_drop_56 : decode cX3_drop 56 = .ok (.sipush 1024, 3) := by decide +kernel
theorem dX3_drop_59 : decode cX3_drop 59 = .ok (.if_icmp .ge 16, 3) := by decide +kernel
theorem dX3_drop_62 : decode cX3_drop 62 = .ok (.aload_n 0, 1) := by decide +kernel
theorem dX3_drop_63 : decode cX3_drop 63 = .ok (.getfield 23, 3) := by decide +kernel
theorem dX3_drop_66 : decode cX3_drop 66 = .ok (.iload_n 1, 1) := by decide +kernel
theorem dX3_drop_67 : decode cX3_drop 67 = .ok (.iconst 0, 1) := by decide +kernel
theorem dX3_drop_68 : decode cX3_drop 68 = .ok (.bastore, 1) := by decide +kernel
theorem dX3_drop_69 : decode cX3_drop 69 = .ok (.iinc 1 1, 3) := by decide +kernel
theorem dX3_drop_72 : decode cX3_drop 72 = .ok (.goto (-17), 3) := by decide +kernel
theorem dX3_drop_75 : decode cX3_drop 75 = .ok (.iconst 0, 1) := by decide +kernel
theorem dX3_drop_76 : decode cX3_drop 76 = .ok (.istore_n 1, 1) := by decide +kernel
theorem dX3_drop_77 : decode cX3_drop 77 = .ok (.iload_n 1, 1) := by decide +kernel
theorem dX3_drop_78 : decode cX3_drop 78 = .ok (.aload_n 0, 1) := by decide +kernel
theorem dX3_drop_79 : decode cX3_drop 79 = .ok (.getfield 141, 3) := by decide +kernel
theorem dX3_drop_82 : decode cX3_drop 82 = .ok (.if_icmp .ge 14, 3) := by decide +kernel
theorem dX3_drop_85 : decode cX3_drop 85 = .ok (.aload_n 0, 1) := by decide +kernel
theorem dX3_drop_86 : decode cX3_drop 86 = .ok (.iload_n 1, 1) := by decide +kernel
theorem dX3_drop_87 : decode cX3_drop 87 = .ok (.invokevirtual 173, 3) := by decide +kernel
theorem dX3_drop_90 : decode cX3_drop 90 = .ok (.iinc 1 1, 3) := by decide +kernel
theorem dX3_drop_93 : decode cX3_drop 93 = .ok (.goto (-16), 3) := by decide +kernel
theorem dX3_drop_96 : decode cX3_drop 96 = .ok (.aload_n 0, 1) := by decide +kernel
theorem dX3_drop_97 : decode cX3_drop 97 = .ok (.aload_n 0, 1) := by decide +kernel
theorem dX3_drop_98 : decode cX3_drop 98 = .ok (.getfield 181, 3) := by decide +kernel
theorem dX3_drop_101 : decode cX3_drop 101 = .ok (.aload_n 0, 1) := by decide +kernel
theorem dX3_drop_102 : decode cX3_drop 102 = .ok (.getfield 141, 3) := by decide +kernel
theorem dX3_drop_105 : decode cX3_drop 105 = .ok (.if_icmp .le 10, 3) := by decide +kernel
theorem dX3_drop_108 : decode cX3_drop 108 = .ok (.aload_n 0, 1) := by decide +kernel
theorem dX3_drop_109 : decode cX3_drop 109 = .ok (.getfield 141, 3) := by decide +kernel
theorem dX3_drop_112 : decode cX3_drop 112 = .ok (.goto 7, 3) := by decide +kernel
theorem dX3_drop_115 : decode cX3_drop 115 = .ok (.aload_n 0, 1) := by decide +kernel
theorem dX3_drop_116 : decode cX3_drop 116 = .ok (.getfield 181, 3) := by decide +kernel
theorem dX3_drop_119 : decode cX3_drop 119 = .ok (.putfield 181, 3) := by decide +kernel
theorem dX3_drop_122 : decode cX3_drop 122 = .ok (.aload_n 0, 1) := by decide +kernel
theorem dX3_drop_123 : decode cX3_drop 123 = .ok (.invokevirtual 156, 3) := by decide +kernel
theorem dX3_drop_126 : decode cX3_drop 126 = .ok (.aload_n 0, 1) := by decide +kernel
theorem dX3_drop_127 : decode cX3_drop 127 = .ok (.getfield 141, 3) := by decide +kernel
theorem dX3_drop_130 : decode cX3_drop 130 = .ok (.ireturn, 1) := by decide +kernel
set_option maxRecDepth 20000 in
theorem ggX3_stir_X3_turned : GoodIn wsX3_stir wsX3_turned := goodIn_r _ [9] (by decide +kernel) (by decide +kernel)
set_option maxRecDepth 20000 in
theorem gX3_stir_X3_turned : GoodIn wsX3_stir (va_wsS RX3 129 yX3_turned wsX3_turned) := goodIn_app (goodIn_of _ (by decide +kernel)) ggX3_stir_X3_turned
theorem dX3_stir_0 : decode cX3_stir 0 = .ok (.iload_n 1, 1) := by decide +kernel
theorem dX3_stir_1 : decode cX3_stir 1 = .ok (.ldc 184, 2) := by decide +kernel
theorem dX3_stir_3 : decode cX3_stir 3 = .ok (.imul, 1) := by decide +kernel
theorem dX3_stir_4 : decode cX3_stir 4 = .ok (.istore_n 3, 1) := by decide +kernel
theorem dX3_stir_5 : decode cX3_stir 5 = .ok (.iload_n 3, 1) := by decide +kernel
theorem dX3_stir_6 : decode cX3_stir 6 = .ok (.bipush 17, 2) := by decide +kernel
theorem dX3_stir_8 : decode cX3_stir 8 = .ok (.invokestatic 129, 3) := by decide +kernel
theorem dX3_stir_11 : decode cX3_stir 11 = .ok (.ldc 185, 2) := by decide +kernel
theorem dX3_stir_13 : decode cX3_stir 13 = .ok (.imul, 1) := by decide +kernel
theorem dX3_stir_14 : decode cX3_stir 14 = .ok (.istore_n 3, 1) := by decide +kernel
theorem dX3_stir_15 : decode cX3_stir 15 = .ok (.iload_n 2, 1) := by decide +kernel
theorem dX3_stir_16 : decode cX3_stir 16 = .ok (.iload_n 3, 1) := by decide +kernel
theorem dX3_stir_17 : decode cX3_stir 17 = .ok (.ixor, 1) := by decide +kernel
theorem dX3_stir_18 : decode cX3_stir 18 = .ok (.istore 4, 2) := by decide +kernel
theorem dX3_stir_20 : decode cX3_stir 20 = .ok (.iload 4, 2) := by decide +kernel
theorem dX3_stir_22 : decode cX3_stir 22 = .ok (.bipush 19, 2) := by decide +kernel
theorem dX3_stir_24 : decode cX3_stir 24 = .ok (.invokestatic 129, 3) := by decide +kernel
theorem dX3_stir_27 : decode cX3_stir 27 = .ok (.iconst 5, 1) := by decide +kernel
theorem dX3_stir_28 : decode cX3_stir 28 = .ok (.imul, 1) := by decide +kernel
theorem dX3_stir_29 : decode cX3_stir 29 = .ok (.ldc 186, 2) := by decide +kernel
theorem dX3_stir_31 : decode cX3_stir 31 = .ok (.iadd, 1) := by decide +kernel
theorem dX3_stir_32 : decode cX3_stir 32 = .ok (.istore 4, 2) := by decide +kernel
theorem dX3_stir_34 : decode cX3_stir 34 = .ok (.iload 4, 2) := by decide +kernel
theorem dX3_stir_36 : decode cX3_stir 36 = .ok (.iconst 4, 1) := by decide +kernel
theorem dX3_stir_37 : decode cX3_stir 37 = .ok (.ixor, 1) := by decide +kernel
theorem dX3_stir_38 : decode cX3_stir 38 = .ok (.istore 4, 2) := by decide +kernel
theorem dX3_stir_40 : decode cX3_stir 40 = .ok (.iload 4, 2) := by decide +kernel
theorem dX3_stir_42 : decode cX3_stir 42 = .ok (.iload 4, 2) := by decide +kernel
end
section
theorem dX3_stir_44 : decode cX3_stir 44 = .ok (.bipush 16, 2) := by decide +kernel
theorem dX3_stir_46 : decode cX3_stir 46 = .ok (.iushr, 1) := by decide +kernel
theorem dX3_stir_47 : decode cX3_stir 47 = .ok (.ixor, 1) := by decide +kernel
theorem dX3_stir_48 : decode cX3_stir 48 = .ok (.ldc 187, 2) := by decide +kernel
theorem dX3_stir_50 : decode cX3_stir 50 = .ok (.imul, 1) := by decide +kernel
theorem dX3_stir_51 : decode cX3_stir 51 = .ok (.istore 4, 2) := by decide +kernel
theorem dX3_stir_53 : decode cX3_stir 53 = .ok (.iload 4, 2) := by decide +kernel
theorem dX3_stir_55 : decode cX3_stir 55 = .ok (.iload 4, 2) := by decide +kernel
theorem dX3_stir_57 : decode cX3_stir 57 = .ok (.bipush 13, 2) := by decide +kernel
theorem dX3_stir_59 : decode cX3_stir 59 = .ok (.iushr, 1) := by decide +kernel
theorem dX3_stir_60 : decode cX3_stir 60 = .ok (.ixor, 1) := by decide +kernel
theorem dX3_stir_61 : decode cX3_stir 61 = .ok (.ldc 188, 2) := by decide +kernel
theorem dX3_stir_63 : decode cX3_stir 63 = .ok (.imul, 1) := by decide +kernel
theorem dX3_stir_64 : decode cX3_stir 64 = .ok (.istore 4, 2) := by decide +kernel
theorem dX3_stir_66 : decode cX3_stir 66 = .ok (.iload 4, 2) := by decide +kernel
theorem dX3_stir_68 : decode cX3_stir 68 = .ok (.iload 4, 2) := by decide +kernel
theorem dX3_stir_70 : decode cX3_stir 70 = .ok (.bipush 16, 2) := by decide +kernel
theorem dX3_stir_72 : decode cX3_stir 72 = .ok (.iushr, 1) := by decide +kernel
theorem dX3_stir_73 : decode cX3_stir 73 = .ok (.ixor, 1) := by decide +kernel
theorem dX3_stir_74 : decode cX3_stir 74 = .ok (.ireturn, 1) := by decide +kernel
set_option maxRecDepth 20000 in
theorem ggX3_bit_X3_stir : GoodIn wsX3_bit wsX3_stir := goodIn_r _ [6, 7, 8, 9, 10, 11, 12, 13, 5, 14] (by decide +kernel) (by decide +kernel)
set_option maxRecDepth 20000 in
theorem gX3_bit_X3_stir : GoodIn wsX3_bit (wsV RX3 189 RX3 yX3_stir wsX3_stir) := goodIn_app (goodIn_of _ (by decide +kernel)) ggX3_bit_X3_stir
theorem dX3_bit_0 : decode cX3_bit 0 = .ok (.aload_n 0, 1) := by decide +kernel
theorem dX3_bit_1 : decode cX3_bit 1 = .ok (.iload_n 1, 1) := by decide +kernel
theorem dX3_bit_2 : decode cX3_bit 2 = .ok (.iconst 0, 1) := by decide +kernel
theorem dX3_bit_3 : decode cX3_bit 3 = .ok (.invokevirtual 189, 3) := by decide +kernel
theorem dX3_bit_6 : decode cX3_bit 6 = .ok (.iload_n 2, 1) := by decide +kernel
theorem dX3_bit_7 : decode cX3_bit 7 = .ok (.aload_n 0, 1) := by decide +kernel
theorem dX3_bit_8 : decode cX3_bit 8 = .ok (.iload_n 1, 1) := by decide +kernel
theorem dX3_bit_9 : decode cX3_bit 9 = .ok (.ldc 192, 2) := by decide +kernel
theorem dX3_bit_11 : decode cX3_bit 11 = .ok (.invokevirtual 189, 3) := by decide +kernel
theorem dX3_bit_14 : decode cX3_bit 14 = .ok (.imul, 1) := by decide +kernel
theorem dX3_bit_15 : decode cX3_bit 15 = .ok (.iadd, 1) := by decide +kernel
theorem dX3_bit_16 : decode cX3_bit 16 = .ok (.sipush 1023, 3) := by decide +kernel
theorem dX3_bit_19 : decode cX3_bit 19 = .ok (.iand, 1) := by decide +kernel
theorem dX3_bit_20 : decode cX3_bit 20 = .ok (.ireturn, 1) := by decide +kernel
set_option maxRecDepth 20000 in
theorem ggX3_setBits_X3_bit : GoodIn wsX3_setBits wsX3_bit := goodIn_r _ [7, 8, 9, 10, 11, 6, 12, 13, 14, 15, 16, 17, 18, 19, 20] (by decide +kernel) (by decide +kernel)
set_option maxRecDepth 20000 in
theorem gX3_setBits_X3_bit : GoodIn wsX3_setBits (wsV RX3 193 RX3 yX3_bit wsX3_bit) := goodIn_app (goodIn_of _ (by decide +kernel)) ggX3_setBits_X3_bit
theorem dX3_setBits_0 : decode cX3_setBits 0 = .ok (.bipush 16, 2) := by decide +kernel
theorem dX3_setBits_2 : decode cX3_setBits 2 = .ok (.istore_n 2, 1) := by decide +kernel
theorem dX3_setBits_3 : decode cX3_setBits 3 = .ok (.iload_n 2, 1) := by decide +kernel
theorem dX3_setBits_4 : decode cX3_setBits 4 = .ok (.bipush 24, 2) := by decide +kernel
theorem dX3_setBits_6 : decode cX3_setBits 6 = .ok (.if_icmp .ge 44, 3) := by decide +kernel
theorem dX3_setBits_9 : decode cX3_setBits 9 = .ok (.iconst 0, 1) := by decide +kernel
theorem dX3_setBits_10 : decode cX3_setBits 10 = .ok (.istore_n 3, 1) := by decide +kernel
theorem dX3_setBits_11 : decode cX3_setBits 11 = .ok (.iload_n 3, 1) := by decide +kernel
theorem dX3_setBits_12 : decode cX3_setBits 12 = .ok (.iconst 4, 1) := by decide +kernel
theorem dX3_setBits_13 : decode cX3_setBits 13 = .ok (.if_icmp .ge 31, 3) := by decide +kernel
theorem dX3_setBits_16 : decode cX3_setBits 16 = .ok (.aload_n 0, 1) := by decide +kernel
theorem dX3_setBits_17 : decode cX3_setBits 17 = .ok (.getfield 23, 3) := by decide +kernel
theorem dX3_setBits_20 : decode cX3_setBits 20 = .ok (.aload_n 0, 1) := by decide +kernel
theorem dX3_setBits_21 : decode cX3_setBits 21 = .ok (.aload_n 0, 1) := by decide +kernel
theorem dX3_setBits_22 : decode cX3_setBits 22 = .ok (.getfield 7, 3) := by decide +kernel
theorem dX3_setBits_25 : decode cX3_setBits 25 = .ok (.bipush 34, 2) := by decide +kernel
theorem dX3_setBits_27 : decode cX3_setBits 27 = .ok (.iload_n 1, 1) := by decide +kernel
theorem dX3_setBits_28 : decode cX3_setBits 28 = .ok (.imul, 1) := by decide +kernel
theorem dX3_setBits_29 : decode cX3_setBits 29 = .ok (.iload_n 2, 1) := by decide +kernel
theorem dX3_setBits_30 : decode cX3_setBits 30 = .ok (.iadd, 1) := by decide +kernel
theorem dX3_setBits_31 : decode cX3_setBits 31 = .ok (.iaload, 1) := by decide +kernel
theorem dX3_setBits_32 : decode cX3_setBits 32 = .ok (.iload_n 3, 1) := by decide +kernel
theorem dX3_setBits_33 : decode cX3_setBits 33 = .ok (.invokevirtual 193, 3) := by decide +kernel
theorem dX3_setBits_36 : decode cX3_setBits 36 = .ok (.iconst 1, 1) := by decide +kernel
theorem dX3_setBits_37 : decode cX3_setBits 37 = .ok (.bastore, 1) := by decide +kernel
theorem dX3_setBits_38 : decode cX3_setBits 38 = .ok (.iinc 3 1, 3) := by decide +kernel
theorem dX3_setBits_41 : decode cX3_setBits 41 = .ok (.goto (-30), 3) := by decide +kernel
theorem dX3_setBits_44 : decode cX3_setBits 44 = .ok (.iinc 2 1, 3) := by decide +kernel
theorem dX3_setBits_47 : decode cX3_setBits 47 = .ok (.goto (-44), 3) := by decide +kernel
theorem dX3_setBits_50 : decode cX3_setBits 50 = .ok (.return_, 1) := by decide +kernel
set_option maxRecDepth 20000 in
theorem ggX3_maybe_X3_bit : GoodIn wsX3_maybe wsX3_bit := goodIn_r _ [6, 7, 8, 9, 10, 5, 11, 12, 13, 14, 15, 16, 17, 18, 19] (by decide +kernel) (by decide +kernel)
set_option maxRecDepth 20000 in
theorem gX3_maybe_X3_bit : GoodIn wsX3_maybe (wsV RX3 193 RX3 yX3_bit wsX3_bit) := goodIn_app (goodIn_of _ (by decide +kernel)) ggX3_maybe_X3_bit
theorem dX3_maybe_0 : decode cX3_maybe 0 = .ok (.iconst 1, 1) := by decide +kernel
theorem dX3_maybe_1 : decode cX3_maybe 1 = .ok (.istore_n 2, 1) := by decide +kernel
theorem dX3_maybe_2 : decode cX3_maybe 2 = .ok (.iconst 0, 1) := by decide +kernel
theorem dX3_maybe_3 : decode cX3_maybe 3 = .ok (.istore_n 3, 1) := by decide +kernel
theorem dX3_maybe_4 : decode cX3_maybe 4 = .ok (.iload_n 3, 1) := by decide +kernel
theorem dX3_maybe_5 : decode cX3_maybe 5 = .ok (.iconst 4, 1) := by decide +kernel
theorem dX3_maybe_6 : decode cX3_maybe 6 = .ok (.if_icmp .ge 33, 3) := by decide +kernel
theorem dX3_maybe_9 : decode cX3_maybe 9 = .ok (.iload_n 2, 1) := by decide +kernel
theorem dX3_maybe_10 : decode cX3_maybe 10 = .ok (.ifCond .eq 21, 3) := by decide +kernel
theorem dX3_maybe_13 : decode cX3_maybe 13 = .ok (.aload_n 0, 1) := by decide +kernel
theorem dX3_maybe_14 : decode cX3_maybe 14 = .ok (.getfield 23, 3) := by decide +kernel
theorem dX3_maybe_17 : decode cX3_maybe 17 = .ok (.aload_n 0, 1) := by decide +kernel
theorem dX3_maybe_18 : decode cX3_maybe 18 = .ok (.iload_n 1, 1) := by decide +kernel
theorem dX3_maybe_19 : decode cX3_maybe 19 = .ok (.iload_n 3, 1) := by decide +kernel
theorem dX3_maybe_20 : decode cX3_maybe 20 = .ok (.invokevirtual 193, 3) := by decide +kernel
theorem dX3_maybe_23 : decode cX3_maybe 23 = .ok (.baload, 1) := by decide +kernel
theorem dX3_maybe_24 : decode cX3_maybe 24 = .ok (.ifCond .eq 7, 3) := by decide +kernel
theorem dX3_maybe_27 : decode cX3_maybe 27 = .ok (.iconst 1, 1) := by decide +kernel
theorem dX3_maybe_28 : decode cX3_maybe 28 = .ok (.goto 4, 3) := by decide +kernel
theorem dX3_maybe_31 : decode cX3_maybe 31 = .ok (.iconst 0, 1) := by decide +kernel
theorem dX3_maybe_32 : decode cX3_maybe 32 = .ok (.istore_n 2, 1) := by decide +kernel
theorem dX3_maybe_33 : decode cX3_maybe 33 = .ok (.iinc 3 1, 3) := by decide +kernel
theorem dX3_maybe_36 : decode cX3_maybe 36 = .ok (.goto (-32), 3) := by decide +kernel
theorem dX3_maybe_39 : decode cX3_maybe 39 = .ok (.iload_n 2, 1) := by decide +kernel
theorem dX3_maybe_40 : decode cX3_maybe 40 = .ok (.ireturn, 1) := by decide +kernel
set_option maxRecDepth 20000 in
theorem ggX3_may_X3_maybe : GoodIn wsX3_may wsX3_maybe := goodIn_r _ [5, 6, 7, 8, 9, 4, 10, 11, 12, 13, 14, 15, 16, 17, 18, 19, 20, 21, 22, 23, 24, 25, 26, 27, 28, 29, 30, 31, 32, 33, 34, 35, 36, 37, 38, 39, 40, 41, 42] (by decide +kernel) (by decide +kernel)
set_option maxRecDepth 20000 in
theorem gX3_may_X3_maybe : GoodIn wsX3_may (wsV RX3 196 RX3 yX3_maybe wsX3_maybe) := goodIn_app (goodIn_of _ (by decide +kernel)) ggX3_may_X3_maybe
theorem dX3_may_0 : decode cX3_may 0 = .ok (.aload_n 0, 1) := by decide +kernel
theorem dX3_may_1 : decode cX3_may 1 = .ok (.iload_n 1, 1) := by decide +kernel
theorem dX3_may_2 : decode cX3_may 2 = .ok (.invokevirtual 196, 3) := by decide +kernel
theorem dX3_may_5 : decode cX3_may 5 = .ok (.ifCond .eq 7, 3) := by decide +kernel
theorem dX3_may_8 : decode cX3_may 8 = .ok (.iconst 1, 1) := by decide +kernel
theorem dX3_may_9 : decode cX3_may 9 = .ok (.goto 4, 3) := by decide +kernel
theorem dX3_may_12 : decode cX3_may 12 = .ok (.iconst 0, 1) := by decide +kernel
theorem dX3_may_13 : decode cX3_may 13 = .ok (.ireturn, 1) := by decide +kernel
set_option maxRecDepth 20000 in
theorem ggX3_find_X3_maybe : GoodIn wsX3_find wsX3_maybe := goodIn_r _ [7, 8, 9, 10, 11, 6, 12, 13, 14, 15, 16, 17, 18, 19, 20, 21, 22, 23, 24, 25, 26, 27, 28, 29, 30, 31, 32, 33, 34, 35, 36, 37, 38, 39, 40, 41, 42, 43, 44] (by decide +kernel) (by decide +kernel)
set_option maxRecDepth 20000 in
theorem gX3_find_X3_maybe : GoodIn wsX3_find (wsV RX3 196 RX3 yX3_maybe wsX3_maybe) := goodIn_app (goodIn_of _ (by decide +kernel)) ggX3_find_X3_maybe
theorem dX3_find_0 : decode cX3_find 0 = .ok (.aload_n 0, 1) := by decide +kernel
theorem dX3_find_1 : decode cX3_find 1 = .ok (.iload_n 1, 1) := by decide +kernel
theorem dX3_find_2 : decode cX3_find 2 = .ok (.invokevirtual 196, 3) := by decide +kernel
theorem dX3_find_5 : decode cX3_find 5 = .ok (.ifCond .ne 5, 3) := by decide +kernel
theorem dX3_find_8 : decode cX3_find 8 = .ok (.iconst (-1), 1) := by decide +kernel
theorem dX3_find_9 : decode cX3_find 9 = .ok (.ireturn, 1) := by decide +kernel
theorem dX3_find_10 : decode cX3_find 10 = .ok (.iconst 0, 1) := by decide +kernel
theorem dX3_find_11 : decode cX3_find 11 = .ok (.istore_n 2, 1) := by decide +kernel
theorem dX3_find_12 : decode cX3_find 12 = .ok (.iload_n 2, 1) := by decide +kernel
theorem dX3_find_13 : decode cX3_find 13 = .ok (.aload_n 0, 1) := by decide +kernel
theorem dX3_find_14 : decode cX3_find 14 = .ok (.getfield 141, 3) := by decide +kernel
theorem dX3_find_17 : decode cX3_find 17 = .ok (.if_icmp .ge 41, 3) := by decide +kernel
theorem dX3_find_20 : decode cX3_find 20 = .ok (.bipush 16, 2) := by decide +kernel
theorem dX3_find_22 : decode cX3_find 22 = .ok (.istore_n 3, 1) := by decide +kernel
theorem dX3_find_23 : decode cX3_find 23 = .ok (.iload_n 3, 1) := by decide +kernel
theorem dX3_find_24 : decode cX3_find 24 = .ok (.bipush 24, 2) := by decide +kernel
theorem dX3_find_26 : decode cX3_find 26 = .ok (.if_icmp .ge 26, 3) := by decide +kernel
theorem dX3_find_29 : decode cX3_find 29 = .ok (.aload_n 0, 1) := by decide +kernel
theorem dX3_find_30 : decode cX3_find 30 = .ok (.getfield 7, 3) := by decide +kernel
theorem dX3_find_33 : decode cX3_find 33 = .ok (.bipush 34, 2) := by decide +kernel
theorem dX3_find_35 : decode cX3_find 35 = .ok (.iload_n 2, 1) := by decide +kernel
theorem dX3_find_36 : decode cX3_find 36 = .ok (.imul, 1) := by decide +kernel
theorem dX3_find_37 : decode cX3_find 37 = .ok (.iload_n 3, 1) := by decide +kernel
theorem dX3_find_38 : decode cX3_find 38 = .ok (.iadd, 1) := by decide +kernel
theorem dX3_find_39 : decode cX3_find 39 = .ok (.iaload, 1) := by decide +kernel
theorem dX3_find_40 : decode cX3_find 40 = .ok (.iload_n 1, 1) := by decide +kernel
theorem dX3_find_41 : decode cX3_find 41 = .ok (.if_icmp .ne 5, 3) := by decide +kernel
theorem dX3_find_44 : decode cX3_find 44 = .ok (.iload_n 2, 1) := by decide +kernel
theorem dX3_find_45 : decode cX3_find 45 = .ok (.ireturn, 1) := by decide +kernel
theorem dX3_find_46 : decode cX3_find 46 = .ok (.iinc 3 1, 3) := by decide +kernel
theorem dX3_find_49 : decode cX3_find 49 = .ok (.goto (-26), 3) := by decide +kernel
theorem dX3_find_52 : decode cX3_find 52 = .ok (.iinc 2 1, 3) := by decide +kernel
theorem dX3_find_55 : decode cX3_find 55 = .ok (.goto (-43), 3) := by decide +kernel
theorem dX3_find_58 : decode cX3_find 58 = .ok (.iconst (-1), 1) := by decide +kernel
theorem dX3_find_59 : decode cX3_find 59 = .ok (.ireturn, 1) := by decide +kernel
theorem dX3_begin_0 : decode cX3_begin 0 = .ok (.aload_n 0, 1) := by decide +kernel
theorem dX3_begin_1 : decode cX3_begin 1 = .ok (.getfield 181, 3) := by decide +kernel
theorem dX3_begin_4 : decode cX3_begin 4 = .ok (.istore_n 1, 1) := by decide +kernel
theorem dX3_begin_5 : decode cX3_begin 5 = .ok (.aload_n 0, 1) := by decide +kernel
theorem dX3_begin_6 : decode cX3_begin 6 = .ok (.iconst 0, 1) := by decide +kernel
theorem dX3_begin_7 : decode cX3_begin 7 = .ok (.putfield 181, 3) := by decide +kernel
theorem dX3_begin_10 : decode cX3_begin 10 = .ok (.iload_n 1, 1) := by decide +kernel
theorem dX3_begin_11 : decode cX3_begin 11 = .ok (.ireturn, 1) := by decide +kernel
set_option maxRecDepth 20000 in
theorem ggX3_isHashOf_X3_hashCell : GoodIn wsX3_isHashOf wsX3_hashCell := goodIn_r _ [6, 1, 7, 8, 9, 10, 11, 12, 13, 14, 15, 16, 17, 18, 19, 20, 21, 22, 23, 24, 25] (by decide +kernel) (by decide +kernel)
set_option maxRecDepth 20000 in
theorem gX3_isHashOf_X3_hashCell : GoodIn wsX3_isHashOf (wsV RX3 144 RX3 yX3_hashCell wsX3_hashCell) := goodIn_app (goodIn_of _ (by decide +kernel)) ggX3_isHashOf_X3_hashCell
theorem dX3_isHashOf_0 : decode cX3_isHashOf 0 = .ok (.iconst 1, 1) := by decide +kernel
theorem dX3_isHashOf_1 : decode cX3_isHashOf 1 = .ok (.istore_n 3, 1) := by decide +kernel
theorem dX3_isHashOf_2 : decode cX3_isHashOf 2 = .ok (.iconst 0, 1) := by decide +kernel
theorem dX3_isHashOf_3 : decode cX3_isHashOf 3 = .ok (.istore 4, 2) := by decide +kernel
theorem dX3_isHashOf_5 : decode cX3_isHashOf 5 = .ok (.iload 4, 2) := by decide +kernel
theorem dX3_isHashOf_7 : decode cX3_isHashOf 7 = .ok (.bipush 8, 2) := by decide +kernel
theorem dX3_isHashOf_9 : decode cX3_isHashOf 9 = .ok (.if_icmp .ge 46, 3) := by decide +kernel
theorem dX3_isHashOf_12 : decode cX3_isHashOf 12 = .ok (.iload_n 3, 1) := by decide +kernel
theorem dX3_isHashOf_13 : decode cX3_isHashOf 13 = .ok (.ifCond .eq 34, 3) := by decide +kernel
theorem dX3_isHashOf_16 : decode cX3_isHashOf 16 = .ok (.aload_n 0, 1) := by decide +kernel
theorem dX3_isHashOf_17 : decode cX3_isHashOf 17 = .ok (.getfield 7, 3) := by decide +kernel
theorem dX3_isHashOf_20 : decode cX3_isHashOf 20 = .ok (.iload_n 1, 1) := by decide +kernel
theorem dX3_isHashOf_21 : decode cX3_isHashOf 21 = .ok (.iload 4, 2) := by decide +kernel
theorem dX3_isHashOf_23 : decode cX3_isHashOf 23 = .ok (.iadd, 1) := by decide +kernel
theorem dX3_isHashOf_24 : decode cX3_isHashOf 24 = .ok (.iaload, 1) := by decide +kernel
theorem dX3_isHashOf_25 : decode cX3_isHashOf 25 = .ok (.iload_n 2, 1) := by decide +kernel
theorem dX3_isHashOf_26 : decode cX3_isHashOf 26 = .ok (.ifCond .ge 7, 3) := by decide +kernel
theorem dX3_isHashOf_29 : decode cX3_isHashOf 29 = .ok (.iconst 0, 1) := by decide +kernel
theorem dX3_isHashOf_30 : decode cX3_isHashOf 30 = .ok (.goto 10, 3) := by decide +kernel
theorem dX3_isHashOf_33 : decode cX3_isHashOf 33 = .ok (.aload_n 0, 1) := by decide +kernel
theorem dX3_isHashOf_34 : decode cX3_isHashOf 34 = .ok (.iload_n 2, 1) := by decide +kernel
theorem dX3_isHashOf_35 : decode cX3_isHashOf 35 = .ok (.iload 4, 2) := by decide +kernel
theorem dX3_isHashOf_37 : decode cX3_isHashOf 37 = .ok (.invokevirtual 144, 3) := by decide +kernel
theorem dX3_isHashOf_40 : decode cX3_isHashOf 40 = .ok (.if_icmp .ne 7, 3) := by decide +kernel
theorem dX3_isHashOf_43 : decode cX3_isHashOf 43 = .ok (.iconst 1, 1) := by decide +kernel
theorem dX3_isHashOf_44 : decode cX3_isHashOf 44 = .ok (.goto 4, 3) := by decide +kernel
theorem dX3_isHashOf_47 : decode cX3_isHashOf 47 = .ok (.iconst 0, 1) := by decide +kernel
theorem dX3_isHashOf_48 : decode cX3_isHashOf 48 = .ok (.istore_n 3, 1) := by decide +kernel
theorem dX3_isHashOf_49 : decode cX3_isHashOf 49 = .ok (.iinc 4 1, 3) := by decide +kernel
theorem dX3_isHashOf_52 : decode cX3_isHashOf 52 = .ok (.goto (-47), 3) := by decide +kernel
theorem dX3_isHashOf_55 : decode cX3_isHashOf 55 = .ok (.iload_n 3, 1) := by decide +kernel
theorem dX3_isHashOf_56 : decode cX3_isHashOf 56 = .ok (.ireturn, 1) := by decide +kernel
set_option maxRecDepth 20000 in
theorem ggX3_faultOf_X3_isHashOf : GoodIn wsX3_faultOf wsX3_isHashOf := goodIn_r _ [8, 2, 9, 10, 11, 7, 12, 43, 44, 45, 46, 47, 48, 49, 50, 51, 52, 53, 54, 55, 56, 57, 58, 59, 60, 61] (by decide +kernel) (by decide +kernel)
set_option maxRecDepth 20000 in
theorem gX3_faultOf_X3_isHashOf : GoodIn wsX3_faultOf (wsV RX3 200 RX3 yX3_isHashOf wsX3_isHashOf) := goodIn_app (goodIn_of _ (by decide +kernel)) ggX3_faultOf_X3_isHashOf
set_option maxRecDepth 20000 in
theorem ggX3_faultOf_X3_lowest : GoodIn wsX3_faultOf wsX3_lowest := goodIn_r _ [15] (by decide +kernel) (by decide +kernel)
set_option maxRecDepth 20000 in
theorem gX3_faultOf_X3_lowest : GoodIn wsX3_faultOf (va_wsS RX3 147 yX3_lowest wsX3_lowest) := goodIn_app (goodIn_of _ (by decide +kernel)) ggX3_faultOf_X3_lowest
set_option maxRecDepth 20000 in
theorem ggX3_faultOf_X3_mixFirst : GoodIn wsX3_faultOf wsX3_mixFirst := goodIn_r _ [19, 3, 20, 21, 1, 22, 23, 24, 25, 7, 26, 27, 28, 29, 30, 43, 44, 45, 46, 47, 48, 49, 50, 51, 52, 53, 54, 55, 56, 57, 58, 59, 60, 61] (by decide +kernel) (by decide +kernel)
set_option maxRecDepth 20000 in
theorem gX3_faultOf_X3_mixFirst : GoodIn wsX3_faultOf (wsV RX3 163 RX3 yX3_mixFirst wsX3_mixFirst) := goodIn_app (goodIn_of _ (by decide +kernel)) ggX3_faultOf_X3_mixFirst
set_option maxRecDepth 20000 in
theorem ggX3_faultOf_X3_mixSecond : GoodIn wsX3_faultOf wsX3_mixSecond := goodIn_r _ [34, 3, 22, 21, 1, 35, 23, 24, 25, 7, 26, 27, 28, 29, 30, 43, 44, 45, 46, 47, 48, 49, 50, 51, 52, 53, 54, 55, 56, 57, 58, 59, 60, 61] (by decide +kernel) (by decide +kernel)
set_option maxRecDepth 20000 in
theorem gX3_faultOf_X3_mixSecond : GoodIn wsX3_faultOf (wsV RX3 166 RX3 yX3_mixSecond wsX3_mixSecond) := goodIn_app (goodIn_of _ (by decide +kernel)) ggX3_faultOf_X3_mixSecond
set_option maxRecDepth 20000 in
theorem ggX3_faultOf_X3_hashCell : GoodIn wsX3_faultOf wsX3_hashCell := goodIn_r _ [12, 2, 43, 44, 45, 46, 47, 48, 49, 50, 51, 52, 53, 54, 55, 56, 57, 58, 59, 60, 61] (by decide +kernel) (by decide +kernel)
set_option maxRecDepth 20000 in
theorem gX3_faultOf_X3_hashCell : GoodIn wsX3_faultOf (wsV RX3 144 RX3 yX3_hashCell wsX3_hashCell) := goodIn_app (goodIn_of _ (by decide +kernel)) ggX3_faultOf_X3_hashCell
set_option maxRecDepth 20000 in
theorem ggX3_faultOf_X3_zeros : GoodIn wsX3_faultOf wsX3_zeros := goodIn_r _ [39, 3, 40, 41, 7, 42, 43, 44, 45, 46, 47, 48, 49, 50, 51, 52, 53, 54, 55, 56, 57, 58, 59, 60, 61] (by decide +kernel) (by decide +kernel)
set_option maxRecDepth 20000 in
theorem gX3_faultOf_X3_zeros : GoodIn wsX3_faultOf (wsV RX3 169 RX3 yX3_zeros wsX3_zeros) := goodIn_app (goodIn_of _ (by decide +kernel)) ggX3_faultOf_X3_zeros
theorem dX3_faultOf_0 : decode cX3_faultOf 0 = .ok (.aload_n 0, 1) := by decide +kernel
theorem dX3_faultOf_1 : decode cX3_faultOf 1 = .ok (.bipush 34, 2) := by decide +kernel
theorem dX3_faultOf_3 : decode cX3_faultOf 3 = .ok (.iload_n 1, 1) := by decide +kernel
theorem dX3_faultOf_4 : decode cX3_faultOf 4 = .ok (.imul, 1) := by decide +kernel
theorem dX3_faultOf_5 : decode cX3_faultOf 5 = .ok (.iload_n 1, 1) := by decide +kernel
theorem dX3_faultOf_6 : decode cX3_faultOf 6 = .ok (.iconst 1, 1) := by decide +kernel
theorem dX3_faultOf_7 : decode cX3_faultOf 7 = .ok (.isub, 1) := by decide +kernel
theorem dX3_faultOf_8 : decode cX3_faultOf 8 = .ok (.invokevirtual 200, 3) := by decide +kernel
theorem dX3_faultOf_11 : decode cX3_faultOf 11 = .ok (.ifCond .ne 5, 3) := by decide +kernel
theorem dX3_faultOf_14 : decode cX3_faultOf 14 = .ok (.iconst 1, 1) := by decide +kernel
theorem dX3_faultOf_15 : decode cX3_faultOf 15 = .ok (.ireturn, 1) := by decide +kernel
theorem dX3_faultOf_16 : decode cX3_faultOf 16 = .ok (.aload_n 0, 1) := by decide +kernel
theorem dX3_faultOf_17 : decode cX3_faultOf 17 = .ok (.bipush 34, 2) := by decide +kernel
theorem dX3_faultOf_19 : decode cX3_faultOf 19 = .ok (.iload_n 1, 1) := by decide +kernel
theorem dX3_faultOf_20 : decode cX3_faultOf 20 = .ok (.imul, 1) := by decide +kernel
theorem dX3_faultOf_21 : decode cX3_faultOf 21 = .ok (.bipush 8, 2) := by decide +kernel
theorem dX3_faultOf_23 : decode cX3_faultOf 23 = .ok (.iadd, 1) := by decide +kernel
theorem dX3_faultOf_24 : decode cX3_faultOf 24 = .ok (.iload_n 1, 1) := by decide +kernel
theorem dX3_faultOf_25 : decode cX3_faultOf 25 = .ok (.ifCond .ne 7, 3) := by decide +kernel
theorem dX3_faultOf_28 : decode cX3_faultOf 28 = .ok (.iconst (-1), 1) := by decide +kernel
theorem dX3_faultOf_29 : decode cX3_faultOf 29 = .ok (.goto 9, 3) := by decide +kernel
theorem dX3_faultOf_32 : decode cX3_faultOf 32 = .ok (.iload_n 1, 1) := by decide +kernel
theorem dX3_faultOf_33 : decode cX3_faultOf 33 = .ok (.iload_n 1, 1) := by decide +kernel
theorem dX3_faultOf_34 : decode cX3_faultOf 34 = .ok (.invokestatic 147, 3) := by decide +kernel
theorem dX3_faultOf_37 : decode cX3_faultOf 37 = .ok (.isub, 1) := by decide +kernel
theorem dX3_faultOf_38 : decode cX3_faultOf 38 = .ok (.invokevirtual 200, 3) := by decide +kernel
theorem dX3_faultOf_41 : decode cX3_faultOf 41 = .ok (.ifCond .ne 5, 3) := by decide +kernel
theorem dX3_faultOf_44 : decode cX3_faultOf 44 = .ok (.iconst 2, 1) := by decide +kernel
theorem dX3_faultOf_45 : decode cX3_faultOf 45 = .ok (.ireturn, 1) := by decide +kernel
theorem dX3_faultOf_46 : decode cX3_faultOf 46 = .ok (.iconst 0, 1) := by decide +kernel
theorem dX3_faultOf_47 : decode cX3_faultOf 47 = .ok (.istore_n 2, 1) := by decide +kernel
theorem dX3_faultOf_48 : decode cX3_faultOf 48 = .ok (.iload_n 2, 1) := by decide +kernel
theorem dX3_faultOf_49 : decode cX3_faultOf 49 = .ok (.bipush 26, 2) := by decide +kernel
theorem dX3_faultOf_51 : decode cX3_faultOf 51 = .ok (.if_icmp .ge 26, 3) := by decide +kernel
theorem dX3_faultOf_54 : decode cX3_faultOf 54 = .ok (.aload_n 0, 1) := by decide +kernel
theorem dX3_faultOf_55 : decode cX3_faultOf 55 = .ok (.getfield 45, 3) := by decide +kernel
theorem dX3_faultOf_58 : decode cX3_faultOf 58 = .ok (.iload_n 2, 1) := by decide +kernel
theorem dX3_faultOf_59 : decode cX3_faultOf 59 = .ok (.aload_n 0, 1) := by decide +kernel
theorem dX3_faultOf_60 : decode cX3_faultOf 60 = .ok (.getfield 7, 3) := by decide +kernel
theorem dX3_faultOf_63 : decode cX3_faultOf 63 = .ok (.bipush 34, 2) := by decide +kernel
theorem dX3_faultOf_65 : decode cX3_faultOf 65 = .ok (.iload_n 1, 1) := by decide +kernel
theorem dX3_faultOf_66 : decode cX3_faultOf 66 = .ok (.imul, 1) := by decide +kernel
theorem dX3_faultOf_67 : decode cX3_faultOf 67 = .ok (.iload_n 2, 1) := by decide +kernel
theorem dX3_faultOf_68 : decode cX3_faultOf 68 = .ok (.iadd, 1) := by decide +kernel
theorem dX3_faultOf_69 : decode cX3_faultOf 69 = .ok (.iaload, 1) := by decide +kernel
theorem dX3_faultOf_70 : decode cX3_faultOf 70 = .ok (.iastore, 1) := by decide +kernel
theorem dX3_faultOf_71 : decode cX3_faultOf 71 = .ok (.iinc 2 1, 3) := by decide +kernel
theorem dX3_faultOf_74 : decode cX3_faultOf 74 = .ok (.goto (-26), 3) := by decide +kernel
theorem dX3_faultOf_77 : decode cX3_faultOf 77 = .ok (.aload_n 0, 1) := by decide +kernel
theorem dX3_faultOf_78 : decode cX3_faultOf 78 = .ok (.invokevirtual 163, 3) := by decide +kernel
theorem dX3_faultOf_81 : decode cX3_faultOf 81 = .ok (.aload_n 0, 1) := by decide +kernel
theorem dX3_faultOf_82 : decode cX3_faultOf 82 = .ok (.invokevirtual 166, 3) := by decide +kernel
theorem dX3_faultOf_85 : decode cX3_faultOf 85 = .ok (.iconst 0, 1) := by decide +kernel
theorem dX3_faultOf_86 : decode cX3_faultOf 86 = .ok (.istore_n 2, 1) := by decide +kernel
theorem dX3_faultOf_87 : decode cX3_faultOf 87 = .ok (.iload_n 2, 1) := by decide +kernel
theorem dX3_faultOf_88 : decode cX3_faultOf 88 = .ok (.bipush 8, 2) := by decide +kernel
theorem dX3_faultOf_90 : decode cX3_faultOf 90 = .ok (.if_icmp .ge 26, 3) := by decide +kernel
theorem dX3_faultOf_93 : decode cX3_faultOf 93 = .ok (.aload_n 0, 1) := by decide +kernel
theorem dX3_faultOf_94 : decode cX3_faultOf 94 = .ok (.getfield 36, 3) := by decide +kernel
theorem dX3_faultOf_97 : decode cX3_faultOf 97 = .ok (.iload_n 2, 1) := by decide +kernel
theorem dX3_faultOf_98 : decode cX3_faultOf 98 = .ok (.iaload, 1) := by decide +kernel
theorem dX3_faultOf_99 : decode cX3_faultOf 99 = .ok (.aload_n 0, 1) := by decide +kernel
theorem dX3_faultOf_100 : decode cX3_faultOf 100 = .ok (.iload_n 1, 1) := by decide +kernel
theorem dX3_faultOf_101 : decode cX3_faultOf 101 = .ok (.iload_n 2, 1) := by decide +kernel
theorem dX3_faultOf_102 : decode cX3_faultOf 102 = .ok (.invokevirtual 144, 3) := by decide +kernel
theorem dX3_faultOf_105 : decode cX3_faultOf 105 = .ok (.if_icmp .eq 5, 3) := by decide +kernel
theorem dX3_faultOf_108 : decode cX3_faultOf 108 = .ok (.iconst 3, 1) := by decide +kernel
theorem dX3_faultOf_109 : decode cX3_faultOf 109 = .ok (.ireturn, 1) := by decide +kernel
theorem dX3_faultOf_110 : decode cX3_faultOf 110 = .ok (.iinc 2 1, 3) := by decide +kernel
theorem dX3_faultOf_113 : decode cX3_faultOf 113 = .ok (.goto (-26), 3) := by decide +kernel
theorem dX3_faultOf_116 : decode cX3_faultOf 116 = .ok (.aload_n 0, 1) := by decide +kernel
theorem dX3_faultOf_117 : decode cX3_faultOf 117 = .ok (.invokevirtual 169, 3) := by decide +kernel
theorem dX3_faultOf_120 : decode cX3_faultOf 120 = .ok (.aload_n 0, 1) := by decide +kernel
theorem dX3_faultOf_121 : decode cX3_faultOf 121 = .ok (.getfield 7, 3) := by decide +kernel
theorem dX3_faultOf_124 : decode cX3_faultOf 124 = .ok (.bipush 34, 2) := by decide +kernel
theorem dX3_faultOf_126 : decode cX3_faultOf 126 = .ok (.iload_n 1, 1) := by decide +kernel
theorem dX3_faultOf_127 : decode cX3_faultOf 127 = .ok (.imul, 1) := by decide +kernel
theorem dX3_faultOf_128 : decode cX3_faultOf 128 = .ok (.bipush 24, 2) := by decide +kernel
theorem dX3_faultOf_130 : decode cX3_faultOf 130 = .ok (.iadd, 1) := by decide +kernel
theorem dX3_faultOf_131 : decode cX3_faultOf 131 = .ok (.iaload, 1) := by decide +kernel
theorem dX3_faultOf_132 : decode cX3_faultOf 132 = .ok (.iconst 4, 1) := by decide +kernel
theorem dX3_faultOf_133 : decode cX3_faultOf 133 = .ok (.iushr, 1) := by decide +kernel
theorem dX3_faultOf_134 : decode cX3_faultOf 134 = .ok (.if_icmp .ge 7, 3) := by decide +kernel
theorem dX3_faultOf_137 : decode cX3_faultOf 137 = .ok (.iconst 4, 1) := by decide +kernel
theorem dX3_faultOf_138 : decode cX3_faultOf 138 = .ok (.goto 4, 3) := by decide +kernel
theorem dX3_faultOf_141 : decode cX3_faultOf 141 = .ok (.iconst 0, 1) := by decide +kernel
theorem dX3_faultOf_142 : decode cX3_faultOf 142 = .ok (.ireturn, 1) := by decide +kernel
set_option maxRecDepth 20000 in
theorem ggX3_isHeadRight_X3_hashCell : GoodIn wsX3_isHeadRight wsX3_hashCell := goodIn_r _ [7, 8, 9, 10, 11, 12, 13, 14, 15, 16, 17, 18, 19, 20, 21, 22, 23, 24, 25, 26, 27] (by decide +kernel) (by decide +kernel)
set_option maxRecDepth 20000 in
theorem gX3_isHeadRight_X3_hashCell : GoodIn wsX3_isHeadRight (wsV RX3 144 RX3 yX3_hashCell wsX3_hashCell) := goodIn_app (goodIn_of _ (by decide +kernel)) ggX3_isHeadRight_X3_hashCell
theorem dX3_isHeadRight_0 : decode cX3_isHeadRight 0 = .ok (.iconst 1, 1) := by decide +kernel
theorem dX3_isHeadRight_1 : decode cX3_isHeadRight 1 = .ok (.istore_n 1, 1) := by decide +kernel
theorem dX3_isHeadRight_2 : decode cX3_isHeadRight 2 = .ok (.iconst 0, 1) := by decide +kernel
theorem dX3_isHeadRight_3 : decode cX3_isHeadRight 3 = .ok (.istore_n 2, 1) := by decide +kernel
theorem dX3_isHeadRight_4 : decode cX3_isHeadRight 4 = .ok (.iload_n 2, 1) := by decide +kernel
theorem dX3_isHeadRight_5 : decode cX3_isHeadRight 5 = .ok (.bipush 8, 2) := by decide +kernel
theorem dX3_isHeadRight_7 : decode cX3_isHeadRight 7 = .ok (.if_icmp .ge 50, 3) := by decide +kernel
theorem dX3_isHeadRight_10 : decode cX3_isHeadRight 10 = .ok (.iload_n 1, 1) := by decide +kernel
theorem dX3_isHeadRight_11 : decode cX3_isHeadRight 11 = .ok (.ifCond .eq 38, 3) := by decide +kernel
theorem dX3_isHeadRight_14 : decode cX3_isHeadRight 14 = .ok (.aload_n 0, 1) := by decide +kernel
theorem dX3_isHeadRight_15 : decode cX3_isHeadRight 15 = .ok (.getfield 13, 3) := by decide +kernel
theorem dX3_isHeadRight_18 : decode cX3_isHeadRight 18 = .ok (.iload_n 2, 1) := by decide +kernel
theorem dX3_isHeadRight_19 : decode cX3_isHeadRight 19 = .ok (.iaload, 1) := by decide +kernel
theorem dX3_isHeadRight_20 : decode cX3_isHeadRight 20 = .ok (.aload_n 0, 1) := by decide +kernel
theorem dX3_isHeadRight_21 : decode cX3_isHeadRight 21 = .ok (.getfield 141, 3) := by decide +kernel
theorem dX3_isHeadRight_24 : decode cX3_isHeadRight 24 = .ok (.ifCond .ne 7, 3) := by decide +kernel
theorem dX3_isHeadRight_27 : decode cX3_isHeadRight 27 = .ok (.iconst 0, 1) := by decide +kernel
theorem dX3_isHeadRight_28 : decode cX3_isHeadRight 28 = .ok (.goto 14, 3) := by decide +kernel
theorem dX3_isHeadRight_31 : decode cX3_isHeadRight 31 = .ok (.aload_n 0, 1) := by decide +kernel
theorem dX3_isHeadRight_32 : decode cX3_isHeadRight 32 = .ok (.aload_n 0, 1) := by decide +kernel
theorem dX3_isHeadRight_33 : decode cX3_isHeadRight 33 = .ok (.getfield 141, 3) := by decide +kernel
theorem dX3_isHeadRight_36 : decode cX3_isHeadRight 36 = .ok (.iconst 1, 1) := by decide +kernel
theorem dX3_isHeadRight_37 : decode cX3_isHeadRight 37 = .ok (.isub, 1) := by decide +kernel
theorem dX3_isHeadRight_38 : decode cX3_isHeadRight 38 = .ok (.iload_n 2, 1) := by decide +kernel
theorem dX3_isHeadRight_39 : decode cX3_isHeadRight 39 = .ok (.invokevirtual 144, 3) := by decide +kernel
theorem dX3_isHeadRight_42 : decode cX3_isHeadRight 42 = .ok (.if_icmp .ne 7, 3) := by decide +kernel
theorem dX3_isHeadRight_45 : decode cX3_isHeadRight 45 = .ok (.iconst 1, 1) := by decide +kernel
theorem dX3_isHeadRight_46 : decode cX3_isHeadRight 46 = .ok (.goto 4, 3) := by decide +kernel
theorem dX3_isHeadRight_49 : decode cX3_isHeadRight 49 = .ok (.iconst 0, 1) := by decide +kernel
theorem dX3_isHeadRight_50 : decode cX3_isHeadRight 50 = .ok (.istore_n 1, 1) := by decide +kernel
theorem dX3_isHeadRight_51 : decode cX3_isHeadRight 51 = .ok (.iinc 2 1, 3) := by decide +kernel
theorem dX3_isHeadRight_54 : decode cX3_isHeadRight 54 = .ok (.goto (-50), 3) := by decide +kernel
theorem dX3_isHeadRight_57 : decode cX3_isHeadRight 57 = .ok (.iload_n 1, 1) := by decide +kernel
theorem dX3_isHeadRight_58 : decode cX3_isHeadRight 58 = .ok (.ireturn, 1) := by decide +kernel
set_option maxRecDepth 20000 in
theorem ggX3_audit_X3_faultOf : GoodIn wsX3_audit wsX3_faultOf := goodIn_r _ [8, 9, 10, 11, 12, 13, 14, 7, 15, 16, 17, 18, 19, 20, 21, 22, 23, 24, 25, 26, 27, 28, 29, 30, 31, 32, 33, 34, 35, 36, 37, 38, 39, 40, 41, 42, 43, 44, 45, 46, 47, 48, 49, 55, 56, 57, 58, 59, 60, 61, 62, 63, 64, 65, 66, 67, 68, 69, 70, 71, 72, 73] (by decide +kernel) (by decide +kernel)
set_option maxRecDepth 20000 in
theorem gX3_audit_X3_faultOf : GoodIn wsX3_audit (wsV RX3 206 RX3 yX3_faultOf wsX3_faultOf) := goodIn_app (goodIn_of _ (by decide +kernel)) ggX3_audit_X3_faultOf
set_option maxRecDepth 20000 in
theorem ggX3_audit_X3_isHeadRight : GoodIn wsX3_audit wsX3_isHeadRight := goodIn_r _ [53, 54, 3, 16, 17, 18, 7, 19, 10, 55, 56, 57, 58, 59, 60, 61, 62, 63, 64, 65, 66, 67, 68, 69, 70, 71, 72, 73] (by decide +kernel) (by decide +kernel)
set_option maxRecDepth 20000 in
theorem gX3_audit_X3_isHeadRight : GoodIn wsX3_audit (wsV RX3 209 RX3 yX3_isHeadRight wsX3_isHeadRight) := goodIn_app (goodIn_of _ (by decide +kernel)) ggX3_audit_X3_isHeadRight
theorem dX3_audit_0 : decode cX3_audit 0 = .ok (.iload_n 1, 1) := by decide +kernel
theorem dX3_audit_1 : decode cX3_audit 1 = .ok (.iconst 1, 1) := by decide +kernel
theorem dX3_audit_2 : decode cX3_audit 2 = .ok (.if_icmp .lt 9, 3) := by decide +kernel
theorem dX3_audit_5 : decode cX3_audit 5 = .ok (.iload_n 1, 1) := by decide +kernel
theorem dX3_audit_6 : decode cX3_audit 6 = .ok (.bipush 100, 2) := by decide +kernel
theorem dX3_audit_8 : decode cX3_audit 8 = .ok (.if_icmp .le 6, 3) := by decide +kernel
theorem dX3_audit_11 : decode cX3_audit 11 = .ok (.bipush (-2), 2) := by decide +kernel
theorem dX3_audit_13 : decode cX3_audit 13 = .ok (.ireturn, 1) := by decide +kernel
theorem dX3_audit_14 : decode cX3_audit 14 = .ok (.aload_n 0, 1) := by decide +kernel
theorem dX3_audit_15 : decode cX3_audit 15 = .ok (.iconst 0, 1) := by decide +kernel
theorem dX3_audit_16 : decode cX3_audit 16 = .ok (.putfield 203, 3) := by decide +kernel
theorem dX3_audit_19 : decode cX3_audit 19 = .ok (.iconst 0, 1) := by decide +kernel
theorem dX3_audit_20 : decode cX3_audit 20 = .ok (.istore_n 2, 1) := by decide +kernel
theorem dX3_audit_21 : decode cX3_audit 21 = .ok (.iload_n 2, 1) := by decide +kernel
theorem dX3_audit_22 : decode cX3_audit 22 = .ok (.iload_n 1, 1) := by decide +kernel
theorem dX3_audit_23 : decode cX3_audit 23 = .ok (.if_icmp .ge 54, 3) := by decide +kernel
theorem dX3_audit_26 : decode cX3_audit 26 = .ok (.aload_n 0, 1) := by decide +kernel
theorem dX3_audit_27 : decode cX3_audit 27 = .ok (.getfield 181, 3) := by decide +kernel
theorem dX3_audit_30 : decode cX3_audit 30 = .ok (.aload_n 0, 1) := by decide +kernel
theorem dX3_audit_31 : decode cX3_audit 31 = .ok (.getfield 141, 3) := by decide +kernel
theorem dX3_audit_34 : decode cX3_audit 34 = .ok (.if_icmp .ge 43, 3) := by decide +kernel
theorem dX3_audit_37 : decode cX3_audit 37 = .ok (.aload_n 0, 1) := by decide +kernel
theorem dX3_audit_38 : decode cX3_audit 38 = .ok (.aload_n 0, 1) := by decide +kernel
theorem dX3_audit_39 : decode cX3_audit 39 = .ok (.aload_n 0, 1) := by decide +kernel
theorem dX3_audit_40 : decode cX3_audit 40 = .ok (.getfield 181, 3) := by decide +kernel
theorem dX3_audit_43 : decode cX3_audit 43 = .ok (.invokevirtual 206, 3) := by decide +kernel
theorem dX3_audit_46 : decode cX3_audit 46 = .ok (.putfield 203, 3) := by decide +kernel
theorem dX3_audit_49 : decode cX3_audit 49 = .ok (.aload_n 0, 1) := by decide +kernel
theorem dX3_audit_50 : decode cX3_audit 50 = .ok (.getfield 203, 3) := by decide +kernel
theorem dX3_audit_53 : decode cX3_audit 53 = .ok (.ifCond .le 8, 3) := by decide +kernel
theorem dX3_audit_56 : decode cX3_audit 56 = .ok (.aload_n 0, 1) := by decide +kernel
theorem dX3_audit_57 : decode cX3_audit 57 = .ok (.getfield 181, 3) := by decide +kernel
theorem dX3_audit_60 : decode cX3_audit 60 = .ok (.ireturn, 1) := by decide +kernel
theorem dX3_audit_61 : decode cX3_audit 61 = .ok (.aload_n 0, 1) := by decide +kernel
theorem dX3_audit_62 : decode cX3_audit 62 = .ok (.dup, 1) := by decide +kernel
theorem dX3_audit_63 : decode cX3_audit 63 = .ok (.getfield 181, 3) := by decide +kernel
theorem dX3_audit_66 : decode cX3_audit 66 = .ok (.iconst 1, 1) := by decide +kernel
theorem dX3_audit_67 : decode cX3_audit 67 = .ok (.iadd, 1) := by decide +kernel
theorem dX3_audit_68 : decode cX3_audit 68 = .ok (.putfield 181, 3) := by decide +kernel
theorem dX3_audit_71 : decode cX3_audit 71 = .ok (.iinc 2 1, 3) := by decide +kernel
theorem dX3_audit_74 : decode cX3_audit 74 = .ok (.goto (-53), 3) := by decide +kernel
theorem dX3_audit_77 : decode cX3_audit 77 = .ok (.iload_n 2, 1) := by decide +kernel
theorem dX3_audit_78 : decode cX3_audit 78 = .ok (.iload_n 1, 1) := by decide +kernel
theorem dX3_audit_79 : decode cX3_audit 79 = .ok (.if_icmp .ne 5, 3) := by decide +kernel
theorem dX3_audit_82 : decode cX3_audit 82 = .ok (.iconst (-1), 1) := by decide +kernel
theorem dX3_audit_83 : decode cX3_audit 83 = .ok (.ireturn, 1) := by decide +kernel
theorem dX3_audit_84 : decode cX3_audit 84 = .ok (.aload_n 0, 1) := by decide +kernel
theorem dX3_audit_85 : decode cX3_audit 85 = .ok (.invokevirtual 209, 3) := by decide +kernel
theorem dX3_audit_88 : decode cX3_audit 88 = .ok (.ifCond .eq 6, 3) := by decide +kernel
theorem dX3_audit_91 : decode cX3_audit 91 = .ok (.bipush (-5), 2) := by decide +kernel
theorem dX3_audit_93 : decode cX3_audit 93 = .ok (.ireturn, 1) := by decide +kernel
theorem dX3_audit_94 : decode cX3_audit 94 = .ok (.aload_n 0, 1) := by decide +kernel
theorem dX3_audit_95 : decode cX3_audit 95 = .ok (.aload_n 0, 1) := by decide +kernel
theorem dX3_audit_96 : decode cX3_audit 96 = .ok (.getfield 141, 3) := by decide +kernel
theorem dX3_audit_99 : decode cX3_audit 99 = .ok (.ifCond .ne 8, 3) := by decide +kernel
theorem dX3_audit_102 : decode cX3_audit 102 = .ok (.bipush 6, 2) := by decide +kernel
theorem dX3_audit_104 : decode cX3_audit 104 = .ok (.goto 4, 3) := by decide +kernel
theorem dX3_audit_107 : decode cX3_audit 107 = .ok (.iconst 5, 1) := by decide +kernel
theorem dX3_audit_108 : decode cX3_audit 108 = .ok (.putfield 203, 3) := by decide +kernel
theorem dX3_audit_111 : decode cX3_audit 111 = .ok (.aload_n 0, 1) := by decide +kernel
theorem dX3_audit_112 : decode cX3_audit 112 = .ok (.getfield 141, 3) := by decide +kernel
theorem dX3_audit_115 : decode cX3_audit 115 = .ok (.ifCond .ne 7, 3) := by decide +kernel
theorem dX3_audit_118 : decode cX3_audit 118 = .ok (.iconst 0, 1) := by decide +kernel
theorem dX3_audit_119 : decode cX3_audit 119 = .ok (.goto 9, 3) := by decide +kernel
theorem dX3_audit_122 : decode cX3_audit 122 = .ok (.aload_n 0, 1) := by decide +kernel
theorem dX3_audit_123 : decode cX3_audit 123 = .ok (.getfield 141, 3) := by decide +kernel
theorem dX3_audit_126 : decode cX3_audit 126 = .ok (.iconst 1, 1) := by decide +kernel
theorem dX3_audit_127 : decode cX3_audit 127 = .ok (.isub, 1) := by decide +kernel
theorem dX3_audit_128 : decode cX3_audit 128 = .ok (.ireturn, 1) := by decide +kernel
theorem dX3_fault_0 : decode cX3_fault 0 = .ok (.aload_n 0, 1) := by decide +kernel
theorem dX3_fault_1 : decode cX3_fault 1 = .ok (.getfield 203, 3) := by decide +kernel
theorem dX3_fault_4 : decode cX3_fault 4 = .ok (.ireturn, 1) := by decide +kernel
set_option maxRecDepth 20000 in
theorem ggX3_next_X3_lowest : GoodIn wsX3_next wsX3_lowest := goodIn_r _ [4] (by decide +kernel) (by decide +kernel)
set_option maxRecDepth 20000 in
theorem gX3_next_X3_lowest : GoodIn wsX3_next (va_wsS RX3 147 yX3_lowest wsX3_lowest) := goodIn_app (goodIn_of _ (by decide +kernel)) ggX3_next_X3_lowest
theorem dX3_next_0 : decode cX3_next 0 = .ok (.iload_n 1, 1) := by decide +kernel
theorem dX3_next_1 : decode cX3_next 1 = .ok (.iload_n 1, 1) := by decide +kernel
theorem dX3_next_2 : decode cX3_next 2 = .ok (.invokestatic 147, 3) := by decide +kernel
theorem dX3_next_5 : decode cX3_next 5 = .ok (.isub, 1) := by decide +kernel
theorem dX3_next_6 : decode cX3_next 6 = .ok (.iload_n 2, 1) := by decide +kernel
theorem dX3_next_7 : decode cX3_next 7 = .ok (.if_icmp .lt 12, 3) := by decide +kernel
theorem dX3_next_10 : decode cX3_next 10 = .ok (.iload_n 1, 1) := by decide +kernel
theorem dX3_next_11 : decode cX3_next 11 = .ok (.iload_n 1, 1) := by decide +kernel
theorem dX3_next_12 : decode cX3_next 12 = .ok (.invokestatic 147, 3) := by decide +kernel
theorem dX3_next_15 : decode cX3_next 15 = .ok (.isub, 1) := by decide +kernel
theorem dX3_next_16 : decode cX3_next 16 = .ok (.goto 6, 3) := by decide +kernel
theorem dX3_next_19 : decode cX3_next 19 = .ok (.iload_n 1, 1) := by decide +kernel
theorem dX3_next_20 : decode cX3_next 20 = .ok (.iconst 1, 1) := by decide +kernel
theorem dX3_next_21 : decode cX3_next 21 = .ok (.isub, 1) := by decide +kernel
theorem dX3_next_22 : decode cX3_next 22 = .ok (.ireturn, 1) := by decide +kernel
set_option maxRecDepth 20000 in
theorem ggX3_way_X3_next : GoodIn wsX3_way wsX3_next := goodIn_r _ [6, 7, 8, 5, 9] (by decide +kernel) (by decide +kernel)
set_option maxRecDepth 20000 in
theorem gX3_way_X3_next : GoodIn wsX3_way (wsV RX3 213 RX3 yX3_next wsX3_next) := goodIn_app (goodIn_of _ (by decide +kernel)) ggX3_way_X3_next
theorem dX3_way_0 : decode cX3_way 0 = .ok (.iload_n 1, 1) := by decide +kernel
theorem dX3_way_1 : decode cX3_way 1 = .ok (.ifCond .lt 11, 3) := by decide +kernel
theorem dX3_way_4 : decode cX3_way 4 = .ok (.iload_n 1, 1) := by decide +kernel
theorem dX3_way_5 : decode cX3_way 5 = .ok (.aload_n 0, 1) := by decide +kernel
theorem dX3_way_6 : decode cX3_way 6 = .ok (.getfield 141, 3) := by decide +kernel
theorem dX3_way_9 : decode cX3_way 9 = .ok (.if_icmp .lt 6, 3) := by decide +kernel
theorem dX3_way_12 : decode cX3_way 12 = .ok (.bipush (-2), 2) := by decide +kernel
theorem dX3_way_14 : decode cX3_way 14 = .ok (.ireturn, 1) := by decide +kernel
theorem dX3_way_15 : decode cX3_way 15 = .ok (.iload_n 2, 1) := by decide +kernel
theorem dX3_way_16 : decode cX3_way 16 = .ok (.ifCond .ge 5, 3) := by decide +kernel
theorem dX3_way_19 : decode cX3_way 19 = .ok (.iconst (-1), 1) := by decide +kernel
theorem dX3_way_20 : decode cX3_way 20 = .ok (.ireturn, 1) := by decide +kernel
theorem dX3_way_21 : decode cX3_way 21 = .ok (.aload_n 0, 1) := by decide +kernel
theorem dX3_way_22 : decode cX3_way 22 = .ok (.getfield 141, 3) := by decide +kernel
theorem dX3_way_25 : decode cX3_way 25 = .ok (.iconst 1, 1) := by decide +kernel
theorem dX3_way_26 : decode cX3_way 26 = .ok (.isub, 1) := by decide +kernel
theorem dX3_way_27 : decode cX3_way 27 = .ok (.istore_n 3, 1) := by decide +kernel
theorem dX3_way_28 : decode cX3_way 28 = .ok (.iconst 0, 1) := by decide +kernel
theorem dX3_way_29 : decode cX3_way 29 = .ok (.istore 4, 2) := by decide +kernel
theorem dX3_way_31 : decode cX3_way 31 = .ok (.iload 4, 2) := by decide +kernel
theorem dX3_way_33 : decode cX3_way 33 = .ok (.iload_n 2, 1) := by decide +kernel
theorem dX3_way_34 : decode cX3_way 34 = .ok (.if_icmp .ge 21, 3) := by decide +kernel
theorem dX3_way_37 : decode cX3_way 37 = .ok (.iload_n 3, 1) := by decide +kernel
theorem dX3_way_38 : decode cX3_way 38 = .ok (.iload_n 1, 1) := by decide +kernel
theorem dX3_way_39 : decode cX3_way 39 = .ok (.if_icmp .le 16, 3) := by decide +kernel
theorem dX3_way_42 : decode cX3_way 42 = .ok (.aload_n 0, 1) := by decide +kernel
theorem dX3_way_43 : decode cX3_way 43 = .ok (.iload_n 3, 1) := by decide +kernel
theorem dX3_way_44 : decode cX3_way 44 = .ok (.iload_n 1, 1) := by decide +kernel
theorem dX3_way_45 : decode cX3_way 45 = .ok (.invokevirtual 213, 3) := by decide +kernel
theorem dX3_way_48 : decode cX3_way 48 = .ok (.istore_n 3, 1) := by decide +kernel
theorem dX3_way_49 : decode cX3_way 49 = .ok (.iinc 4 1, 3) := by decide +kernel
theorem dX3_way_52 : decode cX3_way 52 = .ok (.goto (-21), 3) := by decide +kernel
theorem dX3_way_55 : decode cX3_way 55 = .ok (.iload 4, 2) := by decide +kernel
theorem dX3_way_57 : decode cX3_way 57 = .ok (.iload_n 2, 1) := by decide +kernel
theorem dX3_way_58 : decode cX3_way 58 = .ok (.if_icmp .ne 7, 3) := by decide +kernel
theorem dX3_way_61 : decode cX3_way 61 = .ok (.iload_n 3, 1) := by decide +kernel
theorem dX3_way_62 : decode cX3_way 62 = .ok (.goto 4, 3) := by decide +kernel
theorem dX3_way_65 : decode cX3_way 65 = .ok (.iconst (-1), 1) := by decide +kernel
theorem dX3_way_66 : decode cX3_way 66 = .ok (.ireturn, 1) := by decide +kernel
set_option maxRecDepth 20000 in
theorem ggX3_prove_X3_next : GoodIn wsX3_prove wsX3_next := goodIn_r _ [9, 10, 11, 8, 12] (by decide +kernel) (by decide +kernel)
set_option maxRecDepth 20000 in
theorem gX3_prove_X3_next : GoodIn wsX3_prove (wsV RX3 213 RX3 yX3_next wsX3_next) := goodIn_app (goodIn_of _ (by decide +kernel)) ggX3_prove_X3_next
theorem dX3_prove_0 : decode cX3_prove 0 = .ok (.iload_n 1, 1) := by decide +kernel
theorem dX3_prove_1 : decode cX3_prove 1 = .ok (.ifCond .lt 11, 3) := by decide +kernel
theorem dX3_prove_4 : decode cX3_prove 4 = .ok (.iload_n 1, 1) := by decide +kernel
theorem dX3_prove_5 : decode cX3_prove 5 = .ok (.aload_n 0, 1) := by decide +kernel
theorem dX3_prove_6 : decode cX3_prove 6 = .ok (.getfield 141, 3) := by decide +kernel
theorem dX3_prove_9 : decode cX3_prove 9 = .ok (.if_icmp .lt 6, 3) := by decide +kernel
theorem dX3_prove_12 : decode cX3_prove 12 = .ok (.bipush (-2), 2) := by decide +kernel
theorem dX3_prove_14 : decode cX3_prove 14 = .ok (.ireturn, 1) := by decide +kernel
theorem dX3_prove_15 : decode cX3_prove 15 = .ok (.aload_n 0, 1) := by decide +kernel
theorem dX3_prove_16 : decode cX3_prove 16 = .ok (.iconst 0, 1) := by decide +kernel
theorem dX3_prove_17 : decode cX3_prove 17 = .ok (.putfield 216, 3) := by decide +kernel
theorem dX3_prove_20 : decode cX3_prove 20 = .ok (.aload_n 0, 1) := by decide +kernel
theorem dX3_prove_21 : decode cX3_prove 21 = .ok (.getfield 141, 3) := by decide +kernel
theorem dX3_prove_24 : decode cX3_prove 24 = .ok (.iconst 1, 1) := by decide +kernel
theorem dX3_prove_25 : decode cX3_prove 25 = .ok (.isub, 1) := by decide +kernel
theorem dX3_prove_26 : decode cX3_prove 26 = .ok (.istore_n 2, 1) := by decide +kernel
theorem dX3_prove_27 : decode cX3_prove 27 = .ok (.iconst 1, 1) := by decide +kernel
theorem dX3_prove_28 : decode cX3_prove 28 = .ok (.istore_n 3, 1) := by decide +kernel
theorem dX3_prove_29 : decode cX3_prove 29 = .ok (.iload_n 3, 1) := by decide +kernel
theorem dX3_prove_30 : decode cX3_prove 30 = .ok (.ifCond .eq 79, 3) := by decide +kernel
theorem dX3_prove_33 : decode cX3_prove 33 = .ok (.iconst 0, 1) := by decide +kernel
theorem dX3_prove_34 : decode cX3_prove 34 = .ok (.istore 4, 2) := by decide +kernel
theorem dX3_prove_36 : decode cX3_prove 36 = .ok (.iload 4, 2) := by decide +kernel
theorem dX3_prove_38 : decode cX3_prove 38 = .ok (.bipush 26, 2) := by decide +kernel
theorem dX3_prove_40 : decode cX3_prove 40 = .ok (.if_icmp .ge 40, 3) := by decide +kernel
theorem dX3_prove_43 : decode cX3_prove 43 = .ok (.aload_n 0, 1) := by decide +kernel
theorem dX3_prove_44 : decode cX3_prove 44 = .ok (.getfield 27, 3) := by decide +kernel
theorem dX3_prove_47 : decode cX3_prove 47 = .ok (.aload_n 0, 1) := by decide +kernel
theorem dX3_prove_48 : decode cX3_prove 48 = .ok (.getfield 216, 3) := by decide +kernel
theorem dX3_prove_51 : decode cX3_prove 51 = .ok (.aload_n 0, 1) := by decide +kernel
theorem dX3_prove_52 : decode cX3_prove 52 = .ok (.getfield 7, 3) := by decide +kernel
theorem dX3_prove_55 : decode cX3_prove 55 = .ok (.bipush 34, 2) := by decide +kernel
theorem dX3_prove_57 : decode cX3_prove 57 = .ok (.iload_n 2, 1) := by decide +kernel
theorem dX3_prove_58 : decode cX3_prove 58 = .ok (.imul, 1) := by decide +kernel
theorem dX3_prove_59 : decode cX3_prove 59 = .ok (.iload 4, 2) := by decide +kernel
theorem dX3_prove_61 : decode cX3_prove 61 = .ok (.iadd, 1) := by decide +kernel
theorem dX3_prove_62 : decode cX3_prove 62 = .ok (.iaload, 1) := by decide +kernel
theorem dX3_prove_63 : decode cX3_prove 63 = .ok (.iastore, 1) := by decide +kernel
theorem dX3_prove_64 : decode cX3_prove 64 = .ok (.aload_n 0, 1) := by decide +kernel
theorem dX3_prove_65 : decode cX3_prove 65 = .ok (.dup, 1) := by decide +kernel
theorem dX3_prove_66 : decode cX3_prove 66 = .ok (.getfield 216, 3) := by decide +kernel
theorem dX3_prove_69 : decode cX3_prove 69 = .ok (.iconst 1, 1) := by decide +kernel
theorem dX3_prove_70 : decode cX3_prove 70 = .ok (.iadd, 1) := by decide +kernel
theorem dX3_prove_71 : decode cX3_prove 71 = .ok (.putfield 216, 3) := by decide +kernel
theorem dX3_prove_74 : decode cX3_prove 74 = .ok (.iinc 4 1, 3) := by decide +kernel
theorem dX3_prove_77 : decode cX3_prove 77 = .ok (.goto (-41), 3) := by decide +kernel
theorem dX3_prove_80 : decode cX3_prove 80 = .ok (.iload_n 2, 1) := by decide +kernel
theorem dX3_prove_81 : decode cX3_prove 81 = .ok (.iload_n 1, 1) := by decide +kernel
theorem dX3_prove_82 : decode cX3_prove 82 = .ok (.if_icmp .le 7, 3) := by decide +kernel
theorem dX3_prove_85 : decode cX3_prove 85 = .ok (.iconst 1, 1) := by decide +kernel
theorem dX3_prove_86 : decode cX3_prove 86 = .ok (.goto 4, 3) := by decide +kernel
theorem dX3_prove_89 : decode cX3_prove 89 = .ok (.iconst 0, 1) := by decide +kernel
theorem dX3_prove_90 : decode cX3_prove 90 = .ok (.istore_n 3, 1) := by decide +kernel
theorem dX3_prove_91 : decode cX3_prove 91 = .ok (.iload_n 3, 1) := by decide +kernel
theorem dX3_prove_92 : decode cX3_prove 92 = .ok (.ifCond .eq 12, 3) := by decide +kernel
theorem dX3_prove_95 : decode cX3_prove 95 = .ok (.aload_n 0, 1) := by decide +kernel
theorem dX3_prove_96 : decode cX3_prove 96 = .ok (.iload_n 2, 1) := by decide +kernel
theorem dX3_prove_97 : decode cX3_prove 97 = .ok (.iload_n 1, 1) := by decide +kernel
theorem dX3_prove_98 : decode cX3_prove 98 = .ok (.invokevirtual 213, 3) := by decide +kernel
theorem dX3_prove_101 : decode cX3_prove 101 = .ok (.goto 4, 3) := by decide +kernel
theorem dX3_prove_104 : decode cX3_prove 104 = .ok (.iload_n 2, 1) := by decide +kernel
theorem dX3_prove_105 : decode cX3_prove 105 = .ok (.istore_n 2, 1) := by decide +kernel
theorem dX3_prove_106 : decode cX3_prove 106 = .ok (.goto (-77), 3) := by decide +kernel
theorem dX3_prove_109 : decode cX3_prove 109 = .ok (.aload_n 0, 1) := by decide +kernel
theorem dX3_prove_110 : decode cX3_prove 110 = .ok (.getfield 216, 3) := by decide +kernel
theorem dX3_prove_113 : decode cX3_prove 113 = .ok (.ireturn, 1) := by decide +kernel
theorem dX3_proof_0 : decode cX3_proof 0 = .ok (.iload_n 1, 1) := by decide +kernel
theorem dX3_proof_1 : decode cX3_proof 1 = .ok (.ifCond .lt 20, 3) := by decide +kernel
theorem dX3_proof_4 : decode cX3_proof 4 = .ok (.iload_n 1, 1) := by decide +kernel
theorem dX3_proof_5 : decode cX3_proof 5 = .ok (.aload_n 0, 1) := by decide +kernel
theorem dX3_proof_6 : decode cX3_proof 6 = .ok (.getfield 216, 3) := by decide +kernel
theorem dX3_proof_9 : decode cX3_proof 9 = .ok (.if_icmp .ge 12, 3) := by decide +kernel
theorem dX3_proof_12 : decode cX3_proof 12 = .ok (.aload_n 0, 1) := by decide +kernel
theorem dX3_proof_13 : decode cX3_proof 13 = .ok (.getfield 27, 3) := by decide +kernel
theorem dX3_proof_16 : decode cX3_proof 16 = .ok (.iload_n 1, 1) := by decide +kernel
theorem dX3_proof_17 : decode cX3_proof 17 = .ok (.iaload, 1) := by decide +kernel
theorem dX3_proof_18 : decode cX3_proof 18 = .ok (.goto 4, 3) := by decide +kernel
theorem dX3_proof_21 : decode cX3_proof 21 = .ok (.iconst 0, 1) := by decide +kernel
theorem dX3_proof_22 : decode cX3_proof 22 = .ok (.ireturn, 1) := by decide +kernel
theorem dX3_forge_0 : decode cX3_forge 0 = .ok (.iload_n 1, 1) := by decide +kernel
theorem dX3_forge_1 : decode cX3_forge 1 = .ok (.ifCond .lt 11, 3) := by decide +kernel
theorem dX3_forge_4 : decode cX3_forge 4 = .ok (.iload_n 1, 1) := by decide +kernel
theorem dX3_forge_5 : decode cX3_forge 5 = .ok (.aload_n 0, 1) := by decide +kernel
theorem dX3_forge_6 : decode cX3_forge 6 = .ok (.getfield 216, 3) := by decide +kernel
theorem dX3_forge_9 : decode cX3_forge 9 = .ok (.if_icmp .lt 5, 3) := by decide +kernel
theorem dX3_forge_12 : decode cX3_forge 12 = .ok (.iconst 0, 1) := by decide +kernel
theorem dX3_forge_13 : decode cX3_forge 13 = .ok (.ireturn, 1) := by decide +kernel
theorem dX3_forge_14 : decode cX3_forge 14 = .ok (.aload_n 0, 1) := by decide +kernel
theorem dX3_forge_15 : decode cX3_forge 15 = .ok (.getfield 27, 3) := by decide +kernel
theorem dX3_forge_18 : decode cX3_forge 18 = .ok (.iload_n 1, 1) := by decide +kernel
theorem dX3_forge_19 : decode cX3_forge 19 = .ok (.iaload, 1) := by decide +kernel
theorem dX3_forge_20 : decode cX3_forge 20 = .ok (.istore_n 3, 1) := by decide +kernel
theorem dX3_forge_21 : decode cX3_forge 21 = .ok (.aload_n 0, 1) := by decide +kernel
theorem dX3_forge_22 : decode cX3_forge 22 = .ok (.getfield 27, 3) := by decide +kernel
theorem dX3_forge_25 : decode cX3_forge 25 = .ok (.iload_n 1, 1) := by decide +kernel
theorem dX3_forge_26 : decode cX3_forge 26 = .ok (.iload_n 2, 1) := by decide +kernel
theorem dX3_forge_27 : decode cX3_forge 27 = .ok (.iastore, 1) := by decide +kernel
theorem dX3_forge_28 : decode cX3_forge 28 = .ok (.iload_n 3, 1) := by decide +kernel
theorem dX3_forge_29 : decode cX3_forge 29 = .ok (.ireturn, 1) := by decide +kernel
set_option maxRecDepth 20000 in
theorem ggX3_check_X3_mixFirst : GoodIn wsX3_check wsX3_mixFirst := goodIn_r _ [11, 5, 12, 13, 3, 14, 15, 16, 17, 10, 18, 19, 20, 21, 22, 35, 36, 37, 38, 39, 40, 41, 42, 43, 44, 45, 46, 47, 48, 49, 50, 51, 52, 53] (by decide +kernel) (by decide +kernel)
set_option maxRecDepth 20000 in
theorem gX3_check_X3_mixFirst : GoodIn wsX3_check (wsV RX3 163 RX3 yX3_mixFirst wsX3_mixFirst) := goodIn_app (goodIn_of _ (by decide +kernel)) ggX3_check_X3_mixFirst
set_option maxRecDepth 20000 in
theorem ggX3_check_X3_mixSecond : GoodIn wsX3_check wsX3_mixSecond := goodIn_r _ [26, 5, 14, 13, 3, 27, 15, 16, 17, 10, 18, 19, 20, 21, 22, 35, 36, 37, 38, 39, 40, 41, 42, 43, 44, 45, 46, 47, 48, 49, 50, 51, 52, 53] (by decide +kernel) (by decide +kernel)
set_option maxRecDepth 20000 in
theorem gX3_check_X3_mixSecond : GoodIn wsX3_check (wsV RX3 166 RX3 yX3_mixSecond wsX3_mixSecond) := goodIn_app (goodIn_of _ (by decide +kernel)) ggX3_check_X3_mixSecond
set_option maxRecDepth 20000 in
theorem ggX3_check_X3_next : GoodIn wsX3_check wsX3_next := goodIn_r _ [31, 32, 33, 10, 34] (by decide +kernel) (by decide +kernel)
set_option maxRecDepth 20000 in
theorem gX3_check_X3_next : GoodIn wsX3_check (wsV RX3 213 RX3 yX3_next wsX3_next) := goodIn_app (goodIn_of _ (by decide +kernel)) ggX3_check_X3_next
set_option maxRecDepth 20000 in
theorem ggX3_check_X3_lowest : GoodIn wsX3_check wsX3_lowest := goodIn_r _ [34] (by decide +kernel) (by decide +kernel)
set_option maxRecDepth 20000 in
theorem gX3_check_X3_lowest : GoodIn wsX3_check (va_wsS RX3 147 yX3_lowest wsX3_lowest) := goodIn_app (goodIn_of _ (by decide +kernel)) ggX3_check_X3_lowest
theorem dX3_check_0 : decode cX3_check 0 = .ok (.iload_n 1, 1) := by decide +kernel
theorem dX3_check_1 : decode cX3_check 1 = .ok (.ifCond .lt 11, 3) := by decide +kernel
theorem dX3_check_4 : decode cX3_check 4 = .ok (.iload_n 1, 1) := by decide +kernel
theorem dX3_check_5 : decode cX3_check 5 = .ok (.aload_n 0, 1) := by decide +kernel
theorem dX3_check_6 : decode cX3_check 6 = .ok (.getfield 141, 3) := by decide +kernel
theorem dX3_check_9 : decode cX3_check 9 = .ok (.if_icmp .lt 6, 3) := by decide +kernel
theorem dX3_check_12 : decode cX3_check 12 = .ok (.bipush (-2), 2) := by decide +kernel
theorem dX3_check_14 : decode cX3_check 14 = .ok (.ireturn, 1) := by decide +kernel
theorem dX3_check_15 : decode cX3_check 15 = .ok (.aload_n 0, 1) := by decide +kernel
theorem dX3_check_16 : decode cX3_check 16 = .ok (.getfield 141, 3) := by decide +kernel
theorem dX3_check_19 : decode cX3_check 19 = .ok (.iconst 1, 1) := by decide +kernel
theorem dX3_check_20 : decode cX3_check 20 = .ok (.isub, 1) := by decide +kernel
theorem dX3_check_21 : decode cX3_check 21 = .ok (.istore_n 2, 1) := by decide +kernel
theorem dX3_check_22 : decode cX3_check 22 = .ok (.iconst 0, 1) := by decide +kernel
theorem dX3_check_23 : decode cX3_check 23 = .ok (.istore_n 3, 1) := by decide +kernel
theorem dX3_check_24 : decode cX3_check 24 = .ok (.iconst 1, 1) := by decide +kernel
theorem dX3_check_25 : decode cX3_check 25 = .ok (.istore 4, 2) := by decide +kernel
theorem dX3_check_27 : decode cX3_check 27 = .ok (.iconst 1, 1) := by decide +kernel
theorem dX3_check_28 : decode cX3_check 28 = .ok (.istore 5, 2) := by decide +kernel
theorem dX3_check_30 : decode cX3_check 30 = .ok (.iconst (-1), 1) := by decide +kernel
theorem dX3_check_31 : decode cX3_check 31 = .ok (.istore 6, 2) := by decide +kernel
theorem dX3_check_33 : decode cX3_check 33 = .ok (.iload 5, 2) := by decide +kernel
theorem dX3_check_35 : decode cX3_check 35 = .ok (.ifCond .eq 194, 3) := by decide +kernel
theorem dX3_check_38 : decode cX3_check 38 = .ok (.iload 4, 2) := by decide +kernel
theorem dX3_check_40 : decode cX3_check 40 = .ok (.ifCond .eq 189, 3) := by decide +kernel
theorem dX3_check_43 : decode cX3_check 43 = .ok (.iload_n 3, 1) := by decide +kernel
theorem dX3_check_44 : decode cX3_check 44 = .ok (.bipush 26, 2) := by decide +kernel
theorem dX3_check_46 : decode cX3_check 46 = .ok (.iadd, 1) := by decide +kernel
theorem dX3_check_47 : decode cX3_check 47 = .ok (.aload_n 0, 1) := by decide +kernel
theorem dX3_check_48 : decode cX3_check 48 = .ok (.getfield 216, 3) := by decide +kernel
theorem dX3_check_51 : decode cX3_check 51 = .ok (.if_icmp .gt 7, 3) := by decide +kernel
theorem dX3_check_54 : decode cX3_check 54 = .ok (.iconst 1, 1) := by decide +kernel
theorem dX3_check_55 : decode cX3_check 55 = .ok (.goto 4, 3) := by decide +kernel
theorem dX3_check_58 : decode cX3_check 58 = .ok (.iconst 0, 1) := by decide +kernel
theorem dX3_check_59 : decode cX3_check 59 = .ok (.istore 4, 2) := by decide +kernel
theorem dX3_check_61 : decode cX3_check 61 = .ok (.iconst 0, 1) := by decide +kernel
theorem dX3_check_62 : decode cX3_check 62 = .ok (.istore 7, 2) := by decide +kernel
theorem dX3_check_64 : decode cX3_check 64 = .ok (.iload 7, 2) := by decide +kernel
theorem dX3_check_66 : decode cX3_check 66 = .ok (.bipush 26, 2) := by decide +kernel
theorem dX3_check_68 : decode cX3_check 68 = .ok (.if_icmp .ge 30, 3) := by decide +kernel
theorem dX3_check_71 : decode cX3_check 71 = .ok (.iload 4, 2) := by decide +kernel
theorem dX3_check_73 : decode cX3_check 73 = .ok (.ifCond .eq 25, 3) := by decide +kernel
theorem dX3_check_76 : decode cX3_check 76 = .ok (.aload_n 0, 1) := by decide +kernel
theorem dX3_check_77 : decode cX3_check 77 = .ok (.getfield 45, 3) := by decide +kernel
theorem dX3_check_80 : decode cX3_check 80 = .ok (.iload 7, 2) := by decide +kernel
theorem dX3_check_82 : decode cX3_check 82 = .ok (.aload_n 0, 1) := by decide +kernel
theorem dX3_check_83 : decode cX3_check 83 = .ok (.getfield 27, 3) := by decide +kernel
theorem dX3_check_86 : decode cX3_check 86 = .ok (.iload_n 3, 1) := by decide +kernel
theorem dX3_check_87 : decode cX3_check 87 = .ok (.iload 7, 2) := by decide +kernel
theorem dX3_check_89 : decode cX3_check 89 = .ok (.iadd, 1) := by decide +kernel
theorem dX3_check_90 : decode cX3_check 90 = .ok (.iaload, 1) := by decide +kernel
theorem dX3_check_91 : decode cX3_check 91 = .ok (.iastore, 1) := by decide +kernel
theorem dX3_check_92 : decode cX3_check 92 = .ok (.iinc 7 1, 3) := by decide +kernel
theorem dX3_check_95 : decode cX3_check 95 = .ok (.goto (-31), 3) := by decide +kernel
theorem dX3_check_98 : decode cX3_check 98 = .ok (.iload 4, 2) := by decide +kernel
theorem dX3_check_100 : decode cX3_check 100 = .ok (.ifCond .eq 11, 3) := by decide +kernel
theorem dX3_check_103 : decode cX3_check 103 = .ok (.aload_n 0, 1) := by decide +kernel
theorem dX3_check_104 : decode cX3_check 104 = .ok (.invokevirtual 163, 3) := by decide +kernel
theorem dX3_check_107 : decode cX3_check 107 = .ok (.aload_n 0, 1) := by decide +kernel
theorem dX3_check_108 : decode cX3_check 108 = .ok (.invokevirtual 166, 3) := by decide +kernel
theorem dX3_check_111 : decode cX3_check 111 = .ok (.iconst 0, 1) := by decide +kernel
theorem dX3_check_112 : decode cX3_check 112 = .ok (.istore 7, 2) := by decide +kernel
theorem dX3_check_114 : decode cX3_check 114 = .ok (.iload 7, 2) := by decide +kernel
theorem dX3_check_116 : decode cX3_check 116 = .ok (.bipush 8, 2) := by decide +kernel
theorem dX3_check_118 : decode cX3_check 118 = .ok (.if_icmp .ge 56, 3) := by decide +kernel
theorem dX3_check_121 : decode cX3_check 121 = .ok (.iload 4, 2) := by decide +kernel
theorem dX3_check_123 : decode cX3_check 123 = .ok (.ifCond .eq 51, 3) := by decide +kernel
theorem dX3_check_126 : decode cX3_check 126 = .ok (.aload_n 0, 1) := by decide +kernel
theorem dX3_check_127 : decode cX3_check 127 = .ok (.getfield 36, 3) := by decide +kernel
theorem dX3_check_130 : decode cX3_check 130 = .ok (.iload 7, 2) := by decide +kernel
theorem dX3_check_132 : decode cX3_check 132 = .ok (.iaload, 1) := by decide +kernel
theorem dX3_check_133 : decode cX3_check 133 = .ok (.iload 6, 2) := by decide +kernel
theorem dX3_check_135 : decode cX3_check 135 = .ok (.ifCond .ge 13, 3) := by decide +kernel
theorem dX3_check_138 : decode cX3_check 138 = .ok (.aload_n 0, 1) := by decide +kernel
theorem dX3_check_139 : decode cX3_check 139 = .ok (.getfield 13, 3) := by decide +kernel
theorem dX3_check_142 : decode cX3_check 142 = .ok (.iload 7, 2) := by decide +kernel
theorem dX3_check_144 : decode cX3_check 144 = .ok (.iaload, 1) := by decide +kernel
theorem dX3_check_145 : decode cX3_check 145 = .ok (.goto 13, 3) := by decide +kernel
theorem dX3_check_148 : decode cX3_check 148 = .ok (.aload_n 0, 1) := by decide +kernel
theorem dX3_check_149 : decode cX3_check 149 = .ok (.getfield 27, 3) := by decide +kernel
theorem dX3_check_152 : decode cX3_check 152 = .ok (.iload 6, 2) := by decide +kernel
theorem dX3_check_154 : decode cX3_check 154 = .ok (.iload 7, 2) := by decide +kernel
theorem dX3_check_156 : decode cX3_check 156 = .ok (.iadd, 1) := by decide +kernel
theorem dX3_check_157 : decode cX3_check 157 = .ok (.iaload, 1) := by decide +kernel
theorem dX3_check_158 : decode cX3_check 158 = .ok (.if_icmp .ne 7, 3) := by decide +kernel
theorem dX3_check_161 : decode cX3_check 161 = .ok (.iconst 1, 1) := by decide +kernel
theorem dX3_check_162 : decode cX3_check 162 = .ok (.goto 4, 3) := by decide +kernel
theorem dX3_check_165 : decode cX3_check 165 = .ok (.iconst 0, 1) := by decide +kernel
theorem dX3_check_166 : decode cX3_check 166 = .ok (.istore 4, 2) := by decide +kernel
theorem dX3_check_168 : decode cX3_check 168 = .ok (.iinc 7 1, 3) := by decide +kernel
theorem dX3_check_171 : decode cX3_check 171 = .ok (.goto (-57), 3) := by decide +kernel
theorem dX3_check_174 : decode cX3_check 174 = .ok (.iload_n 2, 1) := by decide +kernel
theorem dX3_check_175 : decode cX3_check 175 = .ok (.iload_n 1, 1) := by decide +kernel
theorem dX3_check_176 : decode cX3_check 176 = .ok (.if_icmp .le 7, 3) := by decide +kernel
theorem dX3_check_179 : decode cX3_check 179 = .ok (.iconst 1, 1) := by decide +kernel
theorem dX3_check_180 : decode cX3_check 180 = .ok (.goto 4, 3) := by decide +kernel
theorem dX3_check_183 : decode cX3_check 183 = .ok (.iconst 0, 1) := by decide +kernel
theorem dX3_check_184 : decode cX3_check 184 = .ok (.istore 5, 2) := by decide +kernel
theorem dX3_check_186 : decode cX3_check 186 = .ok (.iload 5, 2) := by decide +kernel
theorem dX3_check_188 : decode cX3_check 188 = .ok (.ifCond .eq 35, 3) := by decide +kernel
theorem dX3_check_191 : decode cX3_check 191 = .ok (.aload_n 0, 1) := by decide +kernel
theorem dX3_check_192 : decode cX3_check 192 = .ok (.iload_n 2, 1) := by decide +kernel
theorem dX3_check_193 : decode cX3_check 193 = .ok (.iload_n 1, 1) := by decide +kernel
theorem dX3_check_194 : decode cX3_check 194 = .ok (.invokevirtual 213, 3) := by decide +kernel
theorem dX3_check_197 : decode cX3_check 197 = .ok (.istore 7, 2) := by decide +kernel
theorem dX3_check_199 : decode cX3_check 199 = .ok (.iload 7, 2) := by decide +kernel
theorem dX3_check_201 : decode cX3_check 201 = .ok (.iload_n 2, 1) := by decide +kernel
theorem dX3_check_202 : decode cX3_check 202 = .ok (.iload_n 2, 1) := by decide +kernel
theorem dX3_check_203 : decode cX3_check 203 = .ok (.invokestatic 147, 3) := by decide +kernel
theorem dX3_check_206 : decode cX3_check 206 = .ok (.isub, 1) := by decide +kernel
theorem dX3_check_207 : decode cX3_check 207 = .ok (.if_icmp .ne 10, 3) := by decide +kernel
theorem dX3_check_210 : decode cX3_check 210 = .ok (.iload_n 3, 1) := by decide +kernel
theorem dX3_check_211 : decode cX3_check 211 = .ok (.bipush 8, 2) := by decide +kernel
theorem dX3_check_213 : decode cX3_check 213 = .ok (.iadd, 1) := by decide +kernel
theorem dX3_check_214 : decode cX3_check 214 = .ok (.goto 4, 3) := by decide +kernel
theorem dX3_check_217 : decode cX3_check 217 = .ok (.iload_n 3, 1) := by decide +kernel
theorem dX3_check_218 : decode cX3_check 218 = .ok (.istore 6, 2) := by decide +kernel
theorem dX3_check_220 : decode cX3_check 220 = .ok (.iload 7, 2) := by decide +kernel
theorem dX3_check_222 : decode cX3_check 222 = .ok (.istore_n 2, 1) := by decide +kernel
theorem dX3_check_223 : decode cX3_check 223 = .ok (.iinc 3 26, 3) := by decide +kernel
theorem dX3_check_226 : decode cX3_check 226 = .ok (.goto (-193), 3) := by decide +kernel
theorem dX3_check_229 : decode cX3_check 229 = .ok (.iload 4, 2) := by decide +kernel
theorem dX3_check_231 : decode cX3_check 231 = .ok (.ifCond .eq 15, 3) := by decide +kernel
theorem dX3_check_234 : decode cX3_check 234 = .ok (.iload_n 3, 1) := by decide +kernel
theorem dX3_check_235 : decode cX3_check 235 = .ok (.aload_n 0, 1) := by decide +kernel
theorem dX3_check_236 : decode cX3_check 236 = .ok (.getfield 216, 3) := by decide +kernel
theorem dX3_check_239 : decode cX3_check 239 = .ok (.if_icmp .ne 7, 3) := by decide +kernel
theorem dX3_check_242 : decode cX3_check 242 = .ok (.iconst 1, 1) := by decide +kernel
theorem dX3_check_243 : decode cX3_check 243 = .ok (.goto 4, 3) := by decide +kernel
theorem dX3_check_246 : decode cX3_check 246 = .ok (.iconst 0, 1) := by decide +kernel
theorem dX3_check_247 : decode cX3_check 247 = .ok (.ireturn, 1) := by decide +kernel
end
