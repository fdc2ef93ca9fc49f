section
-- ===== PART A: goes FIRST, ahead of the names: the tables' words, and 'selects' of the private methods out of them =====
/-- a private method of a class that the tables say can be made, by its rows of tables_1 -/
def lw_okq (q : MethodName × Nat) : Prop := (q.1.cls ≠ "java/lang/invoke/MethodHandle" ∧ q.1.cls ≠ "java/lang/invoke/VarHandle") ∧ Cond.instantiable q.1.cls q.2 ∈ tables_1 ∧ Cond.privateMethod q.1 ∈ tables_1 ∧ Cond.instanceMethod q.1 ∈ tables_1
theorem lw_p0 : lw_okq (⟨"MinedLedger", "forgetNonces", "()V"⟩, 14) := ⟨⟨by decide +kernel, by decide +kernel⟩, List.mem_of_getElem? (i := 10) (by decide +kernel), List.mem_of_getElem? (i := 98) (by decide +kernel), List.mem_of_getElem? (i := 99) (by decide +kernel)⟩
theorem lw_p1 : lw_okq (⟨"MinedLedger", "clearWordsFrom", "(I)V"⟩, 14) := ⟨⟨by decide +kernel, by decide +kernel⟩, List.mem_of_getElem? (i := 10) (by decide +kernel), List.mem_of_getElem? (i := 106) (by decide +kernel), List.mem_of_getElem? (i := 107) (by decide +kernel)⟩
theorem lw_p2 : lw_okq (⟨"MinedLedger", "fillDraft", "()V"⟩, 14) := ⟨⟨by decide +kernel, by decide +kernel⟩, List.mem_of_getElem? (i := 10) (by decide +kernel), List.mem_of_getElem? (i := 129) (by decide +kernel), List.mem_of_getElem? (i := 130) (by decide +kernel)⟩
theorem lw_p3 : lw_okq (⟨"MinedLedger", "copyHashOf", "(II)V"⟩, 14) := ⟨⟨by decide +kernel, by decide +kernel⟩, List.mem_of_getElem? (i := 10) (by decide +kernel), List.mem_of_getElem? (i := 133) (by decide +kernel), List.mem_of_getElem? (i := 134) (by decide +kernel)⟩
theorem lw_p4 : lw_okq (⟨"MinedLedger", "hasEntry", "(I)Z"⟩, 14) := ⟨⟨by decide +kernel, by decide +kernel⟩, List.mem_of_getElem? (i := 10) (by decide +kernel), List.mem_of_getElem? (i := 137) (by decide +kernel), List.mem_of_getElem? (i := 138) (by decide +kernel)⟩
theorem lw_p5 : lw_okq (⟨"MinedLedger", "tryNonces", "(I)V"⟩, 14) := ⟨⟨by decide +kernel, by decide +kernel⟩, List.mem_of_getElem? (i := 10) (by decide +kernel), List.mem_of_getElem? (i := 147) (by decide +kernel), List.mem_of_getElem? (i := 148) (by decide +kernel)⟩
theorem lw_p6 : lw_okq (⟨"MinedLedger$Hasher", "mixInto", "([I)V"⟩, 3) := ⟨⟨by decide +kernel, by decide +kernel⟩, List.mem_of_getElem? (i := 18) (by decide +kernel), List.mem_of_getElem? (i := 158) (by decide +kernel), List.mem_of_getElem? (i := 159) (by decide +kernel)⟩
theorem lw_p7 : lw_okq (⟨"MinedLedger$Hasher", "spread", "()V"⟩, 3) := ⟨⟨by decide +kernel, by decide +kernel⟩, List.mem_of_getElem? (i := 18) (by decide +kernel), List.mem_of_getElem? (i := 162) (by decide +kernel), List.mem_of_getElem? (i := 163) (by decide +kernel)⟩
theorem lw_p8 : lw_okq (⟨"MinedLedger", "addToFilter", "(I)V"⟩, 14) := ⟨⟨by decide +kernel, by decide +kernel⟩, List.mem_of_getElem? (i := 10) (by decide +kernel), List.mem_of_getElem? (i := 197) (by decide +kernel), List.mem_of_getElem? (i := 198) (by decide +kernel)⟩
theorem lw_p9 : lw_okq (⟨"MinedLedger", "hasCell", "(II)Z"⟩, 14) := ⟨⟨by decide +kernel, by decide +kernel⟩, List.mem_of_getElem? (i := 10) (by decide +kernel), List.mem_of_getElem? (i := 230) (by decide +kernel), List.mem_of_getElem? (i := 231) (by decide +kernel)⟩
theorem lw_p10 : lw_okq (⟨"MinedLedger", "remakeFilter", "()V"⟩, 14) := ⟨⟨by decide +kernel, by decide +kernel⟩, List.mem_of_getElem? (i := 10) (by decide +kernel), List.mem_of_getElem? (i := 242) (by decide +kernel), List.mem_of_getElem? (i := 243) (by decide +kernel)⟩
theorem lw_p11 : lw_okq (⟨"MinedLedger", "hasWord", "(II)Z"⟩, 14) := ⟨⟨by decide +kernel, by decide +kernel⟩, List.mem_of_getElem? (i := 10) (by decide +kernel), List.mem_of_getElem? (i := 265) (by decide +kernel), List.mem_of_getElem? (i := 266) (by decide +kernel)⟩
theorem lw_p12 : lw_okq (⟨"MinedLedger", "auditHead", "()I"⟩, 14) := ⟨⟨by decide +kernel, by decide +kernel⟩, List.mem_of_getElem? (i := 10) (by decide +kernel), List.mem_of_getElem? (i := 282) (by decide +kernel), List.mem_of_getElem? (i := 283) (by decide +kernel)⟩
theorem lw_p13 : lw_okq (⟨"MinedLedger", "isHashOf", "(I[II)Z"⟩, 14) := ⟨⟨by decide +kernel, by decide +kernel⟩, List.mem_of_getElem? (i := 10) (by decide +kernel), List.mem_of_getElem? (i := 286) (by decide +kernel), List.mem_of_getElem? (i := 287) (by decide +kernel)⟩
theorem lw_p14 : lw_okq (⟨"MinedLedger", "faultOf", "(I)I"⟩, 14) := ⟨⟨by decide +kernel, by decide +kernel⟩, List.mem_of_getElem? (i := 10) (by decide +kernel), List.mem_of_getElem? (i := 290) (by decide +kernel), List.mem_of_getElem? (i := 291) (by decide +kernel)⟩
theorem lw_p15 : lw_okq (⟨"MinedLedger", "levelsTo", "(I)I"⟩, 14) := ⟨⟨by decide +kernel, by decide +kernel⟩, List.mem_of_getElem? (i := 10) (by decide +kernel), List.mem_of_getElem? (i := 312) (by decide +kernel), List.mem_of_getElem? (i := 313) (by decide +kernel)⟩
def lw_privs_1 : List (MethodName × Nat) := [(⟨"MinedLedger", "forgetNonces", "()V"⟩, 14), (⟨"MinedLedger", "clearWordsFrom", "(I)V"⟩, 14), (⟨"MinedLedger", "fillDraft", "()V"⟩, 14), (⟨"MinedLedger", "copyHashOf", "(II)V"⟩, 14), (⟨"MinedLedger", "hasEntry", "(I)Z"⟩, 14), (⟨"MinedLedger", "tryNonces", "(I)V"⟩, 14), (⟨"MinedLedger$Hasher", "mixInto", "([I)V"⟩, 3), (⟨"MinedLedger$Hasher", "spread", "()V"⟩, 3), (⟨"MinedLedger", "addToFilter", "(I)V"⟩, 14), (⟨"MinedLedger", "hasCell", "(II)Z"⟩, 14), (⟨"MinedLedger", "remakeFilter", "()V"⟩, 14), (⟨"MinedLedger", "hasWord", "(II)Z"⟩, 14), (⟨"MinedLedger", "auditHead", "()I"⟩, 14), (⟨"MinedLedger", "isHashOf", "(I[II)Z"⟩, 14), (⟨"MinedLedger", "faultOf", "(I)I"⟩, 14), (⟨"MinedLedger", "levelsTo", "(I)I"⟩, 14)]
theorem lw_r1 : ∀ q ∈ lw_privs_1, lw_okq q := List.forall_mem_cons.mpr ⟨lw_p0, List.forall_mem_cons.mpr ⟨lw_p1, List.forall_mem_cons.mpr ⟨lw_p2, List.forall_mem_cons.mpr ⟨lw_p3, List.forall_mem_cons.mpr ⟨lw_p4, List.forall_mem_cons.mpr ⟨lw_p5, List.forall_mem_cons.mpr ⟨lw_p6, List.forall_mem_cons.mpr ⟨lw_p7, List.forall_mem_cons.mpr ⟨lw_p8, List.forall_mem_cons.mpr ⟨lw_p9, List.forall_mem_cons.mpr ⟨lw_p10, List.forall_mem_cons.mpr ⟨lw_p11, List.forall_mem_cons.mpr ⟨lw_p12, List.forall_mem_cons.mpr ⟨lw_p13, List.forall_mem_cons.mpr ⟨lw_p14, List.forall_mem_cons.mpr ⟨lw_p15, fun _ h => absurd h List.not_mem_nil⟩⟩⟩⟩⟩⟩⟩⟩⟩⟩⟩⟩⟩⟩⟩⟩
theorem lw_p16 : lw_okq (⟨"MinedLedger", "proofHolds", "(I)Z"⟩, 14) := ⟨⟨by decide +kernel, by decide +kernel⟩, List.mem_of_getElem? (i := 10) (by decide +kernel), List.mem_of_getElem? (i := 338) (by decide +kernel), List.mem_of_getElem? (i := 339) (by decide +kernel)⟩
theorem lw_p17 : lw_okq (⟨"MinedLedgerModel", "firstHalf", "()V"⟩, 19) := ⟨⟨by decide +kernel, by decide +kernel⟩, List.mem_of_getElem? (i := 345) (by decide +kernel), List.mem_of_getElem? (i := 359) (by decide +kernel), List.mem_of_getElem? (i := 360) (by decide +kernel)⟩
theorem lw_p18 : lw_okq (⟨"MinedLedgerModel", "secondHalf", "()V"⟩, 19) := ⟨⟨by decide +kernel, by decide +kernel⟩, List.mem_of_getElem? (i := 345) (by decide +kernel), List.mem_of_getElem? (i := 395) (by decide +kernel), List.mem_of_getElem? (i := 396) (by decide +kernel)⟩
theorem lw_p19 : lw_okq (⟨"MinedLedgerModel", "forget", "()V"⟩, 19) := ⟨⟨by decide +kernel, by decide +kernel⟩, List.mem_of_getElem? (i := 345) (by decide +kernel), List.mem_of_getElem? (i := 494) (by decide +kernel), List.mem_of_getElem? (i := 495) (by decide +kernel)⟩
theorem lw_p20 : lw_okq (⟨"MinedLedgerModel", "draft", "()V"⟩, 19) := ⟨⟨by decide +kernel, by decide +kernel⟩, List.mem_of_getElem? (i := 345) (by decide +kernel), List.mem_of_getElem? (i := 515) (by decide +kernel), List.mem_of_getElem? (i := 516) (by decide +kernel)⟩
theorem lw_p21 : lw_okq (⟨"MinedLedgerModel", "hashCell", "(II)I"⟩, 19) := ⟨⟨by decide +kernel, by decide +kernel⟩, List.mem_of_getElem? (i := 345) (by decide +kernel), List.mem_of_getElem? (i := 519) (by decide +kernel), List.mem_of_getElem? (i := 520) (by decide +kernel)⟩
theorem lw_p22 : lw_okq (⟨"MinedLedgerModel", "mixFirst", "()V"⟩, 19) := ⟨⟨by decide +kernel, by decide +kernel⟩, List.mem_of_getElem? (i := 345) (by decide +kernel), List.mem_of_getElem? (i := 526) (by decide +kernel), List.mem_of_getElem? (i := 527) (by decide +kernel)⟩
theorem lw_p23 : lw_okq (⟨"MinedLedgerModel", "mix", "()V"⟩, 19) := ⟨⟨by decide +kernel, by decide +kernel⟩, List.mem_of_getElem? (i := 345) (by decide +kernel), List.mem_of_getElem? (i := 530) (by decide +kernel), List.mem_of_getElem? (i := 531) (by decide +kernel)⟩
theorem lw_p24 : lw_okq (⟨"MinedLedgerModel", "mixSecond", "()V"⟩, 19) := ⟨⟨by decide +kernel, by decide +kernel⟩, List.mem_of_getElem? (i := 345) (by decide +kernel), List.mem_of_getElem? (i := 537) (by decide +kernel), List.mem_of_getElem? (i := 538) (by decide +kernel)⟩
theorem lw_p25 : lw_okq (⟨"MinedLedgerModel", "zeros", "()I"⟩, 19) := ⟨⟨by decide +kernel, by decide +kernel⟩, List.mem_of_getElem? (i := 345) (by decide +kernel), List.mem_of_getElem? (i := 542) (by decide +kernel), List.mem_of_getElem? (i := 543) (by decide +kernel)⟩
theorem lw_p26 : lw_okq (⟨"MinedLedgerModel", "setBits", "(I)V"⟩, 19) := ⟨⟨by decide +kernel, by decide +kernel⟩, List.mem_of_getElem? (i := 345) (by decide +kernel), List.mem_of_getElem? (i := 557) (by decide +kernel), List.mem_of_getElem? (i := 558) (by decide +kernel)⟩
theorem lw_p27 : lw_okq (⟨"MinedLedgerModel", "bit", "(II)I"⟩, 19) := ⟨⟨by decide +kernel, by decide +kernel⟩, List.mem_of_getElem? (i := 345) (by decide +kernel), List.mem_of_getElem? (i := 561) (by decide +kernel), List.mem_of_getElem? (i := 562) (by decide +kernel)⟩
theorem lw_p28 : lw_okq (⟨"MinedLedgerModel", "isCell", "(II)Z"⟩, 19) := ⟨⟨by decide +kernel, by decide +kernel⟩, List.mem_of_getElem? (i := 345) (by decide +kernel), List.mem_of_getElem? (i := 587) (by decide +kernel), List.mem_of_getElem? (i := 588) (by decide +kernel)⟩
theorem lw_p29 : lw_okq (⟨"MinedLedgerModel", "maybe", "(I)Z"⟩, 19) := ⟨⟨by decide +kernel, by decide +kernel⟩, List.mem_of_getElem? (i := 345) (by decide +kernel), List.mem_of_getElem? (i := 604) (by decide +kernel), List.mem_of_getElem? (i := 605) (by decide +kernel)⟩
theorem lw_p30 : lw_okq (⟨"MinedLedgerModel", "faultOf", "(I)I"⟩, 19) := ⟨⟨by decide +kernel, by decide +kernel⟩, List.mem_of_getElem? (i := 345) (by decide +kernel), List.mem_of_getElem? (i := 620) (by decide +kernel), List.mem_of_getElem? (i := 621) (by decide +kernel)⟩
theorem lw_p31 : lw_okq (⟨"MinedLedgerModel", "isHashOf", "(II)Z"⟩, 19) := ⟨⟨by decide +kernel, by decide +kernel⟩, List.mem_of_getElem? (i := 345) (by decide +kernel), List.mem_of_getElem? (i := 624) (by decide +kernel), List.mem_of_getElem? (i := 625) (by decide +kernel)⟩
def lw_privs_2 : List (MethodName × Nat) := [(⟨"MinedLedger", "proofHolds", "(I)Z"⟩, 14), (⟨"MinedLedgerModel", "firstHalf", "()V"⟩, 19), (⟨"MinedLedgerModel", "secondHalf", "()V"⟩, 19), (⟨"MinedLedgerModel", "forget", "()V"⟩, 19), (⟨"MinedLedgerModel", "draft", "()V"⟩, 19), (⟨"MinedLedgerModel", "hashCell", "(II)I"⟩, 19), (⟨"MinedLedgerModel", "mixFirst", "()V"⟩, 19), (⟨"MinedLedgerModel", "mix", "()V"⟩, 19), (⟨"MinedLedgerModel", "mixSecond", "()V"⟩, 19), (⟨"MinedLedgerModel", "zeros", "()I"⟩, 19), (⟨"MinedLedgerModel", "setBits", "(I)V"⟩, 19), (⟨"MinedLedgerModel", "bit", "(II)I"⟩, 19), (⟨"MinedLedgerModel", "isCell", "(II)Z"⟩, 19), (⟨"MinedLedgerModel", "maybe", "(I)Z"⟩, 19), (⟨"MinedLedgerModel", "faultOf", "(I)I"⟩, 19), (⟨"MinedLedgerModel", "isHashOf", "(II)Z"⟩, 19)]
theorem lw_r2 : ∀ q ∈ lw_privs_2, lw_okq q := List.forall_mem_cons.mpr ⟨lw_p16, List.forall_mem_cons.mpr ⟨lw_p17, List.forall_mem_cons.mpr ⟨lw_p18, List.forall_mem_cons.mpr ⟨lw_p19, List.forall_mem_cons.mpr ⟨lw_p20, List.forall_mem_cons.mpr ⟨lw_p21, List.forall_mem_cons.mpr ⟨lw_p22, List.forall_mem_cons.mpr ⟨lw_p23, List.forall_mem_cons.mpr ⟨lw_p24, List.forall_mem_cons.mpr ⟨lw_p25, List.forall_mem_cons.mpr ⟨lw_p26, List.forall_mem_cons.mpr ⟨lw_p27, List.forall_mem_cons.mpr ⟨lw_p28, List.forall_mem_cons.mpr ⟨lw_p29, List.forall_mem_cons.mpr ⟨lw_p30, List.forall_mem_cons.mpr ⟨lw_p31, fun _ h => absurd h List.not_mem_nil⟩⟩⟩⟩⟩⟩⟩⟩⟩⟩⟩⟩⟩⟩⟩⟩
theorem lw_p32 : lw_okq (⟨"MinedLedgerModel", "isHeadRight", "()Z"⟩, 19) := ⟨⟨by decide +kernel, by decide +kernel⟩, List.mem_of_getElem? (i := 345) (by decide +kernel), List.mem_of_getElem? (i := 628) (by decide +kernel), List.mem_of_getElem? (i := 629) (by decide +kernel)⟩
theorem lw_p33 : lw_okq (⟨"MinedLedgerModel", "next", "(II)I"⟩, 19) := ⟨⟨by decide +kernel, by decide +kernel⟩, List.mem_of_getElem? (i := 345) (by decide +kernel), List.mem_of_getElem? (i := 640) (by decide +kernel), List.mem_of_getElem? (i := 641) (by decide +kernel)⟩
def lw_privs_3 : List (MethodName × Nat) := [(⟨"MinedLedgerModel", "isHeadRight", "()Z"⟩, 19), (⟨"MinedLedgerModel", "next", "(II)I"⟩, 19)]
theorem lw_r3 : ∀ q ∈ lw_privs_3, lw_okq q := List.forall_mem_cons.mpr ⟨lw_p32, List.forall_mem_cons.mpr ⟨lw_p33, fun _ h => absurd h List.not_mem_nil⟩⟩
def lw_privs : List (MethodName × Nat) := lw_privs_1 ++ (lw_privs_2 ++ (lw_privs_3))
def lw_tbl : List Cond := k2_sels lw_privs ++ tables_1
theorem lw_privs_ok : ∀ q ∈ lw_privs, lw_okq q := by
  show ∀ q ∈ lw_privs_1 ++ (lw_privs_2 ++ (lw_privs_3)), lw_okq q
  exact List.forall_mem_append.mpr ⟨lw_r1, List.forall_mem_append.mpr ⟨lw_r2, lw_r3⟩⟩
end
section
/-! ===== BEGIN words of one list among another's, by their places ===== -/
theorem goodIn_r {big : List Cond} (ws : List Cond) (ps : List Nat) (hp : ws = ps.filterMap (fun i => big[i]?)) (h : ws.all goodWord = true) : GoodIn big ws := by
  intro w hw
  have h1 := List.all_eq_true.mp h w hw
  rw [hp] at hw
  obtain ⟨i, -, hi⟩ := List.mem_filterMap.mp hw
  have hm : w ∈ big := by first | exact List.mem_of_getElem? hi | exact List.getElem?_mem hi
  exact ⟨hm, good_of_word h1⟩
theorem goodIn_app {big a b : List Cond} (ha : GoodIn big a) (hb : GoodIn big b) : GoodIn big (a ++ b) := fun w h => (List.mem_append.mp h).elim (ha w) (hb w)
theorem goodIn_ca {big a b : List Cond} {c : Cond} (ha : GoodIn big (c :: a)) (hb : GoodIn big b) : GoodIn big (c :: (a ++ b)) := fun w h => (List.mem_cons.mp h).elim (fun e => ha w (List.mem_cons.mpr (Or.inl e))) (fun h => (List.mem_append.mp h).elim (fun h => ha w (List.mem_cons.mpr (Or.inr h))) (hb w))
theorem goodIn_sub {big ws : List Cond} (hm : ∀ w ∈ ws, w ∈ big) (h : ws.all goodWord = true) : GoodIn big ws := fun w hw => ⟨hm w hw, good_of_word (List.all_eq_true.mp h w hw)⟩
/-! ===== END ===== -/

/-! ===== BEGIN printed: names, fields, word lists, decode rows ===== -/
def RX0 : String := "MinedLedger$Filter"
def TX0 : u_T := fun k => match k with
  | _ => ("MinedLedger$Filter", "bits", "[I", true)
def tyX0 : Nat → FieldType := fun k => match k with
  | _ => .array .int
abbrev wsX00 : List Cond := u_ws RX0 TX0 1
theorem nmX0 : ∀ a, a < 1 → ∀ b, b < 1 → a ≠ b → (TX0 a).2.1 ≠ (TX0 b).2.1 := by decide +kernel
theorem tyX0_ok : ∀ k, k < 1 → parseFieldDescriptor (TX0 k).2.2.1 = some (tyX0 k) := by decide +kernel
abbrev cX0_init : ByteArray := prog_2_method_1_code
def yX0_init : MethodName := ⟨RX0, "<init>", "()V"⟩
abbrev cX0_clear : ByteArray := prog_2_method_2_code
def yX0_clear : MethodName := ⟨RX0, "clear", "()V"⟩
abbrev cX0_include : ByteArray := prog_2_method_3_code
def yX0_include : MethodName := ⟨RX0, "include", "(I)V"⟩
abbrev cX0_mayHave : ByteArray := prog_2_method_4_code
def yX0_mayHave : MethodName := ⟨RX0, "mayHave", "(I)Z"⟩
abbrev cX0_bitOf : ByteArray := prog_2_method_5_code
def yX0_bitOf : MethodName := ⟨RX0, "bitOf", "(II)I"⟩
abbrev cX0_stirred : ByteArray := prog_2_method_6_code
def yX0_stirred : MethodName := ⟨RX0, "stirred", "(II)I"⟩
def RX1 : String := "MinedLedger$Hasher"
def TX1 : u_T := fun k => match k with
  | 0 => ("MinedLedger$Hasher", "middle", "[I", true)
  | 1 => ("MinedLedger$Hasher", "hash", "[I", true)
  | _ => ("MinedLedger$Hasher", "w", "[I", true)
def tyX1 : Nat → FieldType := fun k => match k with
  | 0 => .array .int
  | 1 => .array .int
  | _ => .array .int
abbrev wsX10 : List Cond := u_ws RX1 TX1 3
theorem nmX1 : ∀ a, a < 3 → ∀ b, b < 3 → a ≠ b → (TX1 a).2.1 ≠ (TX1 b).2.1 := by decide +kernel
theorem tyX1_ok : ∀ k, k < 3 → parseFieldDescriptor (TX1 k).2.2.1 = some (tyX1 k) := by decide +kernel
abbrev cX1_init : ByteArray := prog_3_method_1_code
def yX1_init : MethodName := ⟨RX1, "<init>", "()V"⟩
abbrev cX1_takeAll : ByteArray := prog_3_method_2_code
def yX1_takeAll : MethodName := ⟨RX1, "takeAll", "([II)V"⟩
abbrev cX1_takeFirst : ByteArray := prog_3_method_3_code
def yX1_takeFirst : MethodName := ⟨RX1, "takeFirst", "([II)V"⟩
abbrev cX1_takeRest : ByteArray := prog_3_method_4_code
def yX1_takeRest : MethodName := ⟨RX1, "takeRest", "([II)V"⟩
abbrev cX1_isAt : ByteArray := prog_3_method_5_code
def yX1_isAt : MethodName := ⟨RX1, "isAt", "([II)Z"⟩
abbrev cX1_copyTo : ByteArray := prog_3_method_6_code
def yX1_copyTo : MethodName := ⟨RX1, "copyTo", "([II)V"⟩
abbrev cX1_zeros : ByteArray := prog_3_method_7_code
def yX1_zeros : MethodName := ⟨RX1, "zeros", "()I"⟩
abbrev cX1_mixInto : ByteArray := prog_3_method_8_code
def yX1_mixInto : MethodName := ⟨RX1, "mixInto", "([I)V"⟩
abbrev cX1_spread : ByteArray := prog_3_method_9_code
def yX1_spread : MethodName := ⟨RX1, "spread", "()V"⟩
def RX2 : String := "MinedLedger"
def TX2 : u_T := fun k => match k with
  | 0 => ("MinedLedger", "hasher", "LMinedLedger$Hasher;", true)
  | 1 => ("MinedLedger", "filter", "LMinedLedger$Filter;", true)
  | 2 => ("MinedLedger", "cells", "[I", true)
  | 3 => ("MinedLedger", "headWords", "[I", true)
  | 4 => ("MinedLedger", "draft", "[I", true)
  | 5 => ("MinedLedger", "proofWords", "[I", true)
  | 6 => ("MinedLedger", "entryCount", "I", false)
  | 7 => ("MinedLedger", "wordCount", "I", false)
  | 8 => ("MinedLedger", "zerosAsked", "I", false)
  | 9 => ("MinedLedger", "triedCount", "I", false)
  | 10 => ("MinedLedger", "keptNonce", "I", false)
  | 11 => ("MinedLedger", "place", "I", false)
  | 12 => ("MinedLedger", "latestFault", "I", false)
  | _ => ("MinedLedger", "proofLength", "I", false)
def tyX2 : Nat → FieldType := fun k => match k with
  | 0 => .object "MinedLedger$Hasher"
  | 1 => .object "MinedLedger$Filter"
  | 2 => .array .int
  | 3 => .array .int
  | 4 => .array .int
  | 5 => .array .int
  | 6 => .int
  | 7 => .int
  | 8 => .int
  | 9 => .int
  | 10 => .int
  | 11 => .int
  | 12 => .int
  | _ => .int
abbrev wsX20 : List Cond := u_ws RX2 TX2 14
theorem nmX2 : ∀ a, a < 14 → ∀ b, b < 14 → a ≠ b → (TX2 a).2.1 ≠ (TX2 b).2.1 := by decide +kernel
theorem tyX2_ok : ∀ k, k < 14 → parseFieldDescriptor (TX2 k).2.2.1 = some (tyX2 k) := by decide +kernel
abbrev cX2_init : ByteArray := prog_1_method_1_code
def yX2_init : MethodName := ⟨RX2, "<init>", "(I)V"⟩
abbrev cX2_put : ByteArray := prog_1_method_2_code
def yX2_put : MethodName := ⟨RX2, "put", "(I)I"⟩
abbrev cX2_takeBack : ByteArray := prog_1_method_3_code
def yX2_takeBack : MethodName := ⟨RX2, "takeBack", "(I)I"⟩
abbrev cX2_pending : ByteArray := prog_1_method_4_code
def yX2_pending : MethodName := ⟨RX2, "pending", "(I)I"⟩
abbrev cX2_difficulty : ByteArray := prog_1_method_5_code
def yX2_difficulty : MethodName := ⟨RX2, "difficulty", "(I)I"⟩
abbrev cX2_mine : ByteArray := prog_1_method_6_code
def yX2_mine : MethodName := ⟨RX2, "mine", "(I)I"⟩
abbrev cX2_tried : ByteArray := prog_1_method_7_code
def yX2_tried : MethodName := ⟨RX2, "tried", "()I"⟩
abbrev cX2_commit : ByteArray := prog_1_method_8_code
def yX2_commit : MethodName := ⟨RX2, "commit", "()I"⟩
abbrev cX2_clearWordsFrom : ByteArray := prog_1_method_9_code
def yX2_clearWordsFrom : MethodName := ⟨RX2, "clearWordsFrom", "(I)V"⟩
abbrev cX2_forgetNonces : ByteArray := prog_1_method_10_code
def yX2_forgetNonces : MethodName := ⟨RX2, "forgetNonces", "()V"⟩
abbrev cX2_fillDraft : ByteArray := prog_1_method_11_code
def yX2_fillDraft : MethodName := ⟨RX2, "fillDraft", "()V"⟩
abbrev cX2_copyHashOf : ByteArray := prog_1_method_12_code
def yX2_copyHashOf : MethodName := ⟨RX2, "copyHashOf", "(II)V"⟩
abbrev cX2_tryNonces : ByteArray := prog_1_method_13_code
def yX2_tryNonces : MethodName := ⟨RX2, "tryNonces", "(I)V"⟩
abbrev cX2_count : ByteArray := prog_1_method_14_code
def yX2_count : MethodName := ⟨RX2, "count", "()I"⟩
abbrev cX2_head : ByteArray := prog_1_method_15_code
def yX2_head : MethodName := ⟨RX2, "head", "(I)I"⟩
abbrev cX2_cell : ByteArray := prog_1_method_16_code
def yX2_cell : MethodName := ⟨RX2, "cell", "(II)I"⟩
abbrev cX2_spoil : ByteArray := prog_1_method_17_code
def yX2_spoil : MethodName := ⟨RX2, "spoil", "(III)I"⟩
abbrev cX2_drop : ByteArray := prog_1_method_18_code
def yX2_drop : MethodName := ⟨RX2, "drop", "()I"⟩
abbrev cX2_hasEntry : ByteArray := prog_1_method_19_code
def yX2_hasEntry : MethodName := ⟨RX2, "hasEntry", "(I)Z"⟩
abbrev cX2_hasCell : ByteArray := prog_1_method_20_code
def yX2_hasCell : MethodName := ⟨RX2, "hasCell", "(II)Z"⟩
abbrev cX2_skipOf : ByteArray := prog_1_method_21_code
def yX2_skipOf : MethodName := ⟨RX2, "skipOf", "(I)I"⟩
abbrev cX2_may : ByteArray := prog_1_method_22_code
def yX2_may : MethodName := ⟨RX2, "may", "(I)I"⟩
abbrev cX2_find : ByteArray := prog_1_method_23_code
def yX2_find : MethodName := ⟨RX2, "find", "(I)I"⟩
abbrev cX2_stir : ByteArray := prog_1_method_24_code
def yX2_stir : MethodName := ⟨RX2, "stir", "(II)I"⟩
abbrev cX2_hasWord : ByteArray := prog_1_method_25_code
def yX2_hasWord : MethodName := ⟨RX2, "hasWord", "(II)Z"⟩
abbrev cX2_addToFilter : ByteArray := prog_1_method_26_code
def yX2_addToFilter : MethodName := ⟨RX2, "addToFilter", "(I)V"⟩
abbrev cX2_remakeFilter : ByteArray := prog_1_method_27_code
def yX2_remakeFilter : MethodName := ⟨RX2, "remakeFilter", "()V"⟩
abbrev cX2_begin : ByteArray := prog_1_method_28_code
def yX2_begin : MethodName := ⟨RX2, "begin", "()I"⟩
abbrev cX2_audit : ByteArray := prog_1_method_29_code
def yX2_audit : MethodName := ⟨RX2, "audit", "(I)I"⟩
abbrev cX2_fault : ByteArray := prog_1_method_30_code
def yX2_fault : MethodName := ⟨RX2, "fault", "()I"⟩
abbrev cX2_auditHead : ByteArray := prog_1_method_31_code
def yX2_auditHead : MethodName := ⟨RX2, "auditHead", "()I"⟩
abbrev cX2_faultOf : ByteArray := prog_1_method_32_code
def yX2_faultOf : MethodName := ⟨RX2, "faultOf", "(I)I"⟩
abbrev cX2_isHashOf : ByteArray := prog_1_method_33_code
def yX2_isHashOf : MethodName := ⟨RX2, "isHashOf", "(I[II)Z"⟩
abbrev cX2_way : ByteArray := prog_1_method_34_code
def yX2_way : MethodName := ⟨RX2, "way", "(II)I"⟩
abbrev cX2_prove : ByteArray := prog_1_method_35_code
def yX2_prove : MethodName := ⟨RX2, "prove", "(I)I"⟩
abbrev cX2_proof : ByteArray := prog_1_method_36_code
def yX2_proof : MethodName := ⟨RX2, "proof", "(I)I"⟩
abbrev cX2_forge : ByteArray := prog_1_method_37_code
def yX2_forge : MethodName := ⟨RX2, "forge", "(II)I"⟩
abbrev cX2_check : ByteArray := prog_1_method_38_code
def yX2_check : MethodName := ⟨RX2, "check", "(I)I"⟩
abbrev cX2_proofHolds : ByteArray := prog_1_method_39_code
def yX2_proofHolds : MethodName := ⟨RX2, "proofHolds", "(I)Z"⟩
abbrev cX2_levelsTo : ByteArray := prog_1_method_40_code
def yX2_levelsTo : MethodName := ⟨RX2, "levelsTo", "(I)I"⟩
abbrev cX2_nextOnWay : ByteArray := prog_1_method_41_code
def yX2_nextOnWay : MethodName := ⟨RX2, "nextOnWay", "(II)I"⟩
abbrev cX2_goesBySkip : ByteArray := prog_1_method_42_code
def yX2_goesBySkip : MethodName := ⟨RX2, "goesBySkip", "(II)Z"⟩
abbrev cX2_right : ByteArray := prog_1_method_43_code
def yX2_right : MethodName := ⟨RX2, "right", "(II)I"⟩
def RX3 : String := "MinedLedgerModel"
def TX3 : u_T := fun k => match k with
  | 0 => ("MinedLedgerModel", "cells", "[I", true)
  | 1 => ("MinedLedgerModel", "count", "I", false)
  | 2 => ("MinedLedgerModel", "head", "[I", true)
  | 3 => ("MinedLedgerModel", "words", "[I", true)
  | 4 => ("MinedLedgerModel", "wordCount", "I", false)
  | 5 => ("MinedLedgerModel", "difficulty", "I", false)
  | 6 => ("MinedLedgerModel", "tried", "I", false)
  | 7 => ("MinedLedgerModel", "kept", "I", false)
  | 8 => ("MinedLedgerModel", "filter", "[Z", true)
  | 9 => ("MinedLedgerModel", "place", "I", false)
  | 10 => ("MinedLedgerModel", "fault", "I", false)
  | 11 => ("MinedLedgerModel", "proof", "[I", true)
  | 12 => ("MinedLedgerModel", "proofSize", "I", false)
  | 13 => ("MinedLedgerModel", "add", "[I", true)
  | 14 => ("MinedLedgerModel", "begun", "[I", true)
  | 15 => ("MinedLedgerModel", "h", "[I", true)
  | 16 => ("MinedLedgerModel", "half", "[I", true)
  | 17 => ("MinedLedgerModel", "w", "[I", true)
  | _ => ("MinedLedgerModel", "entry", "[I", true)
def tyX3 : Nat → FieldType := fun k => match k with
  | 0 => .array .int
  | 1 => .int
  | 2 => .array .int
  | 3 => .array .int
  | 4 => .int
  | 5 => .int
  | 6 => .int
  | 7 => .int
  | 8 => .array .boolean
  | 9 => .int
  | 10 => .int
  | 11 => .array .int
  | 12 => .int
  | 13 => .array .int
  | 14 => .array .int
  | 15 => .array .int
  | 16 => .array .int
  | 17 => .array .int
  | _ => .array .int
abbrev wsX30 : List Cond := u_ws RX3 TX3 19
theorem nmX3 : ∀ a, a < 19 → ∀ b, b < 19 → a ≠ b → (TX3 a).2.1 ≠ (TX3 b).2.1 := by decide +kernel
theorem tyX3_ok : ∀ k, k < 19 → parseFieldDescriptor (TX3 k).2.2.1 = some (tyX3 k) := by decide +kernel
abbrev cX3_init : ByteArray := prog_5_method_1_code
def yX3_init : MethodName := ⟨RX3, "<init>", "(I)V"⟩
abbrev cX3_firstHalf : ByteArray := prog_5_method_2_code
def yX3_firstHalf : MethodName := ⟨RX3, "firstHalf", "()V"⟩
abbrev cX3_secondHalf : ByteArray := prog_5_method_3_code
def yX3_secondHalf : MethodName := ⟨RX3, "secondHalf", "()V"⟩
abbrev cX3_turned : ByteArray := prog_5_method_4_code
def yX3_turned : MethodName := ⟨RX3, "turned", "(II)I"⟩
abbrev cX3_mix : ByteArray := prog_5_method_5_code
def yX3_mix : MethodName := ⟨RX3, "mix", "()V"⟩
abbrev cX3_mixFirst : ByteArray := prog_5_method_6_code
def yX3_mixFirst : MethodName := ⟨RX3, "mixFirst", "()V"⟩
abbrev cX3_mixSecond : ByteArray := prog_5_method_7_code
def yX3_mixSecond : MethodName := ⟨RX3, "mixSecond", "()V"⟩
abbrev cX3_zerosOf : ByteArray := prog_5_method_8_code
def yX3_zerosOf : MethodName := ⟨RX3, "zerosOf", "(I)I"⟩
abbrev cX3_zeros : ByteArray := prog_5_method_9_code
def yX3_zeros : MethodName := ⟨RX3, "zeros", "()I"⟩
abbrev cX3_lowest : ByteArray := prog_5_method_10_code
def yX3_lowest : MethodName := ⟨RX3, "lowest", "(I)I"⟩
abbrev cX3_hashCell : ByteArray := prog_5_method_11_code
def yX3_hashCell : MethodName := ⟨RX3, "hashCell", "(II)I"⟩
abbrev cX3_draft : ByteArray := prog_5_method_12_code
def yX3_draft : MethodName := ⟨RX3, "draft", "()V"⟩
abbrev cX3_forget : ByteArray := prog_5_method_13_code
def yX3_forget : MethodName := ⟨RX3, "forget", "()V"⟩
abbrev cX3_put : ByteArray := prog_5_method_14_code
def yX3_put : MethodName := ⟨RX3, "put", "(I)I"⟩
abbrev cX3_takeBack : ByteArray := prog_5_method_15_code
def yX3_takeBack : MethodName := ⟨RX3, "takeBack", "(I)I"⟩
abbrev cX3_pending : ByteArray := prog_5_method_16_code
def yX3_pending : MethodName := ⟨RX3, "pending", "(I)I"⟩
abbrev cX3_difficulty : ByteArray := prog_5_method_17_code
def yX3_difficulty : MethodName := ⟨RX3, "difficulty", "(I)I"⟩
abbrev cX3_mine : ByteArray := prog_5_method_18_code
def yX3_mine : MethodName := ⟨RX3, "mine", "(I)I"⟩
abbrev cX3_tried : ByteArray := prog_5_method_19_code
def yX3_tried : MethodName := ⟨RX3, "tried", "()I"⟩
abbrev cX3_commit : ByteArray := prog_5_method_20_code
def yX3_commit : MethodName := ⟨RX3, "commit", "()I"⟩
abbrev cX3_count : ByteArray := prog_5_method_21_code
def yX3_count : MethodName := ⟨RX3, "count", "()I"⟩
abbrev cX3_head : ByteArray := prog_5_method_22_code
def yX3_head : MethodName := ⟨RX3, "head", "(I)I"⟩
abbrev cX3_isCell : ByteArray := prog_5_method_23_code
def yX3_isCell : MethodName := ⟨RX3, "isCell", "(II)Z"⟩
abbrev cX3_cell : ByteArray := prog_5_method_24_code
def yX3_cell : MethodName := ⟨RX3, "cell", "(II)I"⟩
abbrev cX3_spoil : ByteArray := prog_5_method_25_code
def yX3_spoil : MethodName := ⟨RX3, "spoil", "(III)I"⟩
abbrev cX3_drop : ByteArray := prog_5_method_26_code
def yX3_drop : MethodName := ⟨RX3, "drop", "()I"⟩
abbrev cX3_stir : ByteArray := prog_5_method_27_code
def yX3_stir : MethodName := ⟨RX3, "stir", "(II)I"⟩
abbrev cX3_bit : ByteArray := prog_5_method_28_code
def yX3_bit : MethodName := ⟨RX3, "bit", "(II)I"⟩
abbrev cX3_setBits : ByteArray := prog_5_method_29_code
def yX3_setBits : MethodName := ⟨RX3, "setBits", "(I)V"⟩
abbrev cX3_maybe : ByteArray := prog_5_method_30_code
def yX3_maybe : MethodName := ⟨RX3, "maybe", "(I)Z"⟩
abbrev cX3_may : ByteArray := prog_5_method_31_code
def yX3_may : MethodName := ⟨RX3, "may", "(I)I"⟩
abbrev cX3_find : ByteArray := prog_5_method_32_code
def yX3_find : MethodName := ⟨RX3, "find", "(I)I"⟩
abbrev cX3_begin : ByteArray := prog_5_method_33_code
def yX3_begin : MethodName := ⟨RX3, "begin", "()I"⟩
abbrev cX3_isHashOf : ByteArray := prog_5_method_34_code
def yX3_isHashOf : MethodName := ⟨RX3, "isHashOf", "(II)Z"⟩
abbrev cX3_faultOf : ByteArray := prog_5_method_35_code
def yX3_faultOf : MethodName := ⟨RX3, "faultOf", "(I)I"⟩
abbrev cX3_isHeadRight : ByteArray := prog_5_method_36_code
def yX3_isHeadRight : MethodName := ⟨RX3, "isHeadRight", "()Z"⟩
abbrev cX3_audit : ByteArray := prog_5_method_37_code
def yX3_audit : MethodName := ⟨RX3, "audit", "(I)I"⟩
abbrev cX3_fault : ByteArray := prog_5_method_38_code
def yX3_fault : MethodName := ⟨RX3, "fault", "()I"⟩
abbrev cX3_next : ByteArray := prog_5_method_39_code
def yX3_next : MethodName := ⟨RX3, "next", "(II)I"⟩
abbrev cX3_way : ByteArray := prog_5_method_40_code
def yX3_way : MethodName := ⟨RX3, "way", "(II)I"⟩
abbrev cX3_prove : ByteArray := prog_5_method_41_code
def yX3_prove : MethodName := ⟨RX3, "prove", "(I)I"⟩
abbrev cX3_proof : ByteArray := prog_5_method_42_code
def yX3_proof : MethodName := ⟨RX3, "proof", "(I)I"⟩
abbrev cX3_forge : ByteArray := prog_5_method_43_code
def yX3_forge : MethodName := ⟨RX3, "forge", "(II)I"⟩
abbrev cX3_check : ByteArray := prog_5_method_44_code
def yX3_check : MethodName := ⟨RX3, "check", "(I)I"⟩
def RJ6 : String := "java/lang/Integer"
def TJ6 : u_T := fun k => match k with
  | _ => ("", "", "", false)
def tyJ6 : Nat → FieldType := fun k => match k with
  | _ => .int
abbrev wsJ60 : List Cond := u_ws RJ6 TJ6 0
theorem nmJ6 : ∀ a, a < 0 → ∀ b, b < 0 → a ≠ b → (TJ6 a).2.1 ≠ (TJ6 b).2.1 := by decide +kernel
theorem tyJ6_ok : ∀ k, k < 0 → parseFieldDescriptor (TJ6 k).2.2.1 = some (tyJ6 k) := by decide +kernel
abbrev cJ6_numberOfLeadingZeros_0f7a4 : ByteArray := prog_6_method_47_code
def yJ6_numberOfLeadingZeros_0f7a4 : MethodName := ⟨RJ6, "numberOfLeadingZeros", "(I)I"⟩
def RJ9 : String := "java/lang/Math"
def TJ9 : u_T := fun k => match k with
  | _ => ("", "", "", false)
def tyJ9 : Nat → FieldType := fun k => match k with
  | _ => .int
abbrev wsJ90 : List Cond := u_ws RJ9 TJ9 0
theorem nmJ9 : ∀ a, a < 0 → ∀ b, b < 0 → a ≠ b → (TJ9 a).2.1 ≠ (TJ9 b).2.1 := by decide +kernel
theorem tyJ9_ok : ∀ k, k < 0 → parseFieldDescriptor (TJ9 k).2.2.1 = some (tyJ9 k) := by decide +kernel
abbrev cJ9_max_7cf53 : ByteArray := prog_7_method_65_code
def yJ9_max_7cf53 : MethodName := ⟨RJ9, "max", "(II)I"⟩
abbrev cJ9_min_7cf53 : ByteArray := prog_7_method_69_code
def yJ9_min_7cf53 : MethodName := ⟨RJ9, "min", "(II)I"⟩
def RJ10 : String := "java/lang/System"
def TJ10 : u_T := fun k => match k with
  | _ => ("", "", "", false)
def tyJ10 : Nat → FieldType := fun k => match k with
  | _ => .int
abbrev wsJ100 : List Cond := u_ws RJ10 TJ10 0
theorem nmJ10 : ∀ a, a < 0 → ∀ b, b < 0 → a ≠ b → (TJ10 a).2.1 ≠ (TJ10 b).2.1 := by decide +kernel
theorem tyJ10_ok : ∀ k, k < 0 → parseFieldDescriptor (TJ10 k).2.2.1 = some (tyJ10 k) := by decide +kernel
def RJ7 : String := "java/util/Arrays"
def TJ7 : u_T := fun k => match k with
  | _ => ("", "", "", false)
def tyJ7 : Nat → FieldType := fun k => match k with
  | _ => .int
abbrev wsJ70 : List Cond := u_ws RJ7 TJ7 0
theorem nmJ7 : ∀ a, a < 0 → ∀ b, b < 0 → a ≠ b → (TJ7 a).2.1 ≠ (TJ7 b).2.1 := by decide +kernel
theorem tyJ7_ok : ∀ k, k < 0 → parseFieldDescriptor (TJ7 k).2.2.1 = some (tyJ7 k) := by decide +kernel
abbrev cJ7_rangeCheck_23922 : ByteArray := prog_9_method_30_code
def yJ7_rangeCheck_23922 : MethodName := ⟨RJ7, "rangeCheck", "(III)V"⟩
abbrev cJ7_fill_53178 : ByteArray := prog_9_method_103_code
def yJ7_fill_53178 : MethodName := ⟨RJ7, "fill", "([II)V"⟩
abbrev cJ7_fill_fda19 : ByteArray := prog_9_method_104_code
def yJ7_fill_fda19 : MethodName := ⟨RJ7, "fill", "([IIII)V"⟩
def RL : String := "MinedLedgerLaw"
abbrev cL_cell : ByteArray := method_2_code
def yL_cell : MethodName := ⟨RL, "cell", "([II)I"⟩
abbrev cL_law : ByteArray := code
def yL_law : MethodName := ⟨RL, "law", "([I)Z"⟩
def wsX0_init : List Cond := .code yX0_init cX0_init 1 none :: ([.methodLink RX0 1 objectInit, .instanceMethod objectInit, .code objectInit ⟨#[0xb1]⟩ 1 none, .arrayClass .int, .fieldLink RX0 9 "MinedLedger$Filter" "bits" "[I"] ++ wsX00)
def wsJ7_fill_53178 : List Cond := .code yJ7_fill_53178 cJ7_fill_53178 4 none :: ([])
def wsX0_clear : List Cond := .code yX0_clear cX0_clear 1 none :: ([.fieldLink RX0 9 "MinedLedger$Filter" "bits" "[I", .methodLink RX0 13 yJ7_fill_53178, .static yJ7_fill_53178, .initialized RJ7, .code yJ7_fill_53178 cJ7_fill_53178 4 none] ++ wsX00)
def wsX2_right : List Cond := .code yX2_right cX2_right 2 (some .int) :: ([])
def wsX0_stirred : List Cond := .code yX0_stirred cX0_stirred 4 (some .int) :: ([.constant RX0 27 (-862048943), .constant RX0 33 (461845907), .constant RX0 34 (-430675100), .constant RX0 35 (-2048144789), .constant RX0 36 (-1028477387), .static yX2_right, .initialized RX2, .code yX2_right cX2_right 2 (some .int)])
def wsX0_bitOf : List Cond := .code yX0_bitOf cX0_bitOf 2 (some .int) :: ([.constant RX0 26 (-1756908916), .methodLink RX0 23 yX0_stirred, .static yX0_stirred, .initialized RX0, .code yX0_stirred cX0_stirred 4 (some .int), .constant RX0 27 (-862048943), .constant RX0 33 (461845907), .constant RX0 34 (-430675100), .constant RX0 35 (-2048144789), .constant RX0 36 (-1028477387), .static yX2_right, .initialized RX2, .code yX2_right cX2_right 2 (some .int)])
def wsX0_include : List Cond := .code yX0_include cX0_include 4 none :: ([.fieldLink RX0 9 "MinedLedger$Filter" "bits" "[I", .methodLink RX0 19 yX0_bitOf, .static yX0_bitOf, .initialized RX0, .code yX0_bitOf cX0_bitOf 2 (some .int), .constant RX0 26 (-1756908916), .methodLink RX0 23 yX0_stirred, .static yX0_stirred, .code yX0_stirred cX0_stirred 4 (some .int), .constant RX0 27 (-862048943), .constant RX0 33 (461845907), .constant RX0 34 (-430675100), .constant RX0 35 (-2048144789), .constant RX0 36 (-1028477387), .static yX2_right, .initialized RX2, .code yX2_right cX2_right 2 (some .int)] ++ wsX00)
def wsX0_mayHave : List Cond := .code yX0_mayHave cX0_mayHave 4 (some .boolean) :: ([.fieldLink RX0 9 "MinedLedger$Filter" "bits" "[I", .methodLink RX0 19 yX0_bitOf, .static yX0_bitOf, .initialized RX0, .code yX0_bitOf cX0_bitOf 2 (some .int), .constant RX0 26 (-1756908916), .methodLink RX0 23 yX0_stirred, .static yX0_stirred, .code yX0_stirred cX0_stirred 4 (some .int), .constant RX0 27 (-862048943), .constant RX0 33 (461845907), .constant RX0 34 (-430675100), .constant RX0 35 (-2048144789), .constant RX0 36 (-1028477387), .static yX2_right, .initialized RX2, .code yX2_right cX2_right 2 (some .int)] ++ wsX00)
def wsX1_init : List Cond := .code yX1_init cX1_init 1 none :: ([.methodLink RX1 3 objectInit, .instanceMethod objectInit, .code objectInit ⟨#[0xb1]⟩ 1 none, .arrayClass .int, .fieldLink RX1 9 "MinedLedger$Hasher" "middle" "[I", .fieldLink RX1 15 "MinedLedger$Hasher" "hash" "[I", .fieldLink RX1 18 "MinedLedger$Hasher" "w" "[I"] ++ wsX10)
def wsX1_spread : List Cond := .code yX1_spread cX1_spread 4 none :: ([.fieldLink RX1 18 "MinedLedger$Hasher" "w" "[I", .static yX2_right, .initialized RX2, .code yX2_right cX2_right 2 (some .int)] ++ wsX10)
def wsX1_mixInto : List Cond := .code yX1_mixInto cX1_mixInto 13 none :: ([.fieldLink RX1 61 "MinedLedger$Hasher" "K" "[I", .fieldLink RX1 18 "MinedLedger$Hasher" "w" "[I", .methodLink RX1 54 yX1_spread, .instanceMethod yX1_spread, .selects RX1 yX1_spread yX1_spread, .initialized RX1, .code yX1_spread cX1_spread 4 none, .static yX2_right, .initialized RX2, .code yX2_right cX2_right 2 (some .int)] ++ wsX10)
def wsX1_takeFirst : List Cond := .code yX1_takeFirst cX1_takeFirst 3 none :: ([.fieldLink RX1 28 "MinedLedger$Hasher" "START" "[I", .fieldLink RX1 9 "MinedLedger$Hasher" "middle" "[I", .methodLink RX1 31 arraycopyName, .native arraycopyName, .static arraycopyName, .initialized "java/lang/System", .fieldLink RX1 18 "MinedLedger$Hasher" "w" "[I", .methodLink RX1 37 yX1_mixInto, .instanceMethod yX1_mixInto, .selects RX1 yX1_mixInto yX1_mixInto, .initialized RX1, .code yX1_mixInto cX1_mixInto 13 none, .fieldLink RX1 61 "MinedLedger$Hasher" "K" "[I", .methodLink RX1 54 yX1_spread, .instanceMethod yX1_spread, .selects RX1 yX1_spread yX1_spread, .code yX1_spread cX1_spread 4 none, .static yX2_right, .initialized RX2, .code yX2_right cX2_right 2 (some .int)] ++ wsX10)
def wsJ7_rangeCheck_23922 : List Cond := .code yJ7_rangeCheck_23922 cJ7_rangeCheck_23922 3 none :: ([])
def wsJ7_fill_fda19 : List Cond := .code yJ7_fill_fda19 cJ7_fill_fda19 5 none :: ([.methodLink RJ7 13 yJ7_rangeCheck_23922, .static yJ7_rangeCheck_23922, .initialized RJ7, .code yJ7_rangeCheck_23922 cJ7_rangeCheck_23922 3 none])
def wsX1_takeRest_r1 : List Cond := [Cond.fieldLink RX1 9 "MinedLedger$Hasher" "middle" "[I", Cond.fieldLink RX1 15 "MinedLedger$Hasher" "hash" "[I", Cond.methodLink RX1 31 arraycopyName, Cond.native arraycopyName, Cond.static arraycopyName, Cond.initialized "java/lang/System", Cond.fieldLink RX1 18 "MinedLedger$Hasher" "w" "[I", Cond.constant RX1 41 (-2147483648), Cond.methodLink RX1 42 yJ7_fill_fda19, Cond.static yJ7_fill_fda19, Cond.initialized RJ7, Cond.code yJ7_fill_fda19 cJ7_fill_fda19 5 none, Cond.methodLink RJ7 13 yJ7_rangeCheck_23922, Cond.static yJ7_rangeCheck_23922, Cond.code yJ7_rangeCheck_23922 cJ7_rangeCheck_23922 3 none, Cond.methodLink RX1 37 yX1_mixInto, Cond.instanceMethod yX1_mixInto, Cond.selects RX1 yX1_mixInto yX1_mixInto, Cond.initialized RX1, Cond.code yX1_mixInto cX1_mixInto 13 none, Cond.fieldLink RX1 61 "MinedLedger$Hasher" "K" "[I", Cond.methodLink RX1 54 yX1_spread, Cond.instanceMethod yX1_spread, Cond.selects RX1 yX1_spread yX1_spread]
def wsX1_takeRest_r2 : List Cond := [Cond.code yX1_spread cX1_spread 4 none, Cond.static yX2_right, Cond.initialized RX2, Cond.code yX2_right cX2_right 2 (some .int)]
def wsX1_takeRest : List Cond := .code yX1_takeRest cX1_takeRest 4 none :: ((wsX1_takeRest_r1 ++ wsX1_takeRest_r2) ++ wsX10)
def wsX1_takeAll_r1 : List Cond := [Cond.methodLink RX1 21 yX1_takeFirst, Cond.instanceMethod yX1_takeFirst, Cond.selects RX1 yX1_takeFirst yX1_takeFirst, Cond.initialized RX1, Cond.code yX1_takeFirst cX1_takeFirst 3 none, Cond.fieldLink RX1 28 "MinedLedger$Hasher" "START" "[I", Cond.fieldLink RX1 9 "MinedLedger$Hasher" "middle" "[I", Cond.methodLink RX1 31 arraycopyName, Cond.native arraycopyName, Cond.static arraycopyName, Cond.initialized "java/lang/System", Cond.fieldLink RX1 18 "MinedLedger$Hasher" "w" "[I", Cond.methodLink RX1 37 yX1_mixInto, Cond.instanceMethod yX1_mixInto, Cond.selects RX1 yX1_mixInto yX1_mixInto, Cond.code yX1_mixInto cX1_mixInto 13 none, Cond.fieldLink RX1 61 "MinedLedger$Hasher" "K" "[I", Cond.methodLink RX1 54 yX1_spread, Cond.instanceMethod yX1_spread, Cond.selects RX1 yX1_spread yX1_spread, Cond.code yX1_spread cX1_spread 4 none, Cond.static yX2_right, Cond.initialized RX2, Cond.code yX2_right cX2_right 2 (some .int)]
def wsX1_takeAll_r2 : List Cond := [Cond.methodLink RX1 25 yX1_takeRest, Cond.instanceMethod yX1_takeRest, Cond.selects RX1 yX1_takeRest yX1_takeRest, Cond.code yX1_takeRest cX1_takeRest 4 none, Cond.fieldLink RX1 15 "MinedLedger$Hasher" "hash" "[I", Cond.constant RX1 41 (-2147483648), Cond.methodLink RX1 42 yJ7_fill_fda19, Cond.static yJ7_fill_fda19, Cond.initialized RJ7, Cond.code yJ7_fill_fda19 cJ7_fill_fda19 5 none, Cond.methodLink RJ7 13 yJ7_rangeCheck_23922, Cond.static yJ7_rangeCheck_23922, Cond.code yJ7_rangeCheck_23922 cJ7_rangeCheck_23922 3 none]
def wsX1_takeAll : List Cond := .code yX1_takeAll cX1_takeAll 3 none :: ((wsX1_takeAll_r1 ++ wsX1_takeAll_r2) ++ wsX10)
def wsX1_isAt : List Cond := .code yX1_isAt cX1_isAt 4 (some .boolean) :: ([.fieldLink RX1 15 "MinedLedger$Hasher" "hash" "[I"] ++ wsX10)
def wsX1_copyTo : List Cond := .code yX1_copyTo cX1_copyTo 3 none :: ([.fieldLink RX1 15 "MinedLedger$Hasher" "hash" "[I", .methodLink RX1 31 arraycopyName, .native arraycopyName, .static arraycopyName, .initialized "java/lang/System"] ++ wsX10)
def wsJ6_numberOfLeadingZeros_0f7a4 : List Cond := .code yJ6_numberOfLeadingZeros_0f7a4 cJ6_numberOfLeadingZeros_0f7a4 2 (some .int) :: ([.constant RJ6 264 (65536)])
def wsX1_zeros : List Cond := .code yX1_zeros cX1_zeros 2 (some .int) :: ([.fieldLink RX1 15 "MinedLedger$Hasher" "hash" "[I", .methodLink RX1 48 yJ6_numberOfLeadingZeros_0f7a4, .static yJ6_numberOfLeadingZeros_0f7a4, .initialized RJ6, .code yJ6_numberOfLeadingZeros_0f7a4 cJ6_numberOfLeadingZeros_0f7a4 2 (some .int), .constant RJ6 264 (65536)] ++ wsX10)
def wsX2_init_r1 : List Cond := [Cond.methodLink RX2 1 objectInit, Cond.instanceMethod objectInit, Cond.code objectInit ⟨#[0xb1]⟩ 1 none, Cond.classLink RX2 7 RX1, Cond.instantiable RX1 3, Cond.initialized RX1, Cond.fieldLink RX2 10 "MinedLedger" "hasher" "LMinedLedger$Hasher;", Cond.classLink RX2 16 RX0, Cond.instantiable RX0 1, Cond.initialized RX0, Cond.fieldLink RX2 19 "MinedLedger" "filter" "LMinedLedger$Filter;", Cond.arrayClass .int, Cond.fieldLink RX2 23 "MinedLedger" "cells" "[I", Cond.fieldLink RX2 27 "MinedLedger" "headWords" "[I", Cond.fieldLink RX2 30 "MinedLedger" "draft" "[I", Cond.fieldLink RX2 33 "MinedLedger" "proofWords" "[I", Cond.fieldLink RX2 36 "MinedLedger" "entryCount" "I", Cond.fieldLink RX2 40 "MinedLedger" "wordCount" "I", Cond.methodLink RX2 43 Lib.Math.min.name, Cond.static Lib.Math.min.name, Cond.initialized "java/lang/Math", Cond.code Lib.Math.min.name Lib.Math.min.code 2 (some .int), Cond.methodLink RX2 49 Lib.Math.max.name, Cond.static Lib.Math.max.name]
def wsX2_init_r2 : List Cond := [Cond.code Lib.Math.max.name Lib.Math.max.code 2 (some .int), Cond.fieldLink RX2 52 "MinedLedger" "zerosAsked" "I", Cond.fieldLink RX2 55 "MinedLedger" "triedCount" "I", Cond.fieldLink RX2 58 "MinedLedger" "keptNonce" "I", Cond.fieldLink RX2 61 "MinedLedger" "place" "I", Cond.fieldLink RX2 64 "MinedLedger" "latestFault" "I", Cond.fieldLink RX2 67 "MinedLedger" "proofLength" "I", Cond.instanceMethod yX1_init, Cond.code yX1_init cX1_init 1 none, Cond.methodLink RX1 3 objectInit, Cond.fieldLink RX1 9 "MinedLedger$Hasher" "middle" "[I", Cond.fieldLink RX1 15 "MinedLedger$Hasher" "hash" "[I", Cond.fieldLink RX1 18 "MinedLedger$Hasher" "w" "[I", Cond.instanceMethod yX0_init, Cond.code yX0_init cX0_init 1 none, Cond.methodLink RX0 1 objectInit, Cond.fieldLink RX0 9 "MinedLedger$Filter" "bits" "[I"]
def wsX2_init : List Cond := .code yX2_init cX2_init 2 none :: ((wsX2_init_r1 ++ wsX2_init_r2) ++ wsX10 ++ wsX20 ++ wsX00)
def wsX2_forgetNonces : List Cond := .code yX2_forgetNonces cX2_forgetNonces 1 none :: ([.fieldLink RX2 55 "MinedLedger" "triedCount" "I", .fieldLink RX2 58 "MinedLedger" "keptNonce" "I"] ++ wsX20)
def wsX2_put : List Cond := .code yX2_put cX2_put 2 (some .int) :: ([.fieldLink RX2 40 "MinedLedger" "wordCount" "I", .fieldLink RX2 30 "MinedLedger" "draft" "[I", .methodLink RX2 70 yX2_forgetNonces, .instanceMethod yX2_forgetNonces, .selects RX2 yX2_forgetNonces yX2_forgetNonces, .initialized RX2, .code yX2_forgetNonces cX2_forgetNonces 1 none, .fieldLink RX2 55 "MinedLedger" "triedCount" "I", .fieldLink RX2 58 "MinedLedger" "keptNonce" "I"] ++ wsX20)
def wsX2_clearWordsFrom : List Cond := .code yX2_clearWordsFrom cX2_clearWordsFrom 2 none :: ([.fieldLink RX2 30 "MinedLedger" "draft" "[I", .fieldLink RX2 40 "MinedLedger" "wordCount" "I", .methodLink RX2 93 yJ7_fill_fda19, .static yJ7_fill_fda19, .initialized RJ7, .code yJ7_fill_fda19 cJ7_fill_fda19 5 none, .methodLink RJ7 13 yJ7_rangeCheck_23922, .static yJ7_rangeCheck_23922, .code yJ7_rangeCheck_23922 cJ7_rangeCheck_23922 3 none] ++ wsX20)
def wsX2_takeBack : List Cond := .code yX2_takeBack cX2_takeBack 2 (some .int) :: ([.fieldLink RX2 40 "MinedLedger" "wordCount" "I", .methodLink RX2 73 yX2_clearWordsFrom, .instanceMethod yX2_clearWordsFrom, .selects RX2 yX2_clearWordsFrom yX2_clearWordsFrom, .initialized RX2, .code yX2_clearWordsFrom cX2_clearWordsFrom 2 none, .fieldLink RX2 30 "MinedLedger" "draft" "[I", .methodLink RX2 93 yJ7_fill_fda19, .static yJ7_fill_fda19, .initialized RJ7, .code yJ7_fill_fda19 cJ7_fill_fda19 5 none, .methodLink RJ7 13 yJ7_rangeCheck_23922, .static yJ7_rangeCheck_23922, .code yJ7_rangeCheck_23922 cJ7_rangeCheck_23922 3 none, .methodLink RX2 70 yX2_forgetNonces, .instanceMethod yX2_forgetNonces, .selects RX2 yX2_forgetNonces yX2_forgetNonces, .code yX2_forgetNonces cX2_forgetNonces 1 none, .fieldLink RX2 55 "MinedLedger" "triedCount" "I", .fieldLink RX2 58 "MinedLedger" "keptNonce" "I"] ++ wsX20)
def wsX2_pending : List Cond := .code yX2_pending cX2_pending 2 (some .int) :: ([.fieldLink RX2 40 "MinedLedger" "wordCount" "I", .fieldLink RX2 30 "MinedLedger" "draft" "[I"] ++ wsX20)
def wsX2_difficulty : List Cond := .code yX2_difficulty cX2_difficulty 3 (some .int) :: ([.fieldLink RX2 52 "MinedLedger" "zerosAsked" "I", .methodLink RX2 70 yX2_forgetNonces, .instanceMethod yX2_forgetNonces, .selects RX2 yX2_forgetNonces yX2_forgetNonces, .initialized RX2, .code yX2_forgetNonces cX2_forgetNonces 1 none, .fieldLink RX2 55 "MinedLedger" "triedCount" "I", .fieldLink RX2 58 "MinedLedger" "keptNonce" "I"] ++ wsX20)
def wsX2_hasEntry : List Cond := .code yX2_hasEntry cX2_hasEntry 2 (some .boolean) :: ([.fieldLink RX2 36 "MinedLedger" "entryCount" "I"] ++ wsX20)
def wsX2_copyHashOf : List Cond := .code yX2_copyHashOf cX2_copyHashOf 3 none :: ([.fieldLink RX2 23 "MinedLedger" "cells" "[I", .fieldLink RX2 30 "MinedLedger" "draft" "[I", .methodLink RX2 84 arraycopyName, .native arraycopyName, .static arraycopyName, .initialized "java/lang/System", .methodLink RX2 107 yX2_hasEntry, .instanceMethod yX2_hasEntry, .selects RX2 yX2_hasEntry yX2_hasEntry, .initialized RX2, .code yX2_hasEntry cX2_hasEntry 2 (some .boolean), .fieldLink RX2 36 "MinedLedger" "entryCount" "I", .methodLink RX2 93 yJ7_fill_fda19, .static yJ7_fill_fda19, .initialized RJ7, .code yJ7_fill_fda19 cJ7_fill_fda19 5 none, .methodLink RJ7 13 yJ7_rangeCheck_23922, .static yJ7_rangeCheck_23922, .code yJ7_rangeCheck_23922 cJ7_rangeCheck_23922 3 none] ++ wsX20)
def wsX2_skipOf : List Cond := .code yX2_skipOf cX2_skipOf 1 (some .int) :: ([])
def wsX2_fillDraft_r1 : List Cond := [Cond.fieldLink RX2 36 "MinedLedger" "entryCount" "I", Cond.fieldLink RX2 30 "MinedLedger" "draft" "[I", Cond.fieldLink RX2 52 "MinedLedger" "zerosAsked" "I", Cond.fieldLink RX2 40 "MinedLedger" "wordCount" "I", Cond.methodLink RX2 99 yX2_copyHashOf, Cond.instanceMethod yX2_copyHashOf, Cond.selects RX2 yX2_copyHashOf yX2_copyHashOf, Cond.initialized RX2, Cond.code yX2_copyHashOf cX2_copyHashOf 3 none, Cond.fieldLink RX2 23 "MinedLedger" "cells" "[I", Cond.methodLink RX2 84 arraycopyName, Cond.native arraycopyName, Cond.static arraycopyName, Cond.initialized "java/lang/System", Cond.methodLink RX2 107 yX2_hasEntry, Cond.instanceMethod yX2_hasEntry, Cond.selects RX2 yX2_hasEntry yX2_hasEntry, Cond.code yX2_hasEntry cX2_hasEntry 2 (some .boolean), Cond.methodLink RX2 93 yJ7_fill_fda19, Cond.static yJ7_fill_fda19, Cond.initialized RJ7, Cond.code yJ7_fill_fda19 cJ7_fill_fda19 5 none, Cond.methodLink RJ7 13 yJ7_rangeCheck_23922, Cond.static yJ7_rangeCheck_23922]
def wsX2_fillDraft_r2 : List Cond := [Cond.code yJ7_rangeCheck_23922 cJ7_rangeCheck_23922 3 none, Cond.methodLink RX2 103 yX2_skipOf, Cond.static yX2_skipOf, Cond.code yX2_skipOf cX2_skipOf 1 (some .int)]
def wsX2_fillDraft : List Cond := .code yX2_fillDraft cX2_fillDraft 1 none :: ((wsX2_fillDraft_r1 ++ wsX2_fillDraft_r2) ++ wsX20)
def wsX2_tryNonces_r1 : List Cond := [Cond.fieldLink RX2 10 "MinedLedger" "hasher" "LMinedLedger$Hasher;", Cond.fieldLink RX2 30 "MinedLedger" "draft" "[I", Cond.fieldLink RX2 58 "MinedLedger" "keptNonce" "I", Cond.fieldLink RX2 55 "MinedLedger" "triedCount" "I", Cond.fieldLink RX2 52 "MinedLedger" "zerosAsked" "I", Cond.methodLink RX2 111 yX1_takeFirst, Cond.instanceMethod yX1_takeFirst, Cond.selects RX1 yX1_takeFirst yX1_takeFirst, Cond.initialized RX1, Cond.code yX1_takeFirst cX1_takeFirst 3 none, Cond.fieldLink RX1 28 "MinedLedger$Hasher" "START" "[I", Cond.fieldLink RX1 9 "MinedLedger$Hasher" "middle" "[I", Cond.methodLink RX1 31 arraycopyName, Cond.native arraycopyName, Cond.static arraycopyName, Cond.initialized "java/lang/System", Cond.fieldLink RX1 18 "MinedLedger$Hasher" "w" "[I", Cond.methodLink RX1 37 yX1_mixInto, Cond.instanceMethod yX1_mixInto, Cond.selects RX1 yX1_mixInto yX1_mixInto, Cond.code yX1_mixInto cX1_mixInto 13 none, Cond.fieldLink RX1 61 "MinedLedger$Hasher" "K" "[I", Cond.methodLink RX1 54 yX1_spread, Cond.instanceMethod yX1_spread]
def wsX2_tryNonces_r2 : List Cond := [Cond.selects RX1 yX1_spread yX1_spread, Cond.code yX1_spread cX1_spread 4 none, Cond.static yX2_right, Cond.initialized RX2, Cond.code yX2_right cX2_right 2 (some .int), Cond.methodLink RX2 115 yX1_takeRest, Cond.instanceMethod yX1_takeRest, Cond.selects RX1 yX1_takeRest yX1_takeRest, Cond.code yX1_takeRest cX1_takeRest 4 none, Cond.fieldLink RX1 15 "MinedLedger$Hasher" "hash" "[I", Cond.constant RX1 41 (-2147483648), Cond.methodLink RX1 42 yJ7_fill_fda19, Cond.static yJ7_fill_fda19, Cond.initialized RJ7, Cond.code yJ7_fill_fda19 cJ7_fill_fda19 5 none, Cond.methodLink RJ7 13 yJ7_rangeCheck_23922, Cond.static yJ7_rangeCheck_23922, Cond.code yJ7_rangeCheck_23922 cJ7_rangeCheck_23922 3 none, Cond.methodLink RX2 118 yX1_zeros, Cond.instanceMethod yX1_zeros, Cond.selects RX1 yX1_zeros yX1_zeros, Cond.code yX1_zeros cX1_zeros 2 (some .int), Cond.methodLink RX1 48 yJ6_numberOfLeadingZeros_0f7a4, Cond.static yJ6_numberOfLeadingZeros_0f7a4]
def wsX2_tryNonces_r3 : List Cond := [Cond.initialized RJ6, Cond.code yJ6_numberOfLeadingZeros_0f7a4 cJ6_numberOfLeadingZeros_0f7a4 2 (some .int), Cond.constant RJ6 264 (65536), Cond.methodLink RX2 122 yX1_copyTo, Cond.instanceMethod yX1_copyTo, Cond.selects RX1 yX1_copyTo yX1_copyTo, Cond.code yX1_copyTo cX1_copyTo 3 none]
def wsX2_tryNonces : List Cond := .code yX2_tryNonces cX2_tryNonces 3 none :: ((wsX2_tryNonces_r1 ++ (wsX2_tryNonces_r2 ++ wsX2_tryNonces_r3)) ++ wsX20 ++ wsX10)
def wsX2_mine_r1 : List Cond := [Cond.fieldLink RX2 58 "MinedLedger" "keptNonce" "I", Cond.fieldLink RX2 55 "MinedLedger" "triedCount" "I", Cond.constant RX2 77 (100000), Cond.methodLink RX2 43 Lib.Math.min.name, Cond.static Lib.Math.min.name, Cond.initialized "java/lang/Math", Cond.code Lib.Math.min.name Lib.Math.min.code 2 (some .int), Cond.methodLink RX2 78 yX2_fillDraft, Cond.instanceMethod yX2_fillDraft, Cond.selects RX2 yX2_fillDraft yX2_fillDraft, Cond.initialized RX2, Cond.code yX2_fillDraft cX2_fillDraft 1 none, Cond.fieldLink RX2 36 "MinedLedger" "entryCount" "I", Cond.fieldLink RX2 30 "MinedLedger" "draft" "[I", Cond.fieldLink RX2 52 "MinedLedger" "zerosAsked" "I", Cond.fieldLink RX2 40 "MinedLedger" "wordCount" "I", Cond.methodLink RX2 99 yX2_copyHashOf, Cond.instanceMethod yX2_copyHashOf, Cond.selects RX2 yX2_copyHashOf yX2_copyHashOf, Cond.code yX2_copyHashOf cX2_copyHashOf 3 none, Cond.fieldLink RX2 23 "MinedLedger" "cells" "[I", Cond.methodLink RX2 84 arraycopyName, Cond.native arraycopyName, Cond.static arraycopyName]
def wsX2_mine_r2 : List Cond := [Cond.initialized "java/lang/System", Cond.methodLink RX2 107 yX2_hasEntry, Cond.instanceMethod yX2_hasEntry, Cond.selects RX2 yX2_hasEntry yX2_hasEntry, Cond.code yX2_hasEntry cX2_hasEntry 2 (some .boolean), Cond.methodLink RX2 93 yJ7_fill_fda19, Cond.static yJ7_fill_fda19, Cond.initialized RJ7, Cond.code yJ7_fill_fda19 cJ7_fill_fda19 5 none, Cond.methodLink RJ7 13 yJ7_rangeCheck_23922, Cond.static yJ7_rangeCheck_23922, Cond.code yJ7_rangeCheck_23922 cJ7_rangeCheck_23922 3 none, Cond.methodLink RX2 103 yX2_skipOf, Cond.static yX2_skipOf, Cond.code yX2_skipOf cX2_skipOf 1 (some .int), Cond.methodLink RX2 81 yX2_tryNonces, Cond.instanceMethod yX2_tryNonces, Cond.selects RX2 yX2_tryNonces yX2_tryNonces, Cond.code yX2_tryNonces cX2_tryNonces 3 none, Cond.fieldLink RX2 10 "MinedLedger" "hasher" "LMinedLedger$Hasher;", Cond.methodLink RX2 111 yX1_takeFirst, Cond.instanceMethod yX1_takeFirst, Cond.selects RX1 yX1_takeFirst yX1_takeFirst, Cond.initialized RX1]
def wsX2_mine_r3 : List Cond := [Cond.code yX1_takeFirst cX1_takeFirst 3 none, Cond.fieldLink RX1 28 "MinedLedger$Hasher" "START" "[I", Cond.fieldLink RX1 9 "MinedLedger$Hasher" "middle" "[I", Cond.methodLink RX1 31 arraycopyName, Cond.fieldLink RX1 18 "MinedLedger$Hasher" "w" "[I", Cond.methodLink RX1 37 yX1_mixInto, Cond.instanceMethod yX1_mixInto, Cond.selects RX1 yX1_mixInto yX1_mixInto, Cond.code yX1_mixInto cX1_mixInto 13 none, Cond.fieldLink RX1 61 "MinedLedger$Hasher" "K" "[I", Cond.methodLink RX1 54 yX1_spread, Cond.instanceMethod yX1_spread, Cond.selects RX1 yX1_spread yX1_spread, Cond.code yX1_spread cX1_spread 4 none, Cond.static yX2_right, Cond.code yX2_right cX2_right 2 (some .int), Cond.methodLink RX2 115 yX1_takeRest, Cond.instanceMethod yX1_takeRest, Cond.selects RX1 yX1_takeRest yX1_takeRest, Cond.code yX1_takeRest cX1_takeRest 4 none, Cond.fieldLink RX1 15 "MinedLedger$Hasher" "hash" "[I", Cond.constant RX1 41 (-2147483648), Cond.methodLink RX1 42 yJ7_fill_fda19, Cond.methodLink RX2 118 yX1_zeros]
def wsX2_mine_r4 : List Cond := [Cond.instanceMethod yX1_zeros, Cond.selects RX1 yX1_zeros yX1_zeros, Cond.code yX1_zeros cX1_zeros 2 (some .int), Cond.methodLink RX1 48 yJ6_numberOfLeadingZeros_0f7a4, Cond.static yJ6_numberOfLeadingZeros_0f7a4, Cond.initialized RJ6, Cond.code yJ6_numberOfLeadingZeros_0f7a4 cJ6_numberOfLeadingZeros_0f7a4 2 (some .int), Cond.constant RJ6 264 (65536), Cond.methodLink RX2 122 yX1_copyTo, Cond.instanceMethod yX1_copyTo, Cond.selects RX1 yX1_copyTo yX1_copyTo, Cond.code yX1_copyTo cX1_copyTo 3 none]
def wsX2_mine : List Cond := .code yX2_mine cX2_mine 2 (some .int) :: ((wsX2_mine_r1 ++ (wsX2_mine_r2 ++ (wsX2_mine_r3 ++ wsX2_mine_r4))) ++ wsX20 ++ wsX10)
def wsX2_tried : List Cond := .code yX2_tried cX2_tried 1 (some .int) :: ([.fieldLink RX2 55 "MinedLedger" "triedCount" "I"] ++ wsX20)
def wsX2_addToFilter : List Cond := .code yX2_addToFilter cX2_addToFilter 4 none :: ([.fieldLink RX2 19 "MinedLedger" "filter" "LMinedLedger$Filter;", .fieldLink RX2 23 "MinedLedger" "cells" "[I", .methodLink RX2 141 yX0_include, .instanceMethod yX0_include, .selects RX0 yX0_include yX0_include, .initialized RX0, .code yX0_include cX0_include 4 none, .fieldLink RX0 9 "MinedLedger$Filter" "bits" "[I", .methodLink RX0 19 yX0_bitOf, .static yX0_bitOf, .code yX0_bitOf cX0_bitOf 2 (some .int), .constant RX0 26 (-1756908916), .methodLink RX0 23 yX0_stirred, .static yX0_stirred, .code yX0_stirred cX0_stirred 4 (some .int), .constant RX0 27 (-862048943), .constant RX0 33 (461845907), .constant RX0 34 (-430675100), .constant RX0 35 (-2048144789), .constant RX0 36 (-1028477387), .static yX2_right, .initialized RX2, .code yX2_right cX2_right 2 (some .int)] ++ wsX20 ++ wsX00)
def wsX2_commit_r1 : List Cond := [Cond.fieldLink RX2 36 "MinedLedger" "entryCount" "I", Cond.fieldLink RX2 58 "MinedLedger" "keptNonce" "I", Cond.fieldLink RX2 30 "MinedLedger" "draft" "[I", Cond.fieldLink RX2 23 "MinedLedger" "cells" "[I", Cond.methodLink RX2 84 arraycopyName, Cond.native arraycopyName, Cond.static arraycopyName, Cond.initialized "java/lang/System", Cond.fieldLink RX2 27 "MinedLedger" "headWords" "[I", Cond.methodLink RX2 90 yX2_addToFilter, Cond.instanceMethod yX2_addToFilter, Cond.selects RX2 yX2_addToFilter yX2_addToFilter, Cond.initialized RX2, Cond.code yX2_addToFilter cX2_addToFilter 4 none, Cond.fieldLink RX2 19 "MinedLedger" "filter" "LMinedLedger$Filter;", Cond.methodLink RX2 141 yX0_include, Cond.instanceMethod yX0_include, Cond.selects RX0 yX0_include yX0_include, Cond.initialized RX0, Cond.code yX0_include cX0_include 4 none, Cond.fieldLink RX0 9 "MinedLedger$Filter" "bits" "[I", Cond.methodLink RX0 19 yX0_bitOf, Cond.static yX0_bitOf, Cond.code yX0_bitOf cX0_bitOf 2 (some .int)]
def wsX2_commit_r2 : List Cond := [Cond.constant RX0 26 (-1756908916), Cond.methodLink RX0 23 yX0_stirred, Cond.static yX0_stirred, Cond.code yX0_stirred cX0_stirred 4 (some .int), Cond.constant RX0 27 (-862048943), Cond.constant RX0 33 (461845907), Cond.constant RX0 34 (-430675100), Cond.constant RX0 35 (-2048144789), Cond.constant RX0 36 (-1028477387), Cond.static yX2_right, Cond.code yX2_right cX2_right 2 (some .int), Cond.methodLink RX2 73 yX2_clearWordsFrom, Cond.instanceMethod yX2_clearWordsFrom, Cond.selects RX2 yX2_clearWordsFrom yX2_clearWordsFrom, Cond.code yX2_clearWordsFrom cX2_clearWordsFrom 2 none, Cond.fieldLink RX2 40 "MinedLedger" "wordCount" "I", Cond.methodLink RX2 93 yJ7_fill_fda19, Cond.static yJ7_fill_fda19, Cond.initialized RJ7, Cond.code yJ7_fill_fda19 cJ7_fill_fda19 5 none, Cond.methodLink RJ7 13 yJ7_rangeCheck_23922, Cond.static yJ7_rangeCheck_23922, Cond.code yJ7_rangeCheck_23922 cJ7_rangeCheck_23922 3 none, Cond.methodLink RX2 70 yX2_forgetNonces]
def wsX2_commit_r3 : List Cond := [Cond.instanceMethod yX2_forgetNonces, Cond.selects RX2 yX2_forgetNonces yX2_forgetNonces, Cond.code yX2_forgetNonces cX2_forgetNonces 1 none, Cond.fieldLink RX2 55 "MinedLedger" "triedCount" "I"]
def wsX2_commit : List Cond := .code yX2_commit cX2_commit 2 (some .int) :: ((wsX2_commit_r1 ++ (wsX2_commit_r2 ++ wsX2_commit_r3)) ++ wsX20 ++ wsX00)
def wsX2_count : List Cond := .code yX2_count cX2_count 1 (some .int) :: ([.fieldLink RX2 36 "MinedLedger" "entryCount" "I"] ++ wsX20)
def wsX2_head : List Cond := .code yX2_head cX2_head 2 (some .int) :: ([.fieldLink RX2 27 "MinedLedger" "headWords" "[I"] ++ wsX20)
def wsX2_hasCell : List Cond := .code yX2_hasCell cX2_hasCell 3 (some .boolean) :: ([.methodLink RX2 107 yX2_hasEntry, .instanceMethod yX2_hasEntry, .selects RX2 yX2_hasEntry yX2_hasEntry, .initialized RX2, .code yX2_hasEntry cX2_hasEntry 2 (some .boolean), .fieldLink RX2 36 "MinedLedger" "entryCount" "I"] ++ wsX20)
def wsX2_cell : List Cond := .code yX2_cell cX2_cell 3 (some .int) :: ([.fieldLink RX2 23 "MinedLedger" "cells" "[I", .methodLink RX2 125 yX2_hasCell, .instanceMethod yX2_hasCell, .selects RX2 yX2_hasCell yX2_hasCell, .initialized RX2, .code yX2_hasCell cX2_hasCell 3 (some .boolean), .methodLink RX2 107 yX2_hasEntry, .instanceMethod yX2_hasEntry, .selects RX2 yX2_hasEntry yX2_hasEntry, .code yX2_hasEntry cX2_hasEntry 2 (some .boolean), .fieldLink RX2 36 "MinedLedger" "entryCount" "I"] ++ wsX20)
def wsX2_spoil : List Cond := .code yX2_spoil cX2_spoil 5 (some .int) :: ([.fieldLink RX2 23 "MinedLedger" "cells" "[I", .methodLink RX2 125 yX2_hasCell, .instanceMethod yX2_hasCell, .selects RX2 yX2_hasCell yX2_hasCell, .initialized RX2, .code yX2_hasCell cX2_hasCell 3 (some .boolean), .methodLink RX2 107 yX2_hasEntry, .instanceMethod yX2_hasEntry, .selects RX2 yX2_hasEntry yX2_hasEntry, .code yX2_hasEntry cX2_hasEntry 2 (some .boolean), .fieldLink RX2 36 "MinedLedger" "entryCount" "I", .methodLink RX2 70 yX2_forgetNonces, .instanceMethod yX2_forgetNonces, .selects RX2 yX2_forgetNonces yX2_forgetNonces, .code yX2_forgetNonces cX2_forgetNonces 1 none, .fieldLink RX2 55 "MinedLedger" "triedCount" "I", .fieldLink RX2 58 "MinedLedger" "keptNonce" "I"] ++ wsX20)
def wsX2_remakeFilter_r1 : List Cond := [Cond.fieldLink RX2 19 "MinedLedger" "filter" "LMinedLedger$Filter;", Cond.fieldLink RX2 36 "MinedLedger" "entryCount" "I", Cond.methodLink RX2 144 yX0_clear, Cond.instanceMethod yX0_clear, Cond.selects RX0 yX0_clear yX0_clear, Cond.initialized RX0, Cond.code yX0_clear cX0_clear 1 none, Cond.fieldLink RX0 9 "MinedLedger$Filter" "bits" "[I", Cond.methodLink RX0 13 yJ7_fill_53178, Cond.static yJ7_fill_53178, Cond.initialized RJ7, Cond.code yJ7_fill_53178 cJ7_fill_53178 4 none, Cond.methodLink RX2 90 yX2_addToFilter, Cond.instanceMethod yX2_addToFilter, Cond.selects RX2 yX2_addToFilter yX2_addToFilter, Cond.initialized RX2, Cond.code yX2_addToFilter cX2_addToFilter 4 none, Cond.fieldLink RX2 23 "MinedLedger" "cells" "[I", Cond.methodLink RX2 141 yX0_include, Cond.instanceMethod yX0_include, Cond.selects RX0 yX0_include yX0_include, Cond.code yX0_include cX0_include 4 none, Cond.methodLink RX0 19 yX0_bitOf, Cond.static yX0_bitOf]
def wsX2_remakeFilter_r2 : List Cond := [Cond.code yX0_bitOf cX0_bitOf 2 (some .int), Cond.constant RX0 26 (-1756908916), Cond.methodLink RX0 23 yX0_stirred, Cond.static yX0_stirred, Cond.code yX0_stirred cX0_stirred 4 (some .int), Cond.constant RX0 27 (-862048943), Cond.constant RX0 33 (461845907), Cond.constant RX0 34 (-430675100), Cond.constant RX0 35 (-2048144789), Cond.constant RX0 36 (-1028477387), Cond.static yX2_right, Cond.code yX2_right cX2_right 2 (some .int)]
def wsX2_remakeFilter : List Cond := .code yX2_remakeFilter cX2_remakeFilter 2 none :: ((wsX2_remakeFilter_r1 ++ wsX2_remakeFilter_r2) ++ wsX20 ++ wsX00)
def wsX2_drop_r1 : List Cond := [Cond.fieldLink RX2 36 "MinedLedger" "entryCount" "I", Cond.fieldLink RX2 23 "MinedLedger" "cells" "[I", Cond.fieldLink RX2 27 "MinedLedger" "headWords" "[I", Cond.methodLink RX2 84 arraycopyName, Cond.native arraycopyName, Cond.static arraycopyName, Cond.initialized "java/lang/System", Cond.fieldLink RX2 61 "MinedLedger" "place" "I", Cond.methodLink RX2 43 Lib.Math.min.name, Cond.static Lib.Math.min.name, Cond.initialized "java/lang/Math", Cond.code Lib.Math.min.name Lib.Math.min.code 2 (some .int), Cond.methodLink RX2 129 yX2_remakeFilter, Cond.instanceMethod yX2_remakeFilter, Cond.selects RX2 yX2_remakeFilter yX2_remakeFilter, Cond.initialized RX2, Cond.code yX2_remakeFilter cX2_remakeFilter 2 none, Cond.fieldLink RX2 19 "MinedLedger" "filter" "LMinedLedger$Filter;", Cond.methodLink RX2 144 yX0_clear, Cond.instanceMethod yX0_clear, Cond.selects RX0 yX0_clear yX0_clear, Cond.initialized RX0, Cond.code yX0_clear cX0_clear 1 none, Cond.fieldLink RX0 9 "MinedLedger$Filter" "bits" "[I"]
def wsX2_drop_r2 : List Cond := [Cond.methodLink RX0 13 yJ7_fill_53178, Cond.static yJ7_fill_53178, Cond.initialized RJ7, Cond.code yJ7_fill_53178 cJ7_fill_53178 4 none, Cond.methodLink RX2 90 yX2_addToFilter, Cond.instanceMethod yX2_addToFilter, Cond.selects RX2 yX2_addToFilter yX2_addToFilter, Cond.code yX2_addToFilter cX2_addToFilter 4 none, Cond.methodLink RX2 141 yX0_include, Cond.instanceMethod yX0_include, Cond.selects RX0 yX0_include yX0_include, Cond.code yX0_include cX0_include 4 none, Cond.methodLink RX0 19 yX0_bitOf, Cond.static yX0_bitOf, Cond.code yX0_bitOf cX0_bitOf 2 (some .int), Cond.constant RX0 26 (-1756908916), Cond.methodLink RX0 23 yX0_stirred, Cond.static yX0_stirred, Cond.code yX0_stirred cX0_stirred 4 (some .int), Cond.constant RX0 27 (-862048943), Cond.constant RX0 33 (461845907), Cond.constant RX0 34 (-430675100), Cond.constant RX0 35 (-2048144789), Cond.constant RX0 36 (-1028477387)]
def wsX2_drop_r3 : List Cond := [Cond.static yX2_right, Cond.code yX2_right cX2_right 2 (some .int), Cond.methodLink RX2 70 yX2_forgetNonces, Cond.instanceMethod yX2_forgetNonces, Cond.selects RX2 yX2_forgetNonces yX2_forgetNonces, Cond.code yX2_forgetNonces cX2_forgetNonces 1 none, Cond.fieldLink RX2 55 "MinedLedger" "triedCount" "I", Cond.fieldLink RX2 58 "MinedLedger" "keptNonce" "I"]
def wsX2_drop : List Cond := .code yX2_drop cX2_drop 1 (some .int) :: ((wsX2_drop_r1 ++ (wsX2_drop_r2 ++ wsX2_drop_r3)) ++ wsX20 ++ wsX00)
def wsX2_may : List Cond := .code yX2_may cX2_may 2 (some .int) :: ([.fieldLink RX2 19 "MinedLedger" "filter" "LMinedLedger$Filter;", .methodLink RX2 132 yX0_mayHave, .instanceMethod yX0_mayHave, .selects RX0 yX0_mayHave yX0_mayHave, .initialized RX0, .code yX0_mayHave cX0_mayHave 4 (some .boolean), .fieldLink RX0 9 "MinedLedger$Filter" "bits" "[I", .methodLink RX0 19 yX0_bitOf, .static yX0_bitOf, .code yX0_bitOf cX0_bitOf 2 (some .int), .constant RX0 26 (-1756908916), .methodLink RX0 23 yX0_stirred, .static yX0_stirred, .code yX0_stirred cX0_stirred 4 (some .int), .constant RX0 27 (-862048943), .constant RX0 33 (461845907), .constant RX0 34 (-430675100), .constant RX0 35 (-2048144789), .constant RX0 36 (-1028477387), .static yX2_right, .initialized RX2, .code yX2_right cX2_right 2 (some .int)] ++ wsX20 ++ wsX00)
def wsX2_hasWord : List Cond := .code yX2_hasWord cX2_hasWord 5 (some .boolean) :: ([.fieldLink RX2 23 "MinedLedger" "cells" "[I"] ++ wsX20)
def wsX2_find_r1 : List Cond := [Cond.fieldLink RX2 19 "MinedLedger" "filter" "LMinedLedger$Filter;", Cond.fieldLink RX2 36 "MinedLedger" "entryCount" "I", Cond.methodLink RX2 132 yX0_mayHave, Cond.instanceMethod yX0_mayHave, Cond.selects RX0 yX0_mayHave yX0_mayHave, Cond.initialized RX0, Cond.code yX0_mayHave cX0_mayHave 4 (some .boolean), Cond.fieldLink RX0 9 "MinedLedger$Filter" "bits" "[I", Cond.methodLink RX0 19 yX0_bitOf, Cond.static yX0_bitOf, Cond.code yX0_bitOf cX0_bitOf 2 (some .int), Cond.constant RX0 26 (-1756908916), Cond.methodLink RX0 23 yX0_stirred, Cond.static yX0_stirred, Cond.code yX0_stirred cX0_stirred 4 (some .int), Cond.constant RX0 27 (-862048943), Cond.constant RX0 33 (461845907), Cond.constant RX0 34 (-430675100), Cond.constant RX0 35 (-2048144789), Cond.constant RX0 36 (-1028477387), Cond.static yX2_right, Cond.initialized RX2, Cond.code yX2_right cX2_right 2 (some .int), Cond.methodLink RX2 135 yX2_hasWord]
def wsX2_find_r2 : List Cond := [Cond.instanceMethod yX2_hasWord, Cond.selects RX2 yX2_hasWord yX2_hasWord, Cond.code yX2_hasWord cX2_hasWord 5 (some .boolean), Cond.fieldLink RX2 23 "MinedLedger" "cells" "[I"]
def wsX2_find : List Cond := .code yX2_find cX2_find 3 (some .int) :: ((wsX2_find_r1 ++ wsX2_find_r2) ++ wsX20 ++ wsX00)
def wsX2_stir : List Cond := .code yX2_stir cX2_stir 3 (some .int) :: ([.methodLink RX2 138 yX0_stirred, .static yX0_stirred, .initialized RX0, .code yX0_stirred cX0_stirred 4 (some .int), .constant RX0 27 (-862048943), .constant RX0 33 (461845907), .constant RX0 34 (-430675100), .constant RX0 35 (-2048144789), .constant RX0 36 (-1028477387), .static yX2_right, .initialized RX2, .code yX2_right cX2_right 2 (some .int)])
def wsX2_begin : List Cond := .code yX2_begin cX2_begin 2 (some .int) :: ([.fieldLink RX2 61 "MinedLedger" "place" "I"] ++ wsX20)
def wsX2_isHashOf : List Cond := .code yX2_isHashOf cX2_isHashOf 7 (some .boolean) :: ([.fieldLink RX2 23 "MinedLedger" "cells" "[I", .methodLink RX2 107 yX2_hasEntry, .instanceMethod yX2_hasEntry, .selects RX2 yX2_hasEntry yX2_hasEntry, .initialized RX2, .code yX2_hasEntry cX2_hasEntry 2 (some .boolean), .fieldLink RX2 36 "MinedLedger" "entryCount" "I"] ++ wsX20)
def wsX2_auditHead : List Cond := .code yX2_auditHead cX2_auditHead 1 (some .int) :: ([.fieldLink RX2 36 "MinedLedger" "entryCount" "I", .fieldLink RX2 27 "MinedLedger" "headWords" "[I", .fieldLink RX2 64 "MinedLedger" "latestFault" "I", .methodLink RX2 49 Lib.Math.max.name, .static Lib.Math.max.name, .initialized "java/lang/Math", .code Lib.Math.max.name Lib.Math.max.code 2 (some .int), .methodLink RX2 153 yX2_isHashOf, .instanceMethod yX2_isHashOf, .selects RX2 yX2_isHashOf yX2_isHashOf, .initialized RX2, .code yX2_isHashOf cX2_isHashOf 7 (some .boolean), .fieldLink RX2 23 "MinedLedger" "cells" "[I", .methodLink RX2 107 yX2_hasEntry, .instanceMethod yX2_hasEntry, .selects RX2 yX2_hasEntry yX2_hasEntry, .code yX2_hasEntry cX2_hasEntry 2 (some .boolean)] ++ wsX20)
def wsX2_faultOf_r1 : List Cond := [Cond.fieldLink RX2 23 "MinedLedger" "cells" "[I", Cond.fieldLink RX2 10 "MinedLedger" "hasher" "LMinedLedger$Hasher;", Cond.methodLink RX2 153 yX2_isHashOf, Cond.instanceMethod yX2_isHashOf, Cond.selects RX2 yX2_isHashOf yX2_isHashOf, Cond.initialized RX2, Cond.code yX2_isHashOf cX2_isHashOf 7 (some .boolean), Cond.methodLink RX2 107 yX2_hasEntry, Cond.instanceMethod yX2_hasEntry, Cond.selects RX2 yX2_hasEntry yX2_hasEntry, Cond.code yX2_hasEntry cX2_hasEntry 2 (some .boolean), Cond.fieldLink RX2 36 "MinedLedger" "entryCount" "I", Cond.methodLink RX2 103 yX2_skipOf, Cond.static yX2_skipOf, Cond.code yX2_skipOf cX2_skipOf 1 (some .int), Cond.methodLink RX2 157 yX1_takeAll, Cond.instanceMethod yX1_takeAll, Cond.selects RX1 yX1_takeAll yX1_takeAll, Cond.initialized RX1, Cond.code yX1_takeAll cX1_takeAll 3 none, Cond.methodLink RX1 21 yX1_takeFirst, Cond.instanceMethod yX1_takeFirst, Cond.selects RX1 yX1_takeFirst yX1_takeFirst, Cond.code yX1_takeFirst cX1_takeFirst 3 none]
def wsX2_faultOf_r2 : List Cond := [Cond.fieldLink RX1 28 "MinedLedger$Hasher" "START" "[I", Cond.fieldLink RX1 9 "MinedLedger$Hasher" "middle" "[I", Cond.methodLink RX1 31 arraycopyName, Cond.native arraycopyName, Cond.static arraycopyName, Cond.initialized "java/lang/System", Cond.fieldLink RX1 18 "MinedLedger$Hasher" "w" "[I", Cond.methodLink RX1 37 yX1_mixInto, Cond.instanceMethod yX1_mixInto, Cond.selects RX1 yX1_mixInto yX1_mixInto, Cond.code yX1_mixInto cX1_mixInto 13 none, Cond.fieldLink RX1 61 "MinedLedger$Hasher" "K" "[I", Cond.methodLink RX1 54 yX1_spread, Cond.instanceMethod yX1_spread, Cond.selects RX1 yX1_spread yX1_spread, Cond.code yX1_spread cX1_spread 4 none, Cond.static yX2_right, Cond.code yX2_right cX2_right 2 (some .int), Cond.methodLink RX1 25 yX1_takeRest, Cond.instanceMethod yX1_takeRest, Cond.selects RX1 yX1_takeRest yX1_takeRest, Cond.code yX1_takeRest cX1_takeRest 4 none, Cond.fieldLink RX1 15 "MinedLedger$Hasher" "hash" "[I", Cond.constant RX1 41 (-2147483648)]
def wsX2_faultOf_r3 : List Cond := [Cond.methodLink RX1 42 yJ7_fill_fda19, Cond.static yJ7_fill_fda19, Cond.initialized RJ7, Cond.code yJ7_fill_fda19 cJ7_fill_fda19 5 none, Cond.methodLink RJ7 13 yJ7_rangeCheck_23922, Cond.static yJ7_rangeCheck_23922, Cond.code yJ7_rangeCheck_23922 cJ7_rangeCheck_23922 3 none, Cond.methodLink RX2 160 yX1_isAt, Cond.instanceMethod yX1_isAt, Cond.selects RX1 yX1_isAt yX1_isAt, Cond.code yX1_isAt cX1_isAt 4 (some .boolean), Cond.methodLink RX2 118 yX1_zeros, Cond.instanceMethod yX1_zeros, Cond.selects RX1 yX1_zeros yX1_zeros, Cond.code yX1_zeros cX1_zeros 2 (some .int), Cond.methodLink RX1 48 yJ6_numberOfLeadingZeros_0f7a4, Cond.static yJ6_numberOfLeadingZeros_0f7a4, Cond.initialized RJ6, Cond.code yJ6_numberOfLeadingZeros_0f7a4 cJ6_numberOfLeadingZeros_0f7a4 2 (some .int), Cond.constant RJ6 264 (65536)]
def wsX2_faultOf : List Cond := .code yX2_faultOf cX2_faultOf 3 (some .int) :: ((wsX2_faultOf_r1 ++ (wsX2_faultOf_r2 ++ wsX2_faultOf_r3)) ++ wsX20 ++ wsX10)
def wsX2_audit_r1 : List Cond := [Cond.fieldLink RX2 64 "MinedLedger" "latestFault" "I", Cond.fieldLink RX2 61 "MinedLedger" "place" "I", Cond.fieldLink RX2 36 "MinedLedger" "entryCount" "I", Cond.methodLink RX2 147 yX2_auditHead, Cond.instanceMethod yX2_auditHead, Cond.selects RX2 yX2_auditHead yX2_auditHead, Cond.initialized RX2, Cond.code yX2_auditHead cX2_auditHead 1 (some .int), Cond.fieldLink RX2 27 "MinedLedger" "headWords" "[I", Cond.methodLink RX2 49 Lib.Math.max.name, Cond.static Lib.Math.max.name, Cond.initialized "java/lang/Math", Cond.code Lib.Math.max.name Lib.Math.max.code 2 (some .int), Cond.methodLink RX2 153 yX2_isHashOf, Cond.instanceMethod yX2_isHashOf, Cond.selects RX2 yX2_isHashOf yX2_isHashOf, Cond.code yX2_isHashOf cX2_isHashOf 7 (some .boolean), Cond.fieldLink RX2 23 "MinedLedger" "cells" "[I", Cond.methodLink RX2 107 yX2_hasEntry, Cond.instanceMethod yX2_hasEntry, Cond.selects RX2 yX2_hasEntry yX2_hasEntry, Cond.code yX2_hasEntry cX2_hasEntry 2 (some .boolean), Cond.methodLink RX2 150 yX2_faultOf, Cond.instanceMethod yX2_faultOf]
def wsX2_audit_r2 : List Cond := [Cond.selects RX2 yX2_faultOf yX2_faultOf, Cond.code yX2_faultOf cX2_faultOf 3 (some .int), Cond.fieldLink RX2 10 "MinedLedger" "hasher" "LMinedLedger$Hasher;", Cond.methodLink RX2 103 yX2_skipOf, Cond.static yX2_skipOf, Cond.code yX2_skipOf cX2_skipOf 1 (some .int), Cond.methodLink RX2 157 yX1_takeAll, Cond.instanceMethod yX1_takeAll, Cond.selects RX1 yX1_takeAll yX1_takeAll, Cond.initialized RX1, Cond.code yX1_takeAll cX1_takeAll 3 none, Cond.methodLink RX1 21 yX1_takeFirst, Cond.instanceMethod yX1_takeFirst, Cond.selects RX1 yX1_takeFirst yX1_takeFirst, Cond.code yX1_takeFirst cX1_takeFirst 3 none, Cond.fieldLink RX1 28 "MinedLedger$Hasher" "START" "[I", Cond.fieldLink RX1 9 "MinedLedger$Hasher" "middle" "[I", Cond.methodLink RX1 31 arraycopyName, Cond.native arraycopyName, Cond.static arraycopyName, Cond.initialized "java/lang/System", Cond.fieldLink RX1 18 "MinedLedger$Hasher" "w" "[I", Cond.methodLink RX1 37 yX1_mixInto, Cond.instanceMethod yX1_mixInto]
def wsX2_audit_r3 : List Cond := [Cond.selects RX1 yX1_mixInto yX1_mixInto, Cond.code yX1_mixInto cX1_mixInto 13 none, Cond.fieldLink RX1 61 "MinedLedger$Hasher" "K" "[I", Cond.methodLink RX1 54 yX1_spread, Cond.instanceMethod yX1_spread, Cond.selects RX1 yX1_spread yX1_spread, Cond.code yX1_spread cX1_spread 4 none, Cond.static yX2_right, Cond.code yX2_right cX2_right 2 (some .int), Cond.methodLink RX1 25 yX1_takeRest, Cond.instanceMethod yX1_takeRest, Cond.selects RX1 yX1_takeRest yX1_takeRest, Cond.code yX1_takeRest cX1_takeRest 4 none, Cond.fieldLink RX1 15 "MinedLedger$Hasher" "hash" "[I", Cond.constant RX1 41 (-2147483648), Cond.methodLink RX1 42 yJ7_fill_fda19, Cond.static yJ7_fill_fda19, Cond.initialized RJ7, Cond.code yJ7_fill_fda19 cJ7_fill_fda19 5 none, Cond.methodLink RJ7 13 yJ7_rangeCheck_23922, Cond.static yJ7_rangeCheck_23922, Cond.code yJ7_rangeCheck_23922 cJ7_rangeCheck_23922 3 none, Cond.methodLink RX2 160 yX1_isAt, Cond.instanceMethod yX1_isAt]
def wsX2_audit_r4 : List Cond := [Cond.selects RX1 yX1_isAt yX1_isAt, Cond.code yX1_isAt cX1_isAt 4 (some .boolean), Cond.methodLink RX2 118 yX1_zeros, Cond.instanceMethod yX1_zeros, Cond.selects RX1 yX1_zeros yX1_zeros, Cond.code yX1_zeros cX1_zeros 2 (some .int), Cond.methodLink RX1 48 yJ6_numberOfLeadingZeros_0f7a4, Cond.static yJ6_numberOfLeadingZeros_0f7a4, Cond.initialized RJ6, Cond.code yJ6_numberOfLeadingZeros_0f7a4 cJ6_numberOfLeadingZeros_0f7a4 2 (some .int), Cond.constant RJ6 264 (65536)]
def wsX2_audit : List Cond := .code yX2_audit cX2_audit 3 (some .int) :: ((wsX2_audit_r1 ++ (wsX2_audit_r2 ++ (wsX2_audit_r3 ++ wsX2_audit_r4))) ++ wsX20 ++ wsX10)
def wsX2_fault : List Cond := .code yX2_fault cX2_fault 1 (some .int) :: ([.fieldLink RX2 64 "MinedLedger" "latestFault" "I"] ++ wsX20)
def wsX2_goesBySkip : List Cond := .code yX2_goesBySkip cX2_goesBySkip 2 (some .boolean) :: ([.methodLink RX2 103 yX2_skipOf, .static yX2_skipOf, .initialized RX2, .code yX2_skipOf cX2_skipOf 1 (some .int)])
def wsX2_nextOnWay : List Cond := .code yX2_nextOnWay cX2_nextOnWay 2 (some .int) :: ([.methodLink RX2 173 yX2_goesBySkip, .static yX2_goesBySkip, .initialized RX2, .code yX2_goesBySkip cX2_goesBySkip 2 (some .boolean), .methodLink RX2 103 yX2_skipOf, .static yX2_skipOf, .code yX2_skipOf cX2_skipOf 1 (some .int)])
def wsX2_levelsTo : List Cond := .code yX2_levelsTo cX2_levelsTo 4 (some .int) :: ([.fieldLink RX2 36 "MinedLedger" "entryCount" "I", .methodLink RX2 167 yX2_nextOnWay, .static yX2_nextOnWay, .initialized RX2, .code yX2_nextOnWay cX2_nextOnWay 2 (some .int), .methodLink RX2 173 yX2_goesBySkip, .static yX2_goesBySkip, .code yX2_goesBySkip cX2_goesBySkip 2 (some .boolean), .methodLink RX2 103 yX2_skipOf, .static yX2_skipOf, .code yX2_skipOf cX2_skipOf 1 (some .int)] ++ wsX20)
def wsX2_way : List Cond := .code yX2_way cX2_way 5 (some .int) :: ([.fieldLink RX2 36 "MinedLedger" "entryCount" "I", .methodLink RX2 107 yX2_hasEntry, .instanceMethod yX2_hasEntry, .selects RX2 yX2_hasEntry yX2_hasEntry, .initialized RX2, .code yX2_hasEntry cX2_hasEntry 2 (some .boolean), .methodLink RX2 164 yX2_levelsTo, .instanceMethod yX2_levelsTo, .selects RX2 yX2_levelsTo yX2_levelsTo, .code yX2_levelsTo cX2_levelsTo 4 (some .int), .methodLink RX2 167 yX2_nextOnWay, .static yX2_nextOnWay, .code yX2_nextOnWay cX2_nextOnWay 2 (some .int), .methodLink RX2 173 yX2_goesBySkip, .static yX2_goesBySkip, .code yX2_goesBySkip cX2_goesBySkip 2 (some .boolean), .methodLink RX2 103 yX2_skipOf, .static yX2_skipOf, .code yX2_skipOf cX2_skipOf 1 (some .int)] ++ wsX20)
def wsX2_prove_r1 : List Cond := [Cond.fieldLink RX2 36 "MinedLedger" "entryCount" "I", Cond.fieldLink RX2 23 "MinedLedger" "cells" "[I", Cond.fieldLink RX2 33 "MinedLedger" "proofWords" "[I", Cond.methodLink RX2 84 arraycopyName, Cond.native arraycopyName, Cond.static arraycopyName, Cond.initialized "java/lang/System", Cond.fieldLink RX2 67 "MinedLedger" "proofLength" "I", Cond.methodLink RX2 107 yX2_hasEntry, Cond.instanceMethod yX2_hasEntry, Cond.selects RX2 yX2_hasEntry yX2_hasEntry, Cond.initialized RX2, Cond.code yX2_hasEntry cX2_hasEntry 2 (some .boolean), Cond.methodLink RX2 164 yX2_levelsTo, Cond.instanceMethod yX2_levelsTo, Cond.selects RX2 yX2_levelsTo yX2_levelsTo, Cond.code yX2_levelsTo cX2_levelsTo 4 (some .int), Cond.methodLink RX2 167 yX2_nextOnWay, Cond.static yX2_nextOnWay, Cond.code yX2_nextOnWay cX2_nextOnWay 2 (some .int), Cond.methodLink RX2 173 yX2_goesBySkip, Cond.static yX2_goesBySkip, Cond.code yX2_goesBySkip cX2_goesBySkip 2 (some .boolean), Cond.methodLink RX2 103 yX2_skipOf]
def wsX2_prove_r2 : List Cond := [Cond.static yX2_skipOf, Cond.code yX2_skipOf cX2_skipOf 1 (some .int)]
def wsX2_prove : List Cond := .code yX2_prove cX2_prove 5 (some .int) :: ((wsX2_prove_r1 ++ wsX2_prove_r2) ++ wsX20)
def wsX2_proof : List Cond := .code yX2_proof cX2_proof 2 (some .int) :: ([.fieldLink RX2 67 "MinedLedger" "proofLength" "I", .fieldLink RX2 33 "MinedLedger" "proofWords" "[I"] ++ wsX20)
def wsX2_forge : List Cond := .code yX2_forge cX2_forge 4 (some .int) :: ([.fieldLink RX2 67 "MinedLedger" "proofLength" "I", .fieldLink RX2 33 "MinedLedger" "proofWords" "[I"] ++ wsX20)
def wsX2_proofHolds_r1 : List Cond := [Cond.fieldLink RX2 67 "MinedLedger" "proofLength" "I", Cond.fieldLink RX2 27 "MinedLedger" "headWords" "[I", Cond.fieldLink RX2 36 "MinedLedger" "entryCount" "I", Cond.fieldLink RX2 10 "MinedLedger" "hasher" "LMinedLedger$Hasher;", Cond.fieldLink RX2 33 "MinedLedger" "proofWords" "[I", Cond.methodLink RX2 164 yX2_levelsTo, Cond.instanceMethod yX2_levelsTo, Cond.selects RX2 yX2_levelsTo yX2_levelsTo, Cond.initialized RX2, Cond.code yX2_levelsTo cX2_levelsTo 4 (some .int), Cond.methodLink RX2 167 yX2_nextOnWay, Cond.static yX2_nextOnWay, Cond.code yX2_nextOnWay cX2_nextOnWay 2 (some .int), Cond.methodLink RX2 173 yX2_goesBySkip, Cond.static yX2_goesBySkip, Cond.code yX2_goesBySkip cX2_goesBySkip 2 (some .boolean), Cond.methodLink RX2 103 yX2_skipOf, Cond.static yX2_skipOf, Cond.code yX2_skipOf cX2_skipOf 1 (some .int), Cond.methodLink RX2 157 yX1_takeAll, Cond.instanceMethod yX1_takeAll, Cond.selects RX1 yX1_takeAll yX1_takeAll, Cond.initialized RX1, Cond.code yX1_takeAll cX1_takeAll 3 none]
def wsX2_proofHolds_r2 : List Cond := [Cond.methodLink RX1 21 yX1_takeFirst, Cond.instanceMethod yX1_takeFirst, Cond.selects RX1 yX1_takeFirst yX1_takeFirst, Cond.code yX1_takeFirst cX1_takeFirst 3 none, Cond.fieldLink RX1 28 "MinedLedger$Hasher" "START" "[I", Cond.fieldLink RX1 9 "MinedLedger$Hasher" "middle" "[I", Cond.methodLink RX1 31 arraycopyName, Cond.native arraycopyName, Cond.static arraycopyName, Cond.initialized "java/lang/System", Cond.fieldLink RX1 18 "MinedLedger$Hasher" "w" "[I", Cond.methodLink RX1 37 yX1_mixInto, Cond.instanceMethod yX1_mixInto, Cond.selects RX1 yX1_mixInto yX1_mixInto, Cond.code yX1_mixInto cX1_mixInto 13 none, Cond.fieldLink RX1 61 "MinedLedger$Hasher" "K" "[I", Cond.methodLink RX1 54 yX1_spread, Cond.instanceMethod yX1_spread, Cond.selects RX1 yX1_spread yX1_spread, Cond.code yX1_spread cX1_spread 4 none, Cond.static yX2_right, Cond.code yX2_right cX2_right 2 (some .int), Cond.methodLink RX1 25 yX1_takeRest, Cond.instanceMethod yX1_takeRest]
def wsX2_proofHolds_r3 : List Cond := [Cond.selects RX1 yX1_takeRest yX1_takeRest, Cond.code yX1_takeRest cX1_takeRest 4 none, Cond.fieldLink RX1 15 "MinedLedger$Hasher" "hash" "[I", Cond.constant RX1 41 (-2147483648), Cond.methodLink RX1 42 yJ7_fill_fda19, Cond.static yJ7_fill_fda19, Cond.initialized RJ7, Cond.code yJ7_fill_fda19 cJ7_fill_fda19 5 none, Cond.methodLink RJ7 13 yJ7_rangeCheck_23922, Cond.static yJ7_rangeCheck_23922, Cond.code yJ7_rangeCheck_23922 cJ7_rangeCheck_23922 3 none, Cond.methodLink RX2 160 yX1_isAt, Cond.instanceMethod yX1_isAt, Cond.selects RX1 yX1_isAt yX1_isAt, Cond.code yX1_isAt cX1_isAt 4 (some .boolean)]
def wsX2_proofHolds : List Cond := .code yX2_proofHolds cX2_proofHolds 7 (some .boolean) :: ((wsX2_proofHolds_r1 ++ (wsX2_proofHolds_r2 ++ wsX2_proofHolds_r3)) ++ wsX20 ++ wsX10)
def wsX2_check_r1 : List Cond := [Cond.methodLink RX2 107 yX2_hasEntry, Cond.instanceMethod yX2_hasEntry, Cond.selects RX2 yX2_hasEntry yX2_hasEntry, Cond.initialized RX2, Cond.code yX2_hasEntry cX2_hasEntry 2 (some .boolean), Cond.fieldLink RX2 36 "MinedLedger" "entryCount" "I", Cond.methodLink RX2 170 yX2_proofHolds, Cond.instanceMethod yX2_proofHolds, Cond.selects RX2 yX2_proofHolds yX2_proofHolds, Cond.code yX2_proofHolds cX2_proofHolds 7 (some .boolean), Cond.fieldLink RX2 67 "MinedLedger" "proofLength" "I", Cond.fieldLink RX2 27 "MinedLedger" "headWords" "[I", Cond.fieldLink RX2 10 "MinedLedger" "hasher" "LMinedLedger$Hasher;", Cond.fieldLink RX2 33 "MinedLedger" "proofWords" "[I", Cond.methodLink RX2 164 yX2_levelsTo, Cond.instanceMethod yX2_levelsTo, Cond.selects RX2 yX2_levelsTo yX2_levelsTo, Cond.code yX2_levelsTo cX2_levelsTo 4 (some .int), Cond.methodLink RX2 167 yX2_nextOnWay, Cond.static yX2_nextOnWay, Cond.code yX2_nextOnWay cX2_nextOnWay 2 (some .int), Cond.methodLink RX2 173 yX2_goesBySkip, Cond.static yX2_goesBySkip, Cond.code yX2_goesBySkip cX2_goesBySkip 2 (some .boolean)]
def wsX2_check_r2 : List Cond := [Cond.methodLink RX2 103 yX2_skipOf, Cond.static yX2_skipOf, Cond.code yX2_skipOf cX2_skipOf 1 (some .int), Cond.methodLink RX2 157 yX1_takeAll, Cond.instanceMethod yX1_takeAll, Cond.selects RX1 yX1_takeAll yX1_takeAll, Cond.initialized RX1, Cond.code yX1_takeAll cX1_takeAll 3 none, Cond.methodLink RX1 21 yX1_takeFirst, Cond.instanceMethod yX1_takeFirst, Cond.selects RX1 yX1_takeFirst yX1_takeFirst, Cond.code yX1_takeFirst cX1_takeFirst 3 none, Cond.fieldLink RX1 28 "MinedLedger$Hasher" "START" "[I", Cond.fieldLink RX1 9 "MinedLedger$Hasher" "middle" "[I", Cond.methodLink RX1 31 arraycopyName, Cond.native arraycopyName, Cond.static arraycopyName, Cond.initialized "java/lang/System", Cond.fieldLink RX1 18 "MinedLedger$Hasher" "w" "[I", Cond.methodLink RX1 37 yX1_mixInto, Cond.instanceMethod yX1_mixInto, Cond.selects RX1 yX1_mixInto yX1_mixInto, Cond.code yX1_mixInto cX1_mixInto 13 none, Cond.fieldLink RX1 61 "MinedLedger$Hasher" "K" "[I"]
def wsX2_check_r3 : List Cond := [Cond.methodLink RX1 54 yX1_spread, Cond.instanceMethod yX1_spread, Cond.selects RX1 yX1_spread yX1_spread, Cond.code yX1_spread cX1_spread 4 none, Cond.static yX2_right, Cond.code yX2_right cX2_right 2 (some .int), Cond.methodLink RX1 25 yX1_takeRest, Cond.instanceMethod yX1_takeRest, Cond.selects RX1 yX1_takeRest yX1_takeRest, Cond.code yX1_takeRest cX1_takeRest 4 none, Cond.fieldLink RX1 15 "MinedLedger$Hasher" "hash" "[I", Cond.constant RX1 41 (-2147483648), Cond.methodLink RX1 42 yJ7_fill_fda19, Cond.static yJ7_fill_fda19, Cond.initialized RJ7, Cond.code yJ7_fill_fda19 cJ7_fill_fda19 5 none, Cond.methodLink RJ7 13 yJ7_rangeCheck_23922, Cond.static yJ7_rangeCheck_23922, Cond.code yJ7_rangeCheck_23922 cJ7_rangeCheck_23922 3 none, Cond.methodLink RX2 160 yX1_isAt, Cond.instanceMethod yX1_isAt, Cond.selects RX1 yX1_isAt yX1_isAt, Cond.code yX1_isAt cX1_isAt 4 (some .boolean)]
def wsX2_check : List Cond := .code yX2_check cX2_check 2 (some .int) :: ((wsX2_check_r1 ++ (wsX2_check_r2 ++ wsX2_check_r3)) ++ wsX20 ++ wsX10)
def wsX3_firstHalf_r1 : List Cond := [Cond.fieldLink RX3 30 "MinedLedgerModel" "add" "[I", Cond.constant RX3 65 (1116352408), Cond.constant RX3 66 (1899447441), Cond.constant RX3 67 (-1245643825), Cond.constant RX3 68 (-373957723), Cond.constant RX3 69 (961987163), Cond.constant RX3 70 (1508970993), Cond.constant RX3 71 (-1841331548), Cond.constant RX3 72 (-1424204075), Cond.constant RX3 73 (-670586216), Cond.constant RX3 74 (310598401), Cond.constant RX3 75 (607225278), Cond.constant RX3 76 (1426881987), Cond.constant RX3 77 (1925078388), Cond.constant RX3 78 (-2132889090), Cond.constant RX3 79 (-1680079193), Cond.constant RX3 80 (-1046744716), Cond.constant RX3 81 (-459576895), Cond.constant RX3 82 (-272742522), Cond.constant RX3 83 (264347078), Cond.constant RX3 84 (604807628), Cond.constant RX3 85 (770255983), Cond.constant RX3 86 (1249150122), Cond.constant RX3 87 (1555081692)]
def wsX3_firstHalf_r2 : List Cond := [Cond.constant RX3 88 (1996064986), Cond.constant RX3 89 (-1740746414), Cond.constant RX3 90 (-1473132947), Cond.constant RX3 91 (-1341970488), Cond.constant RX3 92 (-1084653625), Cond.constant RX3 93 (-958395405), Cond.constant RX3 94 (-710438585), Cond.constant RX3 95 (113926993), Cond.constant RX3 96 (338241895)]
def wsX3_firstHalf : List Cond := .code yX3_firstHalf cX3_firstHalf 1 none :: ((wsX3_firstHalf_r1 ++ wsX3_firstHalf_r2) ++ wsX30)
def wsX3_secondHalf_r1 : List Cond := [Cond.fieldLink RX3 30 "MinedLedgerModel" "add" "[I", Cond.constant RX3 97 (666307205), Cond.constant RX3 98 (773529912), Cond.constant RX3 99 (1294757372), Cond.constant RX3 100 (1396182291), Cond.constant RX3 101 (1695183700), Cond.constant RX3 102 (1986661051), Cond.constant RX3 103 (-2117940946), Cond.constant RX3 104 (-1838011259), Cond.constant RX3 105 (-1564481375), Cond.constant RX3 106 (-1474664885), Cond.constant RX3 107 (-1035236496), Cond.constant RX3 108 (-949202525), Cond.constant RX3 109 (-778901479), Cond.constant RX3 110 (-694614492), Cond.constant RX3 111 (-200395387), Cond.constant RX3 112 (275423344), Cond.constant RX3 113 (430227734), Cond.constant RX3 114 (506948616), Cond.constant RX3 115 (659060556), Cond.constant RX3 116 (883997877), Cond.constant RX3 117 (958139571), Cond.constant RX3 118 (1322822218), Cond.constant RX3 119 (1537002063)]
def wsX3_secondHalf_r2 : List Cond := [Cond.constant RX3 120 (1747873779), Cond.constant RX3 121 (1955562222), Cond.constant RX3 122 (2024104815), Cond.constant RX3 123 (-2067236844), Cond.constant RX3 124 (-1933114872), Cond.constant RX3 125 (-1866530822), Cond.constant RX3 126 (-1538233109), Cond.constant RX3 127 (-1090935817), Cond.constant RX3 128 (-965641998)]
def wsX3_secondHalf : List Cond := .code yX3_secondHalf cX3_secondHalf 1 none :: ((wsX3_secondHalf_r1 ++ wsX3_secondHalf_r2) ++ wsX30)
def wsX3_init_r1 : List Cond := [Cond.methodLink RX3 1 objectInit, Cond.instanceMethod objectInit, Cond.code objectInit ⟨#[0xb1]⟩ 1 none, Cond.arrayClass .int, Cond.fieldLink RX3 7 "MinedLedgerModel" "cells" "[I", Cond.fieldLink RX3 13 "MinedLedgerModel" "head" "[I", Cond.fieldLink RX3 16 "MinedLedgerModel" "words" "[I", Cond.fieldLink RX3 19 "MinedLedgerModel" "kept" "I", Cond.arrayClass .boolean, Cond.fieldLink RX3 23 "MinedLedgerModel" "filter" "[Z", Cond.fieldLink RX3 27 "MinedLedgerModel" "proof" "[I", Cond.fieldLink RX3 30 "MinedLedgerModel" "add" "[I", Cond.fieldLink RX3 33 "MinedLedgerModel" "begun" "[I", Cond.fieldLink RX3 36 "MinedLedgerModel" "h" "[I", Cond.fieldLink RX3 39 "MinedLedgerModel" "half" "[I", Cond.fieldLink RX3 42 "MinedLedgerModel" "w" "[I", Cond.fieldLink RX3 45 "MinedLedgerModel" "entry" "[I", Cond.fieldLink RX3 48 "MinedLedgerModel" "difficulty" "I", Cond.constant RX3 51 (1779033703), Cond.constant RX3 52 (-1150833019), Cond.constant RX3 53 (1013904242), Cond.constant RX3 54 (-1521486534), Cond.constant RX3 55 (1359893119), Cond.constant RX3 56 (-1694144372)]
def wsX3_init_r2 : List Cond := [Cond.constant RX3 57 (528734635), Cond.constant RX3 58 (1541459225), Cond.methodLink RX3 59 yX3_firstHalf, Cond.instanceMethod yX3_firstHalf, Cond.selects RX3 yX3_firstHalf yX3_firstHalf, Cond.initialized RX3, Cond.code yX3_firstHalf cX3_firstHalf 1 none, Cond.constant RX3 65 (1116352408), Cond.constant RX3 66 (1899447441), Cond.constant RX3 67 (-1245643825), Cond.constant RX3 68 (-373957723), Cond.constant RX3 69 (961987163), Cond.constant RX3 70 (1508970993), Cond.constant RX3 71 (-1841331548), Cond.constant RX3 72 (-1424204075), Cond.constant RX3 73 (-670586216), Cond.constant RX3 74 (310598401), Cond.constant RX3 75 (607225278), Cond.constant RX3 76 (1426881987), Cond.constant RX3 77 (1925078388), Cond.constant RX3 78 (-2132889090), Cond.constant RX3 79 (-1680079193), Cond.constant RX3 80 (-1046744716), Cond.constant RX3 81 (-459576895)]
def wsX3_init_r3 : List Cond := [Cond.constant RX3 82 (-272742522), Cond.constant RX3 83 (264347078), Cond.constant RX3 84 (604807628), Cond.constant RX3 85 (770255983), Cond.constant RX3 86 (1249150122), Cond.constant RX3 87 (1555081692), Cond.constant RX3 88 (1996064986), Cond.constant RX3 89 (-1740746414), Cond.constant RX3 90 (-1473132947), Cond.constant RX3 91 (-1341970488), Cond.constant RX3 92 (-1084653625), Cond.constant RX3 93 (-958395405), Cond.constant RX3 94 (-710438585), Cond.constant RX3 95 (113926993), Cond.constant RX3 96 (338241895), Cond.methodLink RX3 62 yX3_secondHalf, Cond.instanceMethod yX3_secondHalf, Cond.selects RX3 yX3_secondHalf yX3_secondHalf, Cond.code yX3_secondHalf cX3_secondHalf 1 none, Cond.constant RX3 97 (666307205), Cond.constant RX3 98 (773529912), Cond.constant RX3 99 (1294757372), Cond.constant RX3 100 (1396182291), Cond.constant RX3 101 (1695183700)]
def wsX3_init_r4 : List Cond := [Cond.constant RX3 102 (1986661051), Cond.constant RX3 103 (-2117940946), Cond.constant RX3 104 (-1838011259), Cond.constant RX3 105 (-1564481375), Cond.constant RX3 106 (-1474664885), Cond.constant RX3 107 (-1035236496), Cond.constant RX3 108 (-949202525), Cond.constant RX3 109 (-778901479), Cond.constant RX3 110 (-694614492), Cond.constant RX3 111 (-200395387), Cond.constant RX3 112 (275423344), Cond.constant RX3 113 (430227734), Cond.constant RX3 114 (506948616), Cond.constant RX3 115 (659060556), Cond.constant RX3 116 (883997877), Cond.constant RX3 117 (958139571), Cond.constant RX3 118 (1322822218), Cond.constant RX3 119 (1537002063), Cond.constant RX3 120 (1747873779), Cond.constant RX3 121 (1955562222), Cond.constant RX3 122 (2024104815), Cond.constant RX3 123 (-2067236844), Cond.constant RX3 124 (-1933114872), Cond.constant RX3 125 (-1866530822)]
def wsX3_init_r5 : List Cond := [Cond.constant RX3 126 (-1538233109), Cond.constant RX3 127 (-1090935817), Cond.constant RX3 128 (-965641998)]
def wsX3_init : List Cond := .code yX3_init cX3_init 2 none :: ((wsX3_init_r1 ++ (wsX3_init_r2 ++ (wsX3_init_r3 ++ (wsX3_init_r4 ++ wsX3_init_r5)))) ++ wsX30)
def wsX3_turned : List Cond := .code yX3_turned cX3_turned 2 (some .int) :: ([])
def wsX3_mix : List Cond := .code yX3_mix cX3_mix 12 none :: ([.fieldLink RX3 42 "MinedLedgerModel" "w" "[I", .fieldLink RX3 36 "MinedLedgerModel" "h" "[I", .fieldLink RX3 30 "MinedLedgerModel" "add" "[I", .methodLink RX3 129 yX3_turned, .static yX3_turned, .initialized RX3, .code yX3_turned cX3_turned 2 (some .int)] ++ wsX30)
def wsX3_mixFirst : List Cond := .code yX3_mixFirst cX3_mixFirst 2 none :: ([.fieldLink RX3 36 "MinedLedgerModel" "h" "[I", .fieldLink RX3 33 "MinedLedgerModel" "begun" "[I", .fieldLink RX3 42 "MinedLedgerModel" "w" "[I", .fieldLink RX3 45 "MinedLedgerModel" "entry" "[I", .fieldLink RX3 39 "MinedLedgerModel" "half" "[I", .methodLink RX3 133 yX3_mix, .instanceMethod yX3_mix, .selects RX3 yX3_mix yX3_mix, .initialized RX3, .code yX3_mix cX3_mix 12 none, .fieldLink RX3 30 "MinedLedgerModel" "add" "[I", .methodLink RX3 129 yX3_turned, .static yX3_turned, .code yX3_turned cX3_turned 2 (some .int)] ++ wsX30)
def wsX3_mixSecond : List Cond := .code yX3_mixSecond cX3_mixSecond 2 none :: ([.fieldLink RX3 36 "MinedLedgerModel" "h" "[I", .fieldLink RX3 39 "MinedLedgerModel" "half" "[I", .fieldLink RX3 42 "MinedLedgerModel" "w" "[I", .fieldLink RX3 45 "MinedLedgerModel" "entry" "[I", .constant RX3 136 (-2147483648), .methodLink RX3 133 yX3_mix, .instanceMethod yX3_mix, .selects RX3 yX3_mix yX3_mix, .initialized RX3, .code yX3_mix cX3_mix 12 none, .fieldLink RX3 30 "MinedLedgerModel" "add" "[I", .methodLink RX3 129 yX3_turned, .static yX3_turned, .code yX3_turned cX3_turned 2 (some .int)] ++ wsX30)
def wsX3_zerosOf : List Cond := .code yX3_zerosOf cX3_zerosOf 2 (some .int) :: ([])
def wsX3_zeros : List Cond := .code yX3_zeros cX3_zeros 3 (some .int) :: ([.fieldLink RX3 36 "MinedLedgerModel" "h" "[I", .methodLink RX3 137 yX3_zerosOf, .static yX3_zerosOf, .initialized RX3, .code yX3_zerosOf cX3_zerosOf 2 (some .int)] ++ wsX30)
def wsX3_lowest : List Cond := .code yX3_lowest cX3_lowest 1 (some .int) :: ([])
def wsX3_hashCell : List Cond := .code yX3_hashCell cX3_hashCell 3 (some .int) :: ([.fieldLink RX3 7 "MinedLedgerModel" "cells" "[I"] ++ wsX30)
def wsX3_draft : List Cond := .code yX3_draft cX3_draft 2 none :: ([.fieldLink RX3 45 "MinedLedgerModel" "entry" "[I", .fieldLink RX3 141 "MinedLedgerModel" "count" "I", .fieldLink RX3 150 "MinedLedgerModel" "wordCount" "I", .fieldLink RX3 16 "MinedLedgerModel" "words" "[I", .fieldLink RX3 48 "MinedLedgerModel" "difficulty" "I", .methodLink RX3 144 yX3_hashCell, .instanceMethod yX3_hashCell, .selects RX3 yX3_hashCell yX3_hashCell, .initialized RX3, .code yX3_hashCell cX3_hashCell 3 (some .int), .fieldLink RX3 7 "MinedLedgerModel" "cells" "[I", .methodLink RX3 147 yX3_lowest, .static yX3_lowest, .code yX3_lowest cX3_lowest 1 (some .int)] ++ wsX30)
def wsX3_forget : List Cond := .code yX3_forget cX3_forget 1 none :: ([.fieldLink RX3 153 "MinedLedgerModel" "tried" "I", .fieldLink RX3 19 "MinedLedgerModel" "kept" "I"] ++ wsX30)
def wsX3_put : List Cond := .code yX3_put cX3_put 2 (some .int) :: ([.fieldLink RX3 150 "MinedLedgerModel" "wordCount" "I", .fieldLink RX3 16 "MinedLedgerModel" "words" "[I", .methodLink RX3 156 yX3_forget, .instanceMethod yX3_forget, .selects RX3 yX3_forget yX3_forget, .initialized RX3, .code yX3_forget cX3_forget 1 none, .fieldLink RX3 153 "MinedLedgerModel" "tried" "I", .fieldLink RX3 19 "MinedLedgerModel" "kept" "I"] ++ wsX30)
def wsX3_takeBack : List Cond := .code yX3_takeBack cX3_takeBack 2 (some .int) :: ([.fieldLink RX3 150 "MinedLedgerModel" "wordCount" "I", .methodLink RX3 156 yX3_forget, .instanceMethod yX3_forget, .selects RX3 yX3_forget yX3_forget, .initialized RX3, .code yX3_forget cX3_forget 1 none, .fieldLink RX3 153 "MinedLedgerModel" "tried" "I", .fieldLink RX3 19 "MinedLedgerModel" "kept" "I"] ++ wsX30)
def wsX3_pending : List Cond := .code yX3_pending cX3_pending 2 (some .int) :: ([.fieldLink RX3 150 "MinedLedgerModel" "wordCount" "I", .fieldLink RX3 16 "MinedLedgerModel" "words" "[I"] ++ wsX30)
def wsX3_difficulty : List Cond := .code yX3_difficulty cX3_difficulty 3 (some .int) :: ([.fieldLink RX3 48 "MinedLedgerModel" "difficulty" "I", .methodLink RX3 156 yX3_forget, .instanceMethod yX3_forget, .selects RX3 yX3_forget yX3_forget, .initialized RX3, .code yX3_forget cX3_forget 1 none, .fieldLink RX3 153 "MinedLedgerModel" "tried" "I", .fieldLink RX3 19 "MinedLedgerModel" "kept" "I"] ++ wsX30)
def wsX3_mine_r1 : List Cond := [Cond.fieldLink RX3 19 "MinedLedgerModel" "kept" "I", Cond.fieldLink RX3 153 "MinedLedgerModel" "tried" "I", Cond.constant RX3 159 (100000), Cond.fieldLink RX3 45 "MinedLedgerModel" "entry" "[I", Cond.fieldLink RX3 48 "MinedLedgerModel" "difficulty" "I", Cond.methodLink RX3 160 yX3_draft, Cond.instanceMethod yX3_draft, Cond.selects RX3 yX3_draft yX3_draft, Cond.initialized RX3, Cond.code yX3_draft cX3_draft 2 none, Cond.fieldLink RX3 141 "MinedLedgerModel" "count" "I", Cond.fieldLink RX3 150 "MinedLedgerModel" "wordCount" "I", Cond.fieldLink RX3 16 "MinedLedgerModel" "words" "[I", Cond.methodLink RX3 144 yX3_hashCell, Cond.instanceMethod yX3_hashCell, Cond.selects RX3 yX3_hashCell yX3_hashCell, Cond.code yX3_hashCell cX3_hashCell 3 (some .int), Cond.fieldLink RX3 7 "MinedLedgerModel" "cells" "[I", Cond.methodLink RX3 147 yX3_lowest, Cond.static yX3_lowest, Cond.code yX3_lowest cX3_lowest 1 (some .int), Cond.methodLink RX3 163 yX3_mixFirst, Cond.instanceMethod yX3_mixFirst, Cond.selects RX3 yX3_mixFirst yX3_mixFirst]
def wsX3_mine_r2 : List Cond := [Cond.code yX3_mixFirst cX3_mixFirst 2 none, Cond.fieldLink RX3 36 "MinedLedgerModel" "h" "[I", Cond.fieldLink RX3 33 "MinedLedgerModel" "begun" "[I", Cond.fieldLink RX3 42 "MinedLedgerModel" "w" "[I", Cond.fieldLink RX3 39 "MinedLedgerModel" "half" "[I", Cond.methodLink RX3 133 yX3_mix, Cond.instanceMethod yX3_mix, Cond.selects RX3 yX3_mix yX3_mix, Cond.code yX3_mix cX3_mix 12 none, Cond.fieldLink RX3 30 "MinedLedgerModel" "add" "[I", Cond.methodLink RX3 129 yX3_turned, Cond.static yX3_turned, Cond.code yX3_turned cX3_turned 2 (some .int), Cond.methodLink RX3 166 yX3_mixSecond, Cond.instanceMethod yX3_mixSecond, Cond.selects RX3 yX3_mixSecond yX3_mixSecond, Cond.code yX3_mixSecond cX3_mixSecond 2 none, Cond.constant RX3 136 (-2147483648), Cond.methodLink RX3 169 yX3_zeros, Cond.instanceMethod yX3_zeros, Cond.selects RX3 yX3_zeros yX3_zeros, Cond.code yX3_zeros cX3_zeros 3 (some .int), Cond.methodLink RX3 137 yX3_zerosOf, Cond.static yX3_zerosOf]
def wsX3_mine_r3 : List Cond := [Cond.code yX3_zerosOf cX3_zerosOf 2 (some .int)]
def wsX3_mine : List Cond := .code yX3_mine cX3_mine 3 (some .int) :: ((wsX3_mine_r1 ++ (wsX3_mine_r2 ++ wsX3_mine_r3)) ++ wsX30)
def wsX3_tried : List Cond := .code yX3_tried cX3_tried 1 (some .int) :: ([.fieldLink RX3 153 "MinedLedgerModel" "tried" "I"] ++ wsX30)
def wsX3_stir : List Cond := .code yX3_stir cX3_stir 5 (some .int) :: ([.constant RX3 184 (-862048943), .constant RX3 185 (461845907), .constant RX3 186 (-430675100), .constant RX3 187 (-2048144789), .constant RX3 188 (-1028477387), .methodLink RX3 129 yX3_turned, .static yX3_turned, .initialized RX3, .code yX3_turned cX3_turned 2 (some .int)])
def wsX3_bit : List Cond := .code yX3_bit cX3_bit 3 (some .int) :: ([.constant RX3 192 (-1756908916), .methodLink RX3 189 yX3_stir, .instanceMethod yX3_stir, .selects RX3 yX3_stir yX3_stir, .initialized RX3, .code yX3_stir cX3_stir 5 (some .int), .constant RX3 184 (-862048943), .constant RX3 185 (461845907), .constant RX3 186 (-430675100), .constant RX3 187 (-2048144789), .constant RX3 188 (-1028477387), .methodLink RX3 129 yX3_turned, .static yX3_turned, .code yX3_turned cX3_turned 2 (some .int)])
def wsX3_setBits : List Cond := .code yX3_setBits cX3_setBits 4 none :: ([.fieldLink RX3 23 "MinedLedgerModel" "filter" "[Z", .fieldLink RX3 7 "MinedLedgerModel" "cells" "[I", .methodLink RX3 193 yX3_bit, .instanceMethod yX3_bit, .selects RX3 yX3_bit yX3_bit, .initialized RX3, .code yX3_bit cX3_bit 3 (some .int), .constant RX3 192 (-1756908916), .methodLink RX3 189 yX3_stir, .instanceMethod yX3_stir, .selects RX3 yX3_stir yX3_stir, .code yX3_stir cX3_stir 5 (some .int), .constant RX3 184 (-862048943), .constant RX3 185 (461845907), .constant RX3 186 (-430675100), .constant RX3 187 (-2048144789), .constant RX3 188 (-1028477387), .methodLink RX3 129 yX3_turned, .static yX3_turned, .code yX3_turned cX3_turned 2 (some .int)] ++ wsX30)
def wsX3_commit_r1 : List Cond := [Cond.fieldLink RX3 141 "MinedLedgerModel" "count" "I", Cond.fieldLink RX3 19 "MinedLedgerModel" "kept" "I", Cond.fieldLink RX3 45 "MinedLedgerModel" "entry" "[I", Cond.fieldLink RX3 7 "MinedLedgerModel" "cells" "[I", Cond.fieldLink RX3 36 "MinedLedgerModel" "h" "[I", Cond.fieldLink RX3 13 "MinedLedgerModel" "head" "[I", Cond.fieldLink RX3 150 "MinedLedgerModel" "wordCount" "I", Cond.methodLink RX3 160 yX3_draft, Cond.instanceMethod yX3_draft, Cond.selects RX3 yX3_draft yX3_draft, Cond.initialized RX3, Cond.code yX3_draft cX3_draft 2 none, Cond.fieldLink RX3 16 "MinedLedgerModel" "words" "[I", Cond.fieldLink RX3 48 "MinedLedgerModel" "difficulty" "I", Cond.methodLink RX3 144 yX3_hashCell, Cond.instanceMethod yX3_hashCell, Cond.selects RX3 yX3_hashCell yX3_hashCell, Cond.code yX3_hashCell cX3_hashCell 3 (some .int), Cond.methodLink RX3 147 yX3_lowest, Cond.static yX3_lowest, Cond.code yX3_lowest cX3_lowest 1 (some .int), Cond.methodLink RX3 163 yX3_mixFirst, Cond.instanceMethod yX3_mixFirst, Cond.selects RX3 yX3_mixFirst yX3_mixFirst]
def wsX3_commit_r2 : List Cond := [Cond.code yX3_mixFirst cX3_mixFirst 2 none, Cond.fieldLink RX3 33 "MinedLedgerModel" "begun" "[I", Cond.fieldLink RX3 42 "MinedLedgerModel" "w" "[I", Cond.fieldLink RX3 39 "MinedLedgerModel" "half" "[I", Cond.methodLink RX3 133 yX3_mix, Cond.instanceMethod yX3_mix, Cond.selects RX3 yX3_mix yX3_mix, Cond.code yX3_mix cX3_mix 12 none, Cond.fieldLink RX3 30 "MinedLedgerModel" "add" "[I", Cond.methodLink RX3 129 yX3_turned, Cond.static yX3_turned, Cond.code yX3_turned cX3_turned 2 (some .int), Cond.methodLink RX3 166 yX3_mixSecond, Cond.instanceMethod yX3_mixSecond, Cond.selects RX3 yX3_mixSecond yX3_mixSecond, Cond.code yX3_mixSecond cX3_mixSecond 2 none, Cond.constant RX3 136 (-2147483648), Cond.methodLink RX3 173 yX3_setBits, Cond.instanceMethod yX3_setBits, Cond.selects RX3 yX3_setBits yX3_setBits, Cond.code yX3_setBits cX3_setBits 4 none, Cond.fieldLink RX3 23 "MinedLedgerModel" "filter" "[Z", Cond.methodLink RX3 193 yX3_bit, Cond.instanceMethod yX3_bit]
def wsX3_commit_r3 : List Cond := [Cond.selects RX3 yX3_bit yX3_bit, Cond.code yX3_bit cX3_bit 3 (some .int), Cond.constant RX3 192 (-1756908916), Cond.methodLink RX3 189 yX3_stir, Cond.instanceMethod yX3_stir, Cond.selects RX3 yX3_stir yX3_stir, Cond.code yX3_stir cX3_stir 5 (some .int), Cond.constant RX3 184 (-862048943), Cond.constant RX3 185 (461845907), Cond.constant RX3 186 (-430675100), Cond.constant RX3 187 (-2048144789), Cond.constant RX3 188 (-1028477387), Cond.methodLink RX3 156 yX3_forget, Cond.instanceMethod yX3_forget, Cond.selects RX3 yX3_forget yX3_forget, Cond.code yX3_forget cX3_forget 1 none, Cond.fieldLink RX3 153 "MinedLedgerModel" "tried" "I"]
def wsX3_commit : List Cond := .code yX3_commit cX3_commit 2 (some .int) :: ((wsX3_commit_r1 ++ (wsX3_commit_r2 ++ wsX3_commit_r3)) ++ wsX30)
def wsX3_count : List Cond := .code yX3_count cX3_count 1 (some .int) :: ([.fieldLink RX3 141 "MinedLedgerModel" "count" "I"] ++ wsX30)
def wsX3_head : List Cond := .code yX3_head cX3_head 2 (some .int) :: ([.fieldLink RX3 13 "MinedLedgerModel" "head" "[I"] ++ wsX30)
def wsX3_isCell : List Cond := .code yX3_isCell cX3_isCell 3 (some .boolean) :: ([.fieldLink RX3 141 "MinedLedgerModel" "count" "I"] ++ wsX30)
def wsX3_cell : List Cond := .code yX3_cell cX3_cell 3 (some .int) :: ([.fieldLink RX3 7 "MinedLedgerModel" "cells" "[I", .methodLink RX3 177 yX3_isCell, .instanceMethod yX3_isCell, .selects RX3 yX3_isCell yX3_isCell, .initialized RX3, .code yX3_isCell cX3_isCell 3 (some .boolean), .fieldLink RX3 141 "MinedLedgerModel" "count" "I"] ++ wsX30)
def wsX3_spoil : List Cond := .code yX3_spoil cX3_spoil 5 (some .int) :: ([.fieldLink RX3 7 "MinedLedgerModel" "cells" "[I", .methodLink RX3 177 yX3_isCell, .instanceMethod yX3_isCell, .selects RX3 yX3_isCell yX3_isCell, .initialized RX3, .code yX3_isCell cX3_isCell 3 (some .boolean), .fieldLink RX3 141 "MinedLedgerModel" "count" "I", .methodLink RX3 156 yX3_forget, .instanceMethod yX3_forget, .selects RX3 yX3_forget yX3_forget, .code yX3_forget cX3_forget 1 none, .fieldLink RX3 153 "MinedLedgerModel" "tried" "I", .fieldLink RX3 19 "MinedLedgerModel" "kept" "I"] ++ wsX30)
def wsX3_drop_r1 : List Cond := [Cond.fieldLink RX3 141 "MinedLedgerModel" "count" "I", Cond.fieldLink RX3 13 "MinedLedgerModel" "head" "[I", Cond.fieldLink RX3 7 "MinedLedgerModel" "cells" "[I", Cond.fieldLink RX3 23 "MinedLedgerModel" "filter" "[Z", Cond.fieldLink RX3 181 "MinedLedgerModel" "place" "I", Cond.methodLink RX3 173 yX3_setBits, Cond.instanceMethod yX3_setBits, Cond.selects RX3 yX3_setBits yX3_setBits, Cond.initialized RX3, Cond.code yX3_setBits cX3_setBits 4 none, Cond.methodLink RX3 193 yX3_bit, Cond.instanceMethod yX3_bit, Cond.selects RX3 yX3_bit yX3_bit, Cond.code yX3_bit cX3_bit 3 (some .int), Cond.constant RX3 192 (-1756908916), Cond.methodLink RX3 189 yX3_stir, Cond.instanceMethod yX3_stir, Cond.selects RX3 yX3_stir yX3_stir, Cond.code yX3_stir cX3_stir 5 (some .int), Cond.constant RX3 184 (-862048943), Cond.constant RX3 185 (461845907), Cond.constant RX3 186 (-430675100), Cond.constant RX3 187 (-2048144789), Cond.constant RX3 188 (-1028477387)]
def wsX3_drop_r2 : List Cond := [Cond.methodLink RX3 129 yX3_turned, Cond.static yX3_turned, Cond.code yX3_turned cX3_turned 2 (some .int), Cond.methodLink RX3 156 yX3_forget, Cond.instanceMethod yX3_forget, Cond.selects RX3 yX3_forget yX3_forget, Cond.code yX3_forget cX3_forget 1 none, Cond.fieldLink RX3 153 "MinedLedgerModel" "tried" "I", Cond.fieldLink RX3 19 "MinedLedgerModel" "kept" "I"]
def wsX3_drop : List Cond := .code yX3_drop cX3_drop 2 (some .int) :: ((wsX3_drop_r1 ++ wsX3_drop_r2) ++ wsX30)
def wsX3_maybe : List Cond := .code yX3_maybe cX3_maybe 4 (some .boolean) :: ([.fieldLink RX3 23 "MinedLedgerModel" "filter" "[Z", .methodLink RX3 193 yX3_bit, .instanceMethod yX3_bit, .selects RX3 yX3_bit yX3_bit, .initialized RX3, .code yX3_bit cX3_bit 3 (some .int), .constant RX3 192 (-1756908916), .methodLink RX3 189 yX3_stir, .instanceMethod yX3_stir, .selects RX3 yX3_stir yX3_stir, .code yX3_stir cX3_stir 5 (some .int), .constant RX3 184 (-862048943), .constant RX3 185 (461845907), .constant RX3 186 (-430675100), .constant RX3 187 (-2048144789), .constant RX3 188 (-1028477387), .methodLink RX3 129 yX3_turned, .static yX3_turned, .code yX3_turned cX3_turned 2 (some .int)] ++ wsX30)
def wsX3_may : List Cond := .code yX3_may cX3_may 2 (some .int) :: ([.methodLink RX3 196 yX3_maybe, .instanceMethod yX3_maybe, .selects RX3 yX3_maybe yX3_maybe, .initialized RX3, .code yX3_maybe cX3_maybe 4 (some .boolean), .fieldLink RX3 23 "MinedLedgerModel" "filter" "[Z", .methodLink RX3 193 yX3_bit, .instanceMethod yX3_bit, .selects RX3 yX3_bit yX3_bit, .code yX3_bit cX3_bit 3 (some .int), .constant RX3 192 (-1756908916), .methodLink RX3 189 yX3_stir, .instanceMethod yX3_stir, .selects RX3 yX3_stir yX3_stir, .code yX3_stir cX3_stir 5 (some .int), .constant RX3 184 (-862048943), .constant RX3 185 (461845907), .constant RX3 186 (-430675100), .constant RX3 187 (-2048144789), .constant RX3 188 (-1028477387), .methodLink RX3 129 yX3_turned, .static yX3_turned, .code yX3_turned cX3_turned 2 (some .int)] ++ wsX30)
def wsX3_find_r1 : List Cond := [Cond.fieldLink RX3 141 "MinedLedgerModel" "count" "I", Cond.fieldLink RX3 7 "MinedLedgerModel" "cells" "[I", Cond.methodLink RX3 196 yX3_maybe, Cond.instanceMethod yX3_maybe, Cond.selects RX3 yX3_maybe yX3_maybe, Cond.initialized RX3, Cond.code yX3_maybe cX3_maybe 4 (some .boolean), Cond.fieldLink RX3 23 "MinedLedgerModel" "filter" "[Z", Cond.methodLink RX3 193 yX3_bit, Cond.instanceMethod yX3_bit, Cond.selects RX3 yX3_bit yX3_bit, Cond.code yX3_bit cX3_bit 3 (some .int), Cond.constant RX3 192 (-1756908916), Cond.methodLink RX3 189 yX3_stir, Cond.instanceMethod yX3_stir, Cond.selects RX3 yX3_stir yX3_stir, Cond.code yX3_stir cX3_stir 5 (some .int), Cond.constant RX3 184 (-862048943), Cond.constant RX3 185 (461845907), Cond.constant RX3 186 (-430675100), Cond.constant RX3 187 (-2048144789), Cond.constant RX3 188 (-1028477387), Cond.methodLink RX3 129 yX3_turned, Cond.static yX3_turned]
def wsX3_find_r2 : List Cond := [Cond.code yX3_turned cX3_turned 2 (some .int)]
def wsX3_find : List Cond := .code yX3_find cX3_find 4 (some .int) :: ((wsX3_find_r1 ++ wsX3_find_r2) ++ wsX30)
def wsX3_begin : List Cond := .code yX3_begin cX3_begin 2 (some .int) :: ([.fieldLink RX3 181 "MinedLedgerModel" "place" "I"] ++ wsX30)
def wsX3_isHashOf : List Cond := .code yX3_isHashOf cX3_isHashOf 5 (some .boolean) :: ([.fieldLink RX3 7 "MinedLedgerModel" "cells" "[I", .methodLink RX3 144 yX3_hashCell, .instanceMethod yX3_hashCell, .selects RX3 yX3_hashCell yX3_hashCell, .initialized RX3, .code yX3_hashCell cX3_hashCell 3 (some .int)] ++ wsX30)
def wsX3_faultOf_r1 : List Cond := [Cond.fieldLink RX3 45 "MinedLedgerModel" "entry" "[I", Cond.fieldLink RX3 7 "MinedLedgerModel" "cells" "[I", Cond.fieldLink RX3 36 "MinedLedgerModel" "h" "[I", Cond.methodLink RX3 200 yX3_isHashOf, Cond.instanceMethod yX3_isHashOf, Cond.selects RX3 yX3_isHashOf yX3_isHashOf, Cond.initialized RX3, Cond.code yX3_isHashOf cX3_isHashOf 5 (some .boolean), Cond.methodLink RX3 144 yX3_hashCell, Cond.instanceMethod yX3_hashCell, Cond.selects RX3 yX3_hashCell yX3_hashCell, Cond.code yX3_hashCell cX3_hashCell 3 (some .int), Cond.methodLink RX3 147 yX3_lowest, Cond.static yX3_lowest, Cond.code yX3_lowest cX3_lowest 1 (some .int), Cond.methodLink RX3 163 yX3_mixFirst, Cond.instanceMethod yX3_mixFirst, Cond.selects RX3 yX3_mixFirst yX3_mixFirst, Cond.code yX3_mixFirst cX3_mixFirst 2 none, Cond.fieldLink RX3 33 "MinedLedgerModel" "begun" "[I", Cond.fieldLink RX3 42 "MinedLedgerModel" "w" "[I", Cond.fieldLink RX3 39 "MinedLedgerModel" "half" "[I", Cond.methodLink RX3 133 yX3_mix, Cond.instanceMethod yX3_mix]
def wsX3_faultOf_r2 : List Cond := [Cond.selects RX3 yX3_mix yX3_mix, Cond.code yX3_mix cX3_mix 12 none, Cond.fieldLink RX3 30 "MinedLedgerModel" "add" "[I", Cond.methodLink RX3 129 yX3_turned, Cond.static yX3_turned, Cond.code yX3_turned cX3_turned 2 (some .int), Cond.methodLink RX3 166 yX3_mixSecond, Cond.instanceMethod yX3_mixSecond, Cond.selects RX3 yX3_mixSecond yX3_mixSecond, Cond.code yX3_mixSecond cX3_mixSecond 2 none, Cond.constant RX3 136 (-2147483648), Cond.methodLink RX3 169 yX3_zeros, Cond.instanceMethod yX3_zeros, Cond.selects RX3 yX3_zeros yX3_zeros, Cond.code yX3_zeros cX3_zeros 3 (some .int), Cond.methodLink RX3 137 yX3_zerosOf, Cond.static yX3_zerosOf, Cond.code yX3_zerosOf cX3_zerosOf 2 (some .int)]
def wsX3_faultOf : List Cond := .code yX3_faultOf cX3_faultOf 3 (some .int) :: ((wsX3_faultOf_r1 ++ wsX3_faultOf_r2) ++ wsX30)
def wsX3_isHeadRight : List Cond := .code yX3_isHeadRight cX3_isHeadRight 3 (some .boolean) :: ([.fieldLink RX3 13 "MinedLedgerModel" "head" "[I", .fieldLink RX3 141 "MinedLedgerModel" "count" "I", .methodLink RX3 144 yX3_hashCell, .instanceMethod yX3_hashCell, .selects RX3 yX3_hashCell yX3_hashCell, .initialized RX3, .code yX3_hashCell cX3_hashCell 3 (some .int), .fieldLink RX3 7 "MinedLedgerModel" "cells" "[I"] ++ wsX30)
def wsX3_audit_r1 : List Cond := [Cond.fieldLink RX3 203 "MinedLedgerModel" "fault" "I", Cond.fieldLink RX3 181 "MinedLedgerModel" "place" "I", Cond.fieldLink RX3 141 "MinedLedgerModel" "count" "I", Cond.methodLink RX3 206 yX3_faultOf, Cond.instanceMethod yX3_faultOf, Cond.selects RX3 yX3_faultOf yX3_faultOf, Cond.initialized RX3, Cond.code yX3_faultOf cX3_faultOf 3 (some .int), Cond.fieldLink RX3 45 "MinedLedgerModel" "entry" "[I", Cond.fieldLink RX3 7 "MinedLedgerModel" "cells" "[I", Cond.fieldLink RX3 36 "MinedLedgerModel" "h" "[I", Cond.methodLink RX3 200 yX3_isHashOf, Cond.instanceMethod yX3_isHashOf, Cond.selects RX3 yX3_isHashOf yX3_isHashOf, Cond.code yX3_isHashOf cX3_isHashOf 5 (some .boolean), Cond.methodLink RX3 144 yX3_hashCell, Cond.instanceMethod yX3_hashCell, Cond.selects RX3 yX3_hashCell yX3_hashCell, Cond.code yX3_hashCell cX3_hashCell 3 (some .int), Cond.methodLink RX3 147 yX3_lowest, Cond.static yX3_lowest, Cond.code yX3_lowest cX3_lowest 1 (some .int), Cond.methodLink RX3 163 yX3_mixFirst, Cond.instanceMethod yX3_mixFirst]
def wsX3_audit_r2 : List Cond := [Cond.selects RX3 yX3_mixFirst yX3_mixFirst, Cond.code yX3_mixFirst cX3_mixFirst 2 none, Cond.fieldLink RX3 33 "MinedLedgerModel" "begun" "[I", Cond.fieldLink RX3 42 "MinedLedgerModel" "w" "[I", Cond.fieldLink RX3 39 "MinedLedgerModel" "half" "[I", Cond.methodLink RX3 133 yX3_mix, Cond.instanceMethod yX3_mix, Cond.selects RX3 yX3_mix yX3_mix, Cond.code yX3_mix cX3_mix 12 none, Cond.fieldLink RX3 30 "MinedLedgerModel" "add" "[I", Cond.methodLink RX3 129 yX3_turned, Cond.static yX3_turned, Cond.code yX3_turned cX3_turned 2 (some .int), Cond.methodLink RX3 166 yX3_mixSecond, Cond.instanceMethod yX3_mixSecond, Cond.selects RX3 yX3_mixSecond yX3_mixSecond, Cond.code yX3_mixSecond cX3_mixSecond 2 none, Cond.constant RX3 136 (-2147483648), Cond.methodLink RX3 169 yX3_zeros, Cond.instanceMethod yX3_zeros, Cond.selects RX3 yX3_zeros yX3_zeros, Cond.code yX3_zeros cX3_zeros 3 (some .int), Cond.methodLink RX3 137 yX3_zerosOf, Cond.static yX3_zerosOf]
def wsX3_audit_r3 : List Cond := [Cond.code yX3_zerosOf cX3_zerosOf 2 (some .int), Cond.methodLink RX3 209 yX3_isHeadRight, Cond.instanceMethod yX3_isHeadRight, Cond.selects RX3 yX3_isHeadRight yX3_isHeadRight, Cond.code yX3_isHeadRight cX3_isHeadRight 3 (some .boolean), Cond.fieldLink RX3 13 "MinedLedgerModel" "head" "[I"]
def wsX3_audit : List Cond := .code yX3_audit cX3_audit 3 (some .int) :: ((wsX3_audit_r1 ++ (wsX3_audit_r2 ++ wsX3_audit_r3)) ++ wsX30)
def wsX3_fault : List Cond := .code yX3_fault cX3_fault 1 (some .int) :: ([.fieldLink RX3 203 "MinedLedgerModel" "fault" "I"] ++ wsX30)
def wsX3_next : List Cond := .code yX3_next cX3_next 3 (some .int) :: ([.methodLink RX3 147 yX3_lowest, .static yX3_lowest, .initialized RX3, .code yX3_lowest cX3_lowest 1 (some .int)])
def wsX3_way : List Cond := .code yX3_way cX3_way 5 (some .int) :: ([.fieldLink RX3 141 "MinedLedgerModel" "count" "I", .methodLink RX3 213 yX3_next, .instanceMethod yX3_next, .selects RX3 yX3_next yX3_next, .initialized RX3, .code yX3_next cX3_next 3 (some .int), .methodLink RX3 147 yX3_lowest, .static yX3_lowest, .code yX3_lowest cX3_lowest 1 (some .int)] ++ wsX30)
def wsX3_prove : List Cond := .code yX3_prove cX3_prove 5 (some .int) :: ([.fieldLink RX3 141 "MinedLedgerModel" "count" "I", .fieldLink RX3 216 "MinedLedgerModel" "proofSize" "I", .fieldLink RX3 27 "MinedLedgerModel" "proof" "[I", .fieldLink RX3 7 "MinedLedgerModel" "cells" "[I", .methodLink RX3 213 yX3_next, .instanceMethod yX3_next, .selects RX3 yX3_next yX3_next, .initialized RX3, .code yX3_next cX3_next 3 (some .int), .methodLink RX3 147 yX3_lowest, .static yX3_lowest, .code yX3_lowest cX3_lowest 1 (some .int)] ++ wsX30)
def wsX3_proof : List Cond := .code yX3_proof cX3_proof 2 (some .int) :: ([.fieldLink RX3 216 "MinedLedgerModel" "proofSize" "I", .fieldLink RX3 27 "MinedLedgerModel" "proof" "[I"] ++ wsX30)
def wsX3_forge : List Cond := .code yX3_forge cX3_forge 4 (some .int) :: ([.fieldLink RX3 216 "MinedLedgerModel" "proofSize" "I", .fieldLink RX3 27 "MinedLedgerModel" "proof" "[I"] ++ wsX30)
def wsX3_check_r1 : List Cond := [Cond.fieldLink RX3 141 "MinedLedgerModel" "count" "I", Cond.fieldLink RX3 216 "MinedLedgerModel" "proofSize" "I", Cond.fieldLink RX3 45 "MinedLedgerModel" "entry" "[I", Cond.fieldLink RX3 27 "MinedLedgerModel" "proof" "[I", Cond.fieldLink RX3 36 "MinedLedgerModel" "h" "[I", Cond.fieldLink RX3 13 "MinedLedgerModel" "head" "[I", Cond.methodLink RX3 163 yX3_mixFirst, Cond.instanceMethod yX3_mixFirst, Cond.selects RX3 yX3_mixFirst yX3_mixFirst, Cond.initialized RX3, Cond.code yX3_mixFirst cX3_mixFirst 2 none, Cond.fieldLink RX3 33 "MinedLedgerModel" "begun" "[I", Cond.fieldLink RX3 42 "MinedLedgerModel" "w" "[I", Cond.fieldLink RX3 39 "MinedLedgerModel" "half" "[I", Cond.methodLink RX3 133 yX3_mix, Cond.instanceMethod yX3_mix, Cond.selects RX3 yX3_mix yX3_mix, Cond.code yX3_mix cX3_mix 12 none, Cond.fieldLink RX3 30 "MinedLedgerModel" "add" "[I", Cond.methodLink RX3 129 yX3_turned, Cond.static yX3_turned, Cond.code yX3_turned cX3_turned 2 (some .int), Cond.methodLink RX3 166 yX3_mixSecond, Cond.instanceMethod yX3_mixSecond]
def wsX3_check_r2 : List Cond := [Cond.selects RX3 yX3_mixSecond yX3_mixSecond, Cond.code yX3_mixSecond cX3_mixSecond 2 none, Cond.constant RX3 136 (-2147483648), Cond.methodLink RX3 213 yX3_next, Cond.instanceMethod yX3_next, Cond.selects RX3 yX3_next yX3_next, Cond.code yX3_next cX3_next 3 (some .int), Cond.methodLink RX3 147 yX3_lowest, Cond.static yX3_lowest, Cond.code yX3_lowest cX3_lowest 1 (some .int)]
def wsX3_check : List Cond := .code yX3_check cX3_check 8 (some .int) :: ((wsX3_check_r1 ++ wsX3_check_r2) ++ wsX30)
def wsJ9_max_7cf53 : List Cond := .code yJ9_max_7cf53 cJ9_max_7cf53 2 (some .int) :: ([])
def wsJ9_min_7cf53 : List Cond := .code yJ9_min_7cf53 cJ9_min_7cf53 2 (some .int) :: ([])
def wsL_cell : List Cond := .code yL_cell cL_cell 2 (some .int) :: ([])
def wsL_law_r1 : List Cond := [Cond.classLink RL 7 RX2, Cond.instantiable RX2 14, Cond.initialized RX2, Cond.classLink RL 18 RX3, Cond.instantiable RX3 19, Cond.initialized RX3, Cond.methodLink RL 9 yL_cell, Cond.static yL_cell, Cond.initialized RL, Cond.code yL_cell cL_cell 2 (some .int), Cond.methodLink RL 15 yX2_init, Cond.instanceMethod yX2_init, Cond.code yX2_init cX2_init 2 none, Cond.methodLink RX2 1 objectInit, Cond.instanceMethod objectInit, Cond.code objectInit ⟨#[0xb1]⟩ 1 none, Cond.classLink RX2 7 RX1, Cond.instantiable RX1 3, Cond.initialized RX1, Cond.fieldLink RX2 10 "MinedLedger" "hasher" "LMinedLedger$Hasher;", Cond.classLink RX2 16 RX0, Cond.instantiable RX0 1, Cond.initialized RX0, Cond.fieldLink RX2 19 "MinedLedger" "filter" "LMinedLedger$Filter;"]
def wsL_law_r2 : List Cond := [Cond.arrayClass .int, Cond.fieldLink RX2 23 "MinedLedger" "cells" "[I", Cond.fieldLink RX2 27 "MinedLedger" "headWords" "[I", Cond.fieldLink RX2 30 "MinedLedger" "draft" "[I", Cond.fieldLink RX2 33 "MinedLedger" "proofWords" "[I", Cond.fieldLink RX2 36 "MinedLedger" "entryCount" "I", Cond.fieldLink RX2 40 "MinedLedger" "wordCount" "I", Cond.methodLink RX2 43 Lib.Math.min.name, Cond.static Lib.Math.min.name, Cond.initialized "java/lang/Math", Cond.code Lib.Math.min.name Lib.Math.min.code 2 (some .int), Cond.methodLink RX2 49 Lib.Math.max.name, Cond.static Lib.Math.max.name, Cond.code Lib.Math.max.name Lib.Math.max.code 2 (some .int), Cond.fieldLink RX2 52 "MinedLedger" "zerosAsked" "I", Cond.fieldLink RX2 55 "MinedLedger" "triedCount" "I", Cond.fieldLink RX2 58 "MinedLedger" "keptNonce" "I", Cond.fieldLink RX2 61 "MinedLedger" "place" "I", Cond.fieldLink RX2 64 "MinedLedger" "latestFault" "I", Cond.fieldLink RX2 67 "MinedLedger" "proofLength" "I", Cond.instanceMethod yX1_init, Cond.code yX1_init cX1_init 1 none, Cond.methodLink RX1 3 objectInit, Cond.fieldLink RX1 9 "MinedLedger$Hasher" "middle" "[I"]
def wsL_law_r3 : List Cond := [Cond.fieldLink RX1 15 "MinedLedger$Hasher" "hash" "[I", Cond.fieldLink RX1 18 "MinedLedger$Hasher" "w" "[I", Cond.instanceMethod yX0_init, Cond.code yX0_init cX0_init 1 none, Cond.methodLink RX0 1 objectInit, Cond.fieldLink RX0 9 "MinedLedger$Filter" "bits" "[I", Cond.methodLink RL 20 yX3_init, Cond.instanceMethod yX3_init, Cond.code yX3_init cX3_init 2 none, Cond.methodLink RX3 1 objectInit, Cond.fieldLink RX3 7 "MinedLedgerModel" "cells" "[I", Cond.fieldLink RX3 13 "MinedLedgerModel" "head" "[I", Cond.fieldLink RX3 16 "MinedLedgerModel" "words" "[I", Cond.fieldLink RX3 19 "MinedLedgerModel" "kept" "I", Cond.arrayClass .boolean, Cond.fieldLink RX3 23 "MinedLedgerModel" "filter" "[Z", Cond.fieldLink RX3 27 "MinedLedgerModel" "proof" "[I", Cond.fieldLink RX3 30 "MinedLedgerModel" "add" "[I", Cond.fieldLink RX3 33 "MinedLedgerModel" "begun" "[I", Cond.fieldLink RX3 36 "MinedLedgerModel" "h" "[I", Cond.fieldLink RX3 39 "MinedLedgerModel" "half" "[I", Cond.fieldLink RX3 42 "MinedLedgerModel" "w" "[I", Cond.fieldLink RX3 45 "MinedLedgerModel" "entry" "[I", Cond.fieldLink RX3 48 "MinedLedgerModel" "difficulty" "I"]
def wsL_law_r4 : List Cond := [Cond.constant RX3 51 (1779033703), Cond.constant RX3 52 (-1150833019), Cond.constant RX3 53 (1013904242), Cond.constant RX3 54 (-1521486534), Cond.constant RX3 55 (1359893119), Cond.constant RX3 56 (-1694144372), Cond.constant RX3 57 (528734635), Cond.constant RX3 58 (1541459225), Cond.methodLink RX3 59 yX3_firstHalf, Cond.instanceMethod yX3_firstHalf, Cond.selects RX3 yX3_firstHalf yX3_firstHalf, Cond.code yX3_firstHalf cX3_firstHalf 1 none, Cond.constant RX3 65 (1116352408), Cond.constant RX3 66 (1899447441), Cond.constant RX3 67 (-1245643825), Cond.constant RX3 68 (-373957723), Cond.constant RX3 69 (961987163), Cond.constant RX3 70 (1508970993), Cond.constant RX3 71 (-1841331548), Cond.constant RX3 72 (-1424204075), Cond.constant RX3 73 (-670586216), Cond.constant RX3 74 (310598401), Cond.constant RX3 75 (607225278), Cond.constant RX3 76 (1426881987)]
def wsL_law_r5 : List Cond := [Cond.constant RX3 77 (1925078388), Cond.constant RX3 78 (-2132889090), Cond.constant RX3 79 (-1680079193), Cond.constant RX3 80 (-1046744716), Cond.constant RX3 81 (-459576895), Cond.constant RX3 82 (-272742522), Cond.constant RX3 83 (264347078), Cond.constant RX3 84 (604807628), Cond.constant RX3 85 (770255983), Cond.constant RX3 86 (1249150122), Cond.constant RX3 87 (1555081692), Cond.constant RX3 88 (1996064986), Cond.constant RX3 89 (-1740746414), Cond.constant RX3 90 (-1473132947), Cond.constant RX3 91 (-1341970488), Cond.constant RX3 92 (-1084653625), Cond.constant RX3 93 (-958395405), Cond.constant RX3 94 (-710438585), Cond.constant RX3 95 (113926993), Cond.constant RX3 96 (338241895), Cond.methodLink RX3 62 yX3_secondHalf, Cond.instanceMethod yX3_secondHalf, Cond.selects RX3 yX3_secondHalf yX3_secondHalf, Cond.code yX3_secondHalf cX3_secondHalf 1 none]
def wsL_law_r6 : List Cond := [Cond.constant RX3 97 (666307205), Cond.constant RX3 98 (773529912), Cond.constant RX3 99 (1294757372), Cond.constant RX3 100 (1396182291), Cond.constant RX3 101 (1695183700), Cond.constant RX3 102 (1986661051), Cond.constant RX3 103 (-2117940946), Cond.constant RX3 104 (-1838011259), Cond.constant RX3 105 (-1564481375), Cond.constant RX3 106 (-1474664885), Cond.constant RX3 107 (-1035236496), Cond.constant RX3 108 (-949202525), Cond.constant RX3 109 (-778901479), Cond.constant RX3 110 (-694614492), Cond.constant RX3 111 (-200395387), Cond.constant RX3 112 (275423344), Cond.constant RX3 113 (430227734), Cond.constant RX3 114 (506948616), Cond.constant RX3 115 (659060556), Cond.constant RX3 116 (883997877), Cond.constant RX3 117 (958139571), Cond.constant RX3 118 (1322822218), Cond.constant RX3 119 (1537002063), Cond.constant RX3 120 (1747873779)]
def wsL_law_r7 : List Cond := [Cond.constant RX3 121 (1955562222), Cond.constant RX3 122 (2024104815), Cond.constant RX3 123 (-2067236844), Cond.constant RX3 124 (-1933114872), Cond.constant RX3 125 (-1866530822), Cond.constant RX3 126 (-1538233109), Cond.constant RX3 127 (-1090935817), Cond.constant RX3 128 (-965641998), Cond.methodLink RL 21 yX2_put, Cond.instanceMethod yX2_put, Cond.selects RX2 yX2_put yX2_put, Cond.code yX2_put cX2_put 2 (some .int), Cond.methodLink RX2 70 yX2_forgetNonces, Cond.instanceMethod yX2_forgetNonces, Cond.selects RX2 yX2_forgetNonces yX2_forgetNonces, Cond.code yX2_forgetNonces cX2_forgetNonces 1 none, Cond.methodLink RL 25 yX3_put, Cond.instanceMethod yX3_put, Cond.selects RX3 yX3_put yX3_put, Cond.code yX3_put cX3_put 2 (some .int), Cond.fieldLink RX3 150 "MinedLedgerModel" "wordCount" "I", Cond.methodLink RX3 156 yX3_forget, Cond.instanceMethod yX3_forget, Cond.selects RX3 yX3_forget yX3_forget]
def wsL_law_r8 : List Cond := [Cond.code yX3_forget cX3_forget 1 none, Cond.fieldLink RX3 153 "MinedLedgerModel" "tried" "I", Cond.methodLink RL 26 yX2_takeBack, Cond.instanceMethod yX2_takeBack, Cond.selects RX2 yX2_takeBack yX2_takeBack, Cond.code yX2_takeBack cX2_takeBack 2 (some .int), Cond.methodLink RX2 73 yX2_clearWordsFrom, Cond.instanceMethod yX2_clearWordsFrom, Cond.selects RX2 yX2_clearWordsFrom yX2_clearWordsFrom, Cond.code yX2_clearWordsFrom cX2_clearWordsFrom 2 none, Cond.methodLink RX2 93 yJ7_fill_fda19, Cond.static yJ7_fill_fda19, Cond.initialized RJ7, Cond.code yJ7_fill_fda19 cJ7_fill_fda19 5 none, Cond.methodLink RJ7 13 yJ7_rangeCheck_23922, Cond.static yJ7_rangeCheck_23922, Cond.code yJ7_rangeCheck_23922 cJ7_rangeCheck_23922 3 none, Cond.methodLink RL 29 yX3_takeBack, Cond.instanceMethod yX3_takeBack, Cond.selects RX3 yX3_takeBack yX3_takeBack, Cond.code yX3_takeBack cX3_takeBack 2 (some .int), Cond.methodLink RL 30 yX2_pending, Cond.instanceMethod yX2_pending, Cond.selects RX2 yX2_pending yX2_pending]
def wsL_law_r9 : List Cond := [Cond.code yX2_pending cX2_pending 2 (some .int), Cond.methodLink RL 33 yX3_pending, Cond.instanceMethod yX3_pending, Cond.selects RX3 yX3_pending yX3_pending, Cond.code yX3_pending cX3_pending 2 (some .int), Cond.methodLink RL 34 yX2_difficulty, Cond.instanceMethod yX2_difficulty, Cond.selects RX2 yX2_difficulty yX2_difficulty, Cond.code yX2_difficulty cX2_difficulty 3 (some .int), Cond.methodLink RL 37 yX3_difficulty, Cond.instanceMethod yX3_difficulty, Cond.selects RX3 yX3_difficulty yX3_difficulty, Cond.code yX3_difficulty cX3_difficulty 3 (some .int), Cond.methodLink RL 38 yX2_mine, Cond.instanceMethod yX2_mine, Cond.selects RX2 yX2_mine yX2_mine, Cond.code yX2_mine cX2_mine 2 (some .int), Cond.constant RX2 77 (100000), Cond.methodLink RX2 78 yX2_fillDraft, Cond.instanceMethod yX2_fillDraft, Cond.selects RX2 yX2_fillDraft yX2_fillDraft, Cond.code yX2_fillDraft cX2_fillDraft 1 none, Cond.methodLink RX2 99 yX2_copyHashOf, Cond.instanceMethod yX2_copyHashOf]
def wsL_law_r10 : List Cond := [Cond.selects RX2 yX2_copyHashOf yX2_copyHashOf, Cond.code yX2_copyHashOf cX2_copyHashOf 3 none, Cond.methodLink RX2 84 arraycopyName, Cond.native arraycopyName, Cond.static arraycopyName, Cond.initialized "java/lang/System", Cond.methodLink RX2 107 yX2_hasEntry, Cond.instanceMethod yX2_hasEntry, Cond.selects RX2 yX2_hasEntry yX2_hasEntry, Cond.code yX2_hasEntry cX2_hasEntry 2 (some .boolean), Cond.methodLink RX2 103 yX2_skipOf, Cond.static yX2_skipOf, Cond.code yX2_skipOf cX2_skipOf 1 (some .int), Cond.methodLink RX2 81 yX2_tryNonces, Cond.instanceMethod yX2_tryNonces, Cond.selects RX2 yX2_tryNonces yX2_tryNonces, Cond.code yX2_tryNonces cX2_tryNonces 3 none, Cond.methodLink RX2 111 yX1_takeFirst, Cond.instanceMethod yX1_takeFirst, Cond.selects RX1 yX1_takeFirst yX1_takeFirst, Cond.code yX1_takeFirst cX1_takeFirst 3 none, Cond.fieldLink RX1 28 "MinedLedger$Hasher" "START" "[I", Cond.methodLink RX1 31 arraycopyName, Cond.methodLink RX1 37 yX1_mixInto]
def wsL_law_r11 : List Cond := [Cond.instanceMethod yX1_mixInto, Cond.selects RX1 yX1_mixInto yX1_mixInto, Cond.code yX1_mixInto cX1_mixInto 13 none, Cond.fieldLink RX1 61 "MinedLedger$Hasher" "K" "[I", Cond.methodLink RX1 54 yX1_spread, Cond.instanceMethod yX1_spread, Cond.selects RX1 yX1_spread yX1_spread, Cond.code yX1_spread cX1_spread 4 none, Cond.static yX2_right, Cond.code yX2_right cX2_right 2 (some .int), Cond.methodLink RX2 115 yX1_takeRest, Cond.instanceMethod yX1_takeRest, Cond.selects RX1 yX1_takeRest yX1_takeRest, Cond.code yX1_takeRest cX1_takeRest 4 none, Cond.constant RX1 41 (-2147483648), Cond.methodLink RX1 42 yJ7_fill_fda19, Cond.methodLink RX2 118 yX1_zeros, Cond.instanceMethod yX1_zeros, Cond.selects RX1 yX1_zeros yX1_zeros, Cond.code yX1_zeros cX1_zeros 2 (some .int), Cond.methodLink RX1 48 yJ6_numberOfLeadingZeros_0f7a4, Cond.static yJ6_numberOfLeadingZeros_0f7a4, Cond.initialized RJ6, Cond.code yJ6_numberOfLeadingZeros_0f7a4 cJ6_numberOfLeadingZeros_0f7a4 2 (some .int)]
def wsL_law_r12 : List Cond := [Cond.constant RJ6 264 (65536), Cond.methodLink RX2 122 yX1_copyTo, Cond.instanceMethod yX1_copyTo, Cond.selects RX1 yX1_copyTo yX1_copyTo, Cond.code yX1_copyTo cX1_copyTo 3 none, Cond.methodLink RL 41 yX3_mine, Cond.instanceMethod yX3_mine, Cond.selects RX3 yX3_mine yX3_mine, Cond.code yX3_mine cX3_mine 3 (some .int), Cond.constant RX3 159 (100000), Cond.methodLink RX3 160 yX3_draft, Cond.instanceMethod yX3_draft, Cond.selects RX3 yX3_draft yX3_draft, Cond.code yX3_draft cX3_draft 2 none, Cond.fieldLink RX3 141 "MinedLedgerModel" "count" "I", Cond.methodLink RX3 144 yX3_hashCell, Cond.instanceMethod yX3_hashCell, Cond.selects RX3 yX3_hashCell yX3_hashCell, Cond.code yX3_hashCell cX3_hashCell 3 (some .int), Cond.methodLink RX3 147 yX3_lowest, Cond.static yX3_lowest, Cond.code yX3_lowest cX3_lowest 1 (some .int), Cond.methodLink RX3 163 yX3_mixFirst, Cond.instanceMethod yX3_mixFirst]
def wsL_law_r13 : List Cond := [Cond.selects RX3 yX3_mixFirst yX3_mixFirst, Cond.code yX3_mixFirst cX3_mixFirst 2 none, Cond.methodLink RX3 133 yX3_mix, Cond.instanceMethod yX3_mix, Cond.selects RX3 yX3_mix yX3_mix, Cond.code yX3_mix cX3_mix 12 none, Cond.methodLink RX3 129 yX3_turned, Cond.static yX3_turned, Cond.code yX3_turned cX3_turned 2 (some .int), Cond.methodLink RX3 166 yX3_mixSecond, Cond.instanceMethod yX3_mixSecond, Cond.selects RX3 yX3_mixSecond yX3_mixSecond, Cond.code yX3_mixSecond cX3_mixSecond 2 none, Cond.constant RX3 136 (-2147483648), Cond.methodLink RX3 169 yX3_zeros, Cond.instanceMethod yX3_zeros, Cond.selects RX3 yX3_zeros yX3_zeros, Cond.code yX3_zeros cX3_zeros 3 (some .int), Cond.methodLink RX3 137 yX3_zerosOf, Cond.static yX3_zerosOf, Cond.code yX3_zerosOf cX3_zerosOf 2 (some .int), Cond.methodLink RL 42 yX2_tried, Cond.instanceMethod yX2_tried, Cond.selects RX2 yX2_tried yX2_tried]
def wsL_law_r14 : List Cond := [Cond.code yX2_tried cX2_tried 1 (some .int), Cond.methodLink RL 46 yX3_tried, Cond.instanceMethod yX3_tried, Cond.selects RX3 yX3_tried yX3_tried, Cond.code yX3_tried cX3_tried 1 (some .int), Cond.methodLink RL 47 yX2_commit, Cond.instanceMethod yX2_commit, Cond.selects RX2 yX2_commit yX2_commit, Cond.code yX2_commit cX2_commit 2 (some .int), Cond.methodLink RX2 90 yX2_addToFilter, Cond.instanceMethod yX2_addToFilter, Cond.selects RX2 yX2_addToFilter yX2_addToFilter, Cond.code yX2_addToFilter cX2_addToFilter 4 none, Cond.methodLink RX2 141 yX0_include, Cond.instanceMethod yX0_include, Cond.selects RX0 yX0_include yX0_include, Cond.code yX0_include cX0_include 4 none, Cond.methodLink RX0 19 yX0_bitOf, Cond.static yX0_bitOf, Cond.code yX0_bitOf cX0_bitOf 2 (some .int), Cond.constant RX0 26 (-1756908916), Cond.methodLink RX0 23 yX0_stirred, Cond.static yX0_stirred, Cond.code yX0_stirred cX0_stirred 4 (some .int)]
def wsL_law_r15 : List Cond := [Cond.constant RX0 27 (-862048943), Cond.constant RX0 33 (461845907), Cond.constant RX0 34 (-430675100), Cond.constant RX0 35 (-2048144789), Cond.constant RX0 36 (-1028477387), Cond.methodLink RL 50 yX3_commit, Cond.instanceMethod yX3_commit, Cond.selects RX3 yX3_commit yX3_commit, Cond.code yX3_commit cX3_commit 2 (some .int), Cond.methodLink RX3 173 yX3_setBits, Cond.instanceMethod yX3_setBits, Cond.selects RX3 yX3_setBits yX3_setBits, Cond.code yX3_setBits cX3_setBits 4 none, Cond.methodLink RX3 193 yX3_bit, Cond.instanceMethod yX3_bit, Cond.selects RX3 yX3_bit yX3_bit, Cond.code yX3_bit cX3_bit 3 (some .int), Cond.constant RX3 192 (-1756908916), Cond.methodLink RX3 189 yX3_stir, Cond.instanceMethod yX3_stir, Cond.selects RX3 yX3_stir yX3_stir, Cond.code yX3_stir cX3_stir 5 (some .int), Cond.constant RX3 184 (-862048943), Cond.constant RX3 185 (461845907)]
def wsL_law_r16 : List Cond := [Cond.constant RX3 186 (-430675100), Cond.constant RX3 187 (-2048144789), Cond.constant RX3 188 (-1028477387), Cond.methodLink RL 51 yX2_count, Cond.instanceMethod yX2_count, Cond.selects RX2 yX2_count yX2_count, Cond.code yX2_count cX2_count 1 (some .int), Cond.methodLink RL 54 yX3_count, Cond.instanceMethod yX3_count, Cond.selects RX3 yX3_count yX3_count, Cond.code yX3_count cX3_count 1 (some .int), Cond.methodLink RL 55 yX2_head, Cond.instanceMethod yX2_head, Cond.selects RX2 yX2_head yX2_head, Cond.code yX2_head cX2_head 2 (some .int), Cond.methodLink RL 58 yX3_head, Cond.instanceMethod yX3_head, Cond.selects RX3 yX3_head yX3_head, Cond.code yX3_head cX3_head 2 (some .int), Cond.methodLink RL 59 yX2_cell, Cond.instanceMethod yX2_cell, Cond.selects RX2 yX2_cell yX2_cell, Cond.code yX2_cell cX2_cell 3 (some .int), Cond.methodLink RX2 125 yX2_hasCell]
def wsL_law_r17 : List Cond := [Cond.instanceMethod yX2_hasCell, Cond.selects RX2 yX2_hasCell yX2_hasCell, Cond.code yX2_hasCell cX2_hasCell 3 (some .boolean), Cond.methodLink RL 62 yX3_cell, Cond.instanceMethod yX3_cell, Cond.selects RX3 yX3_cell yX3_cell, Cond.code yX3_cell cX3_cell 3 (some .int), Cond.methodLink RX3 177 yX3_isCell, Cond.instanceMethod yX3_isCell, Cond.selects RX3 yX3_isCell yX3_isCell, Cond.code yX3_isCell cX3_isCell 3 (some .boolean), Cond.methodLink RL 63 yX2_spoil, Cond.instanceMethod yX2_spoil, Cond.selects RX2 yX2_spoil yX2_spoil, Cond.code yX2_spoil cX2_spoil 5 (some .int), Cond.methodLink RL 67 yX3_spoil, Cond.instanceMethod yX3_spoil, Cond.selects RX3 yX3_spoil yX3_spoil, Cond.code yX3_spoil cX3_spoil 5 (some .int), Cond.methodLink RL 68 yX2_drop, Cond.instanceMethod yX2_drop, Cond.selects RX2 yX2_drop yX2_drop, Cond.code yX2_drop cX2_drop 1 (some .int), Cond.methodLink RX2 129 yX2_remakeFilter]
def wsL_law_r18 : List Cond := [Cond.instanceMethod yX2_remakeFilter, Cond.selects RX2 yX2_remakeFilter yX2_remakeFilter, Cond.code yX2_remakeFilter cX2_remakeFilter 2 none, Cond.methodLink RX2 144 yX0_clear, Cond.instanceMethod yX0_clear, Cond.selects RX0 yX0_clear yX0_clear, Cond.code yX0_clear cX0_clear 1 none, Cond.methodLink RX0 13 yJ7_fill_53178, Cond.static yJ7_fill_53178, Cond.code yJ7_fill_53178 cJ7_fill_53178 4 none, Cond.methodLink RL 71 yX3_drop, Cond.instanceMethod yX3_drop, Cond.selects RX3 yX3_drop yX3_drop, Cond.code yX3_drop cX3_drop 2 (some .int), Cond.fieldLink RX3 181 "MinedLedgerModel" "place" "I", Cond.methodLink RL 72 yX2_may, Cond.instanceMethod yX2_may, Cond.selects RX2 yX2_may yX2_may, Cond.code yX2_may cX2_may 2 (some .int), Cond.methodLink RX2 132 yX0_mayHave, Cond.instanceMethod yX0_mayHave, Cond.selects RX0 yX0_mayHave yX0_mayHave, Cond.code yX0_mayHave cX0_mayHave 4 (some .boolean), Cond.methodLink RL 75 yX3_may]
def wsL_law_r19 : List Cond := [Cond.instanceMethod yX3_may, Cond.selects RX3 yX3_may yX3_may, Cond.code yX3_may cX3_may 2 (some .int), Cond.methodLink RX3 196 yX3_maybe, Cond.instanceMethod yX3_maybe, Cond.selects RX3 yX3_maybe yX3_maybe, Cond.code yX3_maybe cX3_maybe 4 (some .boolean), Cond.methodLink RL 76 yX2_find, Cond.instanceMethod yX2_find, Cond.selects RX2 yX2_find yX2_find, Cond.code yX2_find cX2_find 3 (some .int), Cond.methodLink RX2 135 yX2_hasWord, Cond.instanceMethod yX2_hasWord, Cond.selects RX2 yX2_hasWord yX2_hasWord, Cond.code yX2_hasWord cX2_hasWord 5 (some .boolean), Cond.methodLink RL 79 yX3_find, Cond.instanceMethod yX3_find, Cond.selects RX3 yX3_find yX3_find, Cond.code yX3_find cX3_find 4 (some .int), Cond.methodLink RL 80 yX2_stir, Cond.instanceMethod yX2_stir, Cond.selects RX2 yX2_stir yX2_stir, Cond.code yX2_stir cX2_stir 3 (some .int), Cond.methodLink RX2 138 yX0_stirred]
def wsL_law_r20 : List Cond := [Cond.methodLink RL 83 yX3_stir, Cond.methodLink RL 84 yX2_begin, Cond.instanceMethod yX2_begin, Cond.selects RX2 yX2_begin yX2_begin, Cond.code yX2_begin cX2_begin 2 (some .int), Cond.methodLink RL 87 yX3_begin, Cond.instanceMethod yX3_begin, Cond.selects RX3 yX3_begin yX3_begin, Cond.code yX3_begin cX3_begin 2 (some .int), Cond.methodLink RL 88 yX2_audit, Cond.instanceMethod yX2_audit, Cond.selects RX2 yX2_audit yX2_audit, Cond.code yX2_audit cX2_audit 3 (some .int), Cond.methodLink RX2 147 yX2_auditHead, Cond.instanceMethod yX2_auditHead, Cond.selects RX2 yX2_auditHead yX2_auditHead, Cond.code yX2_auditHead cX2_auditHead 1 (some .int), Cond.methodLink RX2 153 yX2_isHashOf, Cond.instanceMethod yX2_isHashOf, Cond.selects RX2 yX2_isHashOf yX2_isHashOf, Cond.code yX2_isHashOf cX2_isHashOf 7 (some .boolean), Cond.methodLink RX2 150 yX2_faultOf, Cond.instanceMethod yX2_faultOf, Cond.selects RX2 yX2_faultOf yX2_faultOf]
def wsL_law_r21 : List Cond := [Cond.code yX2_faultOf cX2_faultOf 3 (some .int), Cond.methodLink RX2 157 yX1_takeAll, Cond.instanceMethod yX1_takeAll, Cond.selects RX1 yX1_takeAll yX1_takeAll, Cond.code yX1_takeAll cX1_takeAll 3 none, Cond.methodLink RX1 21 yX1_takeFirst, Cond.methodLink RX1 25 yX1_takeRest, Cond.methodLink RX2 160 yX1_isAt, Cond.instanceMethod yX1_isAt, Cond.selects RX1 yX1_isAt yX1_isAt, Cond.code yX1_isAt cX1_isAt 4 (some .boolean), Cond.methodLink RL 91 yX3_audit, Cond.instanceMethod yX3_audit, Cond.selects RX3 yX3_audit yX3_audit, Cond.code yX3_audit cX3_audit 3 (some .int), Cond.fieldLink RX3 203 "MinedLedgerModel" "fault" "I", Cond.methodLink RX3 206 yX3_faultOf, Cond.instanceMethod yX3_faultOf, Cond.selects RX3 yX3_faultOf yX3_faultOf, Cond.code yX3_faultOf cX3_faultOf 3 (some .int), Cond.methodLink RX3 200 yX3_isHashOf, Cond.instanceMethod yX3_isHashOf, Cond.selects RX3 yX3_isHashOf yX3_isHashOf, Cond.code yX3_isHashOf cX3_isHashOf 5 (some .boolean)]
def wsL_law_r22 : List Cond := [Cond.methodLink RX3 209 yX3_isHeadRight, Cond.instanceMethod yX3_isHeadRight, Cond.selects RX3 yX3_isHeadRight yX3_isHeadRight, Cond.code yX3_isHeadRight cX3_isHeadRight 3 (some .boolean), Cond.methodLink RL 92 yX2_fault, Cond.instanceMethod yX2_fault, Cond.selects RX2 yX2_fault yX2_fault, Cond.code yX2_fault cX2_fault 1 (some .int), Cond.methodLink RL 95 yX3_fault, Cond.instanceMethod yX3_fault, Cond.selects RX3 yX3_fault yX3_fault, Cond.code yX3_fault cX3_fault 1 (some .int), Cond.methodLink RL 96 yX2_way, Cond.instanceMethod yX2_way, Cond.selects RX2 yX2_way yX2_way, Cond.code yX2_way cX2_way 5 (some .int), Cond.methodLink RX2 164 yX2_levelsTo, Cond.instanceMethod yX2_levelsTo, Cond.selects RX2 yX2_levelsTo yX2_levelsTo, Cond.code yX2_levelsTo cX2_levelsTo 4 (some .int), Cond.methodLink RX2 167 yX2_nextOnWay, Cond.static yX2_nextOnWay, Cond.code yX2_nextOnWay cX2_nextOnWay 2 (some .int), Cond.methodLink RX2 173 yX2_goesBySkip]
def wsL_law_r23 : List Cond := [Cond.static yX2_goesBySkip, Cond.code yX2_goesBySkip cX2_goesBySkip 2 (some .boolean), Cond.methodLink RL 99 yX3_way, Cond.instanceMethod yX3_way, Cond.selects RX3 yX3_way yX3_way, Cond.code yX3_way cX3_way 5 (some .int), Cond.methodLink RX3 213 yX3_next, Cond.instanceMethod yX3_next, Cond.selects RX3 yX3_next yX3_next, Cond.code yX3_next cX3_next 3 (some .int), Cond.methodLink RL 100 yX2_prove, Cond.instanceMethod yX2_prove, Cond.selects RX2 yX2_prove yX2_prove, Cond.code yX2_prove cX2_prove 5 (some .int), Cond.methodLink RL 103 yX3_prove, Cond.instanceMethod yX3_prove, Cond.selects RX3 yX3_prove yX3_prove, Cond.code yX3_prove cX3_prove 5 (some .int), Cond.fieldLink RX3 216 "MinedLedgerModel" "proofSize" "I", Cond.methodLink RL 104 yX2_proof, Cond.instanceMethod yX2_proof, Cond.selects RX2 yX2_proof yX2_proof, Cond.code yX2_proof cX2_proof 2 (some .int), Cond.methodLink RL 107 yX3_proof]
def wsL_law_r24 : List Cond := [Cond.instanceMethod yX3_proof, Cond.selects RX3 yX3_proof yX3_proof, Cond.code yX3_proof cX3_proof 2 (some .int), Cond.methodLink RL 108 yX2_forge, Cond.instanceMethod yX2_forge, Cond.selects RX2 yX2_forge yX2_forge, Cond.code yX2_forge cX2_forge 4 (some .int), Cond.methodLink RL 111 yX3_forge, Cond.instanceMethod yX3_forge, Cond.selects RX3 yX3_forge yX3_forge, Cond.code yX3_forge cX3_forge 4 (some .int), Cond.methodLink RL 112 yX2_check, Cond.instanceMethod yX2_check, Cond.selects RX2 yX2_check yX2_check, Cond.code yX2_check cX2_check 2 (some .int), Cond.methodLink RX2 170 yX2_proofHolds, Cond.instanceMethod yX2_proofHolds, Cond.selects RX2 yX2_proofHolds yX2_proofHolds, Cond.code yX2_proofHolds cX2_proofHolds 7 (some .boolean), Cond.methodLink RL 115 yX3_check, Cond.instanceMethod yX3_check, Cond.selects RX3 yX3_check yX3_check, Cond.code yX3_check cX3_check 8 (some .int)]
def wsL_law : List Cond := (wsL_law_r1 ++ (wsL_law_r2 ++ (wsL_law_r3 ++ (wsL_law_r4 ++ (wsL_law_r5 ++ (wsL_law_r6 ++ (wsL_law_r7 ++ (wsL_law_r8 ++ (wsL_law_r9 ++ (wsL_law_r10 ++ (wsL_law_r11 ++ (wsL_law_r12 ++ (wsL_law_r13 ++ (wsL_law_r14 ++ (wsL_law_r15 ++ (wsL_law_r16 ++ (wsL_law_r17 ++ (wsL_law_r18 ++ (wsL_law_r19 ++ (wsL_law_r20 ++ (wsL_law_r21 ++ (wsL_law_r22 ++ (wsL_law_r23 ++ wsL_law_r24))))))))))))))))))))))) ++ wsX20 ++ wsX30 ++ wsX10 ++ wsX00 ++ ([] : List Cond)
set_option maxRecDepth 20000 in
theorem wsL_law_in : ∀ w ∈ wsL_law, w ∈ lw_tbl := fun w h => (goodIn_p wsL_law [377, 47, 50, 80, 83, 55, 72, 382, 395, 431, 130, 134, 526, 530, 138, 142, 145, 148, 534, 152, 538, 156, 542, 160, 165, 169, 173, 179, 183, 187, 194, 198, 201, 207, 213, 216, 221, 546, 551, 555, 558, 562, 566, 569, 573, 578, 581, 225, 585, 229, 233, 237, 240, 243, 589, 593, 597, 601, 254, 611, 258, 615, 262, 266, 619, 623, 270, 627, 274, 278, 282, 285, 631, 289, 293, 636, 640, 297, 301, 644, 305, 310, 648, 314, 318, 322, 326, 330, 336, 652, 656, 660, 664, 340, 668, 344, 348, 351, 354, 672, 676, 358, 680, 362, 684, 366, 688, 370, 374, 692] (by decide +kernel) (by decide +kernel) w h).1
theorem inlX0 : ∀ w ∈ wsX00, w ∈ wsL_law := fun _ h => List.mem_append_left _ (List.mem_append_right _ h)
theorem inX0 : ∀ w ∈ wsX00, w ∈ lw_tbl := fun w h => wsL_law_in w (inlX0 w h)
theorem inlX1 : ∀ w ∈ wsX10, w ∈ wsL_law := fun _ h => List.mem_append_left _ (List.mem_append_left _ (List.mem_append_right _ h))
theorem inX1 : ∀ w ∈ wsX10, w ∈ lw_tbl := fun w h => wsL_law_in w (inlX1 w h)
theorem inlX2 : ∀ w ∈ wsX20, w ∈ wsL_law := fun _ h => List.mem_append_left _ (List.mem_append_left _ (List.mem_append_left _ (List.mem_append_left _ (List.mem_append_right _ h))))
theorem inX2 : ∀ w ∈ wsX20, w ∈ lw_tbl := fun w h => wsL_law_in w (inlX2 w h)
theorem inlX3 : ∀ w ∈ wsX30, w ∈ wsL_law := fun _ h => List.mem_append_left _ (List.mem_append_left _ (List.mem_append_left _ (List.mem_append_right _ h)))
theorem inX3 : ∀ w ∈ wsX30, w ∈ lw_tbl := fun w h => wsL_law_in w (inlX3 w h)
theorem inJ6 : ∀ w ∈ wsJ60, w ∈ lw_tbl := by decide +kernel
theorem inJ9 : ∀ w ∈ wsJ90, w ∈ lw_tbl := by decide +kernel
theorem inJ10 : ∀ w ∈ wsJ100, w ∈ lw_tbl := by decide +kernel
theorem inJ7 : ∀ w ∈ wsJ70, w ∈ lw_tbl := by decide +kernel
theorem dX0_init_0 : decode cX0_init 0 = .ok (.aload_n 0, 1) := by decide +kernel
theorem dX0_init_1 : decode cX0_init 1 = .ok (.invokespecial 1, 3) := by decide +kernel
theorem dX0_init_4 : decode cX0_init 4 = .ok (.aload_n 0, 1) := by decide +kernel
theorem dX0_init_5 : decode cX0_init 5 = .ok (.bipush 32, 2) := by decide +kernel
theorem dX0_init_7 : decode cX0_init 7 = .ok (.newarray .int, 2) := by decide +kernel
theorem dX0_init_9 : decode cX0_init 9 = .ok (.putfield 9, 3) := by decide +kernel
theorem dX0_init_12 : decode cX0_init 12 = .ok (.return_, 1) := by decide +kernel
set_option maxRecDepth 20000 in
theorem ggX0_clear_J7_fill_53178 : GoodIn wsX0_clear wsJ7_fill_53178 := goodIn_r _ [5] (by decide +kernel) (by decide +kernel)
set_option maxRecDepth 20000 in
theorem gX0_clear_J7_fill_53178 : GoodIn wsX0_clear (va_wsS RX0 13 yJ7_fill_53178 wsJ7_fill_53178) := goodIn_app (goodIn_of _ (by decide +kernel)) ggX0_clear_J7_fill_53178
theorem dX0_clear_0 : decode cX0_clear 0 = .ok (.aload_n 0, 1) := by decide +kernel
theorem dX0_clear_1 : decode cX0_clear 1 = .ok (.getfield 9, 3) := by decide +kernel
theorem dX0_clear_4 : decode cX0_clear 4 = .ok (.iconst 0, 1) := by decide +kernel
theorem dX0_clear_5 : decode cX0_clear 5 = .ok (.invokestatic 13, 3) := by decide +kernel
theorem dX0_clear_8 : decode cX0_clear 8 = .ok (.return_, 1) := by decide +kernel
set_option maxRecDepth 20000 in
theorem ggX0_include_X0_bitOf : GoodIn wsX0_include wsX0_bitOf := goodIn_r _ [5, 6, 7, 8, 4, 9, 10, 11, 12, 13, 14, 15, 16, 17] (by decide +kernel) (by decide +kernel)
set_option maxRecDepth 20000 in
theorem gX0_include_X0_bitOf : GoodIn wsX0_include (va_wsS RX0 19 yX0_bitOf wsX0_bitOf) := goodIn_app (goodIn_of _ (by decide +kernel)) ggX0_include_X0_bitOf
theorem dX0_include_0 : decode cX0_include 0 = .ok (.iconst 0, 1) := by decide +kernel
theorem dX0_include_1 : decode cX0_include 1 = .ok (.istore_n 2, 1) := by decide +kernel
theorem dX0_include_2 : decode cX0_include 2 = .ok (.iload_n 2, 1) := by decide +kernel
theorem dX0_include_3 : decode cX0_include 3 = .ok (.iconst 4, 1) := by decide +kernel
theorem dX0_include_4 : decode cX0_include 4 = .ok (.if_icmp .ge 32, 3) := by decide +kernel
theorem dX0_include_7 : decode cX0_include 7 = .ok (.iload_n 1, 1) := by decide +kernel
theorem dX0_include_8 : decode cX0_include 8 = .ok (.iload_n 2, 1) := by decide +kernel
theorem dX0_include_9 : decode cX0_include 9 = .ok (.invokestatic 19, 3) := by decide +kernel
theorem dX0_include_12 : decode cX0_include 12 = .ok (.istore_n 3, 1) := by decide +kernel
theorem dX0_include_13 : decode cX0_include 13 = .ok (.aload_n 0, 1) := by decide +kernel
theorem dX0_include_14 : decode cX0_include 14 = .ok (.getfield 9, 3) := by decide +kernel
theorem dX0_include_17 : decode cX0_include 17 = .ok (.iload_n 3, 1) := by decide +kernel
theorem dX0_include_18 : decode cX0_include 18 = .ok (.iconst 5, 1) := by decide +kernel
theorem dX0_include_19 : decode cX0_include 19 = .ok (.iushr, 1) := by decide +kernel
theorem dX0_include_20 : decode cX0_include 20 = .ok (.dup2, 1) := by decide +kernel
theorem dX0_include_21 : decode cX0_include 21 = .ok (.iaload, 1) := by decide +kernel
theorem dX0_include_22 : decode cX0_include 22 = .ok (.iconst 1, 1) := by decide +kernel
theorem dX0_include_23 : decode cX0_include 23 = .ok (.iload_n 3, 1) := by decide +kernel
theorem dX0_include_24 : decode cX0_include 24 = .ok (.bipush 31, 2) := by decide +kernel
theorem dX0_include_26 : decode cX0_include 26 = .ok (.iand, 1) := by decide +kernel
theorem dX0_include_27 : decode cX0_include 27 = .ok (.ishl, 1) := by decide +kernel
theorem dX0_include_28 : decode cX0_include 28 = .ok (.ior, 1) := by decide +kernel
theorem dX0_include_29 : decode cX0_include 29 = .ok (.iastore, 1) := by decide +kernel
theorem dX0_include_30 : decode cX0_include 30 = .ok (.iinc 2 1, 3) := by decide +kernel
theorem dX0_include_33 : decode cX0_include 33 = .ok (.goto (-31), 3) := by decide +kernel
theorem dX0_include_36 : decode cX0_include 36 = .ok (.return_, 1) := by decide +kernel
set_option maxRecDepth 20000 in
theorem ggX0_mayHave_X0_bitOf : GoodIn wsX0_mayHave wsX0_bitOf := goodIn_r _ [5, 6, 7, 8, 4, 9, 10, 11, 12, 13, 14, 15, 16, 17] (by decide +kernel) (by decide +kernel)
set_option maxRecDepth 20000 in
theorem gX0_mayHave_X0_bitOf : GoodIn wsX0_mayHave (va_wsS RX0 19 yX0_bitOf wsX0_bitOf) := goodIn_app (goodIn_of _ (by decide +kernel)) ggX0_mayHave_X0_bitOf
theorem dX0_mayHave_0 : decode cX0_mayHave 0 = .ok (.iconst 0, 1) := by decide +kernel
theorem dX0_mayHave_1 : decode cX0_mayHave 1 = .ok (.istore_n 2, 1) := by decide +kernel
theorem dX0_mayHave_2 : decode cX0_mayHave 2 = .ok (.iload_n 2, 1) := by decide +kernel
theorem dX0_mayHave_3 : decode cX0_mayHave 3 = .ok (.iconst 4, 1) := by decide +kernel
theorem dX0_mayHave_4 : decode cX0_mayHave 4 = .ok (.if_icmp .ge 35, 3) := by decide +kernel
theorem dX0_mayHave_7 : decode cX0_mayHave 7 = .ok (.iload_n 1, 1) := by decide +kernel
theorem dX0_mayHave_8 : decode cX0_mayHave 8 = .ok (.iload_n 2, 1) := by decide +kernel
theorem dX0_mayHave_9 : decode cX0_mayHave 9 = .ok (.invokestatic 19, 3) := by decide +kernel
theorem dX0_mayHave_12 : decode cX0_mayHave 12 = .ok (.istore_n 3, 1) := by decide +kernel
theorem dX0_mayHave_13 : decode cX0_mayHave 13 = .ok (.aload_n 0, 1) := by decide +kernel
theorem dX0_mayHave_14 : decode cX0_mayHave 14 = .ok (.getfield 9, 3) := by decide +kernel
theorem dX0_mayHave_17 : decode cX0_mayHave 17 = .ok (.iload_n 3, 1) := by decide +kernel
theorem dX0_mayHave_18 : decode cX0_mayHave 18 = .ok (.iconst 5, 1) := by decide +kernel
theorem dX0_mayHave_19 : decode cX0_mayHave 19 = .ok (.iushr, 1) := by decide +kernel
theorem dX0_mayHave_20 : decode cX0_mayHave 20 = .ok (.iaload, 1) := by decide +kernel
theorem dX0_mayHave_21 : decode cX0_mayHave 21 = .ok (.iconst 1, 1) := by decide +kernel
theorem dX0_mayHave_22 : decode cX0_mayHave 22 = .ok (.iload_n 3, 1) := by decide +kernel
theorem dX0_mayHave_23 : decode cX0_mayHave 23 = .ok (.bipush 31, 2) := by decide +kernel
theorem dX0_mayHave_25 : decode cX0_mayHave 25 = .ok (.iand, 1) := by decide +kernel
theorem dX0_mayHave_26 : decode cX0_mayHave 26 = .ok (.ishl, 1) := by decide +kernel
theorem dX0_mayHave_27 : decode cX0_mayHave 27 = .ok (.iand, 1) := by decide +kernel
theorem dX0_mayHave_28 : decode cX0_mayHave 28 = .ok (.ifCond .ne 5, 3) := by decide +kernel
theorem dX0_mayHave_31 : decode cX0_mayHave 31 = .ok (.iconst 0, 1) := by decide +kernel
theorem dX0_mayHave_32 : decode cX0_mayHave 32 = .ok (.ireturn, 1) := by decide +kernel
theorem dX0_mayHave_33 : decode cX0_mayHave 33 = .ok (.iinc 2 1, 3) := by decide +kernel
theorem dX0_mayHave_36 : decode cX0_mayHave 36 = .ok (.goto (-34), 3) := by decide +kernel
theorem dX0_mayHave_39 : decode cX0_mayHave 39 = .ok (.iconst 1, 1) := by decide +kernel
theorem dX0_mayHave_40 : decode cX0_mayHave 40 = .ok (.ireturn, 1) := by decide +kernel
set_option maxRecDepth 20000 in
theorem ggX0_bitOf_X0_stirred : GoodIn wsX0_bitOf wsX0_stirred := goodIn_r _ [5, 6, 7, 8, 9, 10, 11, 12, 13] (by decide +kernel) (by decide +kernel)
set_option maxRecDepth 20000 in
theorem gX0_bitOf_X0_stirred : GoodIn wsX0_bitOf (va_wsS RX0 23 yX0_stirred wsX0_stirred) := goodIn_app (goodIn_of _ (by decide +kernel)) ggX0_bitOf_X0_stirred
theorem dX0_bitOf_0 : decode cX0_bitOf 0 = .ok (.iload_n 0, 1) := by decide +kernel
theorem dX0_bitOf_1 : decode cX0_bitOf 1 = .ok (.iconst 0, 1) := by decide +kernel
theorem dX0_bitOf_2 : decode cX0_bitOf 2 = .ok (.invokestatic 23, 3) := by decide +kernel
theorem dX0_bitOf_5 : decode cX0_bitOf 5 = .ok (.iload_n 1, 1) := by decide +kernel
theorem dX0_bitOf_6 : decode cX0_bitOf 6 = .ok (.iload_n 0, 1) := by decide +kernel
theorem dX0_bitOf_7 : decode cX0_bitOf 7 = .ok (.ldc 26, 2) := by decide +kernel
theorem dX0_bitOf_9 : decode cX0_bitOf 9 = .ok (.invokestatic 23, 3) := by decide +kernel
theorem dX0_bitOf_12 : decode cX0_bitOf 12 = .ok (.imul, 1) := by decide +kernel
theorem dX0_bitOf_13 : decode cX0_bitOf 13 = .ok (.iadd, 1) := by decide +kernel
theorem dX0_bitOf_14 : decode cX0_bitOf 14 = .ok (.sipush 1023, 3) := by decide +kernel
theorem dX0_bitOf_17 : decode cX0_bitOf 17 = .ok (.iand, 1) := by decide +kernel
theorem dX0_bitOf_18 : decode cX0_bitOf 18 = .ok (.ireturn, 1) := by decide +kernel
set_option maxRecDepth 20000 in
theorem ggX0_stirred_X2_right : GoodIn wsX0_stirred wsX2_right := goodIn_r _ [8] (by decide +kernel) (by decide +kernel)
set_option maxRecDepth 20000 in
theorem gX0_stirred_X2_right_n28 : GoodIn wsX0_stirred (wsX2_right) := ggX0_stirred_X2_right
theorem dX0_stirred_0 : decode cX0_stirred 0 = .ok (.iload_n 0, 1) := by decide +kernel
theorem dX0_stirred_1 : decode cX0_stirred 1 = .ok (.ldc 27, 2) := by decide +kernel
theorem dX0_stirred_3 : decode cX0_stirred 3 = .ok (.imul, 1) := by decide +kernel
theorem dX0_stirred_4 : decode cX0_stirred 4 = .ok (.istore_n 2, 1) := by decide +kernel
theorem dX0_stirred_5 : decode cX0_stirred 5 = .ok (.iload_n 2, 1) := by decide +kernel
theorem dX0_stirred_6 : decode cX0_stirred 6 = .ok (.bipush 17, 2) := by decide +kernel
theorem dX0_stirred_8 : decode cX0_stirred 8 = .ok (.invokestatic 28, 3) := by decide +kernel
theorem dX0_stirred_11 : decode cX0_stirred 11 = .ok (.ldc 33, 2) := by decide +kernel
theorem dX0_stirred_13 : decode cX0_stirred 13 = .ok (.imul, 1) := by decide +kernel
theorem dX0_stirred_14 : decode cX0_stirred 14 = .ok (.istore_n 2, 1) := by decide +kernel
theorem dX0_stirred_15 : decode cX0_stirred 15 = .ok (.iload_n 1, 1) := by decide +kernel
theorem dX0_stirred_16 : decode cX0_stirred 16 = .ok (.iload_n 2, 1) := by decide +kernel
theorem dX0_stirred_17 : decode cX0_stirred 17 = .ok (.ixor, 1) := by decide +kernel
theorem dX0_stirred_18 : decode cX0_stirred 18 = .ok (.istore_n 3, 1) := by decide +kernel
theorem dX0_stirred_19 : decode cX0_stirred 19 = .ok (.iload_n 3, 1) := by decide +kernel
theorem dX0_stirred_20 : decode cX0_stirred 20 = .ok (.bipush 19, 2) := by decide +kernel
theorem dX0_stirred_22 : decode cX0_stirred 22 = .ok (.invokestatic 28, 3) := by decide +kernel
theorem dX0_stirred_25 : decode cX0_stirred 25 = .ok (.iconst 5, 1) := by decide +kernel
theorem dX0_stirred_26 : decode cX0_stirred 26 = .ok (.imul, 1) := by decide +kernel
theorem dX0_stirred_27 : decode cX0_stirred 27 = .ok (.ldc 34, 2) := by decide +kernel
theorem dX0_stirred_29 : decode cX0_stirred 29 = .ok (.iadd, 1) := by decide +kernel
theorem dX0_stirred_30 : decode cX0_stirred 30 = .ok (.istore_n 3, 1) := by decide +kernel
theorem dX0_stirred_31 : decode cX0_stirred 31 = .ok (.iload_n 3, 1) := by decide +kernel
theorem dX0_stirred_32 : decode cX0_stirred 32 = .ok (.iconst 4, 1) := by decide +kernel
theorem dX0_stirred_33 : decode cX0_stirred 33 = .ok (.ixor, 1) := by decide +kernel
theorem dX0_stirred_34 : decode cX0_stirred 34 = .ok (.istore_n 3, 1) := by decide +kernel
theorem dX0_stirred_35 : decode cX0_stirred 35 = .ok (.iload_n 3, 1) := by decide +kernel
theorem dX0_stirred_36 : decode cX0_stirred 36 = .ok (.iload_n 3, 1) := by decide +kernel
theorem dX0_stirred_37 : decode cX0_stirred 37 = .ok (.bipush 16, 2) := by decide +kernel
theorem dX0_stirred_39 : decode cX0_stirred 39 = .ok (.iushr, 1) := by decide +kernel
theorem dX0_stirred_40 : decode cX0_stirred 40 = .ok (.ixor, 1) := by decide +kernel
theorem dX0_stirred_41 : decode cX0_stirred 41 = .ok (.ldc 35, 2) := by decide +kernel
theorem dX0_stirred_43 : decode cX0_stirred 43 = .ok (.imul, 1) := by decide +kernel
theorem dX0_stirred_44 : decode cX0_stirred 44 = .ok (.istore_n 3, 1) := by decide +kernel
theorem dX0_stirred_45 : decode cX0_stirred 45 = .ok (.iload_n 3, 1) := by decide +kernel
theorem dX0_stirred_46 : decode cX0_stirred 46 = .ok (.iload_n 3, 1) := by decide +kernel
theorem dX0_stirred_47 : decode cX0_stirred 47 = .ok (.bipush 13, 2) := by decide +kernel
theorem dX0_stirred_49 : decode cX0_stirred 49 = .ok (.iushr, 1) := by decide +kernel
theorem dX0_stirred_50 : decode cX0_stirred 50 = .ok (.ixor, 1) := by decide +kernel
theorem dX0_stirred_51 : decode cX0_stirred 51 = .ok (.ldc 36, 2) := by decide +kernel
theorem dX0_stirred_53 : decode cX0_stirred 53 = .ok (.imul, 1) := by decide +kernel
theorem dX0_stirred_54 : decode cX0_stirred 54 = .ok (.istore_n 3, 1) := by decide +kernel
theorem dX0_stirred_55 : decode cX0_stirred 55 = .ok (.iload_n 3, 1) := by decide +kernel
theorem dX0_stirred_56 : decode cX0_stirred 56 = .ok (.iload_n 3, 1) := by decide +kernel
theorem dX0_stirred_57 : decode cX0_stirred 57 = .ok (.bipush 16, 2) := by decide +kernel
theorem dX0_stirred_59 : decode cX0_stirred 59 = .ok (.iushr, 1) := by decide +kernel
theorem dX0_stirred_60 : decode cX0_stirred 60 = .ok (.ixor, 1) := by decide +kernel
theorem dX0_stirred_61 : decode cX0_stirred 61 = .ok (.ireturn, 1) := by decide +kernel
theorem dX1_init_0 : decode cX1_init 0 = .ok (.aload_n 0, 1) := by decide +kernel
theorem dX1_init_1 : decode cX1_init 1 = .ok (.invokespecial 3, 3) := by decide +kernel
theorem dX1_init_4 : decode cX1_init 4 = .ok (.aload_n 0, 1) := by decide +kernel
theorem dX1_init_5 : decode cX1_init 5 = .ok (.bipush 8, 2) := by decide +kernel
theorem dX1_init_7 : decode cX1_init 7 = .ok (.newarray .int, 2) := by decide +kernel
theorem dX1_init_9 : decode cX1_init 9 = .ok (.putfield 9, 3) := by decide +kernel
theorem dX1_init_12 : decode cX1_init 12 = .ok (.aload_n 0, 1) := by decide +kernel
theorem dX1_init_13 : decode cX1_init 13 = .ok (.bipush 8, 2) := by decide +kernel
theorem dX1_init_15 : decode cX1_init 15 = .ok (.newarray .int, 2) := by decide +kernel
theorem dX1_init_17 : decode cX1_init 17 = .ok (.putfield 15, 3) := by decide +kernel
theorem dX1_init_20 : decode cX1_init 20 = .ok (.aload_n 0, 1) := by decide +kernel
theorem dX1_init_21 : decode cX1_init 21 = .ok (.bipush 64, 2) := by decide +kernel
theorem dX1_init_23 : decode cX1_init 23 = .ok (.newarray .int, 2) := by decide +kernel
theorem dX1_init_25 : decode cX1_init 25 = .ok (.putfield 18, 3) := by decide +kernel
theorem dX1_init_28 : decode cX1_init 28 = .ok (.return_, 1) := by decide +kernel
set_option maxRecDepth 20000 in
theorem ggX1_takeAll_X1_takeFirst : GoodIn wsX1_takeAll wsX1_takeFirst := goodIn_r _ [5, 6, 7, 8, 9, 10, 11, 12, 13, 14, 15, 4, 16, 17, 18, 19, 20, 21, 22, 23, 24, 38, 39, 40] (by decide +kernel) (by decide +kernel)
set_option maxRecDepth 20000 in
theorem gX1_takeAll_X1_takeFirst : GoodIn wsX1_takeAll (wsV RX1 21 RX1 yX1_takeFirst wsX1_takeFirst) := goodIn_app (goodIn_of _ (by decide +kernel)) ggX1_takeAll_X1_takeFirst
set_option maxRecDepth 20000 in
theorem ggX1_takeAll_X1_takeRest : GoodIn wsX1_takeAll wsX1_takeRest := goodIn_r _ [28, 7, 29, 8, 9, 10, 11, 12, 30, 31, 32, 33, 34, 35, 36, 37, 13, 14, 15, 4, 16, 17, 18, 19, 20, 21, 22, 23, 24, 38, 39, 40] (by decide +kernel) (by decide +kernel)
set_option maxRecDepth 20000 in
theorem gX1_takeAll_X1_takeRest : GoodIn wsX1_takeAll (wsV RX1 25 RX1 yX1_takeRest wsX1_takeRest) := goodIn_app (goodIn_of _ (by decide +kernel)) ggX1_takeAll_X1_takeRest
theorem dX1_takeAll_0 : decode cX1_takeAll 0 = .ok (.aload_n 0, 1) := by decide +kernel
theorem dX1_takeAll_1 : decode cX1_takeAll 1 = .ok (.aload_n 1, 1) := by decide +kernel
theorem dX1_takeAll_2 : decode cX1_takeAll 2 = .ok (.iload_n 2, 1) := by decide +kernel
theorem dX1_takeAll_3 : decode cX1_takeAll 3 = .ok (.invokevirtual 21, 3) := by decide +kernel
theorem dX1_takeAll_6 : decode cX1_takeAll 6 = .ok (.aload_n 0, 1) := by decide +kernel
theorem dX1_takeAll_7 : decode cX1_takeAll 7 = .ok (.aload_n 1, 1) := by decide +kernel
theorem dX1_takeAll_8 : decode cX1_takeAll 8 = .ok (.iload_n 2, 1) := by decide +kernel
theorem dX1_takeAll_9 : decode cX1_takeAll 9 = .ok (.invokevirtual 25, 3) := by decide +kernel
theorem dX1_takeAll_12 : decode cX1_takeAll 12 = .ok (.return_, 1) := by decide +kernel
set_option maxRecDepth 20000 in
theorem ggX1_takeFirst_X1_mixInto : GoodIn wsX1_takeFirst wsX1_mixInto := goodIn_r _ [12, 13, 7, 14, 15, 16, 11, 17, 18, 19, 20, 21, 22, 23] (by decide +kernel) (by decide +kernel)
set_option maxRecDepth 20000 in
theorem gX1_takeFirst_X1_mixInto : GoodIn wsX1_takeFirst (wsV RX1 37 RX1 yX1_mixInto wsX1_mixInto) := goodIn_app (goodIn_of _ (by decide +kernel)) ggX1_takeFirst_X1_mixInto
theorem dX1_takeFirst_0 : decode cX1_takeFirst 0 = .ok (.getstatic 28, 3) := by decide +kernel
theorem dX1_takeFirst_3 : decode cX1_takeFirst 3 = .ok (.iconst 0, 1) := by decide +kernel
theorem dX1_takeFirst_4 : decode cX1_takeFirst 4 = .ok (.aload_n 0, 1) := by decide +kernel
theorem dX1_takeFirst_5 : decode cX1_takeFirst 5 = .ok (.getfield 9, 3) := by decide +kernel
theorem dX1_takeFirst_8 : decode cX1_takeFirst 8 = .ok (.iconst 0, 1) := by decide +kernel
theorem dX1_takeFirst_9 : decode cX1_takeFirst 9 = .ok (.bipush 8, 2) := by decide +kernel
theorem dX1_takeFirst_11 : decode cX1_takeFirst 11 = .ok (.invokestatic 31, 3) := by decide +kernel
theorem dX1_takeFirst_14 : decode cX1_takeFirst 14 = .ok (.aload_n 1, 1) := by decide +kernel
theorem dX1_takeFirst_15 : decode cX1_takeFirst 15 = .ok (.iload_n 2, 1) := by decide +kernel
theorem dX1_takeFirst_16 : decode cX1_takeFirst 16 = .ok (.aload_n 0, 1) := by decide +kernel
theorem dX1_takeFirst_17 : decode cX1_takeFirst 17 = .ok (.getfield 18, 3) := by decide +kernel
theorem dX1_takeFirst_20 : decode cX1_takeFirst 20 = .ok (.iconst 0, 1) := by decide +kernel
theorem dX1_takeFirst_21 : decode cX1_takeFirst 21 = .ok (.bipush 16, 2) := by decide +kernel
theorem dX1_takeFirst_23 : decode cX1_takeFirst 23 = .ok (.invokestatic 31, 3) := by decide +kernel
theorem dX1_takeFirst_26 : decode cX1_takeFirst 26 = .ok (.aload_n 0, 1) := by decide +kernel
theorem dX1_takeFirst_27 : decode cX1_takeFirst 27 = .ok (.aload_n 0, 1) := by decide +kernel
theorem dX1_takeFirst_28 : decode cX1_takeFirst 28 = .ok (.getfield 9, 3) := by decide +kernel
theorem dX1_takeFirst_31 : decode cX1_takeFirst 31 = .ok (.invokevirtual 37, 3) := by decide +kernel
theorem dX1_takeFirst_34 : decode cX1_takeFirst 34 = .ok (.return_, 1) := by decide +kernel
set_option maxRecDepth 20000 in
theorem ggX1_takeRest_J7_fill_fda19 : GoodIn wsX1_takeRest wsJ7_fill_fda19 := goodIn_r _ [12, 13, 14, 11, 15] (by decide +kernel) (by decide +kernel)
set_option maxRecDepth 20000 in
theorem gX1_takeRest_J7_fill_fda19 : GoodIn wsX1_takeRest (va_wsS RX1 42 yJ7_fill_fda19 wsJ7_fill_fda19) := goodIn_app (goodIn_of _ (by decide +kernel)) ggX1_takeRest_J7_fill_fda19
set_option maxRecDepth 20000 in
theorem ggX1_takeRest_X1_mixInto : GoodIn wsX1_takeRest wsX1_mixInto := goodIn_r _ [20, 21, 7, 22, 23, 24, 19, 25, 26, 27, 28, 29, 30, 31] (by decide +kernel) (by decide +kernel)
set_option maxRecDepth 20000 in
theorem gX1_takeRest_X1_mixInto : GoodIn wsX1_takeRest (wsV RX1 37 RX1 yX1_mixInto wsX1_mixInto) := goodIn_app (goodIn_of _ (by decide +kernel)) ggX1_takeRest_X1_mixInto
theorem dX1_takeRest_0 : decode cX1_takeRest 0 = .ok (.bipush 10, 2) := by decide +kernel
theorem dX1_takeRest_2 : decode cX1_takeRest 2 = .ok (.istore_n 3, 1) := by decide +kernel
theorem dX1_takeRest_3 : decode cX1_takeRest 3 = .ok (.aload_n 0, 1) := by decide +kernel
theorem dX1_takeRest_4 : decode cX1_takeRest 4 = .ok (.getfield 9, 3) := by decide +kernel
theorem dX1_takeRest_7 : decode cX1_takeRest 7 = .ok (.iconst 0, 1) := by decide +kernel
theorem dX1_takeRest_8 : decode cX1_takeRest 8 = .ok (.aload_n 0, 1) := by decide +kernel
theorem dX1_takeRest_9 : decode cX1_takeRest 9 = .ok (.getfield 15, 3) := by decide +kernel
theorem dX1_takeRest_12 : decode cX1_takeRest 12 = .ok (.iconst 0, 1) := by decide +kernel
theorem dX1_takeRest_13 : decode cX1_takeRest 13 = .ok (.bipush 8, 2) := by decide +kernel
theorem dX1_takeRest_15 : decode cX1_takeRest 15 = .ok (.invokestatic 31, 3) := by decide +kernel
theorem dX1_takeRest_18 : decode cX1_takeRest 18 = .ok (.aload_n 1, 1) := by decide +kernel
theorem dX1_takeRest_19 : decode cX1_takeRest 19 = .ok (.iload_n 2, 1) := by decide +kernel
theorem dX1_takeRest_20 : decode cX1_takeRest 20 = .ok (.bipush 16, 2) := by decide +kernel
theorem dX1_takeRest_22 : decode cX1_takeRest 22 = .ok (.iadd, 1) := by decide +kernel
theorem dX1_takeRest_23 : decode cX1_takeRest 23 = .ok (.aload_n 0, 1) := by decide +kernel
theorem dX1_takeRest_24 : decode cX1_takeRest 24 = .ok (.getfield 18, 3) := by decide +kernel
theorem dX1_takeRest_27 : decode cX1_takeRest 27 = .ok (.iconst 0, 1) := by decide +kernel
theorem dX1_takeRest_28 : decode cX1_takeRest 28 = .ok (.iload_n 3, 1) := by decide +kernel
theorem dX1_takeRest_29 : decode cX1_takeRest 29 = .ok (.invokestatic 31, 3) := by decide +kernel
theorem dX1_takeRest_32 : decode cX1_takeRest 32 = .ok (.aload_n 0, 1) := by decide +kernel
theorem dX1_takeRest_33 : decode cX1_takeRest 33 = .ok (.getfield 18, 3) := by decide +kernel
theorem dX1_takeRest_36 : decode cX1_takeRest 36 = .ok (.iload_n 3, 1) := by decide +kernel
theorem dX1_takeRest_37 : decode cX1_takeRest 37 = .ok (.ldc 41, 2) := by decide +kernel
theorem dX1_takeRest_39 : decode cX1_takeRest 39 = .ok (.iastore, 1) := by decide +kernel
theorem dX1_takeRest_40 : decode cX1_takeRest 40 = .ok (.aload_n 0, 1) := by decide +kernel
theorem dX1_takeRest_41 : decode cX1_takeRest 41 = .ok (.getfield 18, 3) := by decide +kernel
theorem dX1_takeRest_44 : decode cX1_takeRest 44 = .ok (.iload_n 3, 1) := by decide +kernel
theorem dX1_takeRest_45 : decode cX1_takeRest 45 = .ok (.iconst 1, 1) := by decide +kernel
theorem dX1_takeRest_46 : decode cX1_takeRest 46 = .ok (.iadd, 1) := by decide +kernel
theorem dX1_takeRest_47 : decode cX1_takeRest 47 = .ok (.bipush 15, 2) := by decide +kernel
theorem dX1_takeRest_49 : decode cX1_takeRest 49 = .ok (.iconst 0, 1) := by decide +kernel
theorem dX1_takeRest_50 : decode cX1_takeRest 50 = .ok (.invokestatic 42, 3) := by decide +kernel
theorem dX1_takeRest_53 : decode cX1_takeRest 53 = .ok (.aload_n 0, 1) := by decide +kernel
theorem dX1_takeRest_54 : decode cX1_takeRest 54 = .ok (.getfield 18, 3) := by decide +kernel
theorem dX1_takeRest_57 : decode cX1_takeRest 57 = .ok (.bipush 15, 2) := by decide +kernel
theorem dX1_takeRest_59 : decode cX1_takeRest 59 = .ok (.sipush 832, 3) := by decide +kernel
theorem dX1_takeRest_62 : decode cX1_takeRest 62 = .ok (.iastore, 1) := by decide +kernel
theorem dX1_takeRest_63 : decode cX1_takeRest 63 = .ok (.aload_n 0, 1) := by decide +kernel
theorem dX1_takeRest_64 : decode cX1_takeRest 64 = .ok (.aload_n 0, 1) := by decide +kernel
theorem dX1_takeRest_65 : decode cX1_takeRest 65 = .ok (.getfield 15, 3) := by decide +kernel
theorem dX1_takeRest_68 : decode cX1_takeRest 68 = .ok (.invokevirtual 37, 3) := by decide +kernel
theorem dX1_takeRest_71 : decode cX1_takeRest 71 = .ok (.return_, 1) := by decide +kernel
theorem dX1_isAt_0 : decode cX1_isAt 0 = .ok (.iconst 0, 1) := by decide +kernel
theorem dX1_isAt_1 : decode cX1_isAt 1 = .ok (.istore_n 3, 1) := by decide +kernel
theorem dX1_isAt_2 : decode cX1_isAt 2 = .ok (.iload_n 3, 1) := by decide +kernel
theorem dX1_isAt_3 : decode cX1_isAt 3 = .ok (.bipush 8, 2) := by decide +kernel
theorem dX1_isAt_5 : decode cX1_isAt 5 = .ok (.if_icmp .ge 25, 3) := by decide +kernel
theorem dX1_isAt_8 : decode cX1_isAt 8 = .ok (.aload_n 1, 1) := by decide +kernel
theorem dX1_isAt_9 : decode cX1_isAt 9 = .ok (.iload_n 2, 1) := by decide +kernel
theorem dX1_isAt_10 : decode cX1_isAt 10 = .ok (.iload_n 3, 1) := by decide +kernel
theorem dX1_isAt_11 : decode cX1_isAt 11 = .ok (.iadd, 1) := by decide +kernel
theorem dX1_isAt_12 : decode cX1_isAt 12 = .ok (.iaload, 1) := by decide +kernel
theorem dX1_isAt_13 : decode cX1_isAt 13 = .ok (.aload_n 0, 1) := by decide +kernel
theorem dX1_isAt_14 : decode cX1_isAt 14 = .ok (.getfield 15, 3) := by decide +kernel
theorem dX1_isAt_17 : decode cX1_isAt 17 = .ok (.iload_n 3, 1) := by decide +kernel
theorem dX1_isAt_18 : decode cX1_isAt 18 = .ok (.iaload, 1) := by decide +kernel
theorem dX1_isAt_19 : decode cX1_isAt 19 = .ok (.if_icmp .eq 5, 3) := by decide +kernel
theorem dX1_isAt_22 : decode cX1_isAt 22 = .ok (.iconst 0, 1) := by decide +kernel
theorem dX1_isAt_23 : decode cX1_isAt 23 = .ok (.ireturn, 1) := by decide +kernel
theorem dX1_isAt_24 : decode cX1_isAt 24 = .ok (.iinc 3 1, 3) := by decide +kernel
theorem dX1_isAt_27 : decode cX1_isAt 27 = .ok (.goto (-25), 3) := by decide +kernel
theorem dX1_isAt_30 : decode cX1_isAt 30 = .ok (.iconst 1, 1) := by decide +kernel
theorem dX1_isAt_31 : decode cX1_isAt 31 = .ok (.ireturn, 1) := by decide +kernel
theorem dX1_copyTo_0 : decode cX1_copyTo 0 = .ok (.aload_n 0, 1) := by decide +kernel
theorem dX1_copyTo_1 : decode cX1_copyTo 1 = .ok (.getfield 15, 3) := by decide +kernel
theorem dX1_copyTo_4 : decode cX1_copyTo 4 = .ok (.iconst 0, 1) := by decide +kernel
theorem dX1_copyTo_5 : decode cX1_copyTo 5 = .ok (.aload_n 1, 1) := by decide +kernel
theorem dX1_copyTo_6 : decode cX1_copyTo 6 = .ok (.iload_n 2, 1) := by decide +kernel
theorem dX1_copyTo_7 : decode cX1_copyTo 7 = .ok (.bipush 8, 2) := by decide +kernel
theorem dX1_copyTo_9 : decode cX1_copyTo 9 = .ok (.invokestatic 31, 3) := by decide +kernel
theorem dX1_copyTo_12 : decode cX1_copyTo 12 = .ok (.return_, 1) := by decide +kernel
set_option maxRecDepth 20000 in
theorem ggX1_zeros_J6_numberOfLeadingZeros_0f7a4 : GoodIn wsX1_zeros wsJ6_numberOfLeadingZeros_0f7a4 := goodIn_r _ [5, 6] (by decide +kernel) (by decide +kernel)
set_option maxRecDepth 20000 in
theorem gX1_zeros_J6_numberOfLeadingZeros_0f7a4 : GoodIn wsX1_zeros (va_wsS RX1 48 yJ6_numberOfLeadingZeros_0f7a4 wsJ6_numberOfLeadingZeros_0f7a4) := goodIn_app (goodIn_of _ (by decide +kernel)) ggX1_zeros_J6_numberOfLeadingZeros_0f7a4
theorem dX1_zeros_0 : decode cX1_zeros 0 = .ok (.iconst 0, 1) := by decide +kernel
theorem dX1_zeros_1 : decode cX1_zeros 1 = .ok (.istore_n 1, 1) := by decide +kernel
theorem dX1_zeros_2 : decode cX1_zeros 2 = .ok (.iload_n 1, 1) := by decide +kernel
theorem dX1_zeros_3 : decode cX1_zeros 3 = .ok (.bipush 8, 2) := by decide +kernel
theorem dX1_zeros_5 : decode cX1_zeros 5 = .ok (.if_icmp .ge 33, 3) := by decide +kernel
theorem dX1_zeros_8 : decode cX1_zeros 8 = .ok (.aload_n 0, 1) := by decide +kernel
theorem dX1_zeros_9 : decode cX1_zeros 9 = .ok (.getfield 15, 3) := by decide +kernel
theorem dX1_zeros_12 : decode cX1_zeros 12 = .ok (.iload_n 1, 1) := by decide +kernel
theorem dX1_zeros_13 : decode cX1_zeros 13 = .ok (.iaload, 1) := by decide +kernel
theorem dX1_zeros_14 : decode cX1_zeros 14 = .ok (.ifCond .eq 18, 3) := by decide +kernel
theorem dX1_zeros_17 : decode cX1_zeros 17 = .ok (.bipush 32, 2) := by decide +kernel
theorem dX1_zeros_19 : decode cX1_zeros 19 = .ok (.iload_n 1, 1) := by decide +kernel
theorem dX1_zeros_20 : decode cX1_zeros 20 = .ok (.imul, 1) := by decide +kernel
theorem dX1_zeros_21 : decode cX1_zeros 21 = .ok (.aload_n 0, 1) := by decide +kernel
theorem dX1_zeros_22 : decode cX1_zeros 22 = .ok (.getfield 15, 3) := by decide +kernel
theorem dX1_zeros_25 : decode cX1_zeros 25 = .ok (.iload_n 1, 1) := by decide +kernel
theorem dX1_zeros_26 : decode cX1_zeros 26 = .ok (.iaload, 1) := by decide +kernel
theorem dX1_zeros_27 : decode cX1_zeros 27 = .ok (.invokestatic 48, 3) := by decide +kernel
theorem dX1_zeros_30 : decode cX1_zeros 30 = .ok (.iadd, 1) := by decide +kernel
theorem dX1_zeros_31 : decode cX1_zeros 31 = .ok (.ireturn, 1) := by decide +kernel
theorem dX1_zeros_32 : decode cX1_zeros 32 = .ok (.iinc 1 1, 3) := by decide +kernel
theorem dX1_zeros_35 : decode cX1_zeros 35 = .ok (.goto (-33), 3) := by decide +kernel
theorem dX1_zeros_38 : decode cX1_zeros 38 = .ok (.sipush 256, 3) := by decide +kernel
theorem dX1_zeros_41 : decode cX1_zeros 41 = .ok (.ireturn, 1) := by decide +kernel
set_option maxRecDepth 20000 in
theorem ggX1_mixInto_X1_spread : GoodIn wsX1_mixInto wsX1_spread := goodIn_r _ [7, 2, 8, 9, 10, 11, 12, 13] (by decide +kernel) (by decide +kernel)
set_option maxRecDepth 20000 in
theorem gX1_mixInto_X1_spread : GoodIn wsX1_mixInto (wsV RX1 54 RX1 yX1_spread wsX1_spread) := goodIn_app (goodIn_of _ (by decide +kernel)) ggX1_mixInto_X1_spread
set_option maxRecDepth 20000 in
theorem ggX1_mixInto_X2_right : GoodIn wsX1_mixInto wsX2_right := goodIn_r _ [10] (by decide +kernel) (by decide +kernel)
set_option maxRecDepth 20000 in
theorem gX1_mixInto_X2_right_n57 : GoodIn wsX1_mixInto (wsX2_right) := ggX1_mixInto_X2_right
theorem dX1_mixInto_0 : decode cX1_mixInto 0 = .ok (.aload_n 0, 1) := by decide +kernel
theorem dX1_mixInto_1 : decode cX1_mixInto 1 = .ok (.invokevirtual 54, 3) := by decide +kernel
theorem dX1_mixInto_4 : decode cX1_mixInto 4 = .ok (.aload_n 1, 1) := by decide +kernel
theorem dX1_mixInto_5 : decode cX1_mixInto 5 = .ok (.iconst 0, 1) := by decide +kernel
theorem dX1_mixInto_6 : decode cX1_mixInto 6 = .ok (.iaload, 1) := by decide +kernel
theorem dX1_mixInto_7 : decode cX1_mixInto 7 = .ok (.istore_n 2, 1) := by decide +kernel
theorem dX1_mixInto_8 : decode cX1_mixInto 8 = .ok (.aload_n 1, 1) := by decide +kernel
theorem dX1_mixInto_9 : decode cX1_mixInto 9 = .ok (.iconst 1, 1) := by decide +kernel
theorem dX1_mixInto_10 : decode cX1_mixInto 10 = .ok (.iaload, 1) := by decide +kernel
theorem dX1_mixInto_11 : decode cX1_mixInto 11 = .ok (.istore_n 3, 1) := by decide +kernel
theorem dX1_mixInto_12 : decode cX1_mixInto 12 = .ok (.aload_n 1, 1) := by decide +kernel
theorem dX1_mixInto_13 : decode cX1_mixInto 13 = .ok (.iconst 2, 1) := by decide +kernel
theorem dX1_mixInto_14 : decode cX1_mixInto 14 = .ok (.iaload, 1) := by decide +kernel
theorem dX1_mixInto_15 : decode cX1_mixInto 15 = .ok (.istore 4, 2) := by decide +kernel
theorem dX1_mixInto_17 : decode cX1_mixInto 17 = .ok (.aload_n 1, 1) := by decide +kernel
theorem dX1_mixInto_18 : decode cX1_mixInto 18 = .ok (.iconst 3, 1) := by decide +kernel
theorem dX1_mixInto_19 : decode cX1_mixInto 19 = .ok (.iaload, 1) := by decide +kernel
theorem dX1_mixInto_20 : decode cX1_mixInto 20 = .ok (.istore 5, 2) := by decide +kernel
theorem dX1_mixInto_22 : decode cX1_mixInto 22 = .ok (.aload_n 1, 1) := by decide +kernel
theorem dX1_mixInto_23 : decode cX1_mixInto 23 = .ok (.iconst 4, 1) := by decide +kernel
theorem dX1_mixInto_24 : decode cX1_mixInto 24 = .ok (.iaload, 1) := by decide +kernel
theorem dX1_mixInto_25 : decode cX1_mixInto 25 = .ok (.istore 6, 2) := by decide +kernel
theorem dX1_mixInto_27 : decode cX1_mixInto 27 = .ok (.aload_n 1, 1) := by decide +kernel
theorem dX1_mixInto_28 : decode cX1_mixInto 28 = .ok (.iconst 5, 1) := by decide +kernel
theorem dX1_mixInto_29 : decode cX1_mixInto 29 = .ok (.iaload, 1) := by decide +kernel
theorem dX1_mixInto_30 : decode cX1_mixInto 30 = .ok (.istore 7, 2) := by decide +kernel
theorem dX1_mixInto_32 : decode cX1_mixInto 32 = .ok (.aload_n 1, 1) := by decide +kernel
theorem dX1_mixInto_33 : decode cX1_mixInto 33 = .ok (.bipush 6, 2) := by decide +kernel
theorem dX1_mixInto_35 : decode cX1_mixInto 35 = .ok (.iaload, 1) := by decide +kernel
theorem dX1_mixInto_36 : decode cX1_mixInto 36 = .ok (.istore 8, 2) := by decide +kernel
theorem dX1_mixInto_38 : decode cX1_mixInto 38 = .ok (.aload_n 1, 1) := by decide +kernel
theorem dX1_mixInto_39 : decode cX1_mixInto 39 = .ok (.bipush 7, 2) := by decide +kernel
theorem dX1_mixInto_41 : decode cX1_mixInto 41 = .ok (.iaload, 1) := by decide +kernel
theorem dX1_mixInto_42 : decode cX1_mixInto 42 = .ok (.istore 9, 2) := by decide +kernel
theorem dX1_mixInto_44 : decode cX1_mixInto 44 = .ok (.iconst 0, 1) := by decide +kernel
theorem dX1_mixInto_45 : decode cX1_mixInto 45 = .ok (.istore 10, 2) := by decide +kernel
theorem dX1_mixInto_47 : decode cX1_mixInto 47 = .ok (.iload 10, 2) := by decide +kernel
theorem dX1_mixInto_49 : decode cX1_mixInto 49 = .ok (.bipush 64, 2) := by decide +kernel
theorem dX1_mixInto_51 : decode cX1_mixInto 51 = .ok (.if_icmp .ge 135, 3) := by decide +kernel
theorem dX1_mixInto_54 : decode cX1_mixInto 54 = .ok (.iload 9, 2) := by decide +kernel
theorem dX1_mixInto_56 : decode cX1_mixInto 56 = .ok (.iload 6, 2) := by decide +kernel
theorem dX1_mixInto_58 : decode cX1_mixInto 58 = .ok (.bipush 6, 2) := by decide +kernel
theorem dX1_mixInto_60 : decode cX1_mixInto 60 = .ok (.invokestatic 57, 3) := by decide +kernel
theorem dX1_mixInto_63 : decode cX1_mixInto 63 = .ok (.iload 6, 2) := by decide +kernel
theorem dX1_mixInto_65 : decode cX1_mixInto 65 = .ok (.bipush 11, 2) := by decide +kernel
theorem dX1_mixInto_67 : decode cX1_mixInto 67 = .ok (.invokestatic 57, 3) := by decide +kernel
theorem dX1_mixInto_70 : decode cX1_mixInto 70 = .ok (.ixor, 1) := by decide +kernel
theorem dX1_mixInto_71 : decode cX1_mixInto 71 = .ok (.iload 6, 2) := by decide +kernel
theorem dX1_mixInto_73 : decode cX1_mixInto 73 = .ok (.bipush 25, 2) := by decide +kernel
theorem dX1_mixInto_75 : decode cX1_mixInto 75 = .ok (.invokestatic 57, 3) := by decide +kernel
theorem dX1_mixInto_78 : decode cX1_mixInto 78 = .ok (.ixor, 1) := by decide +kernel
theorem dX1_mixInto_79 : decode cX1_mixInto 79 = .ok (.iadd, 1) := by decide +kernel
theorem dX1_mixInto_80 : decode cX1_mixInto 80 = .ok (.iload 6, 2) := by decide +kernel
theorem dX1_mixInto_82 : decode cX1_mixInto 82 = .ok (.iload 7, 2) := by decide +kernel
theorem dX1_mixInto_84 : decode cX1_mixInto 84 = .ok (.iand, 1) := by decide +kernel
theorem dX1_mixInto_85 : decode cX1_mixInto 85 = .ok (.iload 6, 2) := by decide +kernel
theorem dX1_mixInto_87 : decode cX1_mixInto 87 = .ok (.iconst (-1), 1) := by decide +kernel
theorem dX1_mixInto_88 : decode cX1_mixInto 88 = .ok (.ixor, 1) := by decide +kernel
theorem dX1_mixInto_89 : decode cX1_mixInto 89 = .ok (.iload 8, 2) := by decide +kernel
theorem dX1_mixInto_91 : decode cX1_mixInto 91 = .ok (.iand, 1) := by decide +kernel
theorem dX1_mixInto_92 : decode cX1_mixInto 92 = .ok (.ixor, 1) := by decide +kernel
theorem dX1_mixInto_93 : decode cX1_mixInto 93 = .ok (.iadd, 1) := by decide +kernel
theorem dX1_mixInto_94 : decode cX1_mixInto 94 = .ok (.getstatic 61, 3) := by decide +kernel
theorem dX1_mixInto_97 : decode cX1_mixInto 97 = .ok (.iload 10, 2) := by decide +kernel
theorem dX1_mixInto_99 : decode cX1_mixInto 99 = .ok (.iaload, 1) := by decide +kernel
theorem dX1_mixInto_100 : decode cX1_mixInto 100 = .ok (.iadd, 1) := by decide +kernel
theorem dX1_mixInto_101 : decode cX1_mixInto 101 = .ok (.aload_n 0, 1) := by decide +kernel
theorem dX1_mixInto_102 : decode cX1_mixInto 102 = .ok (.getfield 18, 3) := by decide +kernel
theorem dX1_mixInto_105 : decode cX1_mixInto 105 = .ok (.iload 10, 2) := by decide +kernel
theorem dX1_mixInto_107 : decode cX1_mixInto 107 = .ok (.iaload, 1) := by decide +kernel
theorem dX1_mixInto_108 : decode cX1_mixInto 108 = .ok (.iadd, 1) := by decide +kernel
theorem dX1_mixInto_109 : decode cX1_mixInto 109 = .ok (.istore 11, 2) := by decide +kernel
theorem dX1_mixInto_111 : decode cX1_mixInto 111 = .ok (.iload_n 2, 1) := by decide +kernel
theorem dX1_mixInto_112 : decode cX1_mixInto 112 = .ok (.iconst 2, 1) := by decide +kernel
theorem dX1_mixInto_113 : decode cX1_mixInto 113 = .ok (.invokestatic 57, 3) := by decide +kernel
theorem dX1_mixInto_116 : decode cX1_mixInto 116 = .ok (.iload_n 2, 1) := by decide +kernel
theorem dX1_mixInto_117 : decode cX1_mixInto 117 = .ok (.bipush 13, 2) := by decide +kernel
theorem dX1_mixInto_119 : decode cX1_mixInto 119 = .ok (.invokestatic 57, 3) := by decide +kernel
theorem dX1_mixInto_122 : decode cX1_mixInto 122 = .ok (.ixor, 1) := by decide +kernel
theorem dX1_mixInto_123 : decode cX1_mixInto 123 = .ok (.iload_n 2, 1) := by decide +kernel
theorem dX1_mixInto_124 : decode cX1_mixInto 124 = .ok (.bipush 22, 2) := by decide +kernel
theorem dX1_mixInto_126 : decode cX1_mixInto 126 = .ok (.invokestatic 57, 3) := by decide +kernel
theorem dX1_mixInto_129 : decode cX1_mixInto 129 = .ok (.ixor, 1) := by decide +kernel
theorem dX1_mixInto_130 : decode cX1_mixInto 130 = .ok (.iload_n 2, 1) := by decide +kernel
theorem dX1_mixInto_131 : decode cX1_mixInto 131 = .ok (.iload_n 3, 1) := by decide +kernel
theorem dX1_mixInto_132 : decode cX1_mixInto 132 = .ok (.iand, 1) := by decide +kernel
theorem dX1_mixInto_133 : decode cX1_mixInto 133 = .ok (.iload_n 2, 1) := by decide +kernel
theorem dX1_mixInto_134 : decode cX1_mixInto 134 = .ok (.iload 4, 2) := by decide +kernel
theorem dX1_mixInto_136 : decode cX1_mixInto 136 = .ok (.iand, 1) := by decide +kernel
theorem dX1_mixInto_137 : decode cX1_mixInto 137 = .ok (.ixor, 1) := by decide +kernel
theorem dX1_mixInto_138 : decode cX1_mixInto 138 = .ok (.iload_n 3, 1) := by decide +kernel
theorem dX1_mixInto_139 : decode cX1_mixInto 139 = .ok (.iload 4, 2) := by decide +kernel
theorem dX1_mixInto_141 : decode cX1_mixInto 141 = .ok (.iand, 1) := by decide +kernel
theorem dX1_mixInto_142 : decode cX1_mixInto 142 = .ok (.ixor, 1) := by decide +kernel
theorem dX1_mixInto_143 : decode cX1_mixInto 143 = .ok (.iadd, 1) := by decide +kernel
theorem dX1_mixInto_144 : decode cX1_mixInto 144 = .ok (.istore 12, 2) := by decide +kernel
theorem dX1_mixInto_146 : decode cX1_mixInto 146 = .ok (.iload 8, 2) := by decide +kernel
theorem dX1_mixInto_148 : decode cX1_mixInto 148 = .ok (.istore 9, 2) := by decide +kernel
theorem dX1_mixInto_150 : decode cX1_mixInto 150 = .ok (.iload 7, 2) := by decide +kernel
theorem dX1_mixInto_152 : decode cX1_mixInto 152 = .ok (.istore 8, 2) := by decide +kernel
theorem dX1_mixInto_154 : decode cX1_mixInto 154 = .ok (.iload 6, 2) := by decide +kernel
theorem dX1_mixInto_156 : decode cX1_mixInto 156 = .ok (.istore 7, 2) := by decide +kernel
theorem dX1_mixInto_158 : decode cX1_mixInto 158 = .ok (.iload 5, 2) := by decide +kernel
theorem dX1_mixInto_160 : decode cX1_mixInto 160 = .ok (.iload 11, 2) := by decide +kernel
theorem dX1_mixInto_162 : decode cX1_mixInto 162 = .ok (.iadd, 1) := by decide +kernel
theorem dX1_mixInto_163 : decode cX1_mixInto 163 = .ok (.istore 6, 2) := by decide +kernel
theorem dX1_mixInto_165 : decode cX1_mixInto 165 = .ok (.iload 4, 2) := by decide +kernel
theorem dX1_mixInto_167 : decode cX1_mixInto 167 = .ok (.istore 5, 2) := by decide +kernel
theorem dX1_mixInto_169 : decode cX1_mixInto 169 = .ok (.iload_n 3, 1) := by decide +kernel
theorem dX1_mixInto_170 : decode cX1_mixInto 170 = .ok (.istore 4, 2) := by decide +kernel
theorem dX1_mixInto_172 : decode cX1_mixInto 172 = .ok (.iload_n 2, 1) := by decide +kernel
theorem dX1_mixInto_173 : decode cX1_mixInto 173 = .ok (.istore_n 3, 1) := by decide +kernel
theorem dX1_mixInto_174 : decode cX1_mixInto 174 = .ok (.iload 11, 2) := by decide +kernel
theorem dX1_mixInto_176 : decode cX1_mixInto 176 = .ok (.iload 12, 2) := by decide +kernel
theorem dX1_mixInto_178 : decode cX1_mixInto 178 = .ok (.iadd, 1) := by decide +kernel
theorem dX1_mixInto_179 : decode cX1_mixInto 179 = .ok (.istore_n 2, 1) := by decide +kernel
theorem dX1_mixInto_180 : decode cX1_mixInto 180 = .ok (.iinc 10 1, 3) := by decide +kernel
theorem dX1_mixInto_183 : decode cX1_mixInto 183 = .ok (.goto (-136), 3) := by decide +kernel
theorem dX1_mixInto_186 : decode cX1_mixInto 186 = .ok (.aload_n 1, 1) := by decide +kernel
theorem dX1_mixInto_187 : decode cX1_mixInto 187 = .ok (.iconst 0, 1) := by decide +kernel
theorem dX1_mixInto_188 : decode cX1_mixInto 188 = .ok (.dup2, 1) := by decide +kernel
theorem dX1_mixInto_189 : decode cX1_mixInto 189 = .ok (.iaload, 1) := by decide +kernel
theorem dX1_mixInto_190 : decode cX1_mixInto 190 = .ok (.iload_n 2, 1) := by decide +kernel
theorem dX1_mixInto_191 : decode cX1_mixInto 191 = .ok (.iadd, 1) := by decide +kernel
theorem dX1_mixInto_192 : decode cX1_mixInto 192 = .ok (.iastore, 1) := by decide +kernel
theorem dX1_mixInto_193 : decode cX1_mixInto 193 = .ok (.aload_n 1, 1) := by decide +kernel
theorem dX1_mixInto_194 : decode cX1_mixInto 194 = .ok (.iconst 1, 1) := by decide +kernel
theorem dX1_mixInto_195 : decode cX1_mixInto 195 = .ok (.dup2, 1) := by decide +kernel
theorem dX1_mixInto_196 : decode cX1_mixInto 196 = .ok (.iaload, 1) := by decide +kernel
theorem dX1_mixInto_197 : decode cX1_mixInto 197 = .ok (.iload_n 3, 1) := by decide +kernel
theorem dX1_mixInto_198 : decode cX1_mixInto 198 = .ok (.iadd, 1) := by decide +kernel
theorem dX1_mixInto_199 : decode cX1_mixInto 199 = .ok (.iastore, 1) := by decide +kernel
theorem dX1_mixInto_200 : decode cX1_mixInto 200 = .ok (.aload_n 1, 1) := by decide +kernel
theorem dX1_mixInto_201 : decode cX1_mixInto 201 = .ok (.iconst 2, 1) := by decide +kernel
theorem dX1_mixInto_202 : decode cX1_mixInto 202 = .ok (.dup2, 1) := by decide +kernel
theorem dX1_mixInto_203 : decode cX1_mixInto 203 = .ok (.iaload, 1) := by decide +kernel
theorem dX1_mixInto_204 : decode cX1_mixInto 204 = .ok (.iload 4, 2) := by decide +kernel
theorem dX1_mixInto_206 : decode cX1_mixInto 206 = .ok (.iadd, 1) := by decide +kernel
theorem dX1_mixInto_207 : decode cX1_mixInto 207 = .ok (.iastore, 1) := by decide +kernel
theorem dX1_mixInto_208 : decode cX1_mixInto 208 = .ok (.aload_n 1, 1) := by decide +kernel
theorem dX1_mixInto_209 : decode cX1_mixInto 209 = .ok (.iconst 3, 1) := by decide +kernel
theorem dX1_mixInto_210 : decode cX1_mixInto 210 = .ok (.dup2, 1) := by decide +kernel
theorem dX1_mixInto_211 : decode cX1_mixInto 211 = .ok (.iaload, 1) := by decide +kernel
theorem dX1_mixInto_212 : decode cX1_mixInto 212 = .ok (.iload 5, 2) := by decide +kernel
theorem dX1_mixInto_214 : decode cX1_mixInto 214 = .ok (.iadd, 1) := by decide +kernel
theorem dX1_mixInto_215 : decode cX1_mixInto 215 = .ok (.iastore, 1) := by decide +kernel
theorem dX1_mixInto_216 : decode cX1_mixInto 216 = .ok (.aload_n 1, 1) := by decide +kernel
theorem dX1_mixInto_217 : decode cX1_mixInto 217 = .ok (.iconst 4, 1) := by decide +kernel
theorem dX1_mixInto_218 : decode cX1_mixInto 218 = .ok (.dup2, 1) := by decide +kernel
theorem dX1_mixInto_219 : decode cX1_mixInto 219 = .ok (.iaload, 1) := by decide +kernel
theorem dX1_mixInto_220 : decode cX1_mixInto 220 = .ok (.iload 6, 2) := by decide +kernel
theorem dX1_mixInto_222 : decode cX1_mixInto 222 = .ok (.iadd, 1) := by decide +kernel
theorem dX1_mixInto_223 : decode cX1_mixInto 223 = .ok (.iastore, 1) := by decide +kernel
theorem dX1_mixInto_224 : decode cX1_mixInto 224 = .ok (.aload_n 1, 1) := by decide +kernel
theorem dX1_mixInto_225 : decode cX1_mixInto 225 = .ok (.iconst 5, 1) := by decide +kernel
theorem dX1_mixInto_226 : decode cX1_mixInto 226 = .ok (.dup2, 1) := by decide +kernel
theorem dX1_mixInto_227 : decode cX1_mixInto 227 = .ok (.iaload, 1) := by decide +kernel
theorem dX1_mixInto_228 : decode cX1_mixInto 228 = .ok (.iload 7, 2) := by decide +kernel
theorem dX1_mixInto_230 : decode cX1_mixInto 230 = .ok (.iadd, 1) := by decide +kernel
theorem dX1_mixInto_231 : decode cX1_mixInto 231 = .ok (.iastore, 1) := by decide +kernel
theorem dX1_mixInto_232 : decode cX1_mixInto 232 = .ok (.aload_n 1, 1) := by decide +kernel
theorem dX1_mixInto_233 : decode cX1_mixInto 233 = .ok (.bipush 6, 2) := by decide +kernel
theorem dX1_mixInto_235 : decode cX1_mixInto 235 = .ok (.dup2, 1) := by decide +kernel
theorem dX1_mixInto_236 : decode cX1_mixInto 236 = .ok (.iaload, 1) := by decide +kernel
theorem dX1_mixInto_237 : decode cX1_mixInto 237 = .ok (.iload 8, 2) := by decide +kernel
theorem dX1_mixInto_239 : decode cX1_mixInto 239 = .ok (.iadd, 1) := by decide +kernel
theorem dX1_mixInto_240 : decode cX1_mixInto 240 = .ok (.iastore, 1) := by decide +kernel
theorem dX1_mixInto_241 : decode cX1_mixInto 241 = .ok (.aload_n 1, 1) := by decide +kernel
theorem dX1_mixInto_242 : decode cX1_mixInto 242 = .ok (.bipush 7, 2) := by decide +kernel
theorem dX1_mixInto_244 : decode cX1_mixInto 244 = .ok (.dup2, 1) := by decide +kernel
theorem dX1_mixInto_245 : decode cX1_mixInto 245 = .ok (.iaload, 1) := by decide +kernel
theorem dX1_mixInto_246 : decode cX1_mixInto 246 = .ok (.iload 9, 2) := by decide +kernel
theorem dX1_mixInto_248 : decode cX1_mixInto 248 = .ok (.iadd, 1) := by decide +kernel
theorem dX1_mixInto_249 : decode cX1_mixInto 249 = .ok (.iastore, 1) := by decide +kernel
theorem dX1_mixInto_250 : decode cX1_mixInto 250 = .ok (.return_, 1) := by decide +kernel
set_option maxRecDepth 20000 in
theorem ggX1_spread_X2_right : GoodIn wsX1_spread wsX2_right := goodIn_r _ [4] (by decide +kernel) (by decide +kernel)
set_option maxRecDepth 20000 in
theorem gX1_spread_X2_right_n57 : GoodIn wsX1_spread (wsX2_right) := ggX1_spread_X2_right
theorem dX1_spread_0 : decode cX1_spread 0 = .ok (.bipush 16, 2) := by decide +kernel
theorem dX1_spread_2 : decode cX1_spread 2 = .ok (.istore_n 1, 1) := by decide +kernel
theorem dX1_spread_3 : decode cX1_spread 3 = .ok (.iload_n 1, 1) := by decide +kernel
theorem dX1_spread_4 : decode cX1_spread 4 = .ok (.bipush 64, 2) := by decide +kernel
theorem dX1_spread_6 : decode cX1_spread 6 = .ok (.if_icmp .ge 90, 3) := by decide +kernel
theorem dX1_spread_9 : decode cX1_spread 9 = .ok (.aload_n 0, 1) := by decide +kernel
theorem dX1_spread_10 : decode cX1_spread 10 = .ok (.getfield 18, 3) := by decide +kernel
theorem dX1_spread_13 : decode cX1_spread 13 = .ok (.iload_n 1, 1) := by decide +kernel
theorem dX1_spread_14 : decode cX1_spread 14 = .ok (.bipush 15, 2) := by decide +kernel
theorem dX1_spread_16 : decode cX1_spread 16 = .ok (.isub, 1) := by decide +kernel
theorem dX1_spread_17 : decode cX1_spread 17 = .ok (.iaload, 1) := by decide +kernel
theorem dX1_spread_18 : decode cX1_spread 18 = .ok (.istore_n 2, 1) := by decide +kernel
theorem dX1_spread_19 : decode cX1_spread 19 = .ok (.aload_n 0, 1) := by decide +kernel
theorem dX1_spread_20 : decode cX1_spread 20 = .ok (.getfield 18, 3) := by decide +kernel
theorem dX1_spread_23 : decode cX1_spread 23 = .ok (.iload_n 1, 1) := by decide +kernel
theorem dX1_spread_24 : decode cX1_spread 24 = .ok (.iconst 2, 1) := by decide +kernel
theorem dX1_spread_25 : decode cX1_spread 25 = .ok (.isub, 1) := by decide +kernel
theorem dX1_spread_26 : decode cX1_spread 26 = .ok (.iaload, 1) := by decide +kernel
theorem dX1_spread_27 : decode cX1_spread 27 = .ok (.istore_n 3, 1) := by decide +kernel
theorem dX1_spread_28 : decode cX1_spread 28 = .ok (.aload_n 0, 1) := by decide +kernel
theorem dX1_spread_29 : decode cX1_spread 29 = .ok (.getfield 18, 3) := by decide +kernel
theorem dX1_spread_32 : decode cX1_spread 32 = .ok (.iload_n 1, 1) := by decide +kernel
theorem dX1_spread_33 : decode cX1_spread 33 = .ok (.aload_n 0, 1) := by decide +kernel
theorem dX1_spread_34 : decode cX1_spread 34 = .ok (.getfield 18, 3) := by decide +kernel
theorem dX1_spread_37 : decode cX1_spread 37 = .ok (.iload_n 1, 1) := by decide +kernel
theorem dX1_spread_38 : decode cX1_spread 38 = .ok (.bipush 16, 2) := by decide +kernel
theorem dX1_spread_40 : decode cX1_spread 40 = .ok (.isub, 1) := by decide +kernel
theorem dX1_spread_41 : decode cX1_spread 41 = .ok (.iaload, 1) := by decide +kernel
theorem dX1_spread_42 : decode cX1_spread 42 = .ok (.iload_n 2, 1) := by decide +kernel
theorem dX1_spread_43 : decode cX1_spread 43 = .ok (.bipush 7, 2) := by decide +kernel
theorem dX1_spread_45 : decode cX1_spread 45 = .ok (.invokestatic 57, 3) := by decide +kernel
theorem dX1_spread_48 : decode cX1_spread 48 = .ok (.iload_n 2, 1) := by decide +kernel
theorem dX1_spread_49 : decode cX1_spread 49 = .ok (.bipush 18, 2) := by decide +kernel
theorem dX1_spread_51 : decode cX1_spread 51 = .ok (.invokestatic 57, 3) := by decide +kernel
theorem dX1_spread_54 : decode cX1_spread 54 = .ok (.ixor, 1) := by decide +kernel
theorem dX1_spread_55 : decode cX1_spread 55 = .ok (.iload_n 2, 1) := by decide +kernel
theorem dX1_spread_56 : decode cX1_spread 56 = .ok (.iconst 3, 1) := by decide +kernel
theorem dX1_spread_57 : decode cX1_spread 57 = .ok (.iushr, 1) := by decide +kernel
theorem dX1_spread_58 : decode cX1_spread 58 = .ok (.ixor, 1) := by decide +kernel
theorem dX1_spread_59 : decode cX1_spread 59 = .ok (.iadd, 1) := by decide +kernel
theorem dX1_spread_60 : decode cX1_spread 60 = .ok (.aload_n 0, 1) := by decide +kernel
theorem dX1_spread_61 : decode cX1_spread 61 = .ok (.getfield 18, 3) := by decide +kernel
theorem dX1_spread_64 : decode cX1_spread 64 = .ok (.iload_n 1, 1) := by decide +kernel
theorem dX1_spread_65 : decode cX1_spread 65 = .ok (.bipush 7, 2) := by decide +kernel
theorem dX1_spread_67 : decode cX1_spread 67 = .ok (.isub, 1) := by decide +kernel
theorem dX1_spread_68 : decode cX1_spread 68 = .ok (.iaload, 1) := by decide +kernel
theorem dX1_spread_69 : decode cX1_spread 69 = .ok (.iadd, 1) := by decide +kernel
theorem dX1_spread_70 : decode cX1_spread 70 = .ok (.iload_n 3, 1) := by decide +kernel
theorem dX1_spread_71 : decode cX1_spread 71 = .ok (.bipush 17, 2) := by decide +kernel
theorem dX1_spread_73 : decode cX1_spread 73 = .ok (.invokestatic 57, 3) := by decide +kernel
theorem dX1_spread_76 : decode cX1_spread 76 = .ok (.iload_n 3, 1) := by decide +kernel
theorem dX1_spread_77 : decode cX1_spread 77 = .ok (.bipush 19, 2) := by decide +kernel
theorem dX1_spread_79 : decode cX1_spread 79 = .ok (.invokestatic 57, 3) := by decide +kernel
theorem dX1_spread_82 : decode cX1_spread 82 = .ok (.ixor, 1) := by decide +kernel
theorem dX1_spread_83 : decode cX1_spread 83 = .ok (.iload_n 3, 1) := by decide +kernel
theorem dX1_spread_84 : decode cX1_spread 84 = .ok (.bipush 10, 2) := by decide +kernel
theorem dX1_spread_86 : decode cX1_spread 86 = .ok (.iushr, 1) := by decide +kernel
theorem dX1_spread_87 : decode cX1_spread 87 = .ok (.ixor, 1) := by decide +kernel
theorem dX1_spread_88 : decode cX1_spread 88 = .ok (.iadd, 1) := by decide +kernel
theorem dX1_spread_89 : decode cX1_spread 89 = .ok (.iastore, 1) := by decide +kernel
theorem dX1_spread_90 : decode cX1_spread 90 = .ok (.iinc 1 1, 3) := by decide +kernel
theorem dX1_spread_93 : decode cX1_spread 93 = .ok (.goto (-90), 3) := by decide +kernel
theorem dX1_spread_96 : decode cX1_spread 96 = .ok (.return_, 1) := by decide +kernel
set_option maxRecDepth 20000 in
theorem ggX2_init_X1_init : GoodIn wsX2_init wsX1_init := goodIn_r _ [33, 34, 2, 3, 12, 35, 36, 37, 42, 43, 44] (by decide +kernel) (by decide +kernel)
set_option maxRecDepth 20000 in
theorem gX2_init_X1_init_n9 : GoodIn wsX2_init (wsX1_init) := ggX2_init_X1_init
set_option maxRecDepth 20000 in
theorem ggX2_init_X0_init : GoodIn wsX2_init wsX0_init := goodIn_r _ [39, 40, 2, 3, 12, 41, 59] (by decide +kernel) (by decide +kernel)
set_option maxRecDepth 20000 in
theorem gX2_init_X0_init_n18 : GoodIn wsX2_init (wsX0_init) := ggX2_init_X0_init
theorem dX2_init_0 : decode cX2_init 0 = .ok (.aload_n 0, 1) := by decide +kernel
theorem dX2_init_1 : decode cX2_init 1 = .ok (.invokespecial 1, 3) := by decide +kernel
theorem dX2_init_4 : decode cX2_init 4 = .ok (.aload_n 0, 1) := by decide +kernel
theorem dX2_init_5 : decode cX2_init 5 = .ok (.new 7, 3) := by decide +kernel
theorem dX2_init_8 : decode cX2_init 8 = .ok (.dup, 1) := by decide +kernel
theorem dX2_init_9 : decode cX2_init 9 = .ok (.invokespecial 9, 3) := by decide +kernel
theorem dX2_init_12 : decode cX2_init 12 = .ok (.putfield 10, 3) := by decide +kernel
theorem dX2_init_15 : decode cX2_init 15 = .ok (.aload_n 0, 1) := by decide +kernel
theorem dX2_init_16 : decode cX2_init 16 = .ok (.new 16, 3) := by decide +kernel
theorem dX2_init_19 : decode cX2_init 19 = .ok (.dup, 1) := by decide +kernel
theorem dX2_init_20 : decode cX2_init 20 = .ok (.invokespecial 18, 3) := by decide +kernel
theorem dX2_init_23 : decode cX2_init 23 = .ok (.putfield 19, 3) := by decide +kernel
theorem dX2_init_26 : decode cX2_init 26 = .ok (.aload_n 0, 1) := by decide +kernel
theorem dX2_init_27 : decode cX2_init 27 = .ok (.sipush 2040, 3) := by decide +kernel
theorem dX2_init_30 : decode cX2_init 30 = .ok (.newarray .int, 2) := by decide +kernel
theorem dX2_init_32 : decode cX2_init 32 = .ok (.putfield 23, 3) := by decide +kernel
theorem dX2_init_35 : decode cX2_init 35 = .ok (.aload_n 0, 1) := by decide +kernel
theorem dX2_init_36 : decode cX2_init 36 = .ok (.bipush 8, 2) := by decide +kernel
theorem dX2_init_38 : decode cX2_init 38 = .ok (.newarray .int, 2) := by decide +kernel
theorem dX2_init_40 : decode cX2_init 40 = .ok (.putfield 27, 3) := by decide +kernel
theorem dX2_init_43 : decode cX2_init 43 = .ok (.aload_n 0, 1) := by decide +kernel
theorem dX2_init_44 : decode cX2_init 44 = .ok (.bipush 34, 2) := by decide +kernel
theorem dX2_init_46 : decode cX2_init 46 = .ok (.newarray .int, 2) := by decide +kernel
theorem dX2_init_48 : decode cX2_init 48 = .ok (.putfield 30, 3) := by decide +kernel
theorem dX2_init_51 : decode cX2_init 51 = .ok (.aload_n 0, 1) := by decide +kernel
theorem dX2_init_52 : decode cX2_init 52 = .ok (.sipush 1560, 3) := by decide +kernel
theorem dX2_init_55 : decode cX2_init 55 = .ok (.newarray .int, 2) := by decide +kernel
theorem dX2_init_57 : decode cX2_init 57 = .ok (.putfield 33, 3) := by decide +kernel
theorem dX2_init_60 : decode cX2_init 60 = .ok (.aload_n 0, 1) := by decide +kernel
theorem dX2_init_61 : decode cX2_init 61 = .ok (.iconst 0, 1) := by decide +kernel
theorem dX2_init_62 : decode cX2_init 62 = .ok (.putfield 36, 3) := by decide +kernel
theorem dX2_init_65 : decode cX2_init 65 = .ok (.aload_n 0, 1) := by decide +kernel
theorem dX2_init_66 : decode cX2_init 66 = .ok (.iconst 0, 1) := by decide +kernel
theorem dX2_init_67 : decode cX2_init 67 = .ok (.putfield 40, 3) := by decide +kernel
theorem dX2_init_70 : decode cX2_init 70 = .ok (.aload_n 0, 1) := by decide +kernel
theorem dX2_init_71 : decode cX2_init 71 = .ok (.iconst 0, 1) := by decide +kernel
theorem dX2_init_72 : decode cX2_init 72 = .ok (.bipush 20, 2) := by decide +kernel
theorem dX2_init_74 : decode cX2_init 74 = .ok (.iload_n 1, 1) := by decide +kernel
theorem dX2_init_75 : decode cX2_init 75 = .ok (.invokestatic 43, 3) := by decide +kernel
theorem dX2_init_78 : decode cX2_init 78 = .ok (.invokestatic 49, 3) := by decide +kernel
theorem dX2_init_81 : decode cX2_init 81 = .ok (.putfield 52, 3) := by decide +kernel
theorem dX2_init_84 : decode cX2_init 84 = .ok (.aload_n 0, 1) := by decide +kernel
theorem dX2_init_85 : decode cX2_init 85 = .ok (.iconst 0, 1) := by decide +kernel
theorem dX2_init_86 : decode cX2_init 86 = .ok (.putfield 55, 3) := by decide +kernel
theorem dX2_init_89 : decode cX2_init 89 = .ok (.aload_n 0, 1) := by decide +kernel
theorem dX2_init_90 : decode cX2_init 90 = .ok (.iconst (-1), 1) := by decide +kernel
theorem dX2_init_91 : decode cX2_init 91 = .ok (.putfield 58, 3) := by decide +kernel
theorem dX2_init_94 : decode cX2_init 94 = .ok (.aload_n 0, 1) := by decide +kernel
theorem dX2_init_95 : decode cX2_init 95 = .ok (.iconst 0, 1) := by decide +kernel
theorem dX2_init_96 : decode cX2_init 96 = .ok (.putfield 61, 3) := by decide +kernel
theorem dX2_init_99 : decode cX2_init 99 = .ok (.aload_n 0, 1) := by decide +kernel
theorem dX2_init_100 : decode cX2_init 100 = .ok (.iconst 0, 1) := by decide +kernel
theorem dX2_init_101 : decode cX2_init 101 = .ok (.putfield 64, 3) := by decide +kernel
theorem dX2_init_104 : decode cX2_init 104 = .ok (.aload_n 0, 1) := by decide +kernel
theorem dX2_init_105 : decode cX2_init 105 = .ok (.iconst 0, 1) := by decide +kernel
theorem dX2_init_106 : decode cX2_init 106 = .ok (.putfield 67, 3) := by decide +kernel
theorem dX2_init_109 : decode cX2_init 109 = .ok (.return_, 1) := by decide +kernel
set_option maxRecDepth 20000 in
theorem ggX2_put_X2_forgetNonces : GoodIn wsX2_put wsX2_forgetNonces := goodIn_r _ [7, 8, 9, 10, 11, 12, 13, 14, 15, 16, 17, 18, 19, 20, 21, 22, 23] (by decide +kernel) (by decide +kernel)
set_option maxRecDepth 20000 in
theorem gX2_put_X2_forgetNonces : GoodIn wsX2_put (wsV RX2 70 RX2 yX2_forgetNonces wsX2_forgetNonces) := goodIn_app (goodIn_of _ (by decide +kernel)) ggX2_put_X2_forgetNonces
theorem dX2_put_0 : decode cX2_put 0 = .ok (.aload_n 0, 1) := by decide +kernel
theorem dX2_put_1 : decode cX2_put 1 = .ok (.getfield 40, 3) := by decide +kernel
theorem dX2_put_4 : decode cX2_put 4 = .ok (.bipush 8, 2) := by decide +kernel
theorem dX2_put_6 : decode cX2_put 6 = .ok (.if_icmp .lt 6, 3) := by decide +kernel
theorem dX2_put_9 : decode cX2_put 9 = .ok (.bipush (-3), 2) := by decide +kernel
theorem dX2_put_11 : decode cX2_put 11 = .ok (.ireturn, 1) := by decide +kernel
theorem dX2_put_12 : decode cX2_put 12 = .ok (.aload_n 0, 1) := by decide +kernel
theorem dX2_put_13 : decode cX2_put 13 = .ok (.getfield 30, 3) := by decide +kernel
theorem dX2_put_16 : decode cX2_put 16 = .ok (.bipush 16, 2) := by decide +kernel
theorem dX2_put_18 : decode cX2_put 18 = .ok (.aload_n 0, 1) := by decide +kernel
theorem dX2_put_19 : decode cX2_put 19 = .ok (.getfield 40, 3) := by decide +kernel
theorem dX2_put_22 : decode cX2_put 22 = .ok (.iadd, 1) := by decide +kernel
theorem dX2_put_23 : decode cX2_put 23 = .ok (.iload_n 1, 1) := by decide +kernel
theorem dX2_put_24 : decode cX2_put 24 = .ok (.iastore, 1) := by decide +kernel
theorem dX2_put_25 : decode cX2_put 25 = .ok (.aload_n 0, 1) := by decide +kernel
theorem dX2_put_26 : decode cX2_put 26 = .ok (.dup, 1) := by decide +kernel
theorem dX2_put_27 : decode cX2_put 27 = .ok (.getfield 40, 3) := by decide +kernel
theorem dX2_put_30 : decode cX2_put 30 = .ok (.iconst 1, 1) := by decide +kernel
theorem dX2_put_31 : decode cX2_put 31 = .ok (.iadd, 1) := by decide +kernel
theorem dX2_put_32 : decode cX2_put 32 = .ok (.putfield 40, 3) := by decide +kernel
theorem dX2_put_35 : decode cX2_put 35 = .ok (.aload_n 0, 1) := by decide +kernel
theorem dX2_put_36 : decode cX2_put 36 = .ok (.invokevirtual 70, 3) := by decide +kernel
theorem dX2_put_39 : decode cX2_put 39 = .ok (.aload_n 0, 1) := by decide +kernel
theorem dX2_put_40 : decode cX2_put 40 = .ok (.getfield 40, 3) := by decide +kernel
theorem dX2_put_43 : decode cX2_put 43 = .ok (.ireturn, 1) := by decide +kernel
set_option maxRecDepth 20000 in
theorem ggX2_takeBack_X2_clearWordsFrom : GoodIn wsX2_takeBack wsX2_clearWordsFrom := goodIn_r _ [6, 7, 1, 8, 9, 10, 11, 12, 13, 14, 21, 22, 23, 24, 25, 26, 27, 28, 29, 30, 31, 32, 33, 34] (by decide +kernel) (by decide +kernel)
set_option maxRecDepth 20000 in
theorem gX2_takeBack_X2_clearWordsFrom : GoodIn wsX2_takeBack (wsV RX2 73 RX2 yX2_clearWordsFrom wsX2_clearWordsFrom) := goodIn_app (goodIn_of _ (by decide +kernel)) ggX2_takeBack_X2_clearWordsFrom
set_option maxRecDepth 20000 in
theorem ggX2_takeBack_X2_forgetNonces : GoodIn wsX2_takeBack wsX2_forgetNonces := goodIn_r _ [18, 19, 20, 21, 22, 23, 24, 25, 26, 27, 28, 29, 30, 31, 32, 33, 34] (by decide +kernel) (by decide +kernel)
set_option maxRecDepth 20000 in
theorem gX2_takeBack_X2_forgetNonces : GoodIn wsX2_takeBack (wsV RX2 70 RX2 yX2_forgetNonces wsX2_forgetNonces) := goodIn_app (goodIn_of _ (by decide +kernel)) ggX2_takeBack_X2_forgetNonces
theorem dX2_takeBack_0 : decode cX2_takeBack 0 = .ok (.iload_n 1, 1) := by decide +kernel
theorem dX2_takeBack_1 : decode cX2_takeBack 1 = .ok (.iconst 1, 1) := by decide +kernel
theorem dX2_takeBack_2 : decode cX2_takeBack 2 = .ok (.if_icmp .lt 11, 3) := by decide +kernel
theorem dX2_takeBack_5 : decode cX2_takeBack 5 = .ok (.iload_n 1, 1) := by decide +kernel
theorem dX2_takeBack_6 : decode cX2_takeBack 6 = .ok (.aload_n 0, 1) := by decide +kernel
theorem dX2_takeBack_7 : decode cX2_takeBack 7 = .ok (.getfield 40, 3) := by decide +kernel
theorem dX2_takeBack_10 : decode cX2_takeBack 10 = .ok (.if_icmp .le 6, 3) := by decide +kernel
theorem dX2_takeBack_13 : decode cX2_takeBack 13 = .ok (.bipush (-2), 2) := by decide +kernel
theorem dX2_takeBack_15 : decode cX2_takeBack 15 = .ok (.ireturn, 1) := by decide +kernel
theorem dX2_takeBack_16 : decode cX2_takeBack 16 = .ok (.aload_n 0, 1) := by decide +kernel
theorem dX2_takeBack_17 : decode cX2_takeBack 17 = .ok (.aload_n 0, 1) := by decide +kernel
theorem dX2_takeBack_18 : decode cX2_takeBack 18 = .ok (.getfield 40, 3) := by decide +kernel
theorem dX2_takeBack_21 : decode cX2_takeBack 21 = .ok (.iload_n 1, 1) := by decide +kernel
theorem dX2_takeBack_22 : decode cX2_takeBack 22 = .ok (.isub, 1) := by decide +kernel
theorem dX2_takeBack_23 : decode cX2_takeBack 23 = .ok (.invokevirtual 73, 3) := by decide +kernel
theorem dX2_takeBack_26 : decode cX2_takeBack 26 = .ok (.aload_n 0, 1) := by decide +kernel
theorem dX2_takeBack_27 : decode cX2_takeBack 27 = .ok (.invokevirtual 70, 3) := by decide +kernel
theorem dX2_takeBack_30 : decode cX2_takeBack 30 = .ok (.aload_n 0, 1) := by decide +kernel
theorem dX2_takeBack_31 : decode cX2_takeBack 31 = .ok (.getfield 40, 3) := by decide +kernel
theorem dX2_takeBack_34 : decode cX2_takeBack 34 = .ok (.ireturn, 1) := by decide +kernel
theorem dX2_pending_0 : decode cX2_pending 0 = .ok (.iload_n 1, 1) := by decide +kernel
theorem dX2_pending_1 : decode cX2_pending 1 = .ok (.ifCond .lt 11, 3) := by decide +kernel
theorem dX2_pending_4 : decode cX2_pending 4 = .ok (.iload_n 1, 1) := by decide +kernel
theorem dX2_pending_5 : decode cX2_pending 5 = .ok (.aload_n 0, 1) := by decide +kernel
theorem dX2_pending_6 : decode cX2_pending 6 = .ok (.getfield 40, 3) := by decide +kernel
theorem dX2_pending_9 : decode cX2_pending 9 = .ok (.if_icmp .lt 5, 3) := by decide +kernel
theorem dX2_pending_12 : decode cX2_pending 12 = .ok (.iconst 0, 1) := by decide +kernel
theorem dX2_pending_13 : decode cX2_pending 13 = .ok (.ireturn, 1) := by decide +kernel
theorem dX2_pending_14 : decode cX2_pending 14 = .ok (.aload_n 0, 1) := by decide +kernel
theorem dX2_pending_15 : decode cX2_pending 15 = .ok (.getfield 30, 3) := by decide +kernel
theorem dX2_pending_18 : decode cX2_pending 18 = .ok (.bipush 16, 2) := by decide +kernel
theorem dX2_pending_20 : decode cX2_pending 20 = .ok (.iload_n 1, 1) := by decide +kernel
theorem dX2_pending_21 : decode cX2_pending 21 = .ok (.iadd, 1) := by decide +kernel
theorem dX2_pending_22 : decode cX2_pending 22 = .ok (.iaload, 1) := by decide +kernel
theorem dX2_pending_23 : decode cX2_pending 23 = .ok (.ireturn, 1) := by decide +kernel
set_option maxRecDepth 20000 in
theorem ggX2_difficulty_X2_forgetNonces : GoodIn wsX2_difficulty wsX2_forgetNonces := goodIn_r _ [6, 7, 8, 9, 10, 11, 12, 13, 14, 15, 16, 17, 18, 19, 20, 21, 22] (by decide +kernel) (by decide +kernel)
set_option maxRecDepth 20000 in
theorem gX2_difficulty_X2_forgetNonces : GoodIn wsX2_difficulty (wsV RX2 70 RX2 yX2_forgetNonces wsX2_forgetNonces) := goodIn_app (goodIn_of _ (by decide +kernel)) ggX2_difficulty_X2_forgetNonces
theorem dX2_difficulty_0 : decode cX2_difficulty 0 = .ok (.iload_n 1, 1) := by decide +kernel
theorem dX2_difficulty_1 : decode cX2_difficulty 1 = .ok (.ifCond .lt 9, 3) := by decide +kernel
theorem dX2_difficulty_4 : decode cX2_difficulty 4 = .ok (.iload_n 1, 1) := by decide +kernel
theorem dX2_difficulty_5 : decode cX2_difficulty 5 = .ok (.bipush 20, 2) := by decide +kernel
theorem dX2_difficulty_7 : decode cX2_difficulty 7 = .ok (.if_icmp .le 6, 3) := by decide +kernel
theorem dX2_difficulty_10 : decode cX2_difficulty 10 = .ok (.bipush (-2), 2) := by decide +kernel
theorem dX2_difficulty_12 : decode cX2_difficulty 12 = .ok (.ireturn, 1) := by decide +kernel
theorem dX2_difficulty_13 : decode cX2_difficulty 13 = .ok (.aload_n 0, 1) := by decide +kernel
theorem dX2_difficulty_14 : decode cX2_difficulty 14 = .ok (.getfield 52, 3) := by decide +kernel
theorem dX2_difficulty_17 : decode cX2_difficulty 17 = .ok (.istore_n 2, 1) := by decide +kernel
theorem dX2_difficulty_18 : decode cX2_difficulty 18 = .ok (.aload_n 0, 1) := by decide +kernel
theorem dX2_difficulty_19 : decode cX2_difficulty 19 = .ok (.iload_n 1, 1) := by decide +kernel
theorem dX2_difficulty_20 : decode cX2_difficulty 20 = .ok (.putfield 52, 3) := by decide +kernel
theorem dX2_difficulty_23 : decode cX2_difficulty 23 = .ok (.aload_n 0, 1) := by decide +kernel
theorem dX2_difficulty_24 : decode cX2_difficulty 24 = .ok (.invokevirtual 70, 3) := by decide +kernel
theorem dX2_difficulty_27 : decode cX2_difficulty 27 = .ok (.iload_n 2, 1) := by decide +kernel
theorem dX2_difficulty_28 : decode cX2_difficulty 28 = .ok (.ireturn, 1) := by decide +kernel
set_option maxRecDepth 20000 in
theorem ggX2_mine_X2_fillDraft : GoodIn wsX2_mine wsX2_fillDraft := goodIn_r _ [12, 13, 14, 15, 16, 17, 18, 19, 11, 20, 21, 22, 23, 24, 25, 26, 27, 28, 29, 30, 31, 32, 33, 34, 35, 36, 37, 38, 39, 85, 86, 87, 88, 89, 90, 91, 92, 93, 94, 95, 96, 97, 98] (by decide +kernel) (by decide +kernel)
set_option maxRecDepth 20000 in
theorem gX2_mine_X2_fillDraft : GoodIn wsX2_mine (wsV RX2 78 RX2 yX2_fillDraft wsX2_fillDraft) := goodIn_app (goodIn_of _ (by decide +kernel)) ggX2_mine_X2_fillDraft
set_option maxRecDepth 20000 in
theorem ggX2_mine_X2_tryNonces : GoodIn wsX2_mine wsX2_tryNonces := goodIn_r _ [43, 44, 14, 1, 2, 15, 45, 46, 47, 48, 49, 50, 51, 52, 23, 24, 25, 53, 54, 55, 56, 57, 58, 59, 60, 61, 62, 63, 11, 64, 65, 66, 67, 68, 69, 70, 71, 31, 32, 33, 34, 35, 36, 72, 73, 74, 75, 76, 77, 78, 79, 80, 81, 82, 83, 84, 85, 86, 87, 88, 89, 90, 91, 92, 93, 94, 95, 96, 97, 98, 99, 100, 101] (by decide +kernel) (by decide +kernel)
set_option maxRecDepth 20000 in
theorem gX2_mine_X2_tryNonces : GoodIn wsX2_mine (wsV RX2 81 RX2 yX2_tryNonces wsX2_tryNonces) := goodIn_app (goodIn_of _ (by decide +kernel)) ggX2_mine_X2_tryNonces
theorem dX2_mine_0 : decode cX2_mine 0 = .ok (.iload_n 1, 1) := by decide +kernel
theorem dX2_mine_1 : decode cX2_mine 1 = .ok (.iconst 1, 1) := by decide +kernel
theorem dX2_mine_2 : decode cX2_mine 2 = .ok (.if_icmp .lt 10, 3) := by decide +kernel
theorem dX2_mine_5 : decode cX2_mine 5 = .ok (.iload_n 1, 1) := by decide +kernel
theorem dX2_mine_6 : decode cX2_mine 6 = .ok (.sipush 3000, 3) := by decide +kernel
theorem dX2_mine_9 : decode cX2_mine 9 = .ok (.if_icmp .le 6, 3) := by decide +kernel
theorem dX2_mine_12 : decode cX2_mine 12 = .ok (.bipush (-2), 2) := by decide +kernel
theorem dX2_mine_14 : decode cX2_mine 14 = .ok (.ireturn, 1) := by decide +kernel
theorem dX2_mine_15 : decode cX2_mine 15 = .ok (.aload_n 0, 1) := by decide +kernel
theorem dX2_mine_16 : decode cX2_mine 16 = .ok (.getfield 58, 3) := by decide +kernel
theorem dX2_mine_19 : decode cX2_mine 19 = .ok (.iconst (-1), 1) := by decide +kernel
theorem dX2_mine_20 : decode cX2_mine 20 = .ok (.if_icmp .eq 8, 3) := by decide +kernel
theorem dX2_mine_23 : decode cX2_mine 23 = .ok (.aload_n 0, 1) := by decide +kernel
theorem dX2_mine_24 : decode cX2_mine 24 = .ok (.getfield 58, 3) := by decide +kernel
theorem dX2_mine_27 : decode cX2_mine 27 = .ok (.ireturn, 1) := by decide +kernel
theorem dX2_mine_28 : decode cX2_mine 28 = .ok (.aload_n 0, 1) := by decide +kernel
theorem dX2_mine_29 : decode cX2_mine 29 = .ok (.getfield 55, 3) := by decide +kernel
theorem dX2_mine_32 : decode cX2_mine 32 = .ok (.ldc 77, 2) := by decide +kernel
theorem dX2_mine_34 : decode cX2_mine 34 = .ok (.if_icmp .lt 6, 3) := by decide +kernel
theorem dX2_mine_37 : decode cX2_mine 37 = .ok (.bipush (-3), 2) := by decide +kernel
theorem dX2_mine_39 : decode cX2_mine 39 = .ok (.ireturn, 1) := by decide +kernel
theorem dX2_mine_40 : decode cX2_mine 40 = .ok (.aload_n 0, 1) := by decide +kernel
theorem dX2_mine_41 : decode cX2_mine 41 = .ok (.invokevirtual 78, 3) := by decide +kernel
theorem dX2_mine_44 : decode cX2_mine 44 = .ok (.aload_n 0, 1) := by decide +kernel
theorem dX2_mine_45 : decode cX2_mine 45 = .ok (.iload_n 1, 1) := by decide +kernel
theorem dX2_mine_46 : decode cX2_mine 46 = .ok (.ldc 77, 2) := by decide +kernel
theorem dX2_mine_48 : decode cX2_mine 48 = .ok (.aload_n 0, 1) := by decide +kernel
theorem dX2_mine_49 : decode cX2_mine 49 = .ok (.getfield 55, 3) := by decide +kernel
theorem dX2_mine_52 : decode cX2_mine 52 = .ok (.isub, 1) := by decide +kernel
theorem dX2_mine_53 : decode cX2_mine 53 = .ok (.invokestatic 43, 3) := by decide +kernel
theorem dX2_mine_56 : decode cX2_mine 56 = .ok (.invokevirtual 81, 3) := by decide +kernel
theorem dX2_mine_59 : decode cX2_mine 59 = .ok (.aload_n 0, 1) := by decide +kernel
theorem dX2_mine_60 : decode cX2_mine 60 = .ok (.getfield 58, 3) := by decide +kernel
theorem dX2_mine_63 : decode cX2_mine 63 = .ok (.ireturn, 1) := by decide +kernel
theorem dX2_tried_0 : decode cX2_tried 0 = .ok (.aload_n 0, 1) := by decide +kernel
theorem dX2_tried_1 : decode cX2_tried 1 = .ok (.getfield 55, 3) := by decide +kernel
theorem dX2_tried_4 : decode cX2_tried 4 = .ok (.ireturn, 1) := by decide +kernel
set_option maxRecDepth 20000 in
theorem ggX2_commit_X2_addToFilter : GoodIn wsX2_commit wsX2_addToFilter := goodIn_r _ [14, 15, 4, 16, 17, 18, 19, 20, 21, 22, 23, 24, 25, 26, 27, 28, 29, 30, 31, 32, 33, 34, 13, 35, 53, 54, 55, 56, 57, 58, 59, 60, 61, 62, 63, 64, 65, 66, 67] (by decide +kernel) (by decide +kernel)
set_option maxRecDepth 20000 in
theorem gX2_commit_X2_addToFilter : GoodIn wsX2_commit (wsV RX2 90 RX2 yX2_addToFilter wsX2_addToFilter) := goodIn_app (goodIn_of _ (by decide +kernel)) ggX2_commit_X2_addToFilter
set_option maxRecDepth 20000 in
theorem ggX2_commit_X2_clearWordsFrom : GoodIn wsX2_commit wsX2_clearWordsFrom := goodIn_r _ [39, 3, 40, 41, 42, 43, 44, 45, 46, 47, 53, 54, 55, 56, 57, 58, 59, 60, 61, 62, 63, 64, 65, 66] (by decide +kernel) (by decide +kernel)
set_option maxRecDepth 20000 in
theorem gX2_commit_X2_clearWordsFrom : GoodIn wsX2_commit (wsV RX2 73 RX2 yX2_clearWordsFrom wsX2_clearWordsFrom) := goodIn_app (goodIn_of _ (by decide +kernel)) ggX2_commit_X2_clearWordsFrom
set_option maxRecDepth 20000 in
theorem ggX2_commit_X2_forgetNonces : GoodIn wsX2_commit wsX2_forgetNonces := goodIn_r _ [51, 52, 2, 53, 54, 55, 56, 57, 58, 59, 60, 61, 62, 63, 64, 65, 66] (by decide +kernel) (by decide +kernel)
set_option maxRecDepth 20000 in
theorem gX2_commit_X2_forgetNonces : GoodIn wsX2_commit (wsV RX2 70 RX2 yX2_forgetNonces wsX2_forgetNonces) := goodIn_app (goodIn_of _ (by decide +kernel)) ggX2_commit_X2_forgetNonces
theorem dX2_commit_0 : decode cX2_commit 0 = .ok (.aload_n 0, 1) := by decide +kernel
theorem dX2_commit_1 : decode cX2_commit 1 = .ok (.getfield 36, 3) := by decide +kernel
theorem dX2_commit_4 : decode cX2_commit 4 = .ok (.bipush 60, 2) := by decide +kernel
theorem dX2_commit_6 : decode cX2_commit 6 = .ok (.if_icmp .lt 6, 3) := by decide +kernel
theorem dX2_commit_9 : decode cX2_commit 9 = .ok (.bipush (-4), 2) := by decide +kernel
theorem dX2_commit_11 : decode cX2_commit 11 = .ok (.ireturn, 1) := by decide +kernel
theorem dX2_commit_12 : decode cX2_commit 12 = .ok (.aload_n 0, 1) := by decide +kernel
theorem dX2_commit_13 : decode cX2_commit 13 = .ok (.getfield 58, 3) := by decide +kernel
theorem dX2_commit_16 : decode cX2_commit 16 = .ok (.iconst (-1), 1) := by decide +kernel
theorem dX2_commit_17 : decode cX2_commit 17 = .ok (.if_icmp .ne 6, 3) := by decide +kernel
theorem dX2_commit_20 : decode cX2_commit 20 = .ok (.bipush (-3), 2) := by decide +kernel
theorem dX2_commit_22 : decode cX2_commit 22 = .ok (.ireturn, 1) := by decide +kernel
theorem dX2_commit_23 : decode cX2_commit 23 = .ok (.aload_n 0, 1) := by decide +kernel
theorem dX2_commit_24 : decode cX2_commit 24 = .ok (.getfield 36, 3) := by decide +kernel
theorem dX2_commit_27 : decode cX2_commit 27 = .ok (.istore_n 1, 1) := by decide +kernel
theorem dX2_commit_28 : decode cX2_commit 28 = .ok (.aload_n 0, 1) := by decide +kernel
theorem dX2_commit_29 : decode cX2_commit 29 = .ok (.getfield 30, 3) := by decide +kernel
theorem dX2_commit_32 : decode cX2_commit 32 = .ok (.iconst 0, 1) := by decide +kernel
theorem dX2_commit_33 : decode cX2_commit 33 = .ok (.aload_n 0, 1) := by decide +kernel
theorem dX2_commit_34 : decode cX2_commit 34 = .ok (.getfield 23, 3) := by decide +kernel
theorem dX2_commit_37 : decode cX2_commit 37 = .ok (.iload_n 1, 1) := by decide +kernel
theorem dX2_commit_38 : decode cX2_commit 38 = .ok (.bipush 34, 2) := by decide +kernel
theorem dX2_commit_40 : decode cX2_commit 40 = .ok (.imul, 1) := by decide +kernel
theorem dX2_commit_41 : decode cX2_commit 41 = .ok (.bipush 34, 2) := by decide +kernel
theorem dX2_commit_43 : decode cX2_commit 43 = .ok (.invokestatic 84, 3) := by decide +kernel
theorem dX2_commit_46 : decode cX2_commit 46 = .ok (.aload_n 0, 1) := by decide +kernel
theorem dX2_commit_47 : decode cX2_commit 47 = .ok (.getfield 30, 3) := by decide +kernel
theorem dX2_commit_50 : decode cX2_commit 50 = .ok (.bipush 26, 2) := by decide +kernel
theorem dX2_commit_52 : decode cX2_commit 52 = .ok (.aload_n 0, 1) := by decide +kernel
theorem dX2_commit_53 : decode cX2_commit 53 = .ok (.getfield 27, 3) := by decide +kernel
theorem dX2_commit_56 : decode cX2_commit 56 = .ok (.iconst 0, 1) := by decide +kernel
theorem dX2_commit_57 : decode cX2_commit 57 = .ok (.bipush 8, 2) := by decide +kernel
theorem dX2_commit_59 : decode cX2_commit 59 = .ok (.invokestatic 84, 3) := by decide +kernel
theorem dX2_commit_62 : decode cX2_commit 62 = .ok (.aload_n 0, 1) := by decide +kernel
theorem dX2_commit_63 : decode cX2_commit 63 = .ok (.dup, 1) := by decide +kernel
theorem dX2_commit_64 : decode cX2_commit 64 = .ok (.getfield 36, 3) := by decide +kernel
theorem dX2_commit_67 : decode cX2_commit 67 = .ok (.iconst 1, 1) := by decide +kernel
theorem dX2_commit_68 : decode cX2_commit 68 = .ok (.iadd, 1) := by decide +kernel
theorem dX2_commit_69 : decode cX2_commit 69 = .ok (.putfield 36, 3) := by decide +kernel
theorem dX2_commit_72 : decode cX2_commit 72 = .ok (.aload_n 0, 1) := by decide +kernel
theorem dX2_commit_73 : decode cX2_commit 73 = .ok (.iload_n 1, 1) := by decide +kernel
theorem dX2_commit_74 : decode cX2_commit 74 = .ok (.invokevirtual 90, 3) := by decide +kernel
theorem dX2_commit_77 : decode cX2_commit 77 = .ok (.aload_n 0, 1) := by decide +kernel
theorem dX2_commit_78 : decode cX2_commit 78 = .ok (.iconst 0, 1) := by decide +kernel
theorem dX2_commit_79 : decode cX2_commit 79 = .ok (.invokevirtual 73, 3) := by decide +kernel
theorem dX2_commit_82 : decode cX2_commit 82 = .ok (.aload_n 0, 1) := by decide +kernel
theorem dX2_commit_83 : decode cX2_commit 83 = .ok (.invokevirtual 70, 3) := by decide +kernel
theorem dX2_commit_86 : decode cX2_commit 86 = .ok (.iload_n 1, 1) := by decide +kernel
theorem dX2_commit_87 : decode cX2_commit 87 = .ok (.ireturn, 1) := by decide +kernel
set_option maxRecDepth 20000 in
theorem ggX2_clearWordsFrom_J7_fill_fda19 : GoodIn wsX2_clearWordsFrom wsJ7_fill_fda19 := goodIn_r _ [6, 7, 8, 5, 9] (by decide +kernel) (by decide +kernel)
set_option maxRecDepth 20000 in
theorem gX2_clearWordsFrom_J7_fill_fda19 : GoodIn wsX2_clearWordsFrom (va_wsS RX2 93 yJ7_fill_fda19 wsJ7_fill_fda19) := goodIn_app (goodIn_of _ (by decide +kernel)) ggX2_clearWordsFrom_J7_fill_fda19
theorem dX2_clearWordsFrom_0 : decode cX2_clearWordsFrom 0 = .ok (.aload_n 0, 1) := by decide +kernel
theorem dX2_clearWordsFrom_1 : decode cX2_clearWordsFrom 1 = .ok (.getfield 30, 3) := by decide +kernel
theorem dX2_clearWordsFrom_4 : decode cX2_clearWordsFrom 4 = .ok (.bipush 16, 2) := by decide +kernel
theorem dX2_clearWordsFrom_6 : decode cX2_clearWordsFrom 6 = .ok (.iload_n 1, 1) := by decide +kernel
theorem dX2_clearWordsFrom_7 : decode cX2_clearWordsFrom 7 = .ok (.iadd, 1) := by decide +kernel
theorem dX2_clearWordsFrom_8 : decode cX2_clearWordsFrom 8 = .ok (.bipush 24, 2) := by decide +kernel
theorem dX2_clearWordsFrom_10 : decode cX2_clearWordsFrom 10 = .ok (.iconst 0, 1) := by decide +kernel
theorem dX2_clearWordsFrom_11 : decode cX2_clearWordsFrom 11 = .ok (.invokestatic 93, 3) := by decide +kernel
theorem dX2_clearWordsFrom_14 : decode cX2_clearWordsFrom 14 = .ok (.aload_n 0, 1) := by decide +kernel
theorem dX2_clearWordsFrom_15 : decode cX2_clearWordsFrom 15 = .ok (.iload_n 1, 1) := by decide +kernel
theorem dX2_clearWordsFrom_16 : decode cX2_clearWordsFrom 16 = .ok (.putfield 40, 3) := by decide +kernel
theorem dX2_clearWordsFrom_19 : decode cX2_clearWordsFrom 19 = .ok (.return_, 1) := by decide +kernel
theorem dX2_forgetNonces_0 : decode cX2_forgetNonces 0 = .ok (.aload_n 0, 1) := by decide +kernel
theorem dX2_forgetNonces_1 : decode cX2_forgetNonces 1 = .ok (.iconst 0, 1) := by decide +kernel
theorem dX2_forgetNonces_2 : decode cX2_forgetNonces 2 = .ok (.putfield 55, 3) := by decide +kernel
theorem dX2_forgetNonces_5 : decode cX2_forgetNonces 5 = .ok (.aload_n 0, 1) := by decide +kernel
theorem dX2_forgetNonces_6 : decode cX2_forgetNonces 6 = .ok (.iconst (-1), 1) := by decide +kernel
theorem dX2_forgetNonces_7 : decode cX2_forgetNonces 7 = .ok (.putfield 58, 3) := by decide +kernel
theorem dX2_forgetNonces_10 : decode cX2_forgetNonces 10 = .ok (.return_, 1) := by decide +kernel
set_option maxRecDepth 20000 in
theorem ggX2_fillDraft_X2_copyHashOf : GoodIn wsX2_fillDraft wsX2_copyHashOf := goodIn_r _ [9, 10, 2, 11, 12, 13, 14, 15, 16, 17, 8, 18, 1, 19, 20, 21, 22, 23, 24, 25, 29, 30, 31, 32, 33, 34, 35, 36, 37, 38, 39, 40, 41, 42] (by decide +kernel) (by decide +kernel)
set_option maxRecDepth 20000 in
theorem gX2_fillDraft_X2_copyHashOf : GoodIn wsX2_fillDraft (wsV RX2 99 RX2 yX2_copyHashOf wsX2_copyHashOf) := goodIn_app (goodIn_of _ (by decide +kernel)) ggX2_fillDraft_X2_copyHashOf
set_option maxRecDepth 20000 in
theorem ggX2_fillDraft_X2_skipOf : GoodIn wsX2_fillDraft wsX2_skipOf := goodIn_r _ [28] (by decide +kernel) (by decide +kernel)
set_option maxRecDepth 20000 in
theorem gX2_fillDraft_X2_skipOf : GoodIn wsX2_fillDraft (va_wsS RX2 103 yX2_skipOf wsX2_skipOf) := goodIn_app (goodIn_of _ (by decide +kernel)) ggX2_fillDraft_X2_skipOf
theorem dX2_fillDraft_0 : decode cX2_fillDraft 0 = .ok (.aload_n 0, 1) := by decide +kernel
theorem dX2_fillDraft_1 : decode cX2_fillDraft 1 = .ok (.aload_n 0, 1) := by decide +kernel
theorem dX2_fillDraft_2 : decode cX2_fillDraft 2 = .ok (.getfield 36, 3) := by decide +kernel
theorem dX2_fillDraft_5 : decode cX2_fillDraft 5 = .ok (.iconst 1, 1) := by decide +kernel
theorem dX2_fillDraft_6 : decode cX2_fillDraft 6 = .ok (.isub, 1) := by decide +kernel
theorem dX2_fillDraft_7 : decode cX2_fillDraft 7 = .ok (.iconst 0, 1) := by decide +kernel
theorem dX2_fillDraft_8 : decode cX2_fillDraft 8 = .ok (.invokevirtual 99, 3) := by decide +kernel
theorem dX2_fillDraft_11 : decode cX2_fillDraft 11 = .ok (.aload_n 0, 1) := by decide +kernel
theorem dX2_fillDraft_12 : decode cX2_fillDraft 12 = .ok (.aload_n 0, 1) := by decide +kernel
theorem dX2_fillDraft_13 : decode cX2_fillDraft 13 = .ok (.getfield 36, 3) := by decide +kernel
theorem dX2_fillDraft_16 : decode cX2_fillDraft 16 = .ok (.invokestatic 103, 3) := by decide +kernel
theorem dX2_fillDraft_19 : decode cX2_fillDraft 19 = .ok (.bipush 8, 2) := by decide +kernel
theorem dX2_fillDraft_21 : decode cX2_fillDraft 21 = .ok (.invokevirtual 99, 3) := by decide +kernel
theorem dX2_fillDraft_24 : decode cX2_fillDraft 24 = .ok (.aload_n 0, 1) := by decide +kernel
theorem dX2_fillDraft_25 : decode cX2_fillDraft 25 = .ok (.getfield 30, 3) := by decide +kernel
theorem dX2_fillDraft_28 : decode cX2_fillDraft 28 = .ok (.bipush 24, 2) := by decide +kernel
theorem dX2_fillDraft_30 : decode cX2_fillDraft 30 = .ok (.bipush 16, 2) := by decide +kernel
theorem dX2_fillDraft_32 : decode cX2_fillDraft 32 = .ok (.aload_n 0, 1) := by decide +kernel
theorem dX2_fillDraft_33 : decode cX2_fillDraft 33 = .ok (.getfield 52, 3) := by decide +kernel
theorem dX2_fillDraft_36 : decode cX2_fillDraft 36 = .ok (.imul, 1) := by decide +kernel
theorem dX2_fillDraft_37 : decode cX2_fillDraft 37 = .ok (.aload_n 0, 1) := by decide +kernel
theorem dX2_fillDraft_38 : decode cX2_fillDraft 38 = .ok (.getfield 40, 3) := by decide +kernel
theorem dX2_fillDraft_41 : decode cX2_fillDraft 41 = .ok (.iadd, 1) := by decide +kernel
theorem dX2_fillDraft_42 : decode cX2_fillDraft 42 = .ok (.iastore, 1) := by decide +kernel
theorem dX2_fillDraft_43 : decode cX2_fillDraft 43 = .ok (.return_, 1) := by decide +kernel
set_option maxRecDepth 20000 in
theorem ggX2_copyHashOf_X2_hasEntry : GoodIn wsX2_copyHashOf wsX2_hasEntry := goodIn_r _ [11, 12, 20, 21, 22, 23, 24, 25, 26, 27, 28, 29, 30, 31, 32, 33] (by decide +kernel) (by decide +kernel)
set_option maxRecDepth 20000 in
theorem gX2_copyHashOf_X2_hasEntry : GoodIn wsX2_copyHashOf (wsV RX2 107 RX2 yX2_hasEntry wsX2_hasEntry) := goodIn_app (goodIn_of _ (by decide +kernel)) ggX2_copyHashOf_X2_hasEntry
set_option maxRecDepth 20000 in
theorem ggX2_copyHashOf_J7_fill_fda19 : GoodIn wsX2_copyHashOf wsJ7_fill_fda19 := goodIn_r _ [16, 17, 18, 15, 19] (by decide +kernel) (by decide +kernel)
set_option maxRecDepth 20000 in
theorem gX2_copyHashOf_J7_fill_fda19 : GoodIn wsX2_copyHashOf (va_wsS RX2 93 yJ7_fill_fda19 wsJ7_fill_fda19) := goodIn_app (goodIn_of _ (by decide +kernel)) ggX2_copyHashOf_J7_fill_fda19
theorem dX2_copyHashOf_0 : decode cX2_copyHashOf 0 = .ok (.aload_n 0, 1) := by decide +kernel
theorem dX2_copyHashOf_1 : decode cX2_copyHashOf 1 = .ok (.iload_n 1, 1) := by decide +kernel
theorem dX2_copyHashOf_2 : decode cX2_copyHashOf 2 = .ok (.invokevirtual 107, 3) := by decide +kernel
theorem dX2_copyHashOf_5 : decode cX2_copyHashOf 5 = .ok (.ifCond .eq 27, 3) := by decide +kernel
theorem dX2_copyHashOf_8 : decode cX2_copyHashOf 8 = .ok (.aload_n 0, 1) := by decide +kernel
theorem dX2_copyHashOf_9 : decode cX2_copyHashOf 9 = .ok (.getfield 23, 3) := by decide +kernel
theorem dX2_copyHashOf_12 : decode cX2_copyHashOf 12 = .ok (.iload_n 1, 1) := by decide +kernel
theorem dX2_copyHashOf_13 : decode cX2_copyHashOf 13 = .ok (.bipush 34, 2) := by decide +kernel
theorem dX2_copyHashOf_15 : decode cX2_copyHashOf 15 = .ok (.imul, 1) := by decide +kernel
theorem dX2_copyHashOf_16 : decode cX2_copyHashOf 16 = .ok (.bipush 26, 2) := by decide +kernel
theorem dX2_copyHashOf_18 : decode cX2_copyHashOf 18 = .ok (.iadd, 1) := by decide +kernel
theorem dX2_copyHashOf_19 : decode cX2_copyHashOf 19 = .ok (.aload_n 0, 1) := by decide +kernel
theorem dX2_copyHashOf_20 : decode cX2_copyHashOf 20 = .ok (.getfield 30, 3) := by decide +kernel
theorem dX2_copyHashOf_23 : decode cX2_copyHashOf 23 = .ok (.iload_n 2, 1) := by decide +kernel
theorem dX2_copyHashOf_24 : decode cX2_copyHashOf 24 = .ok (.bipush 8, 2) := by decide +kernel
theorem dX2_copyHashOf_26 : decode cX2_copyHashOf 26 = .ok (.invokestatic 84, 3) := by decide +kernel
theorem dX2_copyHashOf_29 : decode cX2_copyHashOf 29 = .ok (.goto 16, 3) := by decide +kernel
theorem dX2_copyHashOf_32 : decode cX2_copyHashOf 32 = .ok (.aload_n 0, 1) := by decide +kernel
theorem dX2_copyHashOf_33 : decode cX2_copyHashOf 33 = .ok (.getfield 30, 3) := by decide +kernel
theorem dX2_copyHashOf_36 : decode cX2_copyHashOf 36 = .ok (.iload_n 2, 1) := by decide +kernel
theorem dX2_copyHashOf_37 : decode cX2_copyHashOf 37 = .ok (.iload_n 2, 1) := by decide +kernel
theorem dX2_copyHashOf_38 : decode cX2_copyHashOf 38 = .ok (.bipush 8, 2) := by decide +kernel
theorem dX2_copyHashOf_40 : decode cX2_copyHashOf 40 = .ok (.iadd, 1) := by decide +kernel
theorem dX2_copyHashOf_41 : decode cX2_copyHashOf 41 = .ok (.iconst 0, 1) := by decide +kernel
theorem dX2_copyHashOf_42 : decode cX2_copyHashOf 42 = .ok (.invokestatic 93, 3) := by decide +kernel
theorem dX2_copyHashOf_45 : decode cX2_copyHashOf 45 = .ok (.return_, 1) := by decide +kernel
set_option maxRecDepth 20000 in
theorem ggX2_tryNonces_X1_takeFirst : GoodIn wsX2_tryNonces wsX1_takeFirst := goodIn_r _ [10, 11, 12, 13, 14, 15, 16, 17, 18, 19, 20, 9, 21, 22, 23, 24, 25, 26, 27, 28, 29, 70, 71, 72] (by decide +kernel) (by decide +kernel)
set_option maxRecDepth 20000 in
theorem gX2_tryNonces_X1_takeFirst : GoodIn wsX2_tryNonces (wsV RX2 111 RX1 yX1_takeFirst wsX1_takeFirst) := goodIn_app (goodIn_of _ (by decide +kernel)) ggX2_tryNonces_X1_takeFirst
set_option maxRecDepth 20000 in
theorem ggX2_tryNonces_X1_takeRest : GoodIn wsX2_tryNonces wsX1_takeRest := goodIn_r _ [33, 12, 34, 13, 14, 15, 16, 17, 35, 36, 37, 38, 39, 40, 41, 42, 18, 19, 20, 9, 21, 22, 23, 24, 25, 26, 27, 28, 29, 70, 71, 72] (by decide +kernel) (by decide +kernel)
set_option maxRecDepth 20000 in
theorem gX2_tryNonces_X1_takeRest : GoodIn wsX2_tryNonces (wsV RX2 115 RX1 yX1_takeRest wsX1_takeRest) := goodIn_app (goodIn_of _ (by decide +kernel)) ggX2_tryNonces_X1_takeRest
set_option maxRecDepth 20000 in
theorem ggX2_tryNonces_X1_zeros : GoodIn wsX2_tryNonces wsX1_zeros := goodIn_r _ [46, 34, 47, 48, 49, 50, 51, 70, 71, 72] (by decide +kernel) (by decide +kernel)
set_option maxRecDepth 20000 in
theorem gX2_tryNonces_X1_zeros : GoodIn wsX2_tryNonces (wsV RX2 118 RX1 yX1_zeros wsX1_zeros) := goodIn_app (goodIn_of _ (by decide +kernel)) ggX2_tryNonces_X1_zeros
set_option maxRecDepth 20000 in
theorem ggX2_tryNonces_X1_copyTo : GoodIn wsX2_tryNonces wsX1_copyTo := goodIn_r _ [55, 34, 13, 14, 15, 16, 70, 71, 72] (by decide +kernel) (by decide +kernel)
set_option maxRecDepth 20000 in
theorem gX2_tryNonces_X1_copyTo : GoodIn wsX2_tryNonces (wsV RX2 122 RX1 yX1_copyTo wsX1_copyTo) := goodIn_app (goodIn_of _ (by decide +kernel)) ggX2_tryNonces_X1_copyTo
theorem dX2_tryNonces_0 : decode cX2_tryNonces 0 = .ok (.aload_n 0, 1) := by decide +kernel
theorem dX2_tryNonces_1 : decode cX2_tryNonces 1 = .ok (.getfield 10, 3) := by decide +kernel
theorem dX2_tryNonces_4 : decode cX2_tryNonces 4 = .ok (.aload_n 0, 1) := by decide +kernel
theorem dX2_tryNonces_5 : decode cX2_tryNonces 5 = .ok (.getfield 30, 3) := by decide +kernel
theorem dX2_tryNonces_8 : decode cX2_tryNonces 8 = .ok (.iconst 0, 1) := by decide +kernel
theorem dX2_tryNonces_9 : decode cX2_tryNonces 9 = .ok (.invokevirtual 111, 3) := by decide +kernel
theorem dX2_tryNonces_12 : decode cX2_tryNonces 12 = .ok (.iconst 0, 1) := by decide +kernel
theorem dX2_tryNonces_13 : decode cX2_tryNonces 13 = .ok (.istore_n 2, 1) := by decide +kernel
theorem dX2_tryNonces_14 : decode cX2_tryNonces 14 = .ok (.iload_n 2, 1) := by decide +kernel
theorem dX2_tryNonces_15 : decode cX2_tryNonces 15 = .ok (.iload_n 1, 1) := by decide +kernel
theorem dX2_tryNonces_16 : decode cX2_tryNonces 16 = .ok (.if_icmp .ge 88, 3) := by decide +kernel
theorem dX2_tryNonces_19 : decode cX2_tryNonces 19 = .ok (.aload_n 0, 1) := by decide +kernel
theorem dX2_tryNonces_20 : decode cX2_tryNonces 20 = .ok (.getfield 58, 3) := by decide +kernel
theorem dX2_tryNonces_23 : decode cX2_tryNonces 23 = .ok (.iconst (-1), 1) := by decide +kernel
theorem dX2_tryNonces_24 : decode cX2_tryNonces 24 = .ok (.if_icmp .ne 80, 3) := by decide +kernel
theorem dX2_tryNonces_27 : decode cX2_tryNonces 27 = .ok (.aload_n 0, 1) := by decide +kernel
theorem dX2_tryNonces_28 : decode cX2_tryNonces 28 = .ok (.getfield 30, 3) := by decide +kernel
theorem dX2_tryNonces_31 : decode cX2_tryNonces 31 = .ok (.bipush 25, 2) := by decide +kernel
theorem dX2_tryNonces_33 : decode cX2_tryNonces 33 = .ok (.aload_n 0, 1) := by decide +kernel
theorem dX2_tryNonces_34 : decode cX2_tryNonces 34 = .ok (.getfield 55, 3) := by decide +kernel
theorem dX2_tryNonces_37 : decode cX2_tryNonces 37 = .ok (.iastore, 1) := by decide +kernel
theorem dX2_tryNonces_38 : decode cX2_tryNonces 38 = .ok (.aload_n 0, 1) := by decide +kernel
theorem dX2_tryNonces_39 : decode cX2_tryNonces 39 = .ok (.dup, 1) := by decide +kernel
theorem dX2_tryNonces_40 : decode cX2_tryNonces 40 = .ok (.getfield 55, 3) := by decide +kernel
theorem dX2_tryNonces_43 : decode cX2_tryNonces 43 = .ok (.iconst 1, 1) := by decide +kernel
theorem dX2_tryNonces_44 : decode cX2_tryNonces 44 = .ok (.iadd, 1) := by decide +kernel
theorem dX2_tryNonces_45 : decode cX2_tryNonces 45 = .ok (.putfield 55, 3) := by decide +kernel
theorem dX2_tryNonces_48 : decode cX2_tryNonces 48 = .ok (.aload_n 0, 1) := by decide +kernel
theorem dX2_tryNonces_49 : decode cX2_tryNonces 49 = .ok (.getfield 10, 3) := by decide +kernel
theorem dX2_tryNonces_52 : decode cX2_tryNonces 52 = .ok (.aload_n 0, 1) := by decide +kernel
theorem dX2_tryNonces_53 : decode cX2_tryNonces 53 = .ok (.getfield 30, 3) := by decide +kernel
theorem dX2_tryNonces_56 : decode cX2_tryNonces 56 = .ok (.iconst 0, 1) := by decide +kernel
theorem dX2_tryNonces_57 : decode cX2_tryNonces 57 = .ok (.invokevirtual 115, 3) := by decide +kernel
theorem dX2_tryNonces_60 : decode cX2_tryNonces 60 = .ok (.aload_n 0, 1) := by decide +kernel
theorem dX2_tryNonces_61 : decode cX2_tryNonces 61 = .ok (.getfield 10, 3) := by decide +kernel
theorem dX2_tryNonces_64 : decode cX2_tryNonces 64 = .ok (.invokevirtual 118, 3) := by decide +kernel
theorem dX2_tryNonces_67 : decode cX2_tryNonces 67 = .ok (.aload_n 0, 1) := by decide +kernel
theorem dX2_tryNonces_68 : decode cX2_tryNonces 68 = .ok (.getfield 52, 3) := by decide +kernel
theorem dX2_tryNonces_71 : decode cX2_tryNonces 71 = .ok (.if_icmp .lt 27, 3) := by decide +kernel
theorem dX2_tryNonces_74 : decode cX2_tryNonces 74 = .ok (.aload_n 0, 1) := by decide +kernel
theorem dX2_tryNonces_75 : decode cX2_tryNonces 75 = .ok (.aload_n 0, 1) := by decide +kernel
theorem dX2_tryNonces_76 : decode cX2_tryNonces 76 = .ok (.getfield 30, 3) := by decide +kernel
theorem dX2_tryNonces_79 : decode cX2_tryNonces 79 = .ok (.bipush 25, 2) := by decide +kernel
theorem dX2_tryNonces_81 : decode cX2_tryNonces 81 = .ok (.iaload, 1) := by decide +kernel
theorem dX2_tryNonces_82 : decode cX2_tryNonces 82 = .ok (.putfield 58, 3) := by decide +kernel
theorem dX2_tryNonces_85 : decode cX2_tryNonces 85 = .ok (.aload_n 0, 1) := by decide +kernel
theorem dX2_tryNonces_86 : decode cX2_tryNonces 86 = .ok (.getfield 10, 3) := by decide +kernel
theorem dX2_tryNonces_89 : decode cX2_tryNonces 89 = .ok (.aload_n 0, 1) := by decide +kernel
theorem dX2_tryNonces_90 : decode cX2_tryNonces 90 = .ok (.getfield 30, 3) := by decide +kernel
theorem dX2_tryNonces_93 : decode cX2_tryNonces 93 = .ok (.bipush 26, 2) := by decide +kernel
theorem dX2_tryNonces_95 : decode cX2_tryNonces 95 = .ok (.invokevirtual 122, 3) := by decide +kernel
theorem dX2_tryNonces_98 : decode cX2_tryNonces 98 = .ok (.iinc 2 1, 3) := by decide +kernel
theorem dX2_tryNonces_101 : decode cX2_tryNonces 101 = .ok (.goto (-87), 3) := by decide +kernel
theorem dX2_tryNonces_104 : decode cX2_tryNonces 104 = .ok (.return_, 1) := by decide +kernel
theorem dX2_count_0 : decode cX2_count 0 = .ok (.aload_n 0, 1) := by decide +kernel
theorem dX2_count_1 : decode cX2_count 1 = .ok (.getfield 36, 3) := by decide +kernel
theorem dX2_count_4 : decode cX2_count 4 = .ok (.ireturn, 1) := by decide +kernel
theorem dX2_head_0 : decode cX2_head 0 = .ok (.iload_n 1, 1) := by decide +kernel
theorem dX2_head_1 : decode cX2_head 1 = .ok (.ifCond .lt 9, 3) := by decide +kernel
theorem dX2_head_4 : decode cX2_head 4 = .ok (.iload_n 1, 1) := by decide +kernel
theorem dX2_head_5 : decode cX2_head 5 = .ok (.bipush 8, 2) := by decide +kernel
theorem dX2_head_7 : decode cX2_head 7 = .ok (.if_icmp .lt 5, 3) := by decide +kernel
theorem dX2_head_10 : decode cX2_head 10 = .ok (.iconst 0, 1) := by decide +kernel
theorem dX2_head_11 : decode cX2_head 11 = .ok (.ireturn, 1) := by decide +kernel
theorem dX2_head_12 : decode cX2_head 12 = .ok (.aload_n 0, 1) := by decide +kernel
theorem dX2_head_13 : decode cX2_head 13 = .ok (.getfield 27, 3) := by decide +kernel
theorem dX2_head_16 : decode cX2_head 16 = .ok (.iload_n 1, 1) := by decide +kernel
theorem dX2_head_17 : decode cX2_head 17 = .ok (.iaload, 1) := by decide +kernel
theorem dX2_head_18 : decode cX2_head 18 = .ok (.ireturn, 1) := by decide +kernel
set_option maxRecDepth 20000 in
theorem ggX2_cell_X2_hasCell : GoodIn wsX2_cell wsX2_hasCell := goodIn_r _ [6, 7, 8, 9, 5, 10, 11, 12, 13, 14, 15, 16, 17, 18, 19, 20, 21, 22, 23, 24, 25] (by decide +kernel) (by decide +kernel)
set_option maxRecDepth 20000 in
theorem gX2_cell_X2_hasCell : GoodIn wsX2_cell (wsV RX2 125 RX2 yX2_hasCell wsX2_hasCell) := goodIn_app (goodIn_of _ (by decide +kernel)) ggX2_cell_X2_hasCell
theorem dX2_cell_0 : decode cX2_cell 0 = .ok (.aload_n 0, 1) := by decide +kernel
theorem dX2_cell_1 : decode cX2_cell 1 = .ok (.iload_n 1, 1) := by decide +kernel
theorem dX2_cell_2 : decode cX2_cell 2 = .ok (.iload_n 2, 1) := by decide +kernel
theorem dX2_cell_3 : decode cX2_cell 3 = .ok (.invokevirtual 125, 3) := by decide +kernel
theorem dX2_cell_6 : decode cX2_cell 6 = .ok (.ifCond .ne 5, 3) := by decide +kernel
theorem dX2_cell_9 : decode cX2_cell 9 = .ok (.iconst 0, 1) := by decide +kernel
theorem dX2_cell_10 : decode cX2_cell 10 = .ok (.ireturn, 1) := by decide +kernel
theorem dX2_cell_11 : decode cX2_cell 11 = .ok (.aload_n 0, 1) := by decide +kernel
theorem dX2_cell_12 : decode cX2_cell 12 = .ok (.getfield 23, 3) := by decide +kernel
theorem dX2_cell_15 : decode cX2_cell 15 = .ok (.iload_n 1, 1) := by decide +kernel
theorem dX2_cell_16 : decode cX2_cell 16 = .ok (.bipush 34, 2) := by decide +kernel
theorem dX2_cell_18 : decode cX2_cell 18 = .ok (.imul, 1) := by decide +kernel
theorem dX2_cell_19 : decode cX2_cell 19 = .ok (.iload_n 2, 1) := by decide +kernel
theorem dX2_cell_20 : decode cX2_cell 20 = .ok (.iadd, 1) := by decide +kernel
theorem dX2_cell_21 : decode cX2_cell 21 = .ok (.iaload, 1) := by decide +kernel
theorem dX2_cell_22 : decode cX2_cell 22 = .ok (.ireturn, 1) := by decide +kernel
set_option maxRecDepth 20000 in
theorem ggX2_spoil_X2_hasCell : GoodIn wsX2_spoil wsX2_hasCell := goodIn_r _ [6, 7, 8, 9, 5, 10, 11, 18, 19, 20, 21, 22, 23, 24, 25, 26, 27, 28, 29, 30, 31] (by decide +kernel) (by decide +kernel)
set_option maxRecDepth 20000 in
theorem gX2_spoil_X2_hasCell : GoodIn wsX2_spoil (wsV RX2 125 RX2 yX2_hasCell wsX2_hasCell) := goodIn_app (goodIn_of _ (by decide +kernel)) ggX2_spoil_X2_hasCell
set_option maxRecDepth 20000 in
theorem ggX2_spoil_X2_forgetNonces : GoodIn wsX2_spoil wsX2_forgetNonces := goodIn_r _ [15, 16, 17, 18, 19, 20, 21, 22, 23, 24, 25, 26, 27, 28, 29, 30, 31] (by decide +kernel) (by decide +kernel)
set_option maxRecDepth 20000 in
theorem gX2_spoil_X2_forgetNonces : GoodIn wsX2_spoil (wsV RX2 70 RX2 yX2_forgetNonces wsX2_forgetNonces) := goodIn_app (goodIn_of _ (by decide +kernel)) ggX2_spoil_X2_forgetNonces
theorem dX2_spoil_0 : decode cX2_spoil 0 = .ok (.aload_n 0, 1) := by decide +kernel
theorem dX2_spoil_1 : decode cX2_spoil 1 = .ok (.iload_n 1, 1) := by decide +kernel
theorem dX2_spoil_2 : decode cX2_spoil 2 = .ok (.iload_n 2, 1) := by decide +kernel
theorem dX2_spoil_3 : decode cX2_spoil 3 = .ok (.invokevirtual 125, 3) := by decide +kernel
theorem dX2_spoil_6 : decode cX2_spoil 6 = .ok (.ifCond .ne 5, 3) := by decide +kernel
theorem dX2_spoil_9 : decode cX2_spoil 9 = .ok (.iconst 0, 1) := by decide +kernel
theorem dX2_spoil_10 : decode cX2_spoil 10 = .ok (.ireturn, 1) := by decide +kernel
theorem dX2_spoil_11 : decode cX2_spoil 11 = .ok (.aload_n 0, 1) := by decide +kernel
theorem dX2_spoil_12 : decode cX2_spoil 12 = .ok (.getfield 23, 3) := by decide +kernel
theorem dX2_spoil_15 : decode cX2_spoil 15 = .ok (.iload_n 1, 1) := by decide +kernel
theorem dX2_spoil_16 : decode cX2_spoil 16 = .ok (.bipush 34, 2) := by decide +kernel
theorem dX2_spoil_18 : decode cX2_spoil 18 = .ok (.imul, 1) := by decide +kernel
theorem dX2_spoil_19 : decode cX2_spoil 19 = .ok (.iload_n 2, 1) := by decide +kernel
theorem dX2_spoil_20 : decode cX2_spoil 20 = .ok (.iadd, 1) := by decide +kernel
theorem dX2_spoil_21 : decode cX2_spoil 21 = .ok (.iaload, 1) := by decide +kernel
theorem dX2_spoil_22 : decode cX2_spoil 22 = .ok (.istore 4, 2) := by decide +kernel
theorem dX2_spoil_24 : decode cX2_spoil 24 = .ok (.aload_n 0, 1) := by decide +kernel
theorem dX2_spoil_25 : decode cX2_spoil 25 = .ok (.getfield 23, 3) := by decide +kernel
theorem dX2_spoil_28 : decode cX2_spoil 28 = .ok (.iload_n 1, 1) := by decide +kernel
theorem dX2_spoil_29 : decode cX2_spoil 29 = .ok (.bipush 34, 2) := by decide +kernel
theorem dX2_spoil_31 : decode cX2_spoil 31 = .ok (.imul, 1) := by decide +kernel
theorem dX2_spoil_32 : decode cX2_spoil 32 = .ok (.iload_n 2, 1) := by decide +kernel
theorem dX2_spoil_33 : decode cX2_spoil 33 = .ok (.iadd, 1) := by decide +kernel
theorem dX2_spoil_34 : decode cX2_spoil 34 = .ok (.iload_n 3, 1) := by decide +kernel
theorem dX2_spoil_35 : decode cX2_spoil 35 = .ok (.iastore, 1) := by decide +kernel
theorem dX2_spoil_36 : decode cX2_spoil 36 = .ok (.aload_n 0, 1) := by decide +kernel
theorem dX2_spoil_37 : decode cX2_spoil 37 = .ok (.invokevirtual 70, 3) := by decide +kernel
theorem dX2_spoil_40 : decode cX2_spoil 40 = .ok (.iload 4, 2) := by decide +kernel
theorem dX2_spoil_42 : decode cX2_spoil 42 = .ok (.ireturn, 1) := by decide +kernel
set_option maxRecDepth 20000 in
theorem ggX2_drop_X2_remakeFilter : GoodIn wsX2_drop wsX2_remakeFilter := goodIn_r _ [17, 18, 1, 19, 20, 21, 22, 23, 24, 25, 26, 27, 28, 29, 30, 31, 16, 32, 2, 33, 34, 35, 36, 37, 38, 39, 40, 41, 42, 43, 44, 45, 46, 47, 48, 49, 50, 57, 58, 59, 60, 61, 62, 63, 64, 65, 66, 67, 68, 69, 70, 71] (by decide +kernel) (by decide +kernel)
set_option maxRecDepth 20000 in
theorem gX2_drop_X2_remakeFilter : GoodIn wsX2_drop (wsV RX2 129 RX2 yX2_remakeFilter wsX2_remakeFilter) := goodIn_app (goodIn_of _ (by decide +kernel)) ggX2_drop_X2_remakeFilter
set_option maxRecDepth 20000 in
theorem ggX2_drop_X2_forgetNonces : GoodIn wsX2_drop wsX2_forgetNonces := goodIn_r _ [54, 55, 56, 57, 58, 59, 60, 61, 62, 63, 64, 65, 66, 67, 68, 69, 70] (by decide +kernel) (by decide +kernel)
set_option maxRecDepth 20000 in
theorem gX2_drop_X2_forgetNonces : GoodIn wsX2_drop (wsV RX2 70 RX2 yX2_forgetNonces wsX2_forgetNonces) := goodIn_app (goodIn_of _ (by decide +kernel)) ggX2_drop_X2_forgetNonces
theorem dX2_drop_0 : decode cX2_drop 0 = .ok (.aload_n 0, 1) := by decide +kernel
theorem dX2_drop_1 : decode cX2_drop 1 = .ok (.getfield 36, 3) := by decide +kernel
theorem dX2_drop_4 : decode cX2_drop 4 = .ok (.ifCond .ne 5, 3) := by decide +kernel
theorem dX2_drop_7 : decode cX2_drop 7 = .ok (.iconst (-1), 1) := by decide +kernel
theorem dX2_drop_8 : decode cX2_drop 8 = .ok (.ireturn, 1) := by decide +kernel
theorem dX2_drop_9 : decode cX2_drop 9 = .ok (.aload_n 0, 1) := by decide +kernel
theorem dX2_drop_10 : decode cX2_drop 10 = .ok (.dup, 1) := by decide +kernel
theorem dX2_drop_11 : decode cX2_drop 11 = .ok (.getfield 36, 3) := by decide +kernel
theorem dX2_drop_14 : decode cX2_drop 14 = .ok (.iconst 1, 1) := by decide +kernel
theorem dX2_drop_15 : decode cX2_drop 15 = .ok (.isub, 1) := by decide +kernel
theorem dX2_drop_16 : decode cX2_drop 16 = .ok (.putfield 36, 3) := by decide +kernel
theorem dX2_drop_19 : decode cX2_drop 19 = .ok (.aload_n 0, 1) := by decide +kernel
theorem dX2_drop_20 : decode cX2_drop 20 = .ok (.getfield 23, 3) := by decide +kernel
theorem dX2_drop_23 : decode cX2_drop 23 = .ok (.aload_n 0, 1) := by decide +kernel
theorem dX2_drop_24 : decode cX2_drop 24 = .ok (.getfield 36, 3) := by decide +kernel
theorem dX2_drop_27 : decode cX2_drop 27 = .ok (.bipush 34, 2) := by decide +kernel
theorem dX2_drop_29 : decode cX2_drop 29 = .ok (.imul, 1) := by decide +kernel
theorem dX2_drop_30 : decode cX2_drop 30 = .ok (.iconst 0, 1) := by decide +kernel
theorem dX2_drop_31 : decode cX2_drop 31 = .ok (.iadd, 1) := by decide +kernel
theorem dX2_drop_32 : decode cX2_drop 32 = .ok (.aload_n 0, 1) := by decide +kernel
theorem dX2_drop_33 : decode cX2_drop 33 = .ok (.getfield 27, 3) := by decide +kernel
theorem dX2_drop_36 : decode cX2_drop 36 = .ok (.iconst 0, 1) := by decide +kernel
theorem dX2_drop_37 : decode cX2_drop 37 = .ok (.bipush 8, 2) := by decide +kernel
theorem dX2_drop_39 : decode cX2_drop 39 = .ok (.invokestatic 84, 3) := by decide +kernel
theorem dX2_drop_42 : decode cX2_drop 42 = .ok (.aload_n 0, 1) := by decide +kernel
theorem dX2_drop_43 : decode cX2_drop 43 = .ok (.invokevirtual 129, 3) := by decide +kernel
theorem dX2_drop_46 : decode cX2_drop 46 = .ok (.aload_n 0, 1) := by decide +kernel
theorem dX2_drop_47 : decode cX2_drop 47 = .ok (.aload_n 0, 1) := by decide +kernel
theorem dX2_drop_48 : decode cX2_drop 48 = .ok (.getfield 61, 3) := by decide +kernel
theorem dX2_drop_51 : decode cX2_drop 51 = .ok (.aload_n 0, 1) := by decide +kernel
theorem dX2_drop_52 : decode cX2_drop 52 = .ok (.getfield 36, 3) := by decide +kernel
theorem dX2_drop_55 : decode cX2_drop 55 = .ok (.invokestatic 43, 3) := by decide +kernel
theorem dX2_drop_58 : decode cX2_drop 58 = .ok (.putfield 61, 3) := by decide +kernel
theorem dX2_drop_61 : decode cX2_drop 61 = .ok (.aload_n 0, 1) := by decide +kernel
theorem dX2_drop_62 : decode cX2_drop 62 = .ok (.invokevirtual 70, 3) := by decide +kernel
theorem dX2_drop_65 : decode cX2_drop 65 = .ok (.aload_n 0, 1) := by decide +kernel
theorem dX2_drop_66 : decode cX2_drop 66 = .ok (.getfield 36, 3) := by decide +kernel
theorem dX2_drop_69 : decode cX2_drop 69 = .ok (.ireturn, 1) := by decide +kernel
theorem dX2_hasEntry_0 : decode cX2_hasEntry 0 = .ok (.iload_n 1, 1) := by decide +kernel
theorem dX2_hasEntry_1 : decode cX2_hasEntry 1 = .ok (.ifCond .lt 15, 3) := by decide +kernel
theorem dX2_hasEntry_4 : decode cX2_hasEntry 4 = .ok (.iload_n 1, 1) := by decide +kernel
theorem dX2_hasEntry_5 : decode cX2_hasEntry 5 = .ok (.aload_n 0, 1) := by decide +kernel
theorem dX2_hasEntry_6 : decode cX2_hasEntry 6 = .ok (.getfield 36, 3) := by decide +kernel
theorem dX2_hasEntry_9 : decode cX2_hasEntry 9 = .ok (.if_icmp .ge 7, 3) := by decide +kernel
theorem dX2_hasEntry_12 : decode cX2_hasEntry 12 = .ok (.iconst 1, 1) := by decide +kernel
theorem dX2_hasEntry_13 : decode cX2_hasEntry 13 = .ok (.goto 4, 3) := by decide +kernel
theorem dX2_hasEntry_16 : decode cX2_hasEntry 16 = .ok (.iconst 0, 1) := by decide +kernel
theorem dX2_hasEntry_17 : decode cX2_hasEntry 17 = .ok (.ireturn, 1) := by decide +kernel
set_option maxRecDepth 20000 in
theorem ggX2_hasCell_X2_hasEntry : GoodIn wsX2_hasCell wsX2_hasEntry := goodIn_r _ [5, 6, 7, 8, 9, 10, 11, 12, 13, 14, 15, 16, 17, 18, 19, 20] (by decide +kernel) (by decide +kernel)
set_option maxRecDepth 20000 in
theorem gX2_hasCell_X2_hasEntry : GoodIn wsX2_hasCell (wsV RX2 107 RX2 yX2_hasEntry wsX2_hasEntry) := goodIn_app (goodIn_of _ (by decide +kernel)) ggX2_hasCell_X2_hasEntry
theorem dX2_hasCell_0 : decode cX2_hasCell 0 = .ok (.aload_n 0, 1) := by decide +kernel
theorem dX2_hasCell_1 : decode cX2_hasCell 1 = .ok (.iload_n 1, 1) := by decide +kernel
theorem dX2_hasCell_2 : decode cX2_hasCell 2 = .ok (.invokevirtual 107, 3) := by decide +kernel
theorem dX2_hasCell_5 : decode cX2_hasCell 5 = .ok (.ifCond .eq 17, 3) := by decide +kernel
theorem dX2_hasCell_8 : decode cX2_hasCell 8 = .ok (.iload_n 2, 1) := by decide +kernel
theorem dX2_hasCell_9 : decode cX2_hasCell 9 = .ok (.ifCond .lt 13, 3) := by decide +kernel
theorem dX2_hasCell_12 : decode cX2_hasCell 12 = .ok (.iload_n 2, 1) := by decide +kernel
theorem dX2_hasCell_13 : decode cX2_hasCell 13 = .ok (.bipush 34, 2) := by decide +kernel
theorem dX2_hasCell_15 : decode cX2_hasCell 15 = .ok (.if_icmp .ge 7, 3) := by decide +kernel
theorem dX2_hasCell_18 : decode cX2_hasCell 18 = .ok (.iconst 1, 1) := by decide +kernel
theorem dX2_hasCell_19 : decode cX2_hasCell 19 = .ok (.goto 4, 3) := by decide +kernel
theorem dX2_hasCell_22 : decode cX2_hasCell 22 = .ok (.iconst 0, 1) := by decide +kernel
theorem dX2_hasCell_23 : decode cX2_hasCell 23 = .ok (.ireturn, 1) := by decide +kernel
theorem dX2_skipOf_0 : decode cX2_skipOf 0 = .ok (.iload_n 0, 1) := by decide +kernel
theorem dX2_skipOf_1 : decode cX2_skipOf 1 = .ok (.ifCond .ne 7, 3) := by decide +kernel
theorem dX2_skipOf_4 : decode cX2_skipOf 4 = .ok (.iconst (-1), 1) := by decide +kernel
theorem dX2_skipOf_5 : decode cX2_skipOf 5 = .ok (.goto 9, 3) := by decide +kernel
theorem dX2_skipOf_8 : decode cX2_skipOf 8 = .ok (.iload_n 0, 1) := by decide +kernel
theorem dX2_skipOf_9 : decode cX2_skipOf 9 = .ok (.iload_n 0, 1) := by decide +kernel
theorem dX2_skipOf_10 : decode cX2_skipOf 10 = .ok (.iload_n 0, 1) := by decide +kernel
theorem dX2_skipOf_11 : decode cX2_skipOf 11 = .ok (.ineg, 1) := by decide +kernel
theorem dX2_skipOf_12 : decode cX2_skipOf 12 = .ok (.iand, 1) := by decide +kernel
theorem dX2_skipOf_13 : decode cX2_skipOf 13 = .ok (.isub, 1) := by decide +kernel
theorem dX2_skipOf_14 : decode cX2_skipOf 14 = .ok (.ireturn, 1) := by decide +kernel
set_option maxRecDepth 20000 in
theorem ggX2_may_X0_mayHave : GoodIn wsX2_may wsX0_mayHave := goodIn_r _ [6, 7, 8, 9, 5, 10, 11, 12, 13, 14, 15, 16, 17, 18, 19, 20, 21, 22, 37] (by decide +kernel) (by decide +kernel)
set_option maxRecDepth 20000 in
theorem gX2_may_X0_mayHave : GoodIn wsX2_may (wsV RX2 132 RX0 yX0_mayHave wsX0_mayHave) := goodIn_app (goodIn_of _ (by decide +kernel)) ggX2_may_X0_mayHave
theorem dX2_may_0 : decode cX2_may 0 = .ok (.aload_n 0, 1) := by decide +kernel
theorem dX2_may_1 : decode cX2_may 1 = .ok (.getfield 19, 3) := by decide +kernel
theorem dX2_may_4 : decode cX2_may 4 = .ok (.iload_n 1, 1) := by decide +kernel
theorem dX2_may_5 : decode cX2_may 5 = .ok (.invokevirtual 132, 3) := by decide +kernel
theorem dX2_may_8 : decode cX2_may 8 = .ok (.ifCond .eq 7, 3) := by decide +kernel
theorem dX2_may_11 : decode cX2_may 11 = .ok (.iconst 1, 1) := by decide +kernel
theorem dX2_may_12 : decode cX2_may 12 = .ok (.goto 4, 3) := by decide +kernel
theorem dX2_may_15 : decode cX2_may 15 = .ok (.iconst 0, 1) := by decide +kernel
theorem dX2_may_16 : decode cX2_may 16 = .ok (.ireturn, 1) := by decide +kernel
set_option maxRecDepth 20000 in
theorem ggX2_find_X0_mayHave : GoodIn wsX2_find wsX0_mayHave := goodIn_r _ [7, 8, 9, 10, 6, 11, 12, 13, 14, 15, 16, 17, 18, 19, 20, 21, 22, 23, 43] (by decide +kernel) (by decide +kernel)
set_option maxRecDepth 20000 in
theorem gX2_find_X0_mayHave : GoodIn wsX2_find (wsV RX2 132 RX0 yX0_mayHave wsX0_mayHave) := goodIn_app (goodIn_of _ (by decide +kernel)) ggX2_find_X0_mayHave
set_option maxRecDepth 20000 in
theorem ggX2_find_X2_hasWord : GoodIn wsX2_find wsX2_hasWord := goodIn_r _ [27, 28, 29, 30, 31, 32, 33, 34, 35, 36, 37, 38, 39, 40, 41, 42] (by decide +kernel) (by decide +kernel)
set_option maxRecDepth 20000 in
theorem gX2_find_X2_hasWord : GoodIn wsX2_find (wsV RX2 135 RX2 yX2_hasWord wsX2_hasWord) := goodIn_app (goodIn_of _ (by decide +kernel)) ggX2_find_X2_hasWord
theorem dX2_find_0 : decode cX2_find 0 = .ok (.aload_n 0, 1) := by decide +kernel
theorem dX2_find_1 : decode cX2_find 1 = .ok (.getfield 19, 3) := by decide +kernel
theorem dX2_find_4 : decode cX2_find 4 = .ok (.iload_n 1, 1) := by decide +kernel
theorem dX2_find_5 : decode cX2_find 5 = .ok (.invokevirtual 132, 3) := by decide +kernel
theorem dX2_find_8 : decode cX2_find 8 = .ok (.ifCond .ne 5, 3) := by decide +kernel
theorem dX2_find_11 : decode cX2_find 11 = .ok (.iconst (-1), 1) := by decide +kernel
theorem dX2_find_12 : decode cX2_find 12 = .ok (.ireturn, 1) := by decide +kernel
theorem dX2_find_13 : decode cX2_find 13 = .ok (.iconst 0, 1) := by decide +kernel
theorem dX2_find_14 : decode cX2_find 14 = .ok (.istore_n 2, 1) := by decide +kernel
theorem dX2_find_15 : decode cX2_find 15 = .ok (.iload_n 2, 1) := by decide +kernel
theorem dX2_find_16 : decode cX2_find 16 = .ok (.aload_n 0, 1) := by decide +kernel
theorem dX2_find_17 : decode cX2_find 17 = .ok (.getfield 36, 3) := by decide +kernel
theorem dX2_find_20 : decode cX2_find 20 = .ok (.if_icmp .ge 20, 3) := by decide +kernel
theorem dX2_find_23 : decode cX2_find 23 = .ok (.aload_n 0, 1) := by decide +kernel
theorem dX2_find_24 : decode cX2_find 24 = .ok (.iload_n 2, 1) := by decide +kernel
theorem dX2_find_25 : decode cX2_find 25 = .ok (.iload_n 1, 1) := by decide +kernel
theorem dX2_find_26 : decode cX2_find 26 = .ok (.invokevirtual 135, 3) := by decide +kernel
theorem dX2_find_29 : decode cX2_find 29 = .ok (.ifCond .eq 5, 3) := by decide +kernel
theorem dX2_find_32 : decode cX2_find 32 = .ok (.iload_n 2, 1) := by decide +kernel
theorem dX2_find_33 : decode cX2_find 33 = .ok (.ireturn, 1) := by decide +kernel
theorem dX2_find_34 : decode cX2_find 34 = .ok (.iinc 2 1, 3) := by decide +kernel
theorem dX2_find_37 : decode cX2_find 37 = .ok (.goto (-22), 3) := by decide +kernel
theorem dX2_find_40 : decode cX2_find 40 = .ok (.iconst (-1), 1) := by decide +kernel
theorem dX2_find_41 : decode cX2_find 41 = .ok (.ireturn, 1) := by decide +kernel
set_option maxRecDepth 20000 in
theorem ggX2_stir_X0_stirred : GoodIn wsX2_stir wsX0_stirred := goodIn_r _ [4, 5, 6, 7, 8, 9, 10, 11, 12] (by decide +kernel) (by decide +kernel)
set_option maxRecDepth 20000 in
theorem gX2_stir_X0_stirred : GoodIn wsX2_stir (va_wsS RX2 138 yX0_stirred wsX0_stirred) := goodIn_app (goodIn_of _ (by decide +kernel)) ggX2_stir_X0_stirred
theorem dX2_stir_0 : decode cX2_stir 0 = .ok (.iload_n 1, 1) := by decide +kernel
theorem dX2_stir_1 : decode cX2_stir 1 = .ok (.iload_n 2, 1) := by decide +kernel
theorem dX2_stir_2 : decode cX2_stir 2 = .ok (.invokestatic 138, 3) := by decide +kernel
theorem dX2_stir_5 : decode cX2_stir 5 = .ok (.ireturn, 1) := by decide +kernel
theorem dX2_hasWord_0 : decode cX2_hasWord 0 = .ok (.iload_n 1, 1) := by decide +kernel
theorem dX2_hasWord_1 : decode cX2_hasWord 1 = .ok (.bipush 34, 2) := by decide +kernel
theorem dX2_hasWord_3 : decode cX2_hasWord 3 = .ok (.imul, 1) := by decide +kernel
theorem dX2_hasWord_4 : decode cX2_hasWord 4 = .ok (.bipush 16, 2) := by decide +kernel
theorem dX2_hasWord_6 : decode cX2_hasWord 6 = .ok (.iadd, 1) := by decide +kernel
theorem dX2_hasWord_7 : decode cX2_hasWord 7 = .ok (.istore_n 3, 1) := by decide +kernel
theorem dX2_hasWord_8 : decode cX2_hasWord 8 = .ok (.iconst 0, 1) := by decide +kernel
theorem dX2_hasWord_9 : decode cX2_hasWord 9 = .ok (.istore 4, 2) := by decide +kernel
theorem dX2_hasWord_11 : decode cX2_hasWord 11 = .ok (.iload 4, 2) := by decide +kernel
theorem dX2_hasWord_13 : decode cX2_hasWord 13 = .ok (.bipush 8, 2) := by decide +kernel
theorem dX2_hasWord_15 : decode cX2_hasWord 15 = .ok (.if_icmp .ge 24, 3) := by decide +kernel
theorem dX2_hasWord_18 : decode cX2_hasWord 18 = .ok (.aload_n 0, 1) := by decide +kernel
theorem dX2_hasWord_19 : decode cX2_hasWord 19 = .ok (.getfield 23, 3) := by decide +kernel
theorem dX2_hasWord_22 : decode cX2_hasWord 22 = .ok (.iload_n 3, 1) := by decide +kernel
theorem dX2_hasWord_23 : decode cX2_hasWord 23 = .ok (.iload 4, 2) := by decide +kernel
theorem dX2_hasWord_25 : decode cX2_hasWord 25 = .ok (.iadd, 1) := by decide +kernel
theorem dX2_hasWord_26 : decode cX2_hasWord 26 = .ok (.iaload, 1) := by decide +kernel
theorem dX2_hasWord_27 : decode cX2_hasWord 27 = .ok (.iload_n 2, 1) := by decide +kernel
theorem dX2_hasWord_28 : decode cX2_hasWord 28 = .ok (.if_icmp .ne 5, 3) := by decide +kernel
theorem dX2_hasWord_31 : decode cX2_hasWord 31 = .ok (.iconst 1, 1) := by decide +kernel
theorem dX2_hasWord_32 : decode cX2_hasWord 32 = .ok (.ireturn, 1) := by decide +kernel
theorem dX2_hasWord_33 : decode cX2_hasWord 33 = .ok (.iinc 4 1, 3) := by decide +kernel
theorem dX2_hasWord_36 : decode cX2_hasWord 36 = .ok (.goto (-25), 3) := by decide +kernel
theorem dX2_hasWord_39 : decode cX2_hasWord 39 = .ok (.iconst 0, 1) := by decide +kernel
theorem dX2_hasWord_40 : decode cX2_hasWord 40 = .ok (.ireturn, 1) := by decide +kernel
set_option maxRecDepth 20000 in
theorem ggX2_addToFilter_X0_include : GoodIn wsX2_addToFilter wsX0_include := goodIn_r _ [7, 8, 9, 10, 6, 11, 12, 13, 14, 15, 16, 17, 18, 19, 20, 21, 22, 23, 38] (by decide +kernel) (by decide +kernel)
set_option maxRecDepth 20000 in
theorem gX2_addToFilter_X0_include : GoodIn wsX2_addToFilter (wsV RX2 141 RX0 yX0_include wsX0_include) := goodIn_app (goodIn_of _ (by decide +kernel)) ggX2_addToFilter_X0_include
theorem dX2_addToFilter_0 : decode cX2_addToFilter 0 = .ok (.iload_n 1, 1) := by decide +kernel
theorem dX2_addToFilter_1 : decode cX2_addToFilter 1 = .ok (.bipush 34, 2) := by decide +kernel
theorem dX2_addToFilter_3 : decode cX2_addToFilter 3 = .ok (.imul, 1) := by decide +kernel
theorem dX2_addToFilter_4 : decode cX2_addToFilter 4 = .ok (.bipush 16, 2) := by decide +kernel
theorem dX2_addToFilter_6 : decode cX2_addToFilter 6 = .ok (.iadd, 1) := by decide +kernel
theorem dX2_addToFilter_7 : decode cX2_addToFilter 7 = .ok (.istore_n 2, 1) := by decide +kernel
theorem dX2_addToFilter_8 : decode cX2_addToFilter 8 = .ok (.iconst 0, 1) := by decide +kernel
theorem dX2_addToFilter_9 : decode cX2_addToFilter 9 = .ok (.istore_n 3, 1) := by decide +kernel
theorem dX2_addToFilter_10 : decode cX2_addToFilter 10 = .ok (.iload_n 3, 1) := by decide +kernel
theorem dX2_addToFilter_11 : decode cX2_addToFilter 11 = .ok (.bipush 8, 2) := by decide +kernel
theorem dX2_addToFilter_13 : decode cX2_addToFilter 13 = .ok (.if_icmp .ge 24, 3) := by decide +kernel
theorem dX2_addToFilter_16 : decode cX2_addToFilter 16 = .ok (.aload_n 0, 1) := by decide +kernel
theorem dX2_addToFilter_17 : decode cX2_addToFilter 17 = .ok (.getfield 19, 3) := by decide +kernel
theorem dX2_addToFilter_20 : decode cX2_addToFilter 20 = .ok (.aload_n 0, 1) := by decide +kernel
theorem dX2_addToFilter_21 : decode cX2_addToFilter 21 = .ok (.getfield 23, 3) := by decide +kernel
theorem dX2_addToFilter_24 : decode cX2_addToFilter 24 = .ok (.iload_n 2, 1) := by decide +kernel
theorem dX2_addToFilter_25 : decode cX2_addToFilter 25 = .ok (.iload_n 3, 1) := by decide +kernel
theorem dX2_addToFilter_26 : decode cX2_addToFilter 26 = .ok (.iadd, 1) := by decide +kernel
theorem dX2_addToFilter_27 : decode cX2_addToFilter 27 = .ok (.iaload, 1) := by decide +kernel
theorem dX2_addToFilter_28 : decode cX2_addToFilter 28 = .ok (.invokevirtual 141, 3) := by decide +kernel
theorem dX2_addToFilter_31 : decode cX2_addToFilter 31 = .ok (.iinc 3 1, 3) := by decide +kernel
theorem dX2_addToFilter_34 : decode cX2_addToFilter 34 = .ok (.goto (-24), 3) := by decide +kernel
theorem dX2_addToFilter_37 : decode cX2_addToFilter 37 = .ok (.return_, 1) := by decide +kernel
set_option maxRecDepth 20000 in
theorem ggX2_remakeFilter_X0_clear : GoodIn wsX2_remakeFilter wsX0_clear := goodIn_r _ [7, 8, 9, 10, 11, 12, 51] (by decide +kernel) (by decide +kernel)
set_option maxRecDepth 20000 in
theorem gX2_remakeFilter_X0_clear : GoodIn wsX2_remakeFilter (wsV RX2 144 RX0 yX0_clear wsX0_clear) := goodIn_app (goodIn_of _ (by decide +kernel)) ggX2_remakeFilter_X0_clear
set_option maxRecDepth 20000 in
theorem ggX2_remakeFilter_X2_addToFilter : GoodIn wsX2_remakeFilter wsX2_addToFilter := goodIn_r _ [17, 1, 18, 19, 20, 21, 6, 22, 8, 23, 24, 25, 26, 27, 28, 29, 30, 31, 32, 33, 34, 35, 16, 36, 37, 38, 39, 40, 41, 42, 43, 44, 45, 46, 47, 48, 49, 50, 51] (by decide +kernel) (by decide +kernel)
set_option maxRecDepth 20000 in
theorem gX2_remakeFilter_X2_addToFilter : GoodIn wsX2_remakeFilter (wsV RX2 90 RX2 yX2_addToFilter wsX2_addToFilter) := goodIn_app (goodIn_of _ (by decide +kernel)) ggX2_remakeFilter_X2_addToFilter
theorem dX2_remakeFilter_0 : decode cX2_remakeFilter 0 = .ok (.aload_n 0, 1) := by decide +kernel
theorem dX2_remakeFilter_1 : decode cX2_remakeFilter 1 = .ok (.getfield 19, 3) := by decide +kernel
theorem dX2_remakeFilter_4 : decode cX2_remakeFilter 4 = .ok (.invokevirtual 144, 3) := by decide +kernel
theorem dX2_remakeFilter_7 : decode cX2_remakeFilter 7 = .ok (.iconst 0, 1) := by decide +kernel
theorem dX2_remakeFilter_8 : decode cX2_remakeFilter 8 = .ok (.istore_n 1, 1) := by decide +kernel
theorem dX2_remakeFilter_9 : decode cX2_remakeFilter 9 = .ok (.iload_n 1, 1) := by decide +kernel
theorem dX2_remakeFilter_10 : decode cX2_remakeFilter 10 = .ok (.aload_n 0, 1) := by decide +kernel
theorem dX2_remakeFilter_11 : decode cX2_remakeFilter 11 = .ok (.getfield 36, 3) := by decide +kernel
theorem dX2_remakeFilter_14 : decode cX2_remakeFilter 14 = .ok (.if_icmp .ge 14, 3) := by decide +kernel
theorem dX2_remakeFilter_17 : decode cX2_remakeFilter 17 = .ok (.aload_n 0, 1) := by decide +kernel
theorem dX2_remakeFilter_18 : decode cX2_remakeFilter 18 = .ok (.iload_n 1, 1) := by decide +kernel
theorem dX2_remakeFilter_19 : decode cX2_remakeFilter 19 = .ok (.invokevirtual 90, 3) := by decide +kernel
theorem dX2_remakeFilter_22 : decode cX2_remakeFilter 22 = .ok (.iinc 1 1, 3) := by decide +kernel
theorem dX2_remakeFilter_25 : decode cX2_remakeFilter 25 = .ok (.goto (-16), 3) := by decide +kernel
theorem dX2_remakeFilter_28 : decode cX2_remakeFilter 28 = .ok (.return_, 1) := by decide +kernel
theorem dX2_begin_0 : decode cX2_begin 0 = .ok (.aload_n 0, 1) := by decide +kernel
theorem dX2_begin_1 : decode cX2_begin 1 = .ok (.getfield 61, 3) := by decide +kernel
theorem dX2_begin_4 : decode cX2_begin 4 = .ok (.istore_n 1, 1) := by decide +kernel
theorem dX2_begin_5 : decode cX2_begin 5 = .ok (.aload_n 0, 1) := by decide +kernel
theorem dX2_begin_6 : decode cX2_begin 6 = .ok (.iconst 0, 1) := by decide +kernel
theorem dX2_begin_7 : decode cX2_begin 7 = .ok (.putfield 61, 3) := by decide +kernel
theorem dX2_begin_10 : decode cX2_begin 10 = .ok (.iload_n 1, 1) := by decide +kernel
theorem dX2_begin_11 : decode cX2_begin 11 = .ok (.ireturn, 1) := by decide +kernel
set_option maxRecDepth 20000 in
theorem ggX2_audit_X2_auditHead : GoodIn wsX2_audit wsX2_auditHead := goodIn_r _ [8, 3, 9, 1, 10, 11, 12, 13, 14, 15, 16, 7, 17, 18, 19, 20, 21, 22, 84, 85, 86, 87, 88, 89, 90, 91, 92, 93, 94, 95, 96, 97] (by decide +kernel) (by decide +kernel)
set_option maxRecDepth 20000 in
theorem gX2_audit_X2_auditHead : GoodIn wsX2_audit (wsV RX2 147 RX2 yX2_auditHead wsX2_auditHead) := goodIn_app (goodIn_of _ (by decide +kernel)) ggX2_audit_X2_auditHead
set_option maxRecDepth 20000 in
theorem ggX2_audit_X2_faultOf : GoodIn wsX2_audit wsX2_faultOf := goodIn_r _ [26, 18, 27, 14, 15, 16, 7, 17, 19, 20, 21, 22, 3, 28, 29, 30, 31, 32, 33, 34, 35, 36, 37, 38, 39, 40, 41, 42, 43, 44, 45, 46, 47, 48, 49, 50, 51, 52, 53, 54, 55, 56, 57, 58, 59, 60, 61, 62, 63, 64, 65, 66, 67, 68, 69, 70, 71, 72, 73, 74, 75, 76, 77, 78, 79, 80, 81, 82, 83, 84, 85, 86, 87, 88, 89, 90, 91, 92, 93, 94, 95, 96, 97, 98, 99, 100] (by decide +kernel) (by decide +kernel)
set_option maxRecDepth 20000 in
theorem gX2_audit_X2_faultOf : GoodIn wsX2_audit (wsV RX2 150 RX2 yX2_faultOf wsX2_faultOf) := goodIn_app (goodIn_of _ (by decide +kernel)) ggX2_audit_X2_faultOf
theorem dX2_audit_0 : decode cX2_audit 0 = .ok (.iload_n 1, 1) := by decide +kernel
theorem dX2_audit_1 : decode cX2_audit 1 = .ok (.iconst 1, 1) := by decide +kernel
theorem dX2_audit_2 : decode cX2_audit 2 = .ok (.if_icmp .lt 9, 3) := by decide +kernel
theorem dX2_audit_5 : decode cX2_audit 5 = .ok (.iload_n 1, 1) := by decide +kernel
theorem dX2_audit_6 : decode cX2_audit 6 = .ok (.bipush 100, 2) := by decide +kernel
theorem dX2_audit_8 : decode cX2_audit 8 = .ok (.if_icmp .le 6, 3) := by decide +kernel
theorem dX2_audit_11 : decode cX2_audit 11 = .ok (.bipush (-2), 2) := by decide +kernel
theorem dX2_audit_13 : decode cX2_audit 13 = .ok (.ireturn, 1) := by decide +kernel
theorem dX2_audit_14 : decode cX2_audit 14 = .ok (.aload_n 0, 1) := by decide +kernel
theorem dX2_audit_15 : decode cX2_audit 15 = .ok (.iconst 0, 1) := by decide +kernel
theorem dX2_audit_16 : decode cX2_audit 16 = .ok (.putfield 64, 3) := by decide +kernel
theorem dX2_audit_19 : decode cX2_audit 19 = .ok (.iconst 0, 1) := by decide +kernel
theorem dX2_audit_20 : decode cX2_audit 20 = .ok (.istore_n 2, 1) := by decide +kernel
theorem dX2_audit_21 : decode cX2_audit 21 = .ok (.iload_n 2, 1) := by decide +kernel
theorem dX2_audit_22 : decode cX2_audit 22 = .ok (.iload_n 1, 1) := by decide +kernel
theorem dX2_audit_23 : decode cX2_audit 23 = .ok (.if_icmp .ge 59, 3) := by decide +kernel
theorem dX2_audit_26 : decode cX2_audit 26 = .ok (.aload_n 0, 1) := by decide +kernel
theorem dX2_audit_27 : decode cX2_audit 27 = .ok (.getfield 61, 3) := by decide +kernel
theorem dX2_audit_30 : decode cX2_audit 30 = .ok (.aload_n 0, 1) := by decide +kernel
theorem dX2_audit_31 : decode cX2_audit 31 = .ok (.getfield 36, 3) := by decide +kernel
theorem dX2_audit_34 : decode cX2_audit 34 = .ok (.if_icmp .lt 8, 3) := by decide +kernel
theorem dX2_audit_37 : decode cX2_audit 37 = .ok (.aload_n 0, 1) := by decide +kernel
theorem dX2_audit_38 : decode cX2_audit 38 = .ok (.invokevirtual 147, 3) := by decide +kernel
theorem dX2_audit_41 : decode cX2_audit 41 = .ok (.ireturn, 1) := by decide +kernel
theorem dX2_audit_42 : decode cX2_audit 42 = .ok (.aload_n 0, 1) := by decide +kernel
theorem dX2_audit_43 : decode cX2_audit 43 = .ok (.aload_n 0, 1) := by decide +kernel
theorem dX2_audit_44 : decode cX2_audit 44 = .ok (.aload_n 0, 1) := by decide +kernel
theorem dX2_audit_45 : decode cX2_audit 45 = .ok (.getfield 61, 3) := by decide +kernel
theorem dX2_audit_48 : decode cX2_audit 48 = .ok (.invokevirtual 150, 3) := by decide +kernel
theorem dX2_audit_51 : decode cX2_audit 51 = .ok (.putfield 64, 3) := by decide +kernel
theorem dX2_audit_54 : decode cX2_audit 54 = .ok (.aload_n 0, 1) := by decide +kernel
theorem dX2_audit_55 : decode cX2_audit 55 = .ok (.getfield 64, 3) := by decide +kernel
theorem dX2_audit_58 : decode cX2_audit 58 = .ok (.ifCond .eq 8, 3) := by decide +kernel
theorem dX2_audit_61 : decode cX2_audit 61 = .ok (.aload_n 0, 1) := by decide +kernel
theorem dX2_audit_62 : decode cX2_audit 62 = .ok (.getfield 61, 3) := by decide +kernel
theorem dX2_audit_65 : decode cX2_audit 65 = .ok (.ireturn, 1) := by decide +kernel
theorem dX2_audit_66 : decode cX2_audit 66 = .ok (.aload_n 0, 1) := by decide +kernel
theorem dX2_audit_67 : decode cX2_audit 67 = .ok (.dup, 1) := by decide +kernel
theorem dX2_audit_68 : decode cX2_audit 68 = .ok (.getfield 61, 3) := by decide +kernel
theorem dX2_audit_71 : decode cX2_audit 71 = .ok (.iconst 1, 1) := by decide +kernel
theorem dX2_audit_72 : decode cX2_audit 72 = .ok (.iadd, 1) := by decide +kernel
theorem dX2_audit_73 : decode cX2_audit 73 = .ok (.putfield 61, 3) := by decide +kernel
theorem dX2_audit_76 : decode cX2_audit 76 = .ok (.iinc 2 1, 3) := by decide +kernel
theorem dX2_audit_79 : decode cX2_audit 79 = .ok (.goto (-58), 3) := by decide +kernel
theorem dX2_audit_82 : decode cX2_audit 82 = .ok (.iconst (-1), 1) := by decide +kernel
theorem dX2_audit_83 : decode cX2_audit 83 = .ok (.ireturn, 1) := by decide +kernel
theorem dX2_fault_0 : decode cX2_fault 0 = .ok (.aload_n 0, 1) := by decide +kernel
theorem dX2_fault_1 : decode cX2_fault 1 = .ok (.getfield 64, 3) := by decide +kernel
theorem dX2_fault_4 : decode cX2_fault 4 = .ok (.ireturn, 1) := by decide +kernel
set_option maxRecDepth 20000 in
theorem ggX2_auditHead_X2_isHashOf : GoodIn wsX2_auditHead wsX2_isHashOf := goodIn_r _ [12, 13, 14, 15, 16, 11, 17, 1, 18, 19, 20, 21, 22, 23, 24, 25, 26, 27, 28, 29, 30, 31] (by decide +kernel) (by decide +kernel)
set_option maxRecDepth 20000 in
theorem gX2_auditHead_X2_isHashOf : GoodIn wsX2_auditHead (wsV RX2 153 RX2 yX2_isHashOf wsX2_isHashOf) := goodIn_app (goodIn_of _ (by decide +kernel)) ggX2_auditHead_X2_isHashOf
theorem dX2_auditHead_0 : decode cX2_auditHead 0 = .ok (.aload_n 0, 1) := by decide +kernel
theorem dX2_auditHead_1 : decode cX2_auditHead 1 = .ok (.aload_n 0, 1) := by decide +kernel
theorem dX2_auditHead_2 : decode cX2_auditHead 2 = .ok (.getfield 36, 3) := by decide +kernel
theorem dX2_auditHead_5 : decode cX2_auditHead 5 = .ok (.iconst 1, 1) := by decide +kernel
theorem dX2_auditHead_6 : decode cX2_auditHead 6 = .ok (.isub, 1) := by decide +kernel
theorem dX2_auditHead_7 : decode cX2_auditHead 7 = .ok (.aload_n 0, 1) := by decide +kernel
theorem dX2_auditHead_8 : decode cX2_auditHead 8 = .ok (.getfield 27, 3) := by decide +kernel
theorem dX2_auditHead_11 : decode cX2_auditHead 11 = .ok (.iconst 0, 1) := by decide +kernel
theorem dX2_auditHead_12 : decode cX2_auditHead 12 = .ok (.invokevirtual 153, 3) := by decide +kernel
theorem dX2_auditHead_15 : decode cX2_auditHead 15 = .ok (.ifCond .eq 6, 3) := by decide +kernel
theorem dX2_auditHead_18 : decode cX2_auditHead 18 = .ok (.bipush (-5), 2) := by decide +kernel
theorem dX2_auditHead_20 : decode cX2_auditHead 20 = .ok (.ireturn, 1) := by decide +kernel
theorem dX2_auditHead_21 : decode cX2_auditHead 21 = .ok (.aload_n 0, 1) := by decide +kernel
theorem dX2_auditHead_22 : decode cX2_auditHead 22 = .ok (.aload_n 0, 1) := by decide +kernel
theorem dX2_auditHead_23 : decode cX2_auditHead 23 = .ok (.getfield 36, 3) := by decide +kernel
theorem dX2_auditHead_26 : decode cX2_auditHead 26 = .ok (.ifCond .ne 8, 3) := by decide +kernel
theorem dX2_auditHead_29 : decode cX2_auditHead 29 = .ok (.bipush 6, 2) := by decide +kernel
theorem dX2_auditHead_31 : decode cX2_auditHead 31 = .ok (.goto 4, 3) := by decide +kernel
theorem dX2_auditHead_34 : decode cX2_auditHead 34 = .ok (.iconst 5, 1) := by decide +kernel
theorem dX2_auditHead_35 : decode cX2_auditHead 35 = .ok (.putfield 64, 3) := by decide +kernel
theorem dX2_auditHead_38 : decode cX2_auditHead 38 = .ok (.iconst 0, 1) := by decide +kernel
theorem dX2_auditHead_39 : decode cX2_auditHead 39 = .ok (.aload_n 0, 1) := by decide +kernel
theorem dX2_auditHead_40 : decode cX2_auditHead 40 = .ok (.getfield 36, 3) := by decide +kernel
theorem dX2_auditHead_43 : decode cX2_auditHead 43 = .ok (.iconst 1, 1) := by decide +kernel
theorem dX2_auditHead_44 : decode cX2_auditHead 44 = .ok (.isub, 1) := by decide +kernel
theorem dX2_auditHead_45 : decode cX2_auditHead 45 = .ok (.invokestatic 49, 3) := by decide +kernel
theorem dX2_auditHead_48 : decode cX2_auditHead 48 = .ok (.ireturn, 1) := by decide +kernel
set_option maxRecDepth 20000 in
theorem ggX2_faultOf_X2_isHashOf : GoodIn wsX2_faultOf wsX2_isHashOf := goodIn_r _ [7, 1, 8, 9, 10, 6, 11, 12, 69, 70, 71, 72, 73, 74, 75, 76, 77, 78, 79, 80, 81, 82] (by decide +kernel) (by decide +kernel)
set_option maxRecDepth 20000 in
theorem gX2_faultOf_X2_isHashOf : GoodIn wsX2_faultOf (wsV RX2 153 RX2 yX2_isHashOf wsX2_isHashOf) := goodIn_app (goodIn_of _ (by decide +kernel)) ggX2_faultOf_X2_isHashOf
set_option maxRecDepth 20000 in
theorem ggX2_faultOf_X2_skipOf : GoodIn wsX2_faultOf wsX2_skipOf := goodIn_r _ [15] (by decide +kernel) (by decide +kernel)
set_option maxRecDepth 20000 in
theorem gX2_faultOf_X2_skipOf : GoodIn wsX2_faultOf (va_wsS RX2 103 yX2_skipOf wsX2_skipOf) := goodIn_app (goodIn_of _ (by decide +kernel)) ggX2_faultOf_X2_skipOf
set_option maxRecDepth 20000 in
theorem ggX2_faultOf_X1_takeAll : GoodIn wsX2_faultOf wsX1_takeAll := goodIn_r _ [20, 21, 22, 23, 19, 24, 25, 26, 27, 28, 29, 30, 31, 32, 33, 34, 35, 36, 37, 38, 39, 40, 41, 6, 42, 43, 44, 45, 46, 47, 48, 49, 50, 51, 52, 53, 54, 55, 83, 84, 85] (by decide +kernel) (by decide +kernel)
set_option maxRecDepth 20000 in
theorem gX2_faultOf_X1_takeAll : GoodIn wsX2_faultOf (wsV RX2 157 RX1 yX1_takeAll wsX1_takeAll) := goodIn_app (goodIn_of _ (by decide +kernel)) ggX2_faultOf_X1_takeAll
set_option maxRecDepth 20000 in
theorem ggX2_faultOf_X1_isAt : GoodIn wsX2_faultOf wsX1_isAt := goodIn_r _ [59, 47, 83, 84, 85] (by decide +kernel) (by decide +kernel)
set_option maxRecDepth 20000 in
theorem gX2_faultOf_X1_isAt : GoodIn wsX2_faultOf (wsV RX2 160 RX1 yX1_isAt wsX1_isAt) := goodIn_app (goodIn_of _ (by decide +kernel)) ggX2_faultOf_X1_isAt
set_option maxRecDepth 20000 in
theorem ggX2_faultOf_X1_zeros : GoodIn wsX2_faultOf wsX1_zeros := goodIn_r _ [63, 47, 64, 65, 66, 67, 68, 83, 84, 85] (by decide +kernel) (by decide +kernel)
set_option maxRecDepth 20000 in
theorem gX2_faultOf_X1_zeros : GoodIn wsX2_faultOf (wsV RX2 118 RX1 yX1_zeros wsX1_zeros) := goodIn_app (goodIn_of _ (by decide +kernel)) ggX2_faultOf_X1_zeros
theorem dX2_faultOf_0 : decode cX2_faultOf 0 = .ok (.iload_n 1, 1) := by decide +kernel
theorem dX2_faultOf_1 : decode cX2_faultOf 1 = .ok (.bipush 34, 2) := by decide +kernel
theorem dX2_faultOf_3 : decode cX2_faultOf 3 = .ok (.imul, 1) := by decide +kernel
theorem dX2_faultOf_4 : decode cX2_faultOf 4 = .ok (.istore_n 2, 1) := by decide +kernel
theorem dX2_faultOf_5 : decode cX2_faultOf 5 = .ok (.aload_n 0, 1) := by decide +kernel
theorem dX2_faultOf_6 : decode cX2_faultOf 6 = .ok (.iload_n 1, 1) := by decide +kernel
theorem dX2_faultOf_7 : decode cX2_faultOf 7 = .ok (.iconst 1, 1) := by decide +kernel
theorem dX2_faultOf_8 : decode cX2_faultOf 8 = .ok (.isub, 1) := by decide +kernel
theorem dX2_faultOf_9 : decode cX2_faultOf 9 = .ok (.aload_n 0, 1) := by decide +kernel
theorem dX2_faultOf_10 : decode cX2_faultOf 10 = .ok (.getfield 23, 3) := by decide +kernel
theorem dX2_faultOf_13 : decode cX2_faultOf 13 = .ok (.iload_n 2, 1) := by decide +kernel
theorem dX2_faultOf_14 : decode cX2_faultOf 14 = .ok (.iconst 0, 1) := by decide +kernel
theorem dX2_faultOf_15 : decode cX2_faultOf 15 = .ok (.iadd, 1) := by decide +kernel
theorem dX2_faultOf_16 : decode cX2_faultOf 16 = .ok (.invokevirtual 153, 3) := by decide +kernel
theorem dX2_faultOf_19 : decode cX2_faultOf 19 = .ok (.ifCond .ne 5, 3) := by decide +kernel
theorem dX2_faultOf_22 : decode cX2_faultOf 22 = .ok (.iconst 1, 1) := by decide +kernel
theorem dX2_faultOf_23 : decode cX2_faultOf 23 = .ok (.ireturn, 1) := by decide +kernel
theorem dX2_faultOf_24 : decode cX2_faultOf 24 = .ok (.aload_n 0, 1) := by decide +kernel
theorem dX2_faultOf_25 : decode cX2_faultOf 25 = .ok (.iload_n 1, 1) := by decide +kernel
theorem dX2_faultOf_26 : decode cX2_faultOf 26 = .ok (.invokestatic 103, 3) := by decide +kernel
theorem dX2_faultOf_29 : decode cX2_faultOf 29 = .ok (.aload_n 0, 1) := by decide +kernel
theorem dX2_faultOf_30 : decode cX2_faultOf 30 = .ok (.getfield 23, 3) := by decide +kernel
theorem dX2_faultOf_33 : decode cX2_faultOf 33 = .ok (.iload_n 2, 1) := by decide +kernel
theorem dX2_faultOf_34 : decode cX2_faultOf 34 = .ok (.bipush 8, 2) := by decide +kernel
theorem dX2_faultOf_36 : decode cX2_faultOf 36 = .ok (.iadd, 1) := by decide +kernel
theorem dX2_faultOf_37 : decode cX2_faultOf 37 = .ok (.invokevirtual 153, 3) := by decide +kernel
theorem dX2_faultOf_40 : decode cX2_faultOf 40 = .ok (.ifCond .ne 5, 3) := by decide +kernel
theorem dX2_faultOf_43 : decode cX2_faultOf 43 = .ok (.iconst 2, 1) := by decide +kernel
theorem dX2_faultOf_44 : decode cX2_faultOf 44 = .ok (.ireturn, 1) := by decide +kernel
theorem dX2_faultOf_45 : decode cX2_faultOf 45 = .ok (.aload_n 0, 1) := by decide +kernel
theorem dX2_faultOf_46 : decode cX2_faultOf 46 = .ok (.getfield 10, 3) := by decide +kernel
theorem dX2_faultOf_49 : decode cX2_faultOf 49 = .ok (.aload_n 0, 1) := by decide +kernel
theorem dX2_faultOf_50 : decode cX2_faultOf 50 = .ok (.getfield 23, 3) := by decide +kernel
theorem dX2_faultOf_53 : decode cX2_faultOf 53 = .ok (.iload_n 2, 1) := by decide +kernel
theorem dX2_faultOf_54 : decode cX2_faultOf 54 = .ok (.invokevirtual 157, 3) := by decide +kernel
theorem dX2_faultOf_57 : decode cX2_faultOf 57 = .ok (.aload_n 0, 1) := by decide +kernel
theorem dX2_faultOf_58 : decode cX2_faultOf 58 = .ok (.getfield 10, 3) := by decide +kernel
theorem dX2_faultOf_61 : decode cX2_faultOf 61 = .ok (.aload_n 0, 1) := by decide +kernel
theorem dX2_faultOf_62 : decode cX2_faultOf 62 = .ok (.getfield 23, 3) := by decide +kernel
theorem dX2_faultOf_65 : decode cX2_faultOf 65 = .ok (.iload_n 2, 1) := by decide +kernel
theorem dX2_faultOf_66 : decode cX2_faultOf 66 = .ok (.bipush 26, 2) := by decide +kernel
theorem dX2_faultOf_68 : decode cX2_faultOf 68 = .ok (.iadd, 1) := by decide +kernel
theorem dX2_faultOf_69 : decode cX2_faultOf 69 = .ok (.invokevirtual 160, 3) := by decide +kernel
theorem dX2_faultOf_72 : decode cX2_faultOf 72 = .ok (.ifCond .ne 5, 3) := by decide +kernel
theorem dX2_faultOf_75 : decode cX2_faultOf 75 = .ok (.iconst 3, 1) := by decide +kernel
theorem dX2_faultOf_76 : decode cX2_faultOf 76 = .ok (.ireturn, 1) := by decide +kernel
theorem dX2_faultOf_77 : decode cX2_faultOf 77 = .ok (.aload_n 0, 1) := by decide +kernel
theorem dX2_faultOf_78 : decode cX2_faultOf 78 = .ok (.getfield 10, 3) := by decide +kernel
theorem dX2_faultOf_81 : decode cX2_faultOf 81 = .ok (.invokevirtual 118, 3) := by decide +kernel
theorem dX2_faultOf_84 : decode cX2_faultOf 84 = .ok (.aload_n 0, 1) := by decide +kernel
theorem dX2_faultOf_85 : decode cX2_faultOf 85 = .ok (.getfield 23, 3) := by decide +kernel
theorem dX2_faultOf_88 : decode cX2_faultOf 88 = .ok (.iload_n 2, 1) := by decide +kernel
theorem dX2_faultOf_89 : decode cX2_faultOf 89 = .ok (.bipush 24, 2) := by decide +kernel
theorem dX2_faultOf_91 : decode cX2_faultOf 91 = .ok (.iadd, 1) := by decide +kernel
theorem dX2_faultOf_92 : decode cX2_faultOf 92 = .ok (.iaload, 1) := by decide +kernel
theorem dX2_faultOf_93 : decode cX2_faultOf 93 = .ok (.iconst 4, 1) := by decide +kernel
theorem dX2_faultOf_94 : decode cX2_faultOf 94 = .ok (.iushr, 1) := by decide +kernel
theorem dX2_faultOf_95 : decode cX2_faultOf 95 = .ok (.if_icmp .ge 5, 3) := by decide +kernel
theorem dX2_faultOf_98 : decode cX2_faultOf 98 = .ok (.iconst 4, 1) := by decide +kernel
theorem dX2_faultOf_99 : decode cX2_faultOf 99 = .ok (.ireturn, 1) := by decide +kernel
theorem dX2_faultOf_100 : decode cX2_faultOf 100 = .ok (.iconst 0, 1) := by decide +kernel
theorem dX2_faultOf_101 : decode cX2_faultOf 101 = .ok (.ireturn, 1) := by decide +kernel
set_option maxRecDepth 20000 in
theorem ggX2_isHashOf_X2_hasEntry : GoodIn wsX2_isHashOf wsX2_hasEntry := goodIn_r _ [6, 7, 8, 9, 10, 11, 12, 13, 14, 15, 16, 17, 18, 19, 20, 21] (by decide +kernel) (by decide +kernel)
set_option maxRecDepth 20000 in
theorem gX2_isHashOf_X2_hasEntry : GoodIn wsX2_isHashOf (wsV RX2 107 RX2 yX2_hasEntry wsX2_hasEntry) := goodIn_app (goodIn_of _ (by decide +kernel)) ggX2_isHashOf_X2_hasEntry
theorem dX2_isHashOf_0 : decode cX2_isHashOf 0 = .ok (.aload_n 0, 1) := by decide +kernel
theorem dX2_isHashOf_1 : decode cX2_isHashOf 1 = .ok (.iload_n 1, 1) := by decide +kernel
theorem dX2_isHashOf_2 : decode cX2_isHashOf 2 = .ok (.invokevirtual 107, 3) := by decide +kernel
theorem dX2_isHashOf_5 : decode cX2_isHashOf 5 = .ok (.istore 4, 2) := by decide +kernel
theorem dX2_isHashOf_7 : decode cX2_isHashOf 7 = .ok (.iconst 0, 1) := by decide +kernel
theorem dX2_isHashOf_8 : decode cX2_isHashOf 8 = .ok (.istore 5, 2) := by decide +kernel
theorem dX2_isHashOf_10 : decode cX2_isHashOf 10 = .ok (.iload 5, 2) := by decide +kernel
theorem dX2_isHashOf_12 : decode cX2_isHashOf 12 = .ok (.bipush 8, 2) := by decide +kernel
theorem dX2_isHashOf_14 : decode cX2_isHashOf 14 = .ok (.if_icmp .ge 48, 3) := by decide +kernel
theorem dX2_isHashOf_17 : decode cX2_isHashOf 17 = .ok (.iload 4, 2) := by decide +kernel
theorem dX2_isHashOf_19 : decode cX2_isHashOf 19 = .ok (.ifCond .eq 21, 3) := by decide +kernel
theorem dX2_isHashOf_22 : decode cX2_isHashOf 22 = .ok (.aload_n 0, 1) := by decide +kernel
theorem dX2_isHashOf_23 : decode cX2_isHashOf 23 = .ok (.getfield 23, 3) := by decide +kernel
theorem dX2_isHashOf_26 : decode cX2_isHashOf 26 = .ok (.iload_n 1, 1) := by decide +kernel
theorem dX2_isHashOf_27 : decode cX2_isHashOf 27 = .ok (.bipush 34, 2) := by decide +kernel
theorem dX2_isHashOf_29 : decode cX2_isHashOf 29 = .ok (.imul, 1) := by decide +kernel
theorem dX2_isHashOf_30 : decode cX2_isHashOf 30 = .ok (.bipush 26, 2) := by decide +kernel
theorem dX2_isHashOf_32 : decode cX2_isHashOf 32 = .ok (.iadd, 1) := by decide +kernel
theorem dX2_isHashOf_33 : decode cX2_isHashOf 33 = .ok (.iload 5, 2) := by decide +kernel
theorem dX2_isHashOf_35 : decode cX2_isHashOf 35 = .ok (.iadd, 1) := by decide +kernel
theorem dX2_isHashOf_36 : decode cX2_isHashOf 36 = .ok (.iaload, 1) := by decide +kernel
theorem dX2_isHashOf_37 : decode cX2_isHashOf 37 = .ok (.goto 4, 3) := by decide +kernel
theorem dX2_isHashOf_40 : decode cX2_isHashOf 40 = .ok (.iconst 0, 1) := by decide +kernel
theorem dX2_isHashOf_41 : decode cX2_isHashOf 41 = .ok (.istore 6, 2) := by decide +kernel
theorem dX2_isHashOf_43 : decode cX2_isHashOf 43 = .ok (.aload_n 2, 1) := by decide +kernel
theorem dX2_isHashOf_44 : decode cX2_isHashOf 44 = .ok (.iload_n 3, 1) := by decide +kernel
theorem dX2_isHashOf_45 : decode cX2_isHashOf 45 = .ok (.iload 5, 2) := by decide +kernel
theorem dX2_isHashOf_47 : decode cX2_isHashOf 47 = .ok (.iadd, 1) := by decide +kernel
theorem dX2_isHashOf_48 : decode cX2_isHashOf 48 = .ok (.iaload, 1) := by decide +kernel
theorem dX2_isHashOf_49 : decode cX2_isHashOf 49 = .ok (.iload 6, 2) := by decide +kernel
theorem dX2_isHashOf_51 : decode cX2_isHashOf 51 = .ok (.if_icmp .eq 5, 3) := by decide +kernel
theorem dX2_isHashOf_54 : decode cX2_isHashOf 54 = .ok (.iconst 0, 1) := by decide +kernel
theorem dX2_isHashOf_55 : decode cX2_isHashOf 55 = .ok (.ireturn, 1) := by decide +kernel
theorem dX2_isHashOf_56 : decode cX2_isHashOf 56 = .ok (.iinc 5 1, 3) := by decide +kernel
theorem dX2_isHashOf_59 : decode cX2_isHashOf 59 = .ok (.goto (-49), 3) := by decide +kernel
theorem dX2_isHashOf_62 : decode cX2_isHashOf 62 = .ok (.iconst 1, 1) := by decide +kernel
theorem dX2_isHashOf_63 : decode cX2_isHashOf 63 = .ok (.ireturn, 1) := by decide +kernel
set_option maxRecDepth 20000 in
theorem ggX2_way_X2_hasEntry : GoodIn wsX2_way wsX2_hasEntry := goodIn_r _ [6, 1, 20, 21, 22, 23, 24, 25, 26, 27, 28, 29, 30, 31, 32, 33] (by decide +kernel) (by decide +kernel)
set_option maxRecDepth 20000 in
theorem gX2_way_X2_hasEntry : GoodIn wsX2_way (wsV RX2 107 RX2 yX2_hasEntry wsX2_hasEntry) := goodIn_app (goodIn_of _ (by decide +kernel)) ggX2_way_X2_hasEntry
set_option maxRecDepth 20000 in
theorem ggX2_way_X2_levelsTo : GoodIn wsX2_way wsX2_levelsTo := goodIn_r _ [10, 1, 11, 12, 5, 13, 14, 15, 16, 17, 18, 19, 20, 21, 22, 23, 24, 25, 26, 27, 28, 29, 30, 31, 32, 33] (by decide +kernel) (by decide +kernel)
set_option maxRecDepth 20000 in
theorem gX2_way_X2_levelsTo : GoodIn wsX2_way (wsV RX2 164 RX2 yX2_levelsTo wsX2_levelsTo) := goodIn_app (goodIn_of _ (by decide +kernel)) ggX2_way_X2_levelsTo
set_option maxRecDepth 20000 in
theorem ggX2_way_X2_nextOnWay : GoodIn wsX2_way wsX2_nextOnWay := goodIn_r _ [13, 14, 15, 5, 16, 17, 18, 19] (by decide +kernel) (by decide +kernel)
set_option maxRecDepth 20000 in
theorem gX2_way_X2_nextOnWay : GoodIn wsX2_way (va_wsS RX2 167 yX2_nextOnWay wsX2_nextOnWay) := goodIn_app (goodIn_of _ (by decide +kernel)) ggX2_way_X2_nextOnWay
theorem dX2_way_0 : decode cX2_way 0 = .ok (.aload_n 0, 1) := by decide +kernel
theorem dX2_way_1 : decode cX2_way 1 = .ok (.iload_n 1, 1) := by decide +kernel
theorem dX2_way_2 : decode cX2_way 2 = .ok (.invokevirtual 107, 3) := by decide +kernel
theorem dX2_way_5 : decode cX2_way 5 = .ok (.ifCond .ne 6, 3) := by decide +kernel
theorem dX2_way_8 : decode cX2_way 8 = .ok (.bipush (-2), 2) := by decide +kernel
theorem dX2_way_10 : decode cX2_way 10 = .ok (.ireturn, 1) := by decide +kernel
theorem dX2_way_11 : decode cX2_way 11 = .ok (.iload_n 2, 1) := by decide +kernel
theorem dX2_way_12 : decode cX2_way 12 = .ok (.ifCond .lt 12, 3) := by decide +kernel
theorem dX2_way_15 : decode cX2_way 15 = .ok (.iload_n 2, 1) := by decide +kernel
theorem dX2_way_16 : decode cX2_way 16 = .ok (.aload_n 0, 1) := by decide +kernel
theorem dX2_way_17 : decode cX2_way 17 = .ok (.iload_n 1, 1) := by decide +kernel
theorem dX2_way_18 : decode cX2_way 18 = .ok (.invokevirtual 164, 3) := by decide +kernel
theorem dX2_way_21 : decode cX2_way 21 = .ok (.if_icmp .lt 5, 3) := by decide +kernel
theorem dX2_way_24 : decode cX2_way 24 = .ok (.iconst (-1), 1) := by decide +kernel
theorem dX2_way_25 : decode cX2_way 25 = .ok (.ireturn, 1) := by decide +kernel
theorem dX2_way_26 : decode cX2_way 26 = .ok (.aload_n 0, 1) := by decide +kernel
theorem dX2_way_27 : decode cX2_way 27 = .ok (.getfield 36, 3) := by decide +kernel
theorem dX2_way_30 : decode cX2_way 30 = .ok (.iconst 1, 1) := by decide +kernel
theorem dX2_way_31 : decode cX2_way 31 = .ok (.isub, 1) := by decide +kernel
theorem dX2_way_32 : decode cX2_way 32 = .ok (.istore_n 3, 1) := by decide +kernel
theorem dX2_way_33 : decode cX2_way 33 = .ok (.iconst 0, 1) := by decide +kernel
theorem dX2_way_34 : decode cX2_way 34 = .ok (.istore 4, 2) := by decide +kernel
theorem dX2_way_36 : decode cX2_way 36 = .ok (.iload 4, 2) := by decide +kernel
theorem dX2_way_38 : decode cX2_way 38 = .ok (.iload_n 2, 1) := by decide +kernel
theorem dX2_way_39 : decode cX2_way 39 = .ok (.if_icmp .ge 15, 3) := by decide +kernel
theorem dX2_way_42 : decode cX2_way 42 = .ok (.iload_n 3, 1) := by decide +kernel
theorem dX2_way_43 : decode cX2_way 43 = .ok (.iload_n 1, 1) := by decide +kernel
theorem dX2_way_44 : decode cX2_way 44 = .ok (.invokestatic 167, 3) := by decide +kernel
theorem dX2_way_47 : decode cX2_way 47 = .ok (.istore_n 3, 1) := by decide +kernel
theorem dX2_way_48 : decode cX2_way 48 = .ok (.iinc 4 1, 3) := by decide +kernel
theorem dX2_way_51 : decode cX2_way 51 = .ok (.goto (-15), 3) := by decide +kernel
theorem dX2_way_54 : decode cX2_way 54 = .ok (.iload_n 3, 1) := by decide +kernel
theorem dX2_way_55 : decode cX2_way 55 = .ok (.ireturn, 1) := by decide +kernel
set_option maxRecDepth 20000 in
theorem ggX2_prove_X2_hasEntry : GoodIn wsX2_prove wsX2_hasEntry := goodIn_r _ [13, 1, 27, 28, 29, 30, 31, 32, 33, 34, 35, 36, 37, 38, 39, 40] (by decide +kernel) (by decide +kernel)
set_option maxRecDepth 20000 in
theorem gX2_prove_X2_hasEntry : GoodIn wsX2_prove (wsV RX2 107 RX2 yX2_hasEntry wsX2_hasEntry) := goodIn_app (goodIn_of _ (by decide +kernel)) ggX2_prove_X2_hasEntry
set_option maxRecDepth 20000 in
theorem ggX2_prove_X2_levelsTo : GoodIn wsX2_prove wsX2_levelsTo := goodIn_r _ [17, 1, 18, 19, 12, 20, 21, 22, 23, 24, 25, 26, 27, 28, 29, 30, 31, 32, 33, 34, 35, 36, 37, 38, 39, 40] (by decide +kernel) (by decide +kernel)
set_option maxRecDepth 20000 in
theorem gX2_prove_X2_levelsTo : GoodIn wsX2_prove (wsV RX2 164 RX2 yX2_levelsTo wsX2_levelsTo) := goodIn_app (goodIn_of _ (by decide +kernel)) ggX2_prove_X2_levelsTo
set_option maxRecDepth 20000 in
theorem ggX2_prove_X2_nextOnWay : GoodIn wsX2_prove wsX2_nextOnWay := goodIn_r _ [20, 21, 22, 12, 23, 24, 25, 26] (by decide +kernel) (by decide +kernel)
set_option maxRecDepth 20000 in
theorem gX2_prove_X2_nextOnWay : GoodIn wsX2_prove (va_wsS RX2 167 yX2_nextOnWay wsX2_nextOnWay) := goodIn_app (goodIn_of _ (by decide +kernel)) ggX2_prove_X2_nextOnWay
theorem dX2_prove_0 : decode cX2_prove 0 = .ok (.aload_n 0, 1) := by decide +kernel
theorem dX2_prove_1 : decode cX2_prove 1 = .ok (.iload_n 1, 1) := by decide +kernel
theorem dX2_prove_2 : decode cX2_prove 2 = .ok (.invokevirtual 107, 3) := by decide +kernel
theorem dX2_prove_5 : decode cX2_prove 5 = .ok (.ifCond .ne 6, 3) := by decide +kernel
theorem dX2_prove_8 : decode cX2_prove 8 = .ok (.bipush (-2), 2) := by decide +kernel
theorem dX2_prove_10 : decode cX2_prove 10 = .ok (.ireturn, 1) := by decide +kernel
theorem dX2_prove_11 : decode cX2_prove 11 = .ok (.aload_n 0, 1) := by decide +kernel
theorem dX2_prove_12 : decode cX2_prove 12 = .ok (.iload_n 1, 1) := by decide +kernel
theorem dX2_prove_13 : decode cX2_prove 13 = .ok (.invokevirtual 164, 3) := by decide +kernel
theorem dX2_prove_16 : decode cX2_prove 16 = .ok (.istore_n 2, 1) := by decide +kernel
theorem dX2_prove_17 : decode cX2_prove 17 = .ok (.aload_n 0, 1) := by decide +kernel
theorem dX2_prove_18 : decode cX2_prove 18 = .ok (.getfield 36, 3) := by decide +kernel
theorem dX2_prove_21 : decode cX2_prove 21 = .ok (.iconst 1, 1) := by decide +kernel
theorem dX2_prove_22 : decode cX2_prove 22 = .ok (.isub, 1) := by decide +kernel
theorem dX2_prove_23 : decode cX2_prove 23 = .ok (.istore_n 3, 1) := by decide +kernel
theorem dX2_prove_24 : decode cX2_prove 24 = .ok (.iconst 0, 1) := by decide +kernel
theorem dX2_prove_25 : decode cX2_prove 25 = .ok (.istore 4, 2) := by decide +kernel
theorem dX2_prove_27 : decode cX2_prove 27 = .ok (.iload 4, 2) := by decide +kernel
theorem dX2_prove_29 : decode cX2_prove 29 = .ok (.iload_n 2, 1) := by decide +kernel
theorem dX2_prove_30 : decode cX2_prove 30 = .ok (.if_icmp .ge 37, 3) := by decide +kernel
theorem dX2_prove_33 : decode cX2_prove 33 = .ok (.aload_n 0, 1) := by decide +kernel
theorem dX2_prove_34 : decode cX2_prove 34 = .ok (.getfield 23, 3) := by decide +kernel
theorem dX2_prove_37 : decode cX2_prove 37 = .ok (.iload_n 3, 1) := by decide +kernel
theorem dX2_prove_38 : decode cX2_prove 38 = .ok (.bipush 34, 2) := by decide +kernel
theorem dX2_prove_40 : decode cX2_prove 40 = .ok (.imul, 1) := by decide +kernel
theorem dX2_prove_41 : decode cX2_prove 41 = .ok (.aload_n 0, 1) := by decide +kernel
theorem dX2_prove_42 : decode cX2_prove 42 = .ok (.getfield 33, 3) := by decide +kernel
theorem dX2_prove_45 : decode cX2_prove 45 = .ok (.iload 4, 2) := by decide +kernel
theorem dX2_prove_47 : decode cX2_prove 47 = .ok (.bipush 26, 2) := by decide +kernel
theorem dX2_prove_49 : decode cX2_prove 49 = .ok (.imul, 1) := by decide +kernel
theorem dX2_prove_50 : decode cX2_prove 50 = .ok (.bipush 26, 2) := by decide +kernel
theorem dX2_prove_52 : decode cX2_prove 52 = .ok (.invokestatic 84, 3) := by decide +kernel
theorem dX2_prove_55 : decode cX2_prove 55 = .ok (.iload_n 3, 1) := by decide +kernel
theorem dX2_prove_56 : decode cX2_prove 56 = .ok (.iload_n 1, 1) := by decide +kernel
theorem dX2_prove_57 : decode cX2_prove 57 = .ok (.invokestatic 167, 3) := by decide +kernel
theorem dX2_prove_60 : decode cX2_prove 60 = .ok (.istore_n 3, 1) := by decide +kernel
theorem dX2_prove_61 : decode cX2_prove 61 = .ok (.iinc 4 1, 3) := by decide +kernel
theorem dX2_prove_64 : decode cX2_prove 64 = .ok (.goto (-37), 3) := by decide +kernel
theorem dX2_prove_67 : decode cX2_prove 67 = .ok (.aload_n 0, 1) := by decide +kernel
theorem dX2_prove_68 : decode cX2_prove 68 = .ok (.iload_n 2, 1) := by decide +kernel
theorem dX2_prove_69 : decode cX2_prove 69 = .ok (.bipush 26, 2) := by decide +kernel
theorem dX2_prove_71 : decode cX2_prove 71 = .ok (.imul, 1) := by decide +kernel
theorem dX2_prove_72 : decode cX2_prove 72 = .ok (.putfield 67, 3) := by decide +kernel
theorem dX2_prove_75 : decode cX2_prove 75 = .ok (.aload_n 0, 1) := by decide +kernel
theorem dX2_prove_76 : decode cX2_prove 76 = .ok (.getfield 67, 3) := by decide +kernel
theorem dX2_prove_79 : decode cX2_prove 79 = .ok (.ireturn, 1) := by decide +kernel
theorem dX2_proof_0 : decode cX2_proof 0 = .ok (.iload_n 1, 1) := by decide +kernel
theorem dX2_proof_1 : decode cX2_proof 1 = .ok (.ifCond .lt 11, 3) := by decide +kernel
theorem dX2_proof_4 : decode cX2_proof 4 = .ok (.iload_n 1, 1) := by decide +kernel
theorem dX2_proof_5 : decode cX2_proof 5 = .ok (.aload_n 0, 1) := by decide +kernel
theorem dX2_proof_6 : decode cX2_proof 6 = .ok (.getfield 67, 3) := by decide +kernel
theorem dX2_proof_9 : decode cX2_proof 9 = .ok (.if_icmp .lt 5, 3) := by decide +kernel
theorem dX2_proof_12 : decode cX2_proof 12 = .ok (.iconst 0, 1) := by decide +kernel
theorem dX2_proof_13 : decode cX2_proof 13 = .ok (.ireturn, 1) := by decide +kernel
theorem dX2_proof_14 : decode cX2_proof 14 = .ok (.aload_n 0, 1) := by decide +kernel
theorem dX2_proof_15 : decode cX2_proof 15 = .ok (.getfield 33, 3) := by decide +kernel
theorem dX2_proof_18 : decode cX2_proof 18 = .ok (.iload_n 1, 1) := by decide +kernel
theorem dX2_proof_19 : decode cX2_proof 19 = .ok (.iaload, 1) := by decide +kernel
theorem dX2_proof_20 : decode cX2_proof 20 = .ok (.ireturn, 1) := by decide +kernel
theorem dX2_forge_0 : decode cX2_forge 0 = .ok (.iload_n 1, 1) := by decide +kernel
theorem dX2_forge_1 : decode cX2_forge 1 = .ok (.ifCond .lt 11, 3) := by decide +kernel
theorem dX2_forge_4 : decode cX2_forge 4 = .ok (.iload_n 1, 1) := by decide +kernel
theorem dX2_forge_5 : decode cX2_forge 5 = .ok (.aload_n 0, 1) := by decide +kernel
theorem dX2_forge_6 : decode cX2_forge 6 = .ok (.getfield 67, 3) := by decide +kernel
theorem dX2_forge_9 : decode cX2_forge 9 = .ok (.if_icmp .lt 5, 3) := by decide +kernel
theorem dX2_forge_12 : decode cX2_forge 12 = .ok (.iconst 0, 1) := by decide +kernel
theorem dX2_forge_13 : decode cX2_forge 13 = .ok (.ireturn, 1) := by decide +kernel
theorem dX2_forge_14 : decode cX2_forge 14 = .ok (.aload_n 0, 1) := by decide +kernel
theorem dX2_forge_15 : decode cX2_forge 15 = .ok (.getfield 33, 3) := by decide +kernel
theorem dX2_forge_18 : decode cX2_forge 18 = .ok (.iload_n 1, 1) := by decide +kernel
theorem dX2_forge_19 : decode cX2_forge 19 = .ok (.iaload, 1) := by decide +kernel
theorem dX2_forge_20 : decode cX2_forge 20 = .ok (.istore_n 3, 1) := by decide +kernel
theorem dX2_forge_21 : decode cX2_forge 21 = .ok (.aload_n 0, 1) := by decide +kernel
theorem dX2_forge_22 : decode cX2_forge 22 = .ok (.getfield 33, 3) := by decide +kernel
theorem dX2_forge_25 : decode cX2_forge 25 = .ok (.iload_n 1, 1) := by decide +kernel
theorem dX2_forge_26 : decode cX2_forge 26 = .ok (.iload_n 2, 1) := by decide +kernel
theorem dX2_forge_27 : decode cX2_forge 27 = .ok (.iastore, 1) := by decide +kernel
theorem dX2_forge_28 : decode cX2_forge 28 = .ok (.iload_n 3, 1) := by decide +kernel
theorem dX2_forge_29 : decode cX2_forge 29 = .ok (.ireturn, 1) := by decide +kernel
set_option maxRecDepth 20000 in
theorem ggX2_check_X2_hasEntry : GoodIn wsX2_check wsX2_hasEntry := goodIn_r _ [5, 6, 72, 73, 74, 75, 76, 77, 78, 79, 80, 81, 82, 83, 84, 85] (by decide +kernel) (by decide +kernel)
set_option maxRecDepth 20000 in
theorem gX2_check_X2_hasEntry : GoodIn wsX2_check (wsV RX2 107 RX2 yX2_hasEntry wsX2_hasEntry) := goodIn_app (goodIn_of _ (by decide +kernel)) ggX2_check_X2_hasEntry
set_option maxRecDepth 20000 in
theorem ggX2_check_X2_proofHolds : GoodIn wsX2_check wsX2_proofHolds := goodIn_r _ [10, 11, 12, 6, 13, 14, 15, 16, 17, 4, 18, 19, 20, 21, 22, 23, 24, 25, 26, 27, 28, 29, 30, 31, 32, 33, 34, 35, 36, 37, 38, 39, 40, 41, 42, 43, 44, 45, 46, 47, 48, 49, 50, 51, 52, 53, 54, 55, 56, 57, 58, 59, 60, 61, 62, 63, 64, 65, 66, 67, 68, 69, 70, 71, 72, 73, 74, 75, 76, 77, 78, 79, 80, 81, 82, 83, 84, 85, 86, 87, 88] (by decide +kernel) (by decide +kernel)
set_option maxRecDepth 20000 in
theorem gX2_check_X2_proofHolds : GoodIn wsX2_check (wsV RX2 170 RX2 yX2_proofHolds wsX2_proofHolds) := goodIn_app (goodIn_of _ (by decide +kernel)) ggX2_check_X2_proofHolds
theorem dX2_check_0 : decode cX2_check 0 = .ok (.aload_n 0, 1) := by decide +kernel
theorem dX2_check_1 : decode cX2_check 1 = .ok (.iload_n 1, 1) := by decide +kernel
theorem dX2_check_2 : decode cX2_check 2 = .ok (.invokevirtual 107, 3) := by decide +kernel
theorem dX2_check_5 : decode cX2_check 5 = .ok (.ifCond .ne 6, 3) := by decide +kernel
theorem dX2_check_8 : decode cX2_check 8 = .ok (.bipush (-2), 2) := by decide +kernel
theorem dX2_check_10 : decode cX2_check 10 = .ok (.ireturn, 1) := by decide +kernel
theorem dX2_check_11 : decode cX2_check 11 = .ok (.aload_n 0, 1) := by decide +kernel
theorem dX2_check_12 : decode cX2_check 12 = .ok (.iload_n 1, 1) := by decide +kernel
theorem dX2_check_13 : decode cX2_check 13 = .ok (.invokevirtual 170, 3) := by decide +kernel
theorem dX2_check_16 : decode cX2_check 16 = .ok (.ifCond .eq 7, 3) := by decide +kernel
theorem dX2_check_19 : decode cX2_check 19 = .ok (.iconst 1, 1) := by decide +kernel
theorem dX2_check_20 : decode cX2_check 20 = .ok (.goto 4, 3) := by decide +kernel
theorem dX2_check_23 : decode cX2_check 23 = .ok (.iconst 0, 1) := by decide +kernel
theorem dX2_check_24 : decode cX2_check 24 = .ok (.ireturn, 1) := by decide +kernel
set_option maxRecDepth 20000 in
theorem ggX2_proofHolds_X2_levelsTo : GoodIn wsX2_proofHolds wsX2_levelsTo := goodIn_r _ [10, 3, 11, 12, 9, 13, 14, 15, 16, 17, 18, 19, 64, 65, 66, 67, 68, 69, 70, 71, 72, 73, 74, 75, 76, 77] (by decide +kernel) (by decide +kernel)
set_option maxRecDepth 20000 in
theorem gX2_proofHolds_X2_levelsTo : GoodIn wsX2_proofHolds (wsV RX2 164 RX2 yX2_levelsTo wsX2_levelsTo) := goodIn_app (goodIn_of _ (by decide +kernel)) ggX2_proofHolds_X2_levelsTo
set_option maxRecDepth 20000 in
theorem ggX2_proofHolds_X1_takeAll : GoodIn wsX2_proofHolds wsX1_takeAll := goodIn_r _ [24, 25, 26, 27, 23, 28, 29, 30, 31, 32, 33, 34, 35, 36, 37, 38, 39, 40, 41, 42, 43, 44, 45, 9, 46, 47, 48, 49, 50, 51, 52, 53, 54, 55, 56, 57, 58, 59, 78, 79, 80] (by decide +kernel) (by decide +kernel)
set_option maxRecDepth 20000 in
theorem gX2_proofHolds_X1_takeAll : GoodIn wsX2_proofHolds (wsV RX2 157 RX1 yX1_takeAll wsX1_takeAll) := goodIn_app (goodIn_of _ (by decide +kernel)) ggX2_proofHolds_X1_takeAll
set_option maxRecDepth 20000 in
theorem ggX2_proofHolds_X1_isAt : GoodIn wsX2_proofHolds wsX1_isAt := goodIn_r _ [63, 51, 78, 79, 80] (by decide +kernel) (by decide +kernel)
set_option maxRecDepth 20000 in
theorem gX2_proofHolds_X1_isAt : GoodIn wsX2_proofHolds (wsV RX2 160 RX1 yX1_isAt wsX1_isAt) := goodIn_app (goodIn_of _ (by decide +kernel)) ggX2_proofHolds_X1_isAt
set_option maxRecDepth 20000 in
theorem ggX2_proofHolds_X2_goesBySkip : GoodIn wsX2_proofHolds wsX2_goesBySkip := goodIn_r _ [16, 17, 18, 9, 19] (by decide +kernel) (by decide +kernel)
set_option maxRecDepth 20000 in
theorem gX2_proofHolds_X2_goesBySkip : GoodIn wsX2_proofHolds (va_wsS RX2 173 yX2_goesBySkip wsX2_goesBySkip) := goodIn_app (goodIn_of _ (by decide +kernel)) ggX2_proofHolds_X2_goesBySkip
set_option maxRecDepth 20000 in
theorem ggX2_proofHolds_X2_nextOnWay : GoodIn wsX2_proofHolds wsX2_nextOnWay := goodIn_r _ [13, 14, 15, 9, 16, 17, 18, 19] (by decide +kernel) (by decide +kernel)
set_option maxRecDepth 20000 in
theorem gX2_proofHolds_X2_nextOnWay : GoodIn wsX2_proofHolds (va_wsS RX2 167 yX2_nextOnWay wsX2_nextOnWay) := goodIn_app (goodIn_of _ (by decide +kernel)) ggX2_proofHolds_X2_nextOnWay
theorem dX2_proofHolds_0 : decode cX2_proofHolds 0 = .ok (.aload_n 0, 1) := by decide +kernel
theorem dX2_proofHolds_1 : decode cX2_proofHolds 1 = .ok (.iload_n 1, 1) := by decide +kernel
theorem dX2_proofHolds_2 : decode cX2_proofHolds 2 = .ok (.invokevirtual 164, 3) := by decide +kernel
theorem dX2_proofHolds_5 : decode cX2_proofHolds 5 = .ok (.istore_n 2, 1) := by decide +kernel
theorem dX2_proofHolds_6 : decode cX2_proofHolds 6 = .ok (.aload_n 0, 1) := by decide +kernel
theorem dX2_proofHolds_7 : decode cX2_proofHolds 7 = .ok (.getfield 67, 3) := by decide +kernel
theorem dX2_proofHolds_10 : decode cX2_proofHolds 10 = .ok (.iload_n 2, 1) := by decide +kernel
theorem dX2_proofHolds_11 : decode cX2_proofHolds 11 = .ok (.bipush 26, 2) := by decide +kernel
theorem dX2_proofHolds_13 : decode cX2_proofHolds 13 = .ok (.imul, 1) := by decide +kernel
theorem dX2_proofHolds_14 : decode cX2_proofHolds 14 = .ok (.if_icmp .eq 5, 3) := by decide +kernel
theorem dX2_proofHolds_17 : decode cX2_proofHolds 17 = .ok (.iconst 0, 1) := by decide +kernel
theorem dX2_proofHolds_18 : decode cX2_proofHolds 18 = .ok (.ireturn, 1) := by decide +kernel
theorem dX2_proofHolds_19 : decode cX2_proofHolds 19 = .ok (.aload_n 0, 1) := by decide +kernel
theorem dX2_proofHolds_20 : decode cX2_proofHolds 20 = .ok (.getfield 27, 3) := by decide +kernel
theorem dX2_proofHolds_23 : decode cX2_proofHolds 23 = .ok (.astore_n 3, 1) := by decide +kernel
theorem dX2_proofHolds_24 : decode cX2_proofHolds 24 = .ok (.iconst 0, 1) := by decide +kernel
theorem dX2_proofHolds_25 : decode cX2_proofHolds 25 = .ok (.istore 4, 2) := by decide +kernel
theorem dX2_proofHolds_27 : decode cX2_proofHolds 27 = .ok (.aload_n 0, 1) := by decide +kernel
theorem dX2_proofHolds_28 : decode cX2_proofHolds 28 = .ok (.getfield 36, 3) := by decide +kernel
theorem dX2_proofHolds_31 : decode cX2_proofHolds 31 = .ok (.iconst 1, 1) := by decide +kernel
theorem dX2_proofHolds_32 : decode cX2_proofHolds 32 = .ok (.isub, 1) := by decide +kernel
theorem dX2_proofHolds_33 : decode cX2_proofHolds 33 = .ok (.istore 5, 2) := by decide +kernel
theorem dX2_proofHolds_35 : decode cX2_proofHolds 35 = .ok (.iconst 0, 1) := by decide +kernel
theorem dX2_proofHolds_36 : decode cX2_proofHolds 36 = .ok (.istore 6, 2) := by decide +kernel
theorem dX2_proofHolds_38 : decode cX2_proofHolds 38 = .ok (.iload 6, 2) := by decide +kernel
theorem dX2_proofHolds_40 : decode cX2_proofHolds 40 = .ok (.iload_n 2, 1) := by decide +kernel
theorem dX2_proofHolds_41 : decode cX2_proofHolds 41 = .ok (.if_icmp .ge 76, 3) := by decide +kernel
theorem dX2_proofHolds_44 : decode cX2_proofHolds 44 = .ok (.aload_n 0, 1) := by decide +kernel
theorem dX2_proofHolds_45 : decode cX2_proofHolds 45 = .ok (.getfield 10, 3) := by decide +kernel
theorem dX2_proofHolds_48 : decode cX2_proofHolds 48 = .ok (.aload_n 0, 1) := by decide +kernel
theorem dX2_proofHolds_49 : decode cX2_proofHolds 49 = .ok (.getfield 33, 3) := by decide +kernel
theorem dX2_proofHolds_52 : decode cX2_proofHolds 52 = .ok (.iload 6, 2) := by decide +kernel
theorem dX2_proofHolds_54 : decode cX2_proofHolds 54 = .ok (.bipush 26, 2) := by decide +kernel
theorem dX2_proofHolds_56 : decode cX2_proofHolds 56 = .ok (.imul, 1) := by decide +kernel
theorem dX2_proofHolds_57 : decode cX2_proofHolds 57 = .ok (.invokevirtual 157, 3) := by decide +kernel
theorem dX2_proofHolds_60 : decode cX2_proofHolds 60 = .ok (.aload_n 0, 1) := by decide +kernel
theorem dX2_proofHolds_61 : decode cX2_proofHolds 61 = .ok (.getfield 10, 3) := by decide +kernel
theorem dX2_proofHolds_64 : decode cX2_proofHolds 64 = .ok (.aload_n 3, 1) := by decide +kernel
theorem dX2_proofHolds_65 : decode cX2_proofHolds 65 = .ok (.iload 4, 2) := by decide +kernel
theorem dX2_proofHolds_67 : decode cX2_proofHolds 67 = .ok (.invokevirtual 160, 3) := by decide +kernel
theorem dX2_proofHolds_70 : decode cX2_proofHolds 70 = .ok (.ifCond .ne 5, 3) := by decide +kernel
theorem dX2_proofHolds_73 : decode cX2_proofHolds 73 = .ok (.iconst 0, 1) := by decide +kernel
theorem dX2_proofHolds_74 : decode cX2_proofHolds 74 = .ok (.ireturn, 1) := by decide +kernel
theorem dX2_proofHolds_75 : decode cX2_proofHolds 75 = .ok (.aload_n 0, 1) := by decide +kernel
theorem dX2_proofHolds_76 : decode cX2_proofHolds 76 = .ok (.getfield 33, 3) := by decide +kernel
theorem dX2_proofHolds_79 : decode cX2_proofHolds 79 = .ok (.astore_n 3, 1) := by decide +kernel
theorem dX2_proofHolds_80 : decode cX2_proofHolds 80 = .ok (.iload 6, 2) := by decide +kernel
theorem dX2_proofHolds_82 : decode cX2_proofHolds 82 = .ok (.bipush 26, 2) := by decide +kernel
theorem dX2_proofHolds_84 : decode cX2_proofHolds 84 = .ok (.imul, 1) := by decide +kernel
theorem dX2_proofHolds_85 : decode cX2_proofHolds 85 = .ok (.iload 5, 2) := by decide +kernel
theorem dX2_proofHolds_87 : decode cX2_proofHolds 87 = .ok (.iload_n 1, 1) := by decide +kernel
theorem dX2_proofHolds_88 : decode cX2_proofHolds 88 = .ok (.invokestatic 173, 3) := by decide +kernel
theorem dX2_proofHolds_91 : decode cX2_proofHolds 91 = .ok (.ifCond .eq 8, 3) := by decide +kernel
theorem dX2_proofHolds_94 : decode cX2_proofHolds 94 = .ok (.bipush 8, 2) := by decide +kernel
theorem dX2_proofHolds_96 : decode cX2_proofHolds 96 = .ok (.goto 4, 3) := by decide +kernel
theorem dX2_proofHolds_99 : decode cX2_proofHolds 99 = .ok (.iconst 0, 1) := by decide +kernel
theorem dX2_proofHolds_100 : decode cX2_proofHolds 100 = .ok (.iadd, 1) := by decide +kernel
theorem dX2_proofHolds_101 : decode cX2_proofHolds 101 = .ok (.istore 4, 2) := by decide +kernel
theorem dX2_proofHolds_103 : decode cX2_proofHolds 103 = .ok (.iload 5, 2) := by decide +kernel
theorem dX2_proofHolds_105 : decode cX2_proofHolds 105 = .ok (.iload_n 1, 1) := by decide +kernel
theorem dX2_proofHolds_106 : decode cX2_proofHolds 106 = .ok (.invokestatic 167, 3) := by decide +kernel
theorem dX2_proofHolds_109 : decode cX2_proofHolds 109 = .ok (.istore 5, 2) := by decide +kernel
theorem dX2_proofHolds_111 : decode cX2_proofHolds 111 = .ok (.iinc 6 1, 3) := by decide +kernel
theorem dX2_proofHolds_114 : decode cX2_proofHolds 114 = .ok (.goto (-76), 3) := by decide +kernel
theorem dX2_proofHolds_117 : decode cX2_proofHolds 117 = .ok (.iconst 1, 1) := by decide +kernel
theorem dX2_proofHolds_118 : decode cX2_proofHolds 118 = .ok (.ireturn, 1) := by decide +kernel
set_option maxRecDepth 20000 in
theorem ggX2_levelsTo_X2_nextOnWay : GoodIn wsX2_levelsTo wsX2_nextOnWay := goodIn_r _ [5, 6, 7, 4, 8, 9, 10, 11] (by decide +kernel) (by decide +kernel)
set_option maxRecDepth 20000 in
theorem gX2_levelsTo_X2_nextOnWay : GoodIn wsX2_levelsTo (va_wsS RX2 167 yX2_nextOnWay wsX2_nextOnWay) := goodIn_app (goodIn_of _ (by decide +kernel)) ggX2_levelsTo_X2_nextOnWay
theorem dX2_levelsTo_0 : decode cX2_levelsTo 0 = .ok (.iconst 1, 1) := by decide +kernel
theorem dX2_levelsTo_1 : decode cX2_levelsTo 1 = .ok (.istore_n 2, 1) := by decide +kernel
theorem dX2_levelsTo_2 : decode cX2_levelsTo 2 = .ok (.aload_n 0, 1) := by decide +kernel
theorem dX2_levelsTo_3 : decode cX2_levelsTo 3 = .ok (.getfield 36, 3) := by decide +kernel
theorem dX2_levelsTo_6 : decode cX2_levelsTo 6 = .ok (.iconst 1, 1) := by decide +kernel
theorem dX2_levelsTo_7 : decode cX2_levelsTo 7 = .ok (.isub, 1) := by decide +kernel
theorem dX2_levelsTo_8 : decode cX2_levelsTo 8 = .ok (.istore_n 3, 1) := by decide +kernel
theorem dX2_levelsTo_9 : decode cX2_levelsTo 9 = .ok (.iload_n 3, 1) := by decide +kernel
theorem dX2_levelsTo_10 : decode cX2_levelsTo 10 = .ok (.iload_n 1, 1) := by decide +kernel
theorem dX2_levelsTo_11 : decode cX2_levelsTo 11 = .ok (.if_icmp .le 21, 3) := by decide +kernel
theorem dX2_levelsTo_14 : decode cX2_levelsTo 14 = .ok (.iload_n 2, 1) := by decide +kernel
theorem dX2_levelsTo_15 : decode cX2_levelsTo 15 = .ok (.bipush 60, 2) := by decide +kernel
theorem dX2_levelsTo_17 : decode cX2_levelsTo 17 = .ok (.if_icmp .ge 15, 3) := by decide +kernel
theorem dX2_levelsTo_20 : decode cX2_levelsTo 20 = .ok (.iload_n 3, 1) := by decide +kernel
theorem dX2_levelsTo_21 : decode cX2_levelsTo 21 = .ok (.iload_n 1, 1) := by decide +kernel
theorem dX2_levelsTo_22 : decode cX2_levelsTo 22 = .ok (.invokestatic 167, 3) := by decide +kernel
theorem dX2_levelsTo_25 : decode cX2_levelsTo 25 = .ok (.istore_n 3, 1) := by decide +kernel
theorem dX2_levelsTo_26 : decode cX2_levelsTo 26 = .ok (.iinc 2 1, 3) := by decide +kernel
theorem dX2_levelsTo_29 : decode cX2_levelsTo 29 = .ok (.goto (-20), 3) := by decide +kernel
theorem dX2_levelsTo_32 : decode cX2_levelsTo 32 = .ok (.iload_n 2, 1) := by decide +kernel
theorem dX2_levelsTo_33 : decode cX2_levelsTo 33 = .ok (.ireturn, 1) := by decide +kernel
set_option maxRecDepth 20000 in
theorem ggX2_nextOnWay_X2_goesBySkip : GoodIn wsX2_nextOnWay wsX2_goesBySkip := goodIn_r _ [4, 5, 6, 3, 7] (by decide +kernel) (by decide +kernel)
set_option maxRecDepth 20000 in
theorem gX2_nextOnWay_X2_goesBySkip : GoodIn wsX2_nextOnWay (va_wsS RX2 173 yX2_goesBySkip wsX2_goesBySkip) := goodIn_app (goodIn_of _ (by decide +kernel)) ggX2_nextOnWay_X2_goesBySkip
set_option maxRecDepth 20000 in
theorem ggX2_nextOnWay_X2_skipOf : GoodIn wsX2_nextOnWay wsX2_skipOf := goodIn_r _ [7] (by decide +kernel) (by decide +kernel)
set_option maxRecDepth 20000 in
theorem gX2_nextOnWay_X2_skipOf : GoodIn wsX2_nextOnWay (va_wsS RX2 103 yX2_skipOf wsX2_skipOf) := goodIn_app (goodIn_of _ (by decide +kernel)) ggX2_nextOnWay_X2_skipOf
theorem dX2_nextOnWay_0 : decode cX2_nextOnWay 0 = .ok (.iload_n 0, 1) := by decide +kernel
theorem dX2_nextOnWay_1 : decode cX2_nextOnWay 1 = .ok (.iload_n 1, 1) := by decide +kernel
theorem dX2_nextOnWay_2 : decode cX2_nextOnWay 2 = .ok (.if_icmp .gt 5, 3) := by decide +kernel
theorem dX2_nextOnWay_5 : decode cX2_nextOnWay 5 = .ok (.iload_n 1, 1) := by decide +kernel
theorem dX2_nextOnWay_6 : decode cX2_nextOnWay 6 = .ok (.ireturn, 1) := by decide +kernel
theorem dX2_nextOnWay_7 : decode cX2_nextOnWay 7 = .ok (.iload_n 0, 1) := by decide +kernel
theorem dX2_nextOnWay_8 : decode cX2_nextOnWay 8 = .ok (.iload_n 1, 1) := by decide +kernel
theorem dX2_nextOnWay_9 : decode cX2_nextOnWay 9 = .ok (.invokestatic 173, 3) := by decide +kernel
theorem dX2_nextOnWay_12 : decode cX2_nextOnWay 12 = .ok (.ifCond .eq 10, 3) := by decide +kernel
theorem dX2_nextOnWay_15 : decode cX2_nextOnWay 15 = .ok (.iload_n 0, 1) := by decide +kernel
theorem dX2_nextOnWay_16 : decode cX2_nextOnWay 16 = .ok (.invokestatic 103, 3) := by decide +kernel
theorem dX2_nextOnWay_19 : decode cX2_nextOnWay 19 = .ok (.goto 6, 3) := by decide +kernel
theorem dX2_nextOnWay_22 : decode cX2_nextOnWay 22 = .ok (.iload_n 0, 1) := by decide +kernel
theorem dX2_nextOnWay_23 : decode cX2_nextOnWay 23 = .ok (.iconst 1, 1) := by decide +kernel
theorem dX2_nextOnWay_24 : decode cX2_nextOnWay 24 = .ok (.isub, 1) := by decide +kernel
theorem dX2_nextOnWay_25 : decode cX2_nextOnWay 25 = .ok (.ireturn, 1) := by decide +kernel
set_option maxRecDepth 20000 in
theorem ggX2_goesBySkip_X2_skipOf : GoodIn wsX2_goesBySkip wsX2_skipOf := goodIn_r _ [4] (by decide +kernel) (by decide +kernel)
set_option maxRecDepth 20000 in
theorem gX2_goesBySkip_X2_skipOf : GoodIn wsX2_goesBySkip (va_wsS RX2 103 yX2_skipOf wsX2_skipOf) := goodIn_app (goodIn_of _ (by decide +kernel)) ggX2_goesBySkip_X2_skipOf
theorem dX2_goesBySkip_0 : decode cX2_goesBySkip 0 = .ok (.iload_n 0, 1) := by decide +kernel
theorem dX2_goesBySkip_1 : decode cX2_goesBySkip 1 = .ok (.invokestatic 103, 3) := by decide +kernel
theorem dX2_goesBySkip_4 : decode cX2_goesBySkip 4 = .ok (.iload_n 1, 1) := by decide +kernel
theorem dX2_goesBySkip_5 : decode cX2_goesBySkip 5 = .ok (.if_icmp .lt 7, 3) := by decide +kernel
theorem dX2_goesBySkip_8 : decode cX2_goesBySkip 8 = .ok (.iconst 1, 1) := by decide +kernel
theorem dX2_goesBySkip_9 : decode cX2_goesBySkip 9 = .ok (.goto 4, 3) := by decide +kernel
theorem dX2_goesBySkip_12 : decode cX2_goesBySkip 12 = .ok (.iconst 0, 1) := by decide +kernel
theorem dX2_goesBySkip_13 : decode cX2_goesBySkip 13 = .ok (.ireturn, 1) := by decide +kernel
theorem dX2_right_0 : decode cX2_right 0 = .ok (.iload_n 0, 1) := by decide +kernel
theorem dX2_right_1 : decode cX2_right 1 = .ok (.iload_n 1, 1) := by decide +kernel
theorem dX2_right_2 : decode cX2_right 2 = .ok (.iushr, 1) := by decide +kernel
theorem dX2_right_3 : decode cX2_right 3 = .ok (.iload_n 0, 1) := by decide +kernel
theorem dX2_right_4 : decode cX2_right 4 = .ok (.bipush 32, 2) := by decide +kernel
theorem dX2_right_6 : decode cX2_right 6 = .ok (.iload_n 1, 1) := by decide +kernel
theorem dX2_right_7 : decode cX2_right 7 = .ok (.isub, 1) := by decide +kernel
theorem dX2_right_8 : decode cX2_right 8 = .ok (.ishl, 1) := by decide +kernel
theorem dX2_right_9 : decode cX2_right 9 = .ok (.ior, 1) := by decide +kernel
theorem dX2_right_10 : decode cX2_right 10 = .ok (.ireturn, 1) := by decide +kernel
set_option maxRecDepth 20000 in
theorem ggX3_init_X3_firstHalf : GoodIn wsX3_init wsX3_firstHalf := goodIn_r _ [31, 12, 32, 33, 34, 35, 36, 37, 38, 39, 40, 41, 42, 43, 44, 45, 46, 47, 48, 49, 50, 51, 52, 53, 54, 55, 56, 57, 58, 59, 60, 61, 62, 63, 100, 101, 102, 103, 104, 105, 106, 107, 108, 109, 110, 111, 112, 113, 114, 115, 116, 117, 118] (by decide +kernel) (by decide +kernel)
set_option maxRecDepth 20000 in
theorem gX3_init_X3_firstHalf : GoodIn wsX3_init (wsV RX3 59 RX3 yX3_firstHalf wsX3_firstHalf) := goodIn_app (goodIn_of _ (by decide +kernel)) ggX3_init_X3_firstHalf
set_option maxRecDepth 20000 in
theorem ggX3_init_X3_secondHalf : GoodIn wsX3_init wsX3_secondHalf := goodIn_r _ [67, 12, 68, 69, 70, 71, 72, 73, 74, 75, 76, 77, 78, 79, 80, 81, 82, 83, 84, 85, 86, 87, 88, 89, 90, 91, 92, 93, 94, 95, 96, 97, 98, 99, 100, 101, 102, 103, 104, 105, 106, 107, 108, 109, 110, 111, 112, 113, 114, 115, 116, 117, 118] (by decide +kernel) (by decide +kernel)
set_option maxRecDepth 20000 in
theorem gX3_init_X3_secondHalf : GoodIn wsX3_init (wsV RX3 62 RX3 yX3_secondHalf wsX3_secondHalf) := goodIn_app (goodIn_of _ (by decide +kernel)) ggX3_init_X3_secondHalf
theorem dX3_init_0 : decode cX3_init 0 = .ok (.aload_n 0, 1) := by decide +kernel
theorem dX3_init_1 : decode cX3_init 1 = .ok (.invokespecial 1, 3) := by decide +kernel
theorem dX3_init_4 : decode cX3_init 4 = .ok (.aload_n 0, 1) := by decide +kernel
theorem dX3_init_5 : decode cX3_init 5 = .ok (.sipush 2040, 3) := by decide +kernel
theorem dX3_init_8 : decode cX3_init 8 = .ok (.newarray .int, 2) := by decide +kernel
theorem dX3_init_10 : decode cX3_init 10 = .ok (.putfield 7, 3) := by decide +kernel
theorem dX3_init_13 : decode cX3_init 13 = .ok (.aload_n 0, 1) := by decide +kernel
theorem dX3_init_14 : decode cX3_init 14 = .ok (.bipush 8, 2) := by decide +kernel
theorem dX3_init_16 : decode cX3_init 16 = .ok (.newarray .int, 2) := by decide +kernel
theorem dX3_init_18 : decode cX3_init 18 = .ok (.putfield 13, 3) := by decide +kernel
theorem dX3_init_21 : decode cX3_init 21 = .ok (.aload_n 0, 1) := by decide +kernel
theorem dX3_init_22 : decode cX3_init 22 = .ok (.bipush 8, 2) := by decide +kernel
theorem dX3_init_24 : decode cX3_init 24 = .ok (.newarray .int, 2) := by decide +kernel
theorem dX3_init_26 : decode cX3_init 26 = .ok (.putfield 16, 3) := by decide +kernel
theorem dX3_init_29 : decode cX3_init 29 = .ok (.aload_n 0, 1) := by decide +kernel
theorem dX3_init_30 : decode cX3_init 30 = .ok (.iconst (-1), 1) := by decide +kernel
theorem dX3_init_31 : decode cX3_init 31 = .ok (.putfield 19, 3) := by decide +kernel
theorem dX3_init_34 : decode cX3_init 34 = .ok (.aload_n 0, 1) := by decide +kernel
theorem dX3_init_35 : decode cX3_init 35 = .ok (.sipush 1024, 3) := by decide +kernel
theorem dX3_init_38 : decode cX3_init 38 = .ok (.newarray .boolean, 2) := by decide +kernel
theorem dX3_init_40 : decode cX3_init 40 = .ok (.putfield 23, 3) := by decide +kernel
theorem dX3_init_43 : decode cX3_init 43 = .ok (.aload_n 0, 1) := by decide +kernel
theorem dX3_init_44 : decode cX3_init 44 = .ok (.sipush 1600, 3) := by decide +kernel
theorem dX3_init_47 : decode cX3_init 47 = .ok (.newarray .int, 2) := by decide +kernel
theorem dX3_init_49 : decode cX3_init 49 = .ok (.putfield 27, 3) := by decide +kernel
theorem dX3_init_52 : decode cX3_init 52 = .ok (.aload_n 0, 1) := by decide +kernel
theorem dX3_init_53 : decode cX3_init 53 = .ok (.bipush 64, 2) := by decide +kernel
theorem dX3_init_55 : decode cX3_init 55 = .ok (.newarray .int, 2) := by decide +kernel
theorem dX3_init_57 : decode cX3_init 57 = .ok (.putfield 30, 3) := by decide +kernel
theorem dX3_init_60 : decode cX3_init 60 = .ok (.aload_n 0, 1) := by decide +kernel
theorem dX3_init_61 : decode cX3_init 61 = .ok (.bipush 8, 2) := by decide +kernel
theorem dX3_init_63 : decode cX3_init 63 = .ok (.newarray .int, 2) := by decide +kernel
theorem dX3_init_65 : decode cX3_init 65 = .ok (.putfield 33, 3) := by decide +kernel
theorem dX3_init_68 : decode cX3_init 68 = .ok (.aload_n 0, 1) := by decide +kernel
theorem dX3_init_69 : decode cX3_init 69 = .ok (.bipush 8, 2) := by decide +kernel
theorem dX3_init_71 : decode cX3_init 71 = .ok (.newarray .int, 2) := by decide +kernel
theorem dX3_init_73 : decode cX3_init 73 = .ok (.putfield 36, 3) := by decide +kernel
theorem dX3_init_76 : decode cX3_init 76 = .ok (.aload_n 0, 1) := by decide +kernel
theorem dX3_init_77 : decode cX3_init 77 = .ok (.bipush 8, 2) := by decide +kernel
theorem dX3_init_79 : decode cX3_init 79 = .ok (.newarray .int, 2) := by decide +kernel
theorem dX3_init_81 : decode cX3_init 81 = .ok (.putfield 39, 3) := by decide +kernel
theorem dX3_init_84 : decode cX3_init 84 = .ok (.aload_n 0, 1) := by decide +kernel
theorem dX3_init_85 : decode cX3_init 85 = .ok (.bipush 64, 2) := by decide +kernel
theorem dX3_init_87 : decode cX3_init 87 = .ok (.newarray .int, 2) := by decide +kernel
theorem dX3_init_89 : decode cX3_init 89 = .ok (.putfield 42, 3) := by decide +kernel
theorem dX3_init_92 : decode cX3_init 92 = .ok (.aload_n 0, 1) := by decide +kernel
theorem dX3_init_93 : decode cX3_init 93 = .ok (.bipush 26, 2) := by decide +kernel
theorem dX3_init_95 : decode cX3_init 95 = .ok (.newarray .int, 2) := by decide +kernel
theorem dX3_init_97 : decode cX3_init 97 = .ok (.putfield 45, 3) := by decide +kernel
theorem dX3_init_100 : decode cX3_init 100 = .ok (.aload_n 0, 1) := by decide +kernel
theorem dX3_init_101 : decode cX3_init 101 = .ok (.iload_n 1, 1) := by decide +kernel
theorem dX3_init_102 : decode cX3_init 102 = .ok (.ifCond .ge 7, 3) := by decide +kernel
theorem dX3_init_105 : decode cX3_init 105 = .ok (.iconst 0, 1) := by decide +kernel
theorem dX3_init_106 : decode cX3_init 106 = .ok (.goto 15, 3) := by decide +kernel
theorem dX3_init_109 : decode cX3_init 109 = .ok (.iload_n 1, 1) := by decide +kernel
theorem dX3_init_110 : decode cX3_init 110 = .ok (.bipush 20, 2) := by decide +kernel
theorem dX3_init_112 : decode cX3_init 112 = .ok (.if_icmp .le 8, 3) := by decide +kernel
theorem dX3_init_115 : decode cX3_init 115 = .ok (.bipush 20, 2) := by decide +kernel
theorem dX3_init_117 : decode cX3_init 117 = .ok (.goto 4, 3) := by decide +kernel
theorem dX3_init_120 : decode cX3_init 120 = .ok (.iload_n 1, 1) := by decide +kernel
theorem dX3_init_121 : decode cX3_init 121 = .ok (.putfield 48, 3) := by decide +kernel
theorem dX3_init_124 : decode cX3_init 124 = .ok (.aload_n 0, 1) := by decide +kernel
theorem dX3_init_125 : decode cX3_init 125 = .ok (.getfield 33, 3) := by decide +kernel
theorem dX3_init_128 : decode cX3_init 128 = .ok (.iconst 0, 1) := by decide +kernel
theorem dX3_init_129 : decode cX3_init 129 = .ok (.ldc 51, 2) := by decide +kernel
theorem dX3_init_131 : decode cX3_init 131 = .ok (.iastore, 1) := by decide +kernel
theorem dX3_init_132 : decode cX3_init 132 = .ok (.aload_n 0, 1) := by decide +kernel
theorem dX3_init_133 : decode cX3_init 133 = .ok (.getfield 33, 3) := by decide +kernel
theorem dX3_init_136 : decode cX3_init 136 = .ok (.iconst 1, 1) := by decide +kernel
theorem dX3_init_137 : decode cX3_init 137 = .ok (.ldc 52, 2) := by decide +kernel
theorem dX3_init_139 : decode cX3_init 139 = .ok (.iastore, 1) := by decide +kernel
theorem dX3_init_140 : decode cX3_init 140 = .ok (.aload_n 0, 1) := by decide +kernel
theorem dX3_init_141 : decode cX3_init 141 = .ok (.getfield 33, 3) := by decide +kernel
theorem dX3_init_144 : decode cX3_init 144 = .ok (.iconst 2, 1) := by decide +kernel
theorem dX3_init_145 : decode cX3_init 145 = .ok (.ldc 53, 2) := by decide +kernel
theorem dX3_init_147 : decode cX3_init 147 = .ok (.iastore, 1) := by decide +kernel
theorem dX3_init_148 : decode cX3_init 148 = .ok (.aload_n 0, 1) := by decide +kernel
theorem dX3_init_149 : decode cX3_init 149 = .ok (.getfield 33, 3) := by decide +kernel
theorem dX3_init_152 : decode cX3_init 152 = .ok (.iconst 3, 1) := by decide +kernel
theorem dX3_init_153 : decode cX3_init 153 = .ok (.ldc 54, 2) := by decide +kernel
theorem dX3_init_155 : decode cX3_init 155 = .ok (.iastore, 1) := by decide +kernel
theorem dX3_init_156 : decode cX3_init 156 = .ok (.aload_n 0, 1) := by decide +kernel
theorem dX3_init_157 : decode cX3_init 157 = .ok (.getfield 33, 3) := by decide +kernel
theorem dX3_init_160 : decode cX3_init 160 = .ok (.iconst 4, 1) := by decide +kernel
theorem dX3_init_161 : decode cX3_init 161 = .ok (.ldc 55, 2) := by decide +kernel
theorem dX3_init_163 : decode cX3_init 163 = .ok (.iastore, 1) := by decide +kernel
theorem dX3_init_164 : decode cX3_init 164 = .ok (.aload_n 0, 1) := by decide +kernel
theorem dX3_init_165 : decode cX3_init 165 = .ok (.getfield 33, 3) := by decide +kernel
theorem dX3_init_168 : decode cX3_init 168 = .ok (.iconst 5, 1) := by decide +kernel
theorem dX3_init_169 : decode cX3_init 169 = .ok (.ldc 56, 2) := by decide +kernel
theorem dX3_init_171 : decode cX3_init 171 = .ok (.iastore, 1) := by decide +kernel
theorem dX3_init_172 : decode cX3_init 172 = .ok (.aload_n 0, 1) := by decide +kernel
theorem dX3_init_173 : decode cX3_init 173 = .ok (.getfield 33, 3) := by decide +kernel
theorem dX3_init_176 : decode cX3_init 176 = .ok (.bipush 6, 2) := by decide +kernel
theorem dX3_init_178 : decode cX3_init 178 = .ok (.ldc 57, 2) := by decide +kernel
theorem dX3_init_180 : decode cX3_init 180 = .ok (.iastore, 1) := by decide +kernel
theorem dX3_init_181 : decode cX3_init 181 = .ok (.aload_n 0, 1) := by decide +kernel
theorem dX3_init_182 : decode cX3_init 182 = .ok (.getfield 33, 3) := by decide +kernel
theorem dX3_init_185 : decode cX3_init 185 = .ok (.bipush 7, 2) := by decide +kernel
theorem dX3_init_187 : decode cX3_init 187 = .ok (.ldc 58, 2) := by decide +kernel
theorem dX3_init_189 : decode cX3_init 189 = .ok (.iastore, 1) := by decide +kernel
theorem dX3_init_190 : decode cX3_init 190 = .ok (.aload_n 0, 1) := by decide +kernel
theorem dX3_init_191 : decode cX3_init 191 = .ok (.invokevirtual 59, 3) := by decide +kernel
theorem dX3_init_194 : decode cX3_init 194 = .ok (.aload_n 0, 1) := by decide +kernel
theorem dX3_init_195 : decode cX3_init 195 = .ok (.invokevirtual 62, 3) := by decide +kernel
theorem dX3_init_198 : decode cX3_init 198 = .ok (.return_, 1) := by decide +kernel
theorem dX3_firstHalf_0 : decode cX3_firstHalf 0 = .ok (.aload_n 0, 1) := by decide +kernel
theorem dX3_firstHalf_1 : decode cX3_firstHalf 1 = .ok (.getfield 30, 3) := by decide +kernel
theorem dX3_firstHalf_4 : decode cX3_firstHalf 4 = .ok (.iconst 0, 1) := by decide +kernel
theorem dX3_firstHalf_5 : decode cX3_firstHalf 5 = .ok (.ldc 65, 2) := by decide +kernel
theorem dX3_firstHalf_7 : decode cX3_firstHalf 7 = .ok (.iastore, 1) := by decide +kernel
theorem dX3_firstHalf_8 : decode cX3_firstHalf 8 = .ok (.aload_n 0, 1) := by decide +kernel
theorem dX3_firstHalf_9 : decode cX3_firstHalf 9 = .ok (.getfield 30, 3) := by decide +kernel
theorem dX3_firstHalf_12 : decode cX3_firstHalf 12 = .ok (.iconst 1, 1) := by decide +kernel
theorem dX3_firstHalf_13 : decode cX3_firstHalf 13 = .ok (.ldc 66, 2) := by decide +kernel
theorem dX3_firstHalf_15 : decode cX3_firstHalf 15 = .ok (.iastore, 1) := by decide +kernel
theorem dX3_firstHalf_16 : decode cX3_firstHalf 16 = .ok (.aload_n 0, 1) := by decide +kernel
theorem dX3_firstHalf_17 : decode cX3_firstHalf 17 = .ok (.getfield 30, 3) := by decide +kernel
theorem dX3_firstHalf_20 : decode cX3_firstHalf 20 = .ok (.iconst 2, 1) := by decide +kernel
theorem dX3_firstHalf_21 : decode cX3_firstHalf 21 = .ok (.ldc 67, 2) := by decide +kernel
theorem dX3_firstHalf_23 : decode cX3_firstHalf 23 = .ok (.iastore, 1) := by decide +kernel
theorem dX3_firstHalf_24 : decode cX3_firstHalf 24 = .ok (.aload_n 0, 1) := by decide +kernel
theorem dX3_firstHalf_25 : decode cX3_firstHalf 25 = .ok (.getfield 30, 3) := by decide +kernel
theorem dX3_firstHalf_28 : decode cX3_firstHalf 28 = .ok (.iconst 3, 1) := by decide +kernel
theorem dX3_firstHalf_29 : decode cX3_firstHalf 29 = .ok (.ldc 68, 2) := by decide +kernel
theorem dX3_firstHalf_31 : decode cX3_firstHalf 31 = .ok (.iastore, 1) := by decide +kernel
theorem dX3_firstHalf_32 : decode cX3_firstHalf 32 = .ok (.aload_n 0, 1) := by decide +kernel
theorem dX3_firstHalf_33 : decode cX3_firstHalf 33 = .ok (.getfield 30, 3) := by decide +kernel
theorem dX3_firstHalf_36 : decode cX3_firstHalf 36 = .ok (.iconst 4, 1) := by decide +kernel
theorem dX3_firstHalf_37 : decode cX3_firstHalf 37 = .ok (.ldc 69, 2) := by decide +kernel
theorem dX3_firstHalf_39 : decode cX3_firstHalf 39 = .ok (.iastore, 1) := by decide +kernel
theorem dX3_firstHalf_40 : decode cX3_firstHalf 40 = .ok (.aload_n 0, 1) := by decide +kernel
theorem dX3_firstHalf_41 : decode cX3_firstHalf 41 = .ok (.getfield 30, 3) := by decide +kernel
theorem dX3_firstHalf_44 : decode cX3_firstHalf 44 = .ok (.iconst 5, 1) := by decide +kernel
theorem dX3_firstHalf_45 : decode cX3_firstHalf 45 = .ok (.ldc 70, 2) := by decide +kernel
theorem dX3_firstHalf_47 : decode cX3_firstHalf 47 = .ok (.iastore, 1) := by decide +kernel
theorem dX3_firstHalf_48 : decode cX3_firstHalf 48 = .ok (.aload_n 0, 1) := by decide +kernel
theorem dX3_firstHalf_49 : decode cX3_firstHalf 49 = .ok (.getfield 30, 3) := by decide +kernel
theorem dX3_firstHalf_52 : decode cX3_firstHalf 52 = .ok (.bipush 6, 2) := by decide +kernel
theorem dX3_firstHalf_54 : decode cX3_firstHalf 54 = .ok (.ldc 71, 2) := by decide +kernel
theorem dX3_firstHalf_56 : decode cX3_firstHalf 56 = .ok (.iastore, 1) := by decide +kernel
theorem dX3_firstHalf_57 : decode cX3_firstHalf 57 = .ok (.aload_n 0, 1) := by decide +kernel
theorem dX3_firstHalf_58 : decode cX3_firstHalf 58 = .ok (.getfield 30, 3) := by decide +kernel
theorem dX3_firstHalf_61 : decode cX3_firstHalf 61 = .ok (.bipush 7, 2) := by decide +kernel
theorem dX3_firstHalf_63 : decode cX3_firstHalf 63 = .ok (.ldc 72, 2) := by decide +kernel
theorem dX3_firstHalf_65 : decode cX3_firstHalf 65 = .ok (.iastore, 1) := by decide +kernel
theorem dX3_firstHalf_66 : decode cX3_firstHalf 66 = .ok (.aload_n 0, 1) := by decide +kernel
theorem dX3_firstHalf_67 : decode cX3_firstHalf 67 = .ok (.getfield 30, 3) := by decide +kernel
theorem dX3_firstHalf_70 : decode cX3_firstHalf 70 = .ok (.bipush 8, 2) := by decide +kernel
theorem dX3_firstHalf_72 : decode cX3_firstHalf 72 = .ok (.ldc 73, 2) := by decide +kernel
theorem dX3_firstHalf_74 : decode cX3_firstHalf 74 = .ok (.iastore, 1) := by decide +kernel
theorem dX3_firstHalf_75 : decode cX3_firstHalf 75 = .ok (.aload_n 0, 1) := by decide +kernel
theorem dX3_firstHalf_76 : decode cX3_firstHalf 76 = .ok (.getfield 30, 3) := by decide +kernel
theorem dX3_firstHalf_79 : decode cX3_firstHalf 79 = .ok (.bipush 9, 2) := by decide +kernel
theorem dX3_firstHalf_81 : decode cX3_firstHalf 81 = .ok (.ldc 74, 2) := by decide +kernel
theorem dX3_firstHalf_83 : decode cX3_firstHalf 83 = .ok (.iastore, 1) := by decide +kernel
theorem dX3_firstHalf_84 : decode cX3_firstHalf 84 = .ok (.aload_n 0, 1) := by decide +kernel
theorem dX3_firstHalf_85 : decode cX3_firstHalf 85 = .ok (.getfield 30, 3) := by decide +kernel
theorem dX3_firstHalf_88 : decode cX3_firstHalf 88 = .ok (.bipush 10, 2) := by decide +kernel
theorem dX3_firstHalf_90 : decode cX3_firstHalf 90 = .ok (.ldc 75, 2) := by decide +kernel
theorem dX3_firstHalf_92 : decode cX3_firstHalf 92 = .ok (.iastore, 1) := by decide +kernel
theorem dX3_firstHalf_93 : decode cX3_firstHalf 93 = .ok (.aload_n 0, 1) := by decide +kernel
theorem dX3_firstHalf_94 : decode cX3_firstHalf 94 = .ok (.getfield 30, 3) := by decide +kernel
theorem dX3_firstHalf_97 : decode cX3_firstHalf 97 = .ok (.bipush 11, 2) := by decide +kernel
theorem dX3_firstHalf_99 : decode cX3_firstHalf 99 = .ok (.ldc 76, 2) := by decide +kernel
theorem dX3_firstHalf_101 : decode cX3_firstHalf 101 = .ok (.iastore, 1) := by decide +kernel
theorem dX3_firstHalf_102 : decode cX3_firstHalf 102 = .ok (.aload_n 0, 1) := by decide +kernel
theorem dX3_firstHalf_103 : decode cX3_firstHalf 103 = .ok (.getfield 30, 3) := by decide +kernel
theorem dX3_firstHalf_106 : decode cX3_firstHalf 106 = .ok (.bipush 12, 2) := by decide +kernel
theorem dX3_firstHalf_108 : decode cX3_firstHalf 108 = .ok (.ldc 77, 2) := by decide +kernel
theorem dX3_firstHalf_110 : decode cX3_firstHalf 110 = .ok (.iastore, 1) := by decide +kernel
theorem dX3_firstHalf_111 : decode cX3_firstHalf 111 = .ok (.aload_n 0, 1) := by decide +kernel
theorem dX3_firstHalf_112 : decode cX3_firstHalf 112 = .ok (.getfield 30, 3) := by decide +kernel
theorem dX3_firstHalf_115 : decode cX3_firstHalf 115 = .ok (.bipush 13, 2) := by decide +kernel
theorem dX3_firstHalf_117 : decode cX3_firstHalf 117 = .ok (.ldc 78, 2) := by decide +kernel
theorem dX3_firstHalf_119 : decode cX3_firstHalf 119 = .ok (.iastore, 1) := by decide +kernel
theorem dX3_firstHalf_120 : decode cX3_firstHalf 120 = .ok (.aload_n 0, 1) := by decide +kernel
theorem dX3_firstHalf_121 : decode cX3_firstHalf 121 = .ok (.getfield 30, 3) := by decide +kernel
theorem dX3_firstHalf_124 : decode cX3_firstHalf 124 = .ok (.bipush 14, 2) := by decide +kernel
theorem dX3_firstHalf_126 : decode cX3_firstHalf 126 = .ok (.ldc 79, 2) := by decide +kernel
theorem dX3_firstHalf_128 : decode cX3_firstHalf 128 = .ok (.iastore, 1) := by decide +kernel
theorem dX3_firstHalf_129 : decode cX3_firstHalf 129 = .ok (.aload_n 0, 1) := by decide +kernel
theorem dX3_firstHalf_130 : decode cX3_firstHalf 130 = .ok (.getfield 30, 3) := by decide +kernel
theorem dX3_firstHalf_133 : decode cX3_firstHalf 133 = .ok (.bipush 15, 2) := by decide +kernel
theorem dX3_firstHalf_135 : decode cX3_firstHalf 135 = .ok (.ldc 80, 2) := by decide +kernel
theorem dX3_firstHalf_137 : decode cX3_firstHalf 137 = .ok (.iastore, 1) := by decide +kernel
theorem dX3_firstHalf_138 : decode cX3_firstHalf 138 = .ok (.aload_n 0, 1) := by decide +kernel
theorem dX3_firstHalf_139 : decode cX3_firstHalf 139 = .ok (.getfield 30, 3) := by decide +kernel
theorem dX3_firstHalf_142 : decode cX3_firstHalf 142 = .ok (.bipush 16, 2) := by decide +kernel
theorem dX3_firstHalf_144 : decode cX3_firstHalf 144 = .ok (.ldc 81, 2) := by decide +kernel
theorem dX3_firstHalf_146 : decode cX3_firstHalf 146 = .ok (.iastore, 1) := by decide +kernel
theorem dX3_firstHalf_147 : decode cX3_firstHalf 147 = .ok (.aload_n 0, 1) := by decide +kernel
theorem dX3_firstHalf_148 : decode cX3_firstHalf 148 = .ok (.getfield 30, 3) := by decide +kernel
theorem dX3_firstHalf_151 : decode cX3_firstHalf 151 = .ok (.bipush 17, 2) := by decide +kernel
theorem dX3_firstHalf_153 : decode cX3_firstHalf 153 = .ok (.ldc 82, 2) := by decide +kernel
theorem dX3_firstHalf_155 : decode cX3_firstHalf 155 = .ok (.iastore, 1) := by decide +kernel
theorem dX3_firstHalf_156 : decode cX3_firstHalf 156 = .ok (.aload_n 0, 1) := by decide +kernel
theorem dX3_firstHalf_157 : decode cX3_firstHalf 157 = .ok (.getfield 30, 3) := by decide +kernel
theorem dX3_firstHalf_160 : decode cX3_firstHalf 160 = .ok (.bipush 18, 2) := by decide +kernel
theorem dX3_firstHalf_162 : decode cX3_firstHalf 162 = .ok (.ldc 83, 2) := by decide +kernel
theorem dX3_firstHalf_164 : decode cX3_firstHalf 164 = .ok (.iastore, 1) := by decide +kernel
theorem dX3_firstHalf_165 : decode cX3_firstHalf 165 = .ok (.aload_n 0, 1) := by decide +kernel
theorem dX3_firstHalf_166 : decode cX3_firstHalf 166 = .ok (.getfield 30, 3) := by decide +kernel
theorem dX3_firstHalf_169 : decode cX3_firstHalf 169 = .ok (.bipush 19, 2) := by decide +kernel
theorem dX3_firstHalf_171 : decode cX3_firstHalf 171 = .ok (.ldc 84, 2) := by decide +kernel
theorem dX3_firstHalf_173 : decode cX3_firstHalf 173 = .ok (.iastore, 1) := by decide +kernel
theorem dX3_firstHalf_174 : decode cX3_firstHalf 174 = .ok (.aload_n 0, 1) := by decide +kernel
theorem dX3_firstHalf_175 : decode cX3_firstHalf 175 = .ok (.getfield 30, 3) := by decide +kernel
theorem dX3_firstHalf_178 : decode cX3_firstHalf 178 = .ok (.bipush 20, 2) := by decide +kernel
theorem dX3_firstHalf_180 : decode cX3_firstHalf 180 = .ok (.ldc 85, 2) := by decide +kernel
theorem dX3_firstHalf_182 : decode cX3_firstHalf 182 = .ok (.iastore, 1) := by decide +kernel
theorem dX3_firstHalf_183 : decode cX3_firstHalf 183 = .ok (.aload_n 0, 1) := by decide +kernel
theorem dX3_firstHalf_184 : decode cX3_firstHalf 184 = .ok (.getfield 30, 3) := by decide +kernel
theorem dX3_firstHalf_187 : decode cX3_firstHalf 187 = .ok (.bipush 21, 2) := by decide +kernel
theorem dX3_firstHalf_189 : decode cX3_firstHalf 189 = .ok (.ldc 86, 2) := by decide +kernel
theorem dX3_firstHalf_191 : decode cX3_firstHalf 191 = .ok (.iastore, 1) := by decide +kernel
theorem dX3_firstHalf_192 : decode cX3_firstHalf 192 = .ok (.aload_n 0, 1) := by decide +kernel
theorem dX3_firstHalf_193 : decode cX3_firstHalf 193 = .ok (.getfield 30, 3) := by decide +kernel
theorem dX3_firstHalf_196 : decode cX3_firstHalf 196 = .ok (.bipush 22, 2) := by decide +kernel
theorem dX3_firstHalf_198 : decode cX3_firstHalf 198 = .ok (.ldc 87, 2) := by decide +kernel
theorem dX3_firstHalf_200 : decode cX3_firstHalf 200 = .ok (.iastore, 1) := by decide +kernel
theorem dX3_firstHalf_201 : decode cX3_firstHalf 201 = .ok (.aload_n 0, 1) := by decide +kernel
theorem dX3_firstHalf_202 : decode cX3_firstHalf 202 = .ok (.getfield 30, 3) := by decide +kernel
theorem dX3_firstHalf_205 : decode cX3_firstHalf 205 = .ok (.bipush 23, 2) := by decide +kernel
theorem dX3_firstHalf_207 : decode cX3_firstHalf 207 = .ok (.ldc 88, 2) := by decide +kernel
theorem dX3_firstHalf_209 : decode cX3_firstHalf 209 = .ok (.iastore, 1) := by decide +kernel
theorem dX3_firstHalf_210 : decode cX3_firstHalf 210 = .ok (.aload_n 0, 1) := by decide +kernel
theorem dX3_firstHalf_211 : decode cX3_firstHalf 211 = .ok (.getfield 30, 3) := by decide +kernel
theorem dX3_firstHalf_214 : decode cX3_firstHalf 214 = .ok (.bipush 24, 2) := by decide +kernel
theorem dX3_firstHalf_216 : decode cX3_firstHalf 216 = .ok (.ldc 89, 2) := by decide +kernel
theorem dX3_firstHalf_218 : decode cX3_firstHalf 218 = .ok (.iastore, 1) := by decide +kernel
theorem dX3_firstHalf_219 : decode cX3_firstHalf 219 = .ok (.aload_n 0, 1) := by decide +kernel
theorem dX3_firstHalf_220 : decode cX3_firstHalf 220 = .ok (.getfield 30, 3) := by decide +kernel
theorem dX3_firstHalf_223 : decode cX3_firstHalf 223 = .ok (.bipush 25, 2) := by decide +kernel
theorem dX3_firstHalf_225 : decode cX3_firstHalf 225 = .ok (.ldc 90, 2) := by decide +kernel
theorem dX3_firstHalf_227 : decode cX3_firstHalf 227 = .ok (.iastore, 1) := by decide +kernel
theorem dX3_firstHalf_228 : decode cX3_firstHalf 228 = .ok (.aload_n 0, 1) := by decide +kernel
theorem dX3_firstHalf_229 : decode cX3_firstHalf 229 = .ok (.getfield 30, 3) := by decide +kernel
theorem dX3_firstHalf_232 : decode cX3_firstHalf 232 = .ok (.bipush 26, 2) := by decide +kernel
theorem dX3_firstHalf_234 : decode cX3_firstHalf 234 = .ok (.ldc 91, 2) := by decide +kernel
theorem dX3_firstHalf_236 : decode cX3_firstHalf 236 = .ok (.iastore, 1) := by decide +kernel
theorem dX3_firstHalf_237 : decode cX3_firstHalf 237 = .ok (.aload_n 0, 1) := by decide +kernel
theorem dX3_firstHalf_238 : decode cX3_firstHalf 238 = .ok (.getfield 30, 3) := by decide +kernel
theorem dX3_firstHalf_241 : decode cX3_firstHalf 241 = .ok (.bipush 27, 2) := by decide +kernel
theorem dX3_firstHalf_243 : decode cX3_firstHalf 243 = .ok (.ldc 92, 2) := by decide +kernel
theorem dX3_firstHalf_245 : decode cX3_firstHalf 245 = .ok (.iastore, 1) := by decide +kernel
theorem dX3_firstHalf_246 : decode cX3_firstHalf 246 = .ok (.aload_n 0, 1) := by decide +kernel
theorem dX3_firstHalf_247 : decode cX3_firstHalf 247 = .ok (.getfield 30, 3) := by decide +kernel
theorem dX3_firstHalf_250 : decode cX3_firstHalf 250 = .ok (.bipush 28, 2) := by decide +kernel
theorem dX3_firstHalf_252 : decode cX3_firstHalf 252 = .ok (.ldc 93, 2) := by decide +kernel
theorem dX3_firstHalf_254 : decode cX3_firstHalf 254 = .ok (.iastore, 1) := by decide +kernel
theorem dX3_firstHalf_255 : decode cX3_firstHalf 255 = .ok (.aload_n 0, 1) := by decide +kernel
theorem dX3_firstHalf_256 : decode cX3_firstHalf 256 = .ok (.getfield 30, 3) := by decide +kernel
theorem dX3_firstHalf_259 : decode cX3_firstHalf 259 = .ok (.bipush 29, 2) := by decide +kernel
theorem dX3_firstHalf_261 : decode cX3_firstHalf 261 = .ok (.ldc 94, 2) := by decide +kernel
theorem dX3_firstHalf_263 : decode cX3_firstHalf 263 = .ok (.iastore, 1) := by decide +kernel
theorem dX3_firstHalf_264 : decode cX3_firstHalf 264 = .ok (.aload_n 0, 1) := by decide +kernel
theorem dX3_firstHalf_265 : decode cX3_firstHalf 265 = .ok (.getfield 30, 3) := by decide +kernel
theorem dX3_firstHalf_268 : decode cX3_firstHalf 268 = .ok (.bipush 30, 2) := by decide +kernel
theorem dX3_firstHalf_270 : decode cX3_firstHalf 270 = .ok (.ldc 95, 2) := by decide +kernel
theorem dX3_firstHalf_272 : decode cX3_firstHalf 272 = .ok (.iastore, 1) := by decide +kernel
theorem dX3_firstHalf_273 : decode cX3_firstHalf 273 = .ok (.aload_n 0, 1) := by decide +kernel
theorem dX3_firstHalf_274 : decode cX3_firstHalf 274 = .ok (.getfield 30, 3) := by decide +kernel
theorem dX3_firstHalf_277 : decode cX3_firstHalf 277 = .ok (.bipush 31, 2) := by decide +kernel
theorem dX3_firstHalf_279 : decode cX3_firstHalf 279 = .ok (.ldc 96, 2) := by decide +kernel
theorem dX3_firstHalf_281 : decode cX3_firstHalf 281 = .ok (.iastore, 1) := by decide +kernel
theorem dX3_firstHalf_282 : decode cX3_firstHalf 282 = .ok (.return_, 1) := by decide +kernel
theorem dX3_secondHalf_0 : decode cX3_secondHalf 0 = .ok (.aload_n 0, 1) := by decide +kernel
theorem dX3_secondHalf_1 : decode cX3_secondHalf 1 = .ok (.getfield 30, 3) := by decide +kernel
theorem dX3_secondHalf_4 : decode cX3_secondHalf 4 = .ok (.bipush 32, 2) := by decide +kernel
theorem dX3_secondHalf_6 : decode cX3_secondHalf 6 = .ok (.ldc 97, 2) := by decide +kernel
theorem dX3_secondHalf_8 : decode cX3_secondHalf 8 = .ok (.iastore, 1) := by decide +kernel
theorem dX3_secondHalf_9 : decode cX3_secondHalf 9 = .ok (.aload_n 0, 1) := by decide +kernel
theorem dX3_secondHalf_10 : decode cX3_secondHalf 10 = .ok (.getfield 30, 3) := by decide +kernel
theorem dX3_secondHalf_13 : decode cX3_secondHalf 13 = .ok (.bipush 33, 2) := by decide +kernel
theorem dX3_secondHalf_15 : decode cX3_secondHalf 15 = .ok (.ldc 98, 2) := by decide +kernel
theorem dX3_secondHalf_17 : decode cX3_secondHalf 17 = .ok (.iastore, 1) := by decide +kernel
theorem dX3_secondHalf_18 : decode cX3_secondHalf 18 = .ok (.aload_n 0, 1) := by decide +kernel
theorem dX3_secondHalf_19 : decode cX3_secondHalf 19 = .ok (.getfield 30, 3) := by decide +kernel
theorem dX3_secondHalf_22 : decode cX3_secondHalf 22 = .ok (.bipush 34, 2) := by decide +kernel
theorem dX3_secondHalf_24 : decode cX3_secondHalf 24 = .ok (.ldc 99, 2) := by decide +kernel
theorem dX3_secondHalf_26 : decode cX3_secondHalf 26 = .ok (.iastore, 1) := by decide +kernel
theorem dX3_secondHalf_27 : decode cX3_secondHalf 27 = .ok (.aload_n 0, 1) := by decide +kernel
theorem dX3_secondHalf_28 : decode cX3_secondHalf 28 = .ok (.getfield 30, 3) := by decide +kernel
theorem dX3_secondHalf_31 : decode cX3_secondHalf 31 = .ok (.bipush 35, 2) := by decide +kernel
theorem dX3_secondHalf_33 : decode cX3_secondHalf 33 = .ok (.ldc 100, 2) := by decide +kernel
theorem dX3_secondHalf_35 : decode cX3_secondHalf 35 = .ok (.iastore, 1) := by decide +kernel
theorem dX3_secondHalf_36 : decode cX3_secondHalf 36 = .ok (.aload_n 0, 1) := by decide +kernel
theorem dX3_secondHalf_37 : decode cX3_secondHalf 37 = .ok (.getfield 30, 3) := by decide +kernel
theorem dX3_secondHalf_40 : decode cX3_secondHalf 40 = .ok (.bipush 36, 2) := by decide +kernel
theorem dX3_secondHalf_42 : decode cX3_secondHalf 42 = .ok (.ldc 101, 2) := by decide +kernel
theorem dX3_secondHalf_44 : decode cX3_secondHalf 44 = .ok (.iastore, 1) := by decide +kernel
theorem dX3_secondHalf_45 : decode cX3_secondHalf 45 = .ok (.aload_n 0, 1) := by decide +kernel
theorem dX3_secondHalf_46 : decode cX3_secondHalf 46 = .ok (.getfield 30, 3) := by decide +kernel
theorem dX3_secondHalf_49 : decode cX3_secondHalf 49 = .ok (.bipush 37, 2) := by decide +kernel
theorem dX3_secondHalf_51 : decode cX3_secondHalf 51 = .ok (.ldc 102, 2) := by decide +kernel
theorem dX3_secondHalf_53 : decode cX3_secondHalf 53 = .ok (.iastore, 1) := by decide +kernel
theorem dX3_secondHalf_54 : decode cX3_secondHalf 54 = .ok (.aload_n 0, 1) := by decide +kernel
theorem dX3_secondHalf_55 : decode cX3_secondHalf 55 = .ok (.getfield 30, 3) := by decide +kernel
theorem dX3_secondHalf_58 : decode cX3_secondHalf 58 = .ok (.bipush 38, 2) := by decide +kernel
theorem dX3_secondHalf_60 : decode cX3_secondHalf 60 = .ok (.ldc 103, 2) := by decide +kernel
theorem dX3_secondHalf_62 : decode cX3_secondHalf 62 = .ok (.iastore, 1) := by decide +kernel
theorem dX3_secondHalf_63 : decode cX3_secondHalf 63 = .ok (.aload_n 0, 1) := by decide +kernel
theorem dX3_secondHalf_64 : decode cX3_secondHalf 64 = .ok (.getfield 30, 3) := by decide +kernel
theorem dX3_secondHalf_67 : decode cX3_secondHalf 67 = .ok (.bipush 39, 2) := by decide +kernel
theorem dX3_secondHalf_69 : decode cX3_secondHalf 69 = .ok (.ldc 104, 2) := by decide +kernel
theorem dX3_secondHalf_71 : decode cX3_secondHalf 71 = .ok (.iastore, 1) := by decide +kernel
theorem dX3_secondHalf_72 : decode cX3_secondHalf 72 = .ok (.aload_n 0, 1) := by decide +kernel
theorem dX3_secondHalf_73 : decode cX3_secondHalf 73 = .ok (.getfield 30, 3) := by decide +kernel
theorem dX3_secondHalf_76 : decode cX3_secondHalf 76 = .ok (.bipush 40, 2) := by decide +kernel
theorem dX3_secondHalf_78 : decode cX3_secondHalf 78 = .ok (.ldc 105, 2) := by decide +kernel
theorem dX3_secondHalf_80 : decode cX3_secondHalf 80 = .ok (.iastore, 1) := by decide +kernel
theorem dX3_secondHalf_81 : decode cX3_secondHalf 81 = .ok (.aload_n 0, 1) := by decide +kernel
theorem dX3_secondHalf_82 : decode cX3_secondHalf 82 = .ok (.getfield 30, 3) := by decide +kernel
theorem dX3_secondHalf_85 : decode cX3_secondHalf 85 = .ok (.bipush 41, 2) := by decide +kernel
theorem dX3_secondHalf_87 : decode cX3_secondHalf 87 = .ok (.ldc 106, 2) := by decide +kernel
theorem dX3_secondHalf_89 : decode cX3_secondHalf 89 = .ok (.iastore, 1) := by decide +kernel
theorem dX3_secondHalf_90 : decode cX3_secondHalf 90 = .ok (.aload_n 0, 1) := by decide +kernel
theorem dX3_secondHalf_91 : decode cX3_secondHalf 91 = .ok (.getfield 30, 3) := by decide +kernel
theorem dX3_secondHalf_94 : decode cX3_secondHalf 94 = .ok (.bipush 42, 2) := by decide +kernel
theorem dX3_secondHalf_96 : decode cX3_secondHalf 96 = .ok (.ldc 107, 2) := by decide +kernel
theorem dX3_secondHalf_98 : decode cX3_secondHalf 98 = .ok (.iastore, 1) := by decide +kernel
theorem dX3_secondHalf_99 : decode cX3_secondHalf 99 = .ok (.aload_n 0, 1) := by decide +kernel
theorem dX3_secondHalf_100 : decode cX3_secondHalf 100 = .ok (.getfield 30, 3) := by decide +kernel
theorem dX3_secondHalf_103 : decode cX3_secondHalf 103 = .ok (.bipush 43, 2) := by decide +kernel
theorem dX3_secondHalf_105 : decode cX3_secondHalf 105 = .ok (.ldc 108, 2) := by decide +kernel
theorem dX3_secondHalf_107 : decode cX3_secondHalf 107 = .ok (.iastore, 1) := by decide +kernel
theorem dX3_secondHalf_108 : decode cX3_secondHalf 108 = .ok (.aload_n 0, 1) := by decide +kernel
theorem dX3_secondHalf_109 : decode cX3_secondHalf 109 = .ok (.getfield 30, 3) := by decide +kernel
theorem dX3_secondHalf_112 : decode cX3_secondHalf 112 = .ok (.bipush 44, 2) := by decide +kernel
theorem dX3_secondHalf_114 : decode cX3_secondHalf 114 = .ok (.ldc 109, 2) := by decide +kernel
theorem dX3_secondHalf_116 : decode cX3_secondHalf 116 = .ok (.iastore, 1) := by decide +kernel
theorem dX3_secondHalf_117 : decode cX3_secondHalf 117 = .ok (.aload_n 0, 1) := by decide +kernel
theorem dX3_secondHalf_118 : decode cX3_secondHalf 118 = .ok (.getfield 30, 3) := by decide +kernel
theorem dX3_secondHalf_121 : decode cX3_secondHalf 121 = .ok (.bipush 45, 2) := by decide +kernel
theorem dX3_secondHalf_123 : decode cX3_secondHalf 123 = .ok (.ldc 110, 2) := by decide +kernel
theorem dX3_secondHalf_125 : decode cX3_secondHalf 125 = .ok (.iastore, 1) := by decide +kernel
theorem dX3_secondHalf_126 : decode cX3_secondHalf 126 = .ok (.aload_n 0, 1) := by decide +kernel
theorem dX3_secondHalf_127 : decode cX3_secondHalf 127 = .ok (.getfield 30, 3) := by decide +kernel
theorem dX3_secondHalf_130 : decode cX3_secondHalf 130 = .ok (.bipush 46, 2) := by decide +kernel
theorem dX3_secondHalf_132 : decode cX3_secondHalf 132 = .ok (.ldc 111, 2) := by decide +kernel
theorem dX3_secondHalf_134 : decode cX3_secondHalf 134 = .ok (.iastore, 1) := by decide +kernel
theorem dX3_secondHalf_135 : decode cX3_secondHalf 135 = .ok (.aload_n 0, 1) := by decide +kernel
theorem dX3_secondHalf_136 : decode cX3_secondHalf 136 = .ok (.getfield 30, 3) := by decide +kernel
theorem dX3_secondHalf_139 : decode cX3_secondHalf 139 = .ok (.bipush 47, 2) := by decide +kernel
theorem dX3_secondHalf_141 : decode cX3_secondHalf 141 = .ok (.ldc 112, 2) := by decide +kernel
theorem dX3_secondHalf_143 : decode cX3_secondHalf 143 = .ok (.iastore, 1) := by decide +kernel
theorem dX3_secondHalf_144 : decode cX3_secondHalf 144 = .ok (.aload_n 0, 1) := by decide +kernel
theorem dX3_secondHalf_145 : decode cX3_secondHalf 145 = .ok (.getfield 30, 3) := by decide +kernel
theorem dX3_secondHalf_148 : decode cX3_secondHalf 148 = .ok (.bipush 48, 2) := by decide +kernel
theorem dX3_secondHalf_150 : decode cX3_secondHalf 150 = .ok (.ldc 113, 2) := by decide +kernel
theorem dX3_secondHalf_152 : decode cX3_secondHalf 152 = .ok (.iastore, 1) := by decide +kernel
theorem dX3_secondHalf_153 : decode cX3_secondHalf 153 = .ok (.aload_n 0, 1) := by decide +kernel
theorem dX3_secondHalf_154 : decode cX3_secondHalf 154 = .ok (.getfield 30, 3) := by decide +kernel
theorem dX3_secondHalf_157 : decode cX3_secondHalf 157 = .ok (.bipush 49, 2) := by decide +kernel
theorem dX3_secondHalf_159 : decode cX3_secondHalf 159 = .ok (.ldc 114, 2) := by decide +kernel
theorem dX3_secondHalf_161 : decode cX3_secondHalf 161 = .ok (.iastore, 1) := by decide +kernel
theorem dX3_secondHalf_162 : decode cX3_secondHalf 162 = .ok (.aload_n 0, 1) := by decide +kernel
theorem dX3_secondHalf_163 : decode cX3_secondHalf 163 = .ok (.getfield 30, 3) := by decide +kernel
theorem dX3_secondHalf_166 : decode cX3_secondHalf 166 = .ok (.bipush 50, 2) := by decide +kernel
theorem dX3_secondHalf_168 : decode cX3_secondHalf 168 = .ok (.ldc 115, 2) := by decide +kernel
theorem dX3_secondHalf_170 : decode cX3_secondHalf 170 = .ok (.iastore, 1) := by decide +kernel
theorem dX3_secondHalf_171 : decode cX3_secondHalf 171 = .ok (.aload_n 0, 1) := by decide +kernel
theorem dX3_secondHalf_172 : decode cX3_secondHalf 172 = .ok (.getfield 30, 3) := by decide +kernel
theorem dX3_secondHalf_175 : decode cX3_secondHalf 175 = .ok (.bipush 51, 2) := by decide +kernel
theorem dX3_secondHalf_177 : decode cX3_secondHalf 177 = .ok (.ldc 116, 2) := by decide +kernel
theorem dX3_secondHalf_179 : decode cX3_secondHalf 179 = .ok (.iastore, 1) := by decide +kernel
theorem dX3_secondHalf_180 : decode cX3_secondHalf 180 = .ok (.aload_n 0, 1) := by decide +kernel
theorem dX3_secondHalf_181 : decode cX3_secondHalf 181 = .ok (.getfield 30, 3) := by decide +kernel
theorem dX3_secondHalf_184 : decode cX3_secondHalf 184 = .ok (.bipush 52, 2) := by decide +kernel
theorem dX3_secondHalf_186 : decode cX3_secondHalf 186 = .ok (.ldc 117, 2) := by decide +kernel
theorem dX3_secondHalf_188 : decode cX3_secondHalf 188 = .ok (.iastore, 1) := by decide +kernel
theorem dX3_secondHalf_189 : decode cX3_secondHalf 189 = .ok (.aload_n 0, 1) := by decide +kernel
theorem dX3_secondHalf_190 : decode cX3_secondHalf 190 = .ok (.getfield 30, 3) := by decide +kernel
theorem dX3_secondHalf_193 : decode cX3_secondHalf 193 = .ok (.bipush 53, 2) := by decide +kernel
theorem dX3_secondHalf_195 : decode cX3_secondHalf 195 = .ok (.ldc 118, 2) := by decide +kernel
theorem dX3_secondHalf_197 : decode cX3_secondHalf 197 = .ok (.iastore, 1) := by decide +kernel
theorem dX3_secondHalf_198 : decode cX3_secondHalf 198 = .ok (.aload_n 0, 1) := by decide +kernel
theorem dX3_secondHalf_199 : decode cX3_secondHalf 199 = .ok (.getfield 30, 3) := by decide +kernel
theorem dX3_secondHalf_202 : decode cX3_secondHalf 202 = .ok (.bipush 54, 2) := by decide +kernel
theorem dX3_secondHalf_204 : decode cX3_secondHalf 204 = .ok (.ldc 119, 2) := by decide +kernel
theorem dX3_secondHalf_206 : decode cX3_secondHalf 206 = .ok (.iastore, 1) := by decide +kernel
theorem dX3_secondHalf_207 : decode cX3_secondHalf 207 = .ok (.aload_n 0, 1) := by decide +kernel
theorem dX3_secondHalf_208 : decode cX3_secondHalf 208 = .ok (.getfield 30, 3) := by decide +kernel
theorem dX3_secondHalf_211 : decode cX3_secondHalf 211 = .ok (.bipush 55, 2) := by decide +kernel
theorem dX3_secondHalf_213 : decode cX3_secondHalf 213 = .ok (.ldc 120, 2) := by decide +kernel
theorem dX3_secondHalf_215 : decode cX3_secondHalf 215 = .ok (.iastore, 1) := by decide +kernel
theorem dX3_secondHalf_216 : decode cX3_secondHalf 216 = .ok (.aload_n 0, 1) := by decide +kernel
theorem dX3_secondHalf_217 : decode cX3_secondHalf 217 = .ok (.getfield 30, 3) := by decide +kernel
theorem dX3_secondHalf_220 : decode cX3_secondHalf 220 = .ok (.bipush 56, 2) := by decide +kernel
theorem dX3_secondHalf_222 : decode cX3_secondHalf 222 = .ok (.ldc 121, 2) := by decide +kernel
theorem dX3_secondHalf_224 : decode cX3_secondHalf 224 = .ok (.iastore, 1) := by decide +kernel
theorem dX3_secondHalf_225 : decode cX3_secondHalf 225 = .ok (.aload_n 0, 1) := by decide +kernel
theorem dX3_secondHalf_226 : decode cX3_secondHalf 226 = .ok (.getfield 30, 3) := by decide +kernel
theorem dX3_secondHalf_229 : decode cX3_secondHalf 229 = .ok (.bipush 57, 2) := by decide +kernel
theorem dX3_secondHalf_231 : decode cX3_secondHalf 231 = .ok (.ldc 122, 2) := by decide +kernel
theorem dX3_secondHalf_233 : decode cX3_secondHalf 233 = .ok (.iastore, 1) := by decide +kernel
theorem dX3_secondHalf_234 : decode cX3_secondHalf 234 = .ok (.aload_n 0, 1) := by decide +kernel
theorem dX3_secondHalf_235 : decode cX3_secondHalf 235 = .ok (.getfield 30, 3) := by decide +kernel
theorem dX3_secondHalf_238 : decode cX3_secondHalf 238 = .ok (.bipush 58, 2) := by decide +kernel
theorem dX3_secondHalf_240 : decode cX3_secondHalf 240 = .ok (.ldc 123, 2) := by decide +kernel
theorem dX3_secondHalf_242 : decode cX3_secondHalf 242 = .ok (.iastore, 1) := by decide +kernel
theorem dX3_secondHalf_243 : decode cX3_secondHalf 243 = .ok (.aload_n 0, 1) := by decide +kernel
theorem dX3_secondHalf_244 : decode cX3_secondHalf 244 = .ok (.getfield 30, 3) := by decide +kernel
theorem dX3_secondHalf_247 : decode cX3_secondHalf 247 = .ok (.bipush 59, 2) := by decide +kernel
theorem dX3_secondHalf_249 : decode cX3_secondHalf 249 = .ok (.ldc 124, 2) := by decide +kernel
theorem dX3_secondHalf_251 : decode cX3_secondHalf 251 = .ok (.iastore, 1) := by decide +kernel
theorem dX3_secondHalf_252 : decode cX3_secondHalf 252 = .ok (.aload_n 0, 1) := by decide +kernel
theorem dX3_secondHalf_253 : decode cX3_secondHalf 253 = .ok (.getfield 30, 3) := by decide +kernel
theorem dX3_secondHalf_256 : decode cX3_secondHalf 256 = .ok (.bipush 60, 2) := by decide +kernel
theorem dX3_secondHalf_258 : decode cX3_secondHalf 258 = .ok (.ldc 125, 2) := by decide +kernel
theorem dX3_secondHalf_260 : decode cX3_secondHalf 260 = .ok (.iastore, 1) := by decide +kernel
theorem dX3_secondHalf_261 : decode cX3_secondHalf 261 = .ok (.aload_n 0, 1) := by decide +kernel
theorem dX3_secondHalf_262 : decode cX3_secondHalf 262 = .ok (.getfield 30, 3) := by decide +kernel
theorem dX3_secondHalf_265 : decode cX3_secondHalf 265 = .ok (.bipush 61, 2) := by decide +kernel
theorem dX3_secondHalf_267 : decode cX3_secondHalf 267 = .ok (.ldc 126, 2) := by decide +kernel
theorem dX3_secondHalf_269 : decode cX3_secondHalf 269 = .ok (.iastore, 1) := by decide +kernel
theorem dX3_secondHalf_270 : decode cX3_secondHalf 270 = .ok (.aload_n 0, 1) := by decide +kernel
theorem dX3_secondHalf_271 : decode cX3_secondHalf 271 = .ok (.getfield 30, 3) := by decide +kernel
theorem dX3_secondHalf_274 : decode cX3_secondHalf 274 = .ok (.bipush 62, 2) := by decide +kernel
theorem dX3_secondHalf_276 : decode cX3_secondHalf 276 = .ok (.ldc 127, 2) := by decide +kernel
theorem dX3_secondHalf_278 : decode cX3_secondHalf 278 = .ok (.iastore, 1) := by decide +kernel
theorem dX3_secondHalf_279 : decode cX3_secondHalf 279 = .ok (.aload_n 0, 1) := by decide +kernel
theorem dX3_secondHalf_280 : decode cX3_secondHalf 280 = .ok (.getfield 30, 3) := by decide +kernel
theorem dX3_secondHalf_283 : decode cX3_secondHalf 283 = .ok (.bipush 63, 2) := by decide +kernel
theorem dX3_secondHalf_285 : decode cX3_secondHalf 285 = .ok (.ldc 128, 2) := by decide +kernel
theorem dX3_secondHalf_287 : decode cX3_secondHalf 287 = .ok (.iastore, 1) := by decide +kernel
theorem dX3_secondHalf_288 : decode cX3_secondHalf 288 = .ok (.return_, 1) := by decide +kernel
theorem dX3_turned_0 : decode cX3_turned 0 = .ok (.iload_n 0, 1) := by decide +kernel
theorem dX3_turned_1 : decode cX3_turned 1 = .ok (.iload_n 1, 1) := by decide +kernel
theorem dX3_turned_2 : decode cX3_turned 2 = .ok (.iushr, 1) := by decide +kernel
theorem dX3_turned_3 : decode cX3_turned 3 = .ok (.iload_n 0, 1) := by decide +kernel
theorem dX3_turned_4 : decode cX3_turned 4 = .ok (.bipush 32, 2) := by decide +kernel
theorem dX3_turned_6 : decode cX3_turned 6 = .ok (.iload_n 1, 1) := by decide +kernel
theorem dX3_turned_7 : decode cX3_turned 7 = .ok (.isub, 1) := by decide +kernel
theorem dX3_turned_8 : decode cX3_turned 8 = .ok (.ishl, 1) := by decide +kernel
theorem dX3_turned_9 : decode cX3_turned 9 = .ok (.ior, 1) := by decide +kernel
theorem dX3_turned_10 : decode cX3_turned 10 = .ok (.ireturn, 1) := by decide +kernel
set_option maxRecDepth 20000 in
theorem ggX3_mix_X3_turned : GoodIn wsX3_mix wsX3_turned := goodIn_r _ [7] (by decide +kernel) (by decide +kernel)
set_option maxRecDepth 20000 in
theorem gX3_mix_X3_turned : GoodIn wsX3_mix (va_wsS RX3 129 yX3_turned wsX3_turned) := goodIn_app (goodIn_of _ (by decide +kernel)) ggX3_mix_X3_turned
theorem dX3_mix_0 : decode cX3_mix 0 = .ok (.bipush 16, 2) := by decide +kernel
theorem dX3_mix_2 : decode cX3_mix 2 = .ok (.istore_n 1, 1) := by decide +kernel
theorem dX3_mix_3 : decode cX3_mix 3 = .ok (.iload_n 1, 1) := by decide +kernel
theorem dX3_mix_4 : decode cX3_mix 4 = .ok (.bipush 64, 2) := by decide +kernel
theorem dX3_mix_6 : decode cX3_mix 6 = .ok (.if_icmp .ge 90, 3) := by decide +kernel
theorem dX3_mix_9 : decode cX3_mix 9 = .ok (.aload_n 0, 1) := by decide +kernel
theorem dX3_mix_10 : decode cX3_mix 10 = .ok (.getfield 42, 3) := by decide +kernel
theorem dX3_mix_13 : decode cX3_mix 13 = .ok (.iload_n 1, 1) := by decide +kernel
theorem dX3_mix_14 : decode cX3_mix 14 = .ok (.bipush 15, 2) := by decide +kernel
theorem dX3_mix_16 : decode cX3_mix 16 = .ok (.isub, 1) := by decide +kernel
theorem dX3_mix_17 : decode cX3_mix 17 = .ok (.iaload, 1) := by decide +kernel
theorem dX3_mix_18 : decode cX3_mix 18 = .ok (.istore_n 2, 1) := by decide +kernel
theorem dX3_mix_19 : decode cX3_mix 19 = .ok (.aload_n 0, 1) := by decide +kernel
theorem dX3_mix_20 : decode cX3_mix 20 = .ok (.getfield 42, 3) := by decide +kernel
theorem dX3_mix_23 : decode cX3_mix 23 = .ok (.iload_n 1, 1) := by decide +kernel
theorem dX3_mix_24 : decode cX3_mix 24 = .ok (.iconst 2, 1) := by decide +kernel
theorem dX3_mix_25 : decode cX3_mix 25 = .ok (.isub, 1) := by decide +kernel
theorem dX3_mix_26 : decode cX3_mix 26 = .ok (.iaload, 1) := by decide +kernel
theorem dX3_mix_27 : decode cX3_mix 27 = .ok (.istore_n 3, 1) := by decide +kernel
theorem dX3_mix_28 : decode cX3_mix 28 = .ok (.aload_n 0, 1) := by decide +kernel
theorem dX3_mix_29 : decode cX3_mix 29 = .ok (.getfield 42, 3) := by decide +kernel
theorem dX3_mix_32 : decode cX3_mix 32 = .ok (.iload_n 1, 1) := by decide +kernel
theorem dX3_mix_33 : decode cX3_mix 33 = .ok (.aload_n 0, 1) := by decide +kernel
theorem dX3_mix_34 : decode cX3_mix 34 = .ok (.getfield 42, 3) := by decide +kernel
theorem dX3_mix_37 : decode cX3_mix 37 = .ok (.iload_n 1, 1) := by decide +kernel
theorem dX3_mix_38 : decode cX3_mix 38 = .ok (.bipush 16, 2) := by decide +kernel
theorem dX3_mix_40 : decode cX3_mix 40 = .ok (.isub, 1) := by decide +kernel
theorem dX3_mix_41 : decode cX3_mix 41 = .ok (.iaload, 1) := by decide +kernel
theorem dX3_mix_42 : decode cX3_mix 42 = .ok (.iload_n 2, 1) := by decide +kernel
theorem dX3_mix_43 : decode cX3_mix 43 = .ok (.bipush 7, 2) := by decide +kernel
theorem dX3_mix_45 : decode cX3_mix 45 = .ok (.invokestatic 129, 3) := by decide +kernel
theorem dX3_mix_48 : decode cX3_mix 48 = .ok (.iload_n 2, 1) := by decide +kernel
theorem dX3_mix_49 : decode cX3_mix 49 = .ok (.bipush 18, 2) := by decide +kernel
theorem dX3_mix_51 : decode cX3_mix 51 = .ok (.invokestatic 129, 3) := by decide +kernel
theorem dX3_mix_54 : decode cX3_mix 54 = .ok (.ixor, 1) := by decide +kernel
theorem dX3_mix_55 : decode cX3_mix 55 = .ok (.iload_n 2, 1) := by decide +kernel
theorem dX3_mix_56 : decode cX3_mix 56 = .ok (.iconst 3, 1) := by decide +kernel
theorem dX3_mix_57 : decode cX3_mix 57 = .ok (.iushr, 1) := by decide +kernel
theorem dX3_mix_58 : decode cX3_mix 58 = .ok (.ixor, 1) := by decide +kernel
theorem dX3_mix_59 : decode cX3_mix 59 = .ok (.iadd, 1) := by decide +kernel
theorem dX3_mix_60 : decode cX3_mix 60 = .ok (.aload_n 0, 1) := by decide +kernel
theorem dX3_mix_61 : decode cX3_mix 61 = .ok (.getfield 42, 3) := by decide +kernel
theorem dX3_mix_64 : decode cX3_mix 64 = .ok (.iload_n 1, 1) := by decide +kernel
theorem dX3_mix_65 : decode cX3_mix 65 = .ok (.bipush 7, 2) := by decide +kernel
theorem dX3_mix_67 : decode cX3_mix 67 = .ok (.isub, 1) := by decide +kernel
theorem dX3_mix_68 : decode cX3_mix 68 = .ok (.iaload, 1) := by decide +kernel
theorem dX3_mix_69 : decode cX3_mix 69 = .ok (.iadd, 1) := by decide +kernel
theorem dX3_mix_70 : decode cX3_mix 70 = .ok (.iload_n 3, 1) := by decide +kernel
theorem dX3_mix_71 : decode cX3_mix 71 = .ok (.bipush 17, 2) := by decide +kernel
theorem dX3_mix_73 : decode cX3_mix 73 = .ok (.invokestatic 129, 3) := by decide +kernel
theorem dX3_mix_76 : decode cX3_mix 76 = .ok (.iload_n 3, 1) := by decide +kernel
theorem dX3_mix_77 : decode cX3_mix 77 = .ok (.bipush 19, 2) := by decide +kernel
theorem dX3_mix_79 : decode cX3_mix 79 = .ok (.invokestatic 129, 3) := by decide +kernel
theorem dX3_mix_82 : decode cX3_mix 82 = .ok (.ixor, 1) := by decide +kernel
theorem dX3_mix_83 : decode cX3_mix 83 = .ok (.iload_n 3, 1) := by decide +kernel
theorem dX3_mix_84 : decode cX3_mix 84 = .ok (.bipush 10, 2) := by decide +kernel
theorem dX3_mix_86 : decode cX3_mix 86 = .ok (.iushr, 1) := by decide +kernel
theorem dX3_mix_87 : decode cX3_mix 87 = .ok (.ixor, 1) := by decide +kernel
theorem dX3_mix_88 : decode cX3_mix 88 = .ok (.iadd, 1) := by decide +kernel
theorem dX3_mix_89 : decode cX3_mix 89 = .ok (.iastore, 1) := by decide +kernel
theorem dX3_mix_90 : decode cX3_mix 90 = .ok (.iinc 1 1, 3) := by decide +kernel
theorem dX3_mix_93 : decode cX3_mix 93 = .ok (.goto (-90), 3) := by decide +kernel
theorem dX3_mix_96 : decode cX3_mix 96 = .ok (.aload_n 0, 1) := by decide +kernel
theorem dX3_mix_97 : decode cX3_mix 97 = .ok (.getfield 36, 3) := by decide +kernel
theorem dX3_mix_100 : decode cX3_mix 100 = .ok (.iconst 0, 1) := by decide +kernel
theorem dX3_mix_101 : decode cX3_mix 101 = .ok (.iaload, 1) := by decide +kernel
theorem dX3_mix_102 : decode cX3_mix 102 = .ok (.istore_n 1, 1) := by decide +kernel
theorem dX3_mix_103 : decode cX3_mix 103 = .ok (.aload_n 0, 1) := by decide +kernel
theorem dX3_mix_104 : decode cX3_mix 104 = .ok (.getfield 36, 3) := by decide +kernel
theorem dX3_mix_107 : decode cX3_mix 107 = .ok (.iconst 1, 1) := by decide +kernel
theorem dX3_mix_108 : decode cX3_mix 108 = .ok (.iaload, 1) := by decide +kernel
theorem dX3_mix_109 : decode cX3_mix 109 = .ok (.istore_n 2, 1) := by decide +kernel
theorem dX3_mix_110 : decode cX3_mix 110 = .ok (.aload_n 0, 1) := by decide +kernel
theorem dX3_mix_111 : decode cX3_mix 111 = .ok (.getfield 36, 3) := by decide +kernel
theorem dX3_mix_114 : decode cX3_mix 114 = .ok (.iconst 2, 1) := by decide +kernel
theorem dX3_mix_115 : decode cX3_mix 115 = .ok (.iaload, 1) := by decide +kernel
theorem dX3_mix_116 : decode cX3_mix 116 = .ok (.istore_n 3, 1) := by decide +kernel
theorem dX3_mix_117 : decode cX3_mix 117 = .ok (.aload_n 0, 1) := by decide +kernel
theorem dX3_mix_118 : decode cX3_mix 118 = .ok (.getfield 36, 3) := by decide +kernel
theorem dX3_mix_121 : decode cX3_mix 121 = .ok (.iconst 3, 1) := by decide +kernel
theorem dX3_mix_122 : decode cX3_mix 122 = .ok (.iaload, 1) := by decide +kernel
theorem dX3_mix_123 : decode cX3_mix 123 = .ok (.istore 4, 2) := by decide +kernel
theorem dX3_mix_125 : decode cX3_mix 125 = .ok (.aload_n 0, 1) := by decide +kernel
theorem dX3_mix_126 : decode cX3_mix 126 = .ok (.getfield 36, 3) := by decide +kernel
theorem dX3_mix_129 : decode cX3_mix 129 = .ok (.iconst 4, 1) := by decide +kernel
theorem dX3_mix_130 : decode cX3_mix 130 = .ok (.iaload, 1) := by decide +kernel
theorem dX3_mix_131 : decode cX3_mix 131 = .ok (.istore 5, 2) := by decide +kernel
theorem dX3_mix_133 : decode cX3_mix 133 = .ok (.aload_n 0, 1) := by decide +kernel
theorem dX3_mix_134 : decode cX3_mix 134 = .ok (.getfield 36, 3) := by decide +kernel
theorem dX3_mix_137 : decode cX3_mix 137 = .ok (.iconst 5, 1) := by decide +kernel
theorem dX3_mix_138 : decode cX3_mix 138 = .ok (.iaload, 1) := by decide +kernel
theorem dX3_mix_139 : decode cX3_mix 139 = .ok (.istore 6, 2) := by decide +kernel
theorem dX3_mix_141 : decode cX3_mix 141 = .ok (.aload_n 0, 1) := by decide +kernel
theorem dX3_mix_142 : decode cX3_mix 142 = .ok (.getfield 36, 3) := by decide +kernel
theorem dX3_mix_145 : decode cX3_mix 145 = .ok (.bipush 6, 2) := by decide +kernel
theorem dX3_mix_147 : decode cX3_mix 147 = .ok (.iaload, 1) := by decide +kernel
theorem dX3_mix_148 : decode cX3_mix 148 = .ok (.istore 7, 2) := by decide +kernel
theorem dX3_mix_150 : decode cX3_mix 150 = .ok (.aload_n 0, 1) := by decide +kernel
theorem dX3_mix_151 : decode cX3_mix 151 = .ok (.getfield 36, 3) := by decide +kernel
theorem dX3_mix_154 : decode cX3_mix 154 = .ok (.bipush 7, 2) := by decide +kernel
theorem dX3_mix_156 : decode cX3_mix 156 = .ok (.iaload, 1) := by decide +kernel
theorem dX3_mix_157 : decode cX3_mix 157 = .ok (.istore 8, 2) := by decide +kernel
theorem dX3_mix_159 : decode cX3_mix 159 = .ok (.iconst 0, 1) := by decide +kernel
theorem dX3_mix_160 : decode cX3_mix 160 = .ok (.istore 9, 2) := by decide +kernel
theorem dX3_mix_162 : decode cX3_mix 162 = .ok (.iload 9, 2) := by decide +kernel
theorem dX3_mix_164 : decode cX3_mix 164 = .ok (.bipush 64, 2) := by decide +kernel
theorem dX3_mix_166 : decode cX3_mix 166 = .ok (.if_icmp .ge 132, 3) := by decide +kernel
theorem dX3_mix_169 : decode cX3_mix 169 = .ok (.iload 8, 2) := by decide +kernel
theorem dX3_mix_171 : decode cX3_mix 171 = .ok (.iload 5, 2) := by decide +kernel
theorem dX3_mix_173 : decode cX3_mix 173 = .ok (.bipush 6, 2) := by decide +kernel
theorem dX3_mix_175 : decode cX3_mix 175 = .ok (.invokestatic 129, 3) := by decide +kernel
theorem dX3_mix_178 : decode cX3_mix 178 = .ok (.iload 5, 2) := by decide +kernel
theorem dX3_mix_180 : decode cX3_mix 180 = .ok (.bipush 11, 2) := by decide +kernel
theorem dX3_mix_182 : decode cX3_mix 182 = .ok (.invokestatic 129, 3) := by decide +kernel
theorem dX3_mix_185 : decode cX3_mix 185 = .ok (.ixor, 1) := by decide +kernel
theorem dX3_mix_186 : decode cX3_mix 186 = .ok (.iload 5, 2) := by decide +kernel
theorem dX3_mix_188 : decode cX3_mix 188 = .ok (.bipush 25, 2) := by decide +kernel
theorem dX3_mix_190 : decode cX3_mix 190 = .ok (.invokestatic 129, 3) := by decide +kernel
theorem dX3_mix_193 : decode cX3_mix 193 = .ok (.ixor, 1) := by decide +kernel
theorem dX3_mix_194 : decode cX3_mix 194 = .ok (.iadd, 1) := by decide +kernel
theorem dX3_mix_195 : decode cX3_mix 195 = .ok (.iload 5, 2) := by decide +kernel
theorem dX3_mix_197 : decode cX3_mix 197 = .ok (.iload 6, 2) := by decide +kernel
theorem dX3_mix_199 : decode cX3_mix 199 = .ok (.iand, 1) := by decide +kernel
theorem dX3_mix_200 : decode cX3_mix 200 = .ok (.iload 5, 2) := by decide +kernel
theorem dX3_mix_202 : decode cX3_mix 202 = .ok (.iconst (-1), 1) := by decide +kernel
theorem dX3_mix_203 : decode cX3_mix 203 = .ok (.ixor, 1) := by decide +kernel
theorem dX3_mix_204 : decode cX3_mix 204 = .ok (.iload 7, 2) := by decide +kernel
theorem dX3_mix_206 : decode cX3_mix 206 = .ok (.iand, 1) := by decide +kernel
theorem dX3_mix_207 : decode cX3_mix 207 = .ok (.ixor, 1) := by decide +kernel
theorem dX3_mix_208 : decode cX3_mix 208 = .ok (.iadd, 1) := by decide +kernel
theorem dX3_mix_209 : decode cX3_mix 209 = .ok (.aload_n 0, 1) := by decide +kernel
theorem dX3_mix_210 : decode cX3_mix 210 = .ok (.getfield 30, 3) := by decide +kernel
theorem dX3_mix_213 : decode cX3_mix 213 = .ok (.iload 9, 2) := by decide +kernel
theorem dX3_mix_215 : decode cX3_mix 215 = .ok (.iaload, 1) := by decide +kernel
theorem dX3_mix_216 : decode cX3_mix 216 = .ok (.iadd, 1) := by decide +kernel
theorem dX3_mix_217 : decode cX3_mix 217 = .ok (.aload_n 0, 1) := by decide +kernel
theorem dX3_mix_218 : decode cX3_mix 218 = .ok (.getfield 42, 3) := by decide +kernel
theorem dX3_mix_221 : decode cX3_mix 221 = .ok (.iload 9, 2) := by decide +kernel
theorem dX3_mix_223 : decode cX3_mix 223 = .ok (.iaload, 1) := by decide +kernel
theorem dX3_mix_224 : decode cX3_mix 224 = .ok (.iadd, 1) := by decide +kernel
theorem dX3_mix_225 : decode cX3_mix 225 = .ok (.istore 10, 2) := by decide +kernel
theorem dX3_mix_227 : decode cX3_mix 227 = .ok (.iload_n 1, 1) := by decide +kernel
theorem dX3_mix_228 : decode cX3_mix 228 = .ok (.iconst 2, 1) := by decide +kernel
theorem dX3_mix_229 : decode cX3_mix 229 = .ok (.invokestatic 129, 3) := by decide +kernel
theorem dX3_mix_232 : decode cX3_mix 232 = .ok (.iload_n 1, 1) := by decide +kernel
theorem dX3_mix_233 : decode cX3_mix 233 = .ok (.bipush 13, 2) := by decide +kernel
theorem dX3_mix_235 : decode cX3_mix 235 = .ok (.invokestatic 129, 3) := by decide +kernel
theorem dX3_mix_238 : decode cX3_mix 238 = .ok (.ixor, 1) := by decide +kernel
theorem dX3_mix_239 : decode cX3_mix 239 = .ok (.iload_n 1, 1) := by decide +kernel
theorem dX3_mix_240 : decode cX3_mix 240 = .ok (.bipush 22, 2) := by decide +kernel
theorem dX3_mix_242 : decode cX3_mix 242 = .ok (.invokestatic 129, 3) := by decide +kernel
theorem dX3_mix_245 : decode cX3_mix 245 = .ok (.ixor, 1) := by decide +kernel
theorem dX3_mix_246 : decode cX3_mix 246 = .ok (.iload_n 1, 1) := by decide +kernel
theorem dX3_mix_247 : decode cX3_mix 247 = .ok (.iload_n 2, 1) := by decide +kernel
theorem dX3_mix_248 : decode cX3_mix 248 = .ok (.iand, 1) := by decide +kernel
theorem dX3_mix_249 : decode cX3_mix 249 = .ok (.iload_n 1, 1) := by decide +kernel
theorem dX3_mix_250 : decode cX3_mix 250 = .ok (.iload_n 3, 1) := by decide +kernel
theorem dX3_mix_251 : decode cX3_mix 251 = .ok (.iand, 1) := by decide +kernel
theorem dX3_mix_252 : decode cX3_mix 252 = .ok (.ixor, 1) := by decide +kernel
theorem dX3_mix_253 : decode cX3_mix 253 = .ok (.iload_n 2, 1) := by decide +kernel
theorem dX3_mix_254 : decode cX3_mix 254 = .ok (.iload_n 3, 1) := by decide +kernel
theorem dX3_mix_255 : decode cX3_mix 255 = .ok (.iand, 1) := by decide +kernel
theorem dX3_mix_256 : decode cX3_mix 256 = .ok (.ixor, 1) := by decide +kernel
theorem dX3_mix_257 : decode cX3_mix 257 = .ok (.iadd, 1) := by decide +kernel
theorem dX3_mix_258 : decode cX3_mix 258 = .ok (.istore 11, 2) := by decide +kernel
theorem dX3_mix_260 : decode cX3_mix 260 = .ok (.iload 7, 2) := by decide +kernel
theorem dX3_mix_262 : decode cX3_mix 262 = .ok (.istore 8, 2) := by decide +kernel
theorem dX3_mix_264 : decode cX3_mix 264 = .ok (.iload 6, 2) := by decide +kernel
theorem dX3_mix_266 : decode cX3_mix 266 = .ok (.istore 7, 2) := by decide +kernel
theorem dX3_mix_268 : decode cX3_mix 268 = .ok (.iload 5, 2) := by decide +kernel
theorem dX3_mix_270 : decode cX3_mix 270 = .ok (.istore 6, 2) := by decide +kernel
theorem dX3_mix_272 : decode cX3_mix 272 = .ok (.iload 4, 2) := by decide +kernel
theorem dX3_mix_274 : decode cX3_mix 274 = .ok (.iload 10, 2) := by decide +kernel
theorem dX3_mix_276 : decode cX3_mix 276 = .ok (.iadd, 1) := by decide +kernel
theorem dX3_mix_277 : decode cX3_mix 277 = .ok (.istore 5, 2) := by decide +kernel
theorem dX3_mix_279 : decode cX3_mix 279 = .ok (.iload_n 3, 1) := by decide +kernel
theorem dX3_mix_280 : decode cX3_mix 280 = .ok (.istore 4, 2) := by decide +kernel
theorem dX3_mix_282 : decode cX3_mix 282 = .ok (.iload_n 2, 1) := by decide +kernel
theorem dX3_mix_283 : decode cX3_mix 283 = .ok (.istore_n 3, 1) := by decide +kernel
theorem dX3_mix_284 : decode cX3_mix 284 = .ok (.iload_n 1, 1) := by decide +kernel
theorem dX3_mix_285 : decode cX3_mix 285 = .ok (.istore_n 2, 1) := by decide +kernel
theorem dX3_mix_286 : decode cX3_mix 286 = .ok (.iload 10, 2) := by decide +kernel
theorem dX3_mix_288 : decode cX3_mix 288 = .ok (.iload 11, 2) := by decide +kernel
theorem dX3_mix_290 : decode cX3_mix 290 = .ok (.iadd, 1) := by decide +kernel
theorem dX3_mix_291 : decode cX3_mix 291 = .ok (.istore_n 1, 1) := by decide +kernel
theorem dX3_mix_292 : decode cX3_mix 292 = .ok (.iinc 9 1, 3) := by decide +kernel
theorem dX3_mix_295 : decode cX3_mix 295 = .ok (.goto (-133), 3) := by decide +kernel
theorem dX3_mix_298 : decode cX3_mix 298 = .ok (.aload_n 0, 1) := by decide +kernel
theorem dX3_mix_299 : decode cX3_mix 299 = .ok (.getfield 36, 3) := by decide +kernel
theorem dX3_mix_302 : decode cX3_mix 302 = .ok (.iconst 0, 1) := by decide +kernel
theorem dX3_mix_303 : decode cX3_mix 303 = .ok (.dup2, 1) := by decide +kernel
theorem dX3_mix_304 : decode cX3_mix 304 = .ok (.iaload, 1) := by decide +kernel
theorem dX3_mix_305 : decode cX3_mix 305 = .ok (.iload_n 1, 1) := by decide +kernel
theorem dX3_mix_306 : decode cX3_mix 306 = .ok (.iadd, 1) := by decide +kernel
theorem dX3_mix_307 : decode cX3_mix 307 = .ok (.iastore, 1) := by decide +kernel
theorem dX3_mix_308 : decode cX3_mix 308 = .ok (.aload_n 0, 1) := by decide +kernel
theorem dX3_mix_309 : decode cX3_mix 309 = .ok (.getfield 36, 3) := by decide +kernel
theorem dX3_mix_312 : decode cX3_mix 312 = .ok (.iconst 1, 1) := by decide +kernel
theorem dX3_mix_313 : decode cX3_mix 313 = .ok (.dup2, 1) := by decide +kernel
theorem dX3_mix_314 : decode cX3_mix 314 = .ok (.iaload, 1) := by decide +kernel
theorem dX3_mix_315 : decode cX3_mix 315 = .ok (.iload_n 2, 1) := by decide +kernel
theorem dX3_mix_316 : decode cX3_mix 316 = .ok (.iadd, 1) := by decide +kernel
theorem dX3_mix_317 : decode cX3_mix 317 = .ok (.iastore, 1) := by decide +kernel
theorem dX3_mix_318 : decode cX3_mix 318 = .ok (.aload_n 0, 1) := by decide +kernel
theorem dX3_mix_319 : decode cX3_mix 319 = .ok (.getfield 36, 3) := by decide +kernel
theorem dX3_mix_322 : decode cX3_mix 322 = .ok (.iconst 2, 1) := by decide +kernel
theorem dX3_mix_323 : decode cX3_mix 323 = .ok (.dup2, 1) := by decide +kernel
theorem dX3_mix_324 : decode cX3_mix 324 = .ok (.iaload, 1) := by decide +kernel
theorem dX3_mix_325 : decode cX3_mix 325 = .ok (.iload_n 3, 1) := by decide +kernel
theorem dX3_mix_326 : decode cX3_mix 326 = .ok (.iadd, 1) := by decide +kernel
theorem dX3_mix_327 : decode cX3_mix 327 = .ok (.iastore, 1) := by decide +kernel
theorem dX3_mix_328 : decode cX3_mix 328 = .ok (.aload_n 0, 1) := by decide +kernel
theorem dX3_mix_329 : decode cX3_mix 329 = .ok (.getfield 36, 3) := by decide +kernel
theorem dX3_mix_332 : decode cX3_mix 332 = .ok (.iconst 3, 1) := by decide +kernel
theorem dX3_mix_333 : decode cX3_mix 333 = .ok (.dup2, 1) := by decide +kernel
theorem dX3_mix_334 : decode cX3_mix 334 = .ok (.iaload, 1) := by decide +kernel
theorem dX3_mix_335 : decode cX3_mix 335 = .ok (.iload 4, 2) := by decide +kernel
theorem dX3_mix_337 : decode cX3_mix 337 = .ok (.iadd, 1) := by decide +kernel
theorem dX3_mix_338 : decode cX3_mix 338 = .ok (.iastore, 1) := by decide +kernel
theorem dX3_mix_339 : decode cX3_mix 339 = .ok (.aload_n 0, 1) := by decide +kernel
theorem dX3_mix_340 : decode cX3_mix 340 = .ok (.getfield 36, 3) := by decide +kernel
theorem dX3_mix_343 : decode cX3_mix 343 = .ok (.iconst 4, 1) := by decide +kernel
theorem dX3_mix_344 : decode cX3_mix 344 = .ok (.dup2, 1) := by decide +kernel
theorem dX3_mix_345 : decode cX3_mix 345 = .ok (.iaload, 1) := by decide +kernel
theorem dX3_mix_346 : decode cX3_mix 346 = .ok (.iload 5, 2) := by decide +kernel
theorem dX3_mix_348 : decode cX3_mix 348 = .ok (.iadd, 1) := by decide +kernel
theorem dX3_mix_349 : decode cX3_mix 349 = .ok (.iastore, 1) := by decide +kernel
theorem dX3_mix_350 : decode cX3_mix 350 = .ok (.aload_n 0, 1) := by decide +kernel
theorem dX3_mix_351 : decode cX3_mix 351 = .ok (.getfield 36, 3) := by decide +kernel
theorem dX3_mix_354 : decode cX3_mix 354 = .ok (.iconst 5, 1) := by decide +kernel
theorem dX3_mix_355 : decode cX3_mix 355 = .ok (.dup2, 1) := by decide +kernel
theorem dX3_mix_356 : decode cX3_mix 356 = .ok (.iaload, 1) := by decide +kernel
theorem dX3_mix_357 : decode cX3_mix 357 = .ok (.iload 6, 2) := by decide +kernel
theorem dX3_mix_359 : decode cX3_mix 359 = .ok (.iadd, 1) := by decide +kernel
theorem dX3_mix_360 : decode cX3_mix 360 = .ok (.iastore, 1) := by decide +kernel
theorem dX3_mix_361 : decode cX3_mix 361 = .ok (.aload_n 0, 1) := by decide +kernel
theorem dX3_mix_362 : decode cX3_mix 362 = .ok (.getfield 36, 3) := by decide +kernel
theorem dX3_mix_365 : decode cX3_mix 365 = .ok (.bipush 6, 2) := by decide +kernel
theorem dX3_mix_367 : decode cX3_mix 367 = .ok (.dup2, 1) := by decide +kernel
theorem dX3_mix_368 : decode cX3_mix 368 = .ok (.iaload, 1) := by decide +kernel
theorem dX3_mix_369 : decode cX3_mix 369 = .ok (.iload 7, 2) := by decide +kernel
theorem dX3_mix_371 : decode cX3_mix 371 = .ok (.iadd, 1) := by decide +kernel
theorem dX3_mix_372 : decode cX3_mix 372 = .ok (.iastore, 1) := by decide +kernel
theorem dX3_mix_373 : decode cX3_mix 373 = .ok (.aload_n 0, 1) := by decide +kernel
theorem dX3_mix_374 : decode cX3_mix 374 = .ok (.getfield 36, 3) := by decide +kernel
theorem dX3_mix_377 : decode cX3_mix 377 = .ok (.bipush 7, 2) := by decide +kernel
theorem dX3_mix_379 : decode cX3_mix 379 = .ok (.dup2, 1) := by decide +kernel
theorem dX3_mix_380 : decode cX3_mix 380 = .ok (.iaload, 1) := by decide +kernel
theorem dX3_mix_381 : decode cX3_mix 381 = .ok (.iload 8, 2) := by decide +kernel
theorem dX3_mix_383 : decode cX3_mix 383 = .ok (.iadd, 1) := by decide +kernel
theorem dX3_mix_384 : decode cX3_mix 384 = .ok (.iastore, 1) := by decide +kernel
theorem dX3_mix_385 : decode cX3_mix 385 = .ok (.return_, 1) := by decide +kernel
set_option maxRecDepth 20000 in
theorem ggX3_mixFirst_X3_mix : GoodIn wsX3_mixFirst wsX3_mix := goodIn_r _ [10, 3, 1, 11, 12, 13, 9, 14, 15, 16, 17, 18, 19, 20, 21, 22, 23, 24, 25, 26, 27, 28, 29, 30, 31, 32, 33] (by decide +kernel) (by decide +kernel)
set_option maxRecDepth 20000 in
theorem gX3_mixFirst_X3_mix : GoodIn wsX3_mixFirst (wsV RX3 133 RX3 yX3_mix wsX3_mix) := goodIn_app (goodIn_of _ (by decide +kernel)) ggX3_mixFirst_X3_mix
theorem dX3_mixFirst_0 : decode cX3_mixFirst 0 = .ok (.iconst 0, 1) := by decide +kernel
theorem dX3_mixFirst_1 : decode cX3_mixFirst 1 = .ok (.istore_n 1, 1) := by decide +kernel
theorem dX3_mixFirst_2 : decode cX3_mixFirst 2 = .ok (.iload_n 1, 1) := by decide +kernel
theorem dX3_mixFirst_3 : decode cX3_mixFirst 3 = .ok (.bipush 8, 2) := by decide +kernel
theorem dX3_mixFirst_5 : decode cX3_mixFirst 5 = .ok (.if_icmp .ge 21, 3) := by decide +kernel
theorem dX3_mixFirst_8 : decode cX3_mixFirst 8 = .ok (.aload_n 0, 1) := by decide +kernel
theorem dX3_mixFirst_9 : decode cX3_mixFirst 9 = .ok (.getfield 36, 3) := by decide +kernel
theorem dX3_mixFirst_12 : decode cX3_mixFirst 12 = .ok (.iload_n 1, 1) := by decide +kernel
theorem dX3_mixFirst_13 : decode cX3_mixFirst 13 = .ok (.aload_n 0, 1) := by decide +kernel
theorem dX3_mixFirst_14 : decode cX3_mixFirst 14 = .ok (.getfield 33, 3) := by decide +kernel
theorem dX3_mixFirst_17 : decode cX3_mixFirst 17 = .ok (.iload_n 1, 1) := by decide +kernel
theorem dX3_mixFirst_18 : decode cX3_mixFirst 18 = .ok (.iaload, 1) := by decide +kernel
theorem dX3_mixFirst_19 : decode cX3_mixFirst 19 = .ok (.iastore, 1) := by decide +kernel
theorem dX3_mixFirst_20 : decode cX3_mixFirst 20 = .ok (.iinc 1 1, 3) := by decide +kernel
theorem dX3_mixFirst_23 : decode cX3_mixFirst 23 = .ok (.goto (-21), 3) := by decide +kernel
theorem dX3_mixFirst_26 : decode cX3_mixFirst 26 = .ok (.iconst 0, 1) := by decide +kernel
theorem dX3_mixFirst_27 : decode cX3_mixFirst 27 = .ok (.istore_n 1, 1) := by decide +kernel
theorem dX3_mixFirst_28 : decode cX3_mixFirst 28 = .ok (.iload_n 1, 1) := by decide +kernel
theorem dX3_mixFirst_29 : decode cX3_mixFirst 29 = .ok (.bipush 16, 2) := by decide +kernel
theorem dX3_mixFirst_31 : decode cX3_mixFirst 31 = .ok (.if_icmp .ge 21, 3) := by decide +kernel
theorem dX3_mixFirst_34 : decode cX3_mixFirst 34 = .ok (.aload_n 0, 1) := by decide +kernel
theorem dX3_mixFirst_35 : decode cX3_mixFirst 35 = .ok (.getfield 42, 3) := by decide +kernel
theorem dX3_mixFirst_38 : decode cX3_mixFirst 38 = .ok (.iload_n 1, 1) := by decide +kernel
theorem dX3_mixFirst_39 : decode cX3_mixFirst 39 = .ok (.aload_n 0, 1) := by decide +kernel
theorem dX3_mixFirst_40 : decode cX3_mixFirst 40 = .ok (.getfield 45, 3) := by decide +kernel
theorem dX3_mixFirst_43 : decode cX3_mixFirst 43 = .ok (.iload_n 1, 1) := by decide +kernel
theorem dX3_mixFirst_44 : decode cX3_mixFirst 44 = .ok (.iaload, 1) := by decide +kernel
theorem dX3_mixFirst_45 : decode cX3_mixFirst 45 = .ok (.iastore, 1) := by decide +kernel
theorem dX3_mixFirst_46 : decode cX3_mixFirst 46 = .ok (.iinc 1 1, 3) := by decide +kernel
theorem dX3_mixFirst_49 : decode cX3_mixFirst 49 = .ok (.goto (-21), 3) := by decide +kernel
theorem dX3_mixFirst_52 : decode cX3_mixFirst 52 = .ok (.aload_n 0, 1) := by decide +kernel
theorem dX3_mixFirst_53 : decode cX3_mixFirst 53 = .ok (.invokevirtual 133, 3) := by decide +kernel
theorem dX3_mixFirst_56 : decode cX3_mixFirst 56 = .ok (.iconst 0, 1) := by decide +kernel
theorem dX3_mixFirst_57 : decode cX3_mixFirst 57 = .ok (.istore_n 1, 1) := by decide +kernel
theorem dX3_mixFirst_58 : decode cX3_mixFirst 58 = .ok (.iload_n 1, 1) := by decide +kernel
theorem dX3_mixFirst_59 : decode cX3_mixFirst 59 = .ok (.bipush 8, 2) := by decide +kernel
theorem dX3_mixFirst_61 : decode cX3_mixFirst 61 = .ok (.if_icmp .ge 21, 3) := by decide +kernel
theorem dX3_mixFirst_64 : decode cX3_mixFirst 64 = .ok (.aload_n 0, 1) := by decide +kernel
theorem dX3_mixFirst_65 : decode cX3_mixFirst 65 = .ok (.getfield 39, 3) := by decide +kernel
theorem dX3_mixFirst_68 : decode cX3_mixFirst 68 = .ok (.iload_n 1, 1) := by decide +kernel
theorem dX3_mixFirst_69 : decode cX3_mixFirst 69 = .ok (.aload_n 0, 1) := by decide +kernel
theorem dX3_mixFirst_70 : decode cX3_mixFirst 70 = .ok (.getfield 36, 3) := by decide +kernel
theorem dX3_mixFirst_73 : decode cX3_mixFirst 73 = .ok (.iload_n 1, 1) := by decide +kernel
theorem dX3_mixFirst_74 : decode cX3_mixFirst 74 = .ok (.iaload, 1) := by decide +kernel
theorem dX3_mixFirst_75 : decode cX3_mixFirst 75 = .ok (.iastore, 1) := by decide +kernel
theorem dX3_mixFirst_76 : decode cX3_mixFirst 76 = .ok (.iinc 1 1, 3) := by decide +kernel
theorem dX3_mixFirst_79 : decode cX3_mixFirst 79 = .ok (.goto (-21), 3) := by decide +kernel
theorem dX3_mixFirst_82 : decode cX3_mixFirst 82 = .ok (.return_, 1) := by decide +kernel
set_option maxRecDepth 20000 in
theorem ggX3_mixSecond_X3_mix : GoodIn wsX3_mixSecond wsX3_mix := goodIn_r _ [10, 3, 1, 11, 12, 13, 9, 14, 15, 16, 17, 18, 19, 20, 21, 22, 23, 24, 25, 26, 27, 28, 29, 30, 31, 32, 33] (by decide +kernel) (by decide +kernel)
set_option maxRecDepth 20000 in
theorem gX3_mixSecond_X3_mix : GoodIn wsX3_mixSecond (wsV RX3 133 RX3 yX3_mix wsX3_mix) := goodIn_app (goodIn_of _ (by decide +kernel)) ggX3_mixSecond_X3_mix
theorem dX3_mixSecond_0 : decode cX3_mixSecond 0 = .ok (.iconst 0, 1) := by decide +kernel
theorem dX3_mixSecond_1 : decode cX3_mixSecond 1 = .ok (.istore_n 1, 1) := by decide +kernel
theorem dX3_mixSecond_2 : decode cX3_mixSecond 2 = .ok (.iload_n 1, 1) := by decide +kernel
theorem dX3_mixSecond_3 : decode cX3_mixSecond 3 = .ok (.bipush 8, 2) := by decide +kernel
theorem dX3_mixSecond_5 : decode cX3_mixSecond 5 = .ok (.if_icmp .ge 21, 3) := by decide +kernel
theorem dX3_mixSecond_8 : decode cX3_mixSecond 8 = .ok (.aload_n 0, 1) := by decide +kernel
theorem dX3_mixSecond_9 : decode cX3_mixSecond 9 = .ok (.getfield 36, 3) := by decide +kernel
theorem dX3_mixSecond_12 : decode cX3_mixSecond 12 = .ok (.iload_n 1, 1) := by decide +kernel
theorem dX3_mixSecond_13 : decode cX3_mixSecond 13 = .ok (.aload_n 0, 1) := by decide +kernel
theorem dX3_mixSecond_14 : decode cX3_mixSecond 14 = .ok (.getfield 39, 3) := by decide +kernel
theorem dX3_mixSecond_17 : decode cX3_mixSecond 17 = .ok (.iload_n 1, 1) := by decide +kernel
theorem dX3_mixSecond_18 : decode cX3_mixSecond 18 = .ok (.iaload, 1) := by decide +kernel
theorem dX3_mixSecond_19 : decode cX3_mixSecond 19 = .ok (.iastore, 1) := by decide +kernel
theorem dX3_mixSecond_20 : decode cX3_mixSecond 20 = .ok (.iinc 1 1, 3) := by decide +kernel
theorem dX3_mixSecond_23 : decode cX3_mixSecond 23 = .ok (.goto (-21), 3) := by decide +kernel
theorem dX3_mixSecond_26 : decode cX3_mixSecond 26 = .ok (.iconst 0, 1) := by decide +kernel
theorem dX3_mixSecond_27 : decode cX3_mixSecond 27 = .ok (.istore_n 1, 1) := by decide +kernel
theorem dX3_mixSecond_28 : decode cX3_mixSecond 28 = .ok (.iload_n 1, 1) := by decide +kernel
theorem dX3_mixSecond_29 : decode cX3_mixSecond 29 = .ok (.bipush 16, 2) := by decide +kernel
theorem dX3_mixSecond_31 : decode cX3_mixSecond 31 = .ok (.if_icmp .ge 34, 3) := by decide +kernel
theorem dX3_mixSecond_34 : decode cX3_mixSecond 34 = .ok (.aload_n 0, 1) := by decide +kernel
theorem dX3_mixSecond_35 : decode cX3_mixSecond 35 = .ok (.getfield 42, 3) := by decide +kernel
theorem dX3_mixSecond_38 : decode cX3_mixSecond 38 = .ok (.iload_n 1, 1) := by decide +kernel
theorem dX3_mixSecond_39 : decode cX3_mixSecond 39 = .ok (.iload_n 1, 1) := by decide +kernel
theorem dX3_mixSecond_40 : decode cX3_mixSecond 40 = .ok (.bipush 10, 2) := by decide +kernel
theorem dX3_mixSecond_42 : decode cX3_mixSecond 42 = .ok (.if_icmp .ge 15, 3) := by decide +kernel
theorem dX3_mixSecond_45 : decode cX3_mixSecond 45 = .ok (.aload_n 0, 1) := by decide +kernel
theorem dX3_mixSecond_46 : decode cX3_mixSecond 46 = .ok (.getfield 45, 3) := by decide +kernel
theorem dX3_mixSecond_49 : decode cX3_mixSecond 49 = .ok (.bipush 16, 2) := by decide +kernel
theorem dX3_mixSecond_51 : decode cX3_mixSecond 51 = .ok (.iload_n 1, 1) := by decide +kernel
theorem dX3_mixSecond_52 : decode cX3_mixSecond 52 = .ok (.iadd, 1) := by decide +kernel
theorem dX3_mixSecond_53 : decode cX3_mixSecond 53 = .ok (.iaload, 1) := by decide +kernel
theorem dX3_mixSecond_54 : decode cX3_mixSecond 54 = .ok (.goto 4, 3) := by decide +kernel
theorem dX3_mixSecond_57 : decode cX3_mixSecond 57 = .ok (.iconst 0, 1) := by decide +kernel
theorem dX3_mixSecond_58 : decode cX3_mixSecond 58 = .ok (.iastore, 1) := by decide +kernel
theorem dX3_mixSecond_59 : decode cX3_mixSecond 59 = .ok (.iinc 1 1, 3) := by decide +kernel
theorem dX3_mixSecond_62 : decode cX3_mixSecond 62 = .ok (.goto (-34), 3) := by decide +kernel
theorem dX3_mixSecond_65 : decode cX3_mixSecond 65 = .ok (.aload_n 0, 1) := by decide +kernel
theorem dX3_mixSecond_66 : decode cX3_mixSecond 66 = .ok (.getfield 42, 3) := by decide +kernel
theorem dX3_mixSecond_69 : decode cX3_mixSecond 69 = .ok (.bipush 10, 2) := by decide +kernel
theorem dX3_mixSecond_71 : decode cX3_mixSecond 71 = .ok (.ldc 136, 2) := by decide +kernel
theorem dX3_mixSecond_73 : decode cX3_mixSecond 73 = .ok (.iastore, 1) := by decide +kernel
theorem dX3_mixSecond_74 : decode cX3_mixSecond 74 = .ok (.aload_n 0, 1) := by decide +kernel
theorem dX3_mixSecond_75 : decode cX3_mixSecond 75 = .ok (.getfield 42, 3) := by decide +kernel
theorem dX3_mixSecond_78 : decode cX3_mixSecond 78 = .ok (.bipush 15, 2) := by decide +kernel
theorem dX3_mixSecond_80 : decode cX3_mixSecond 80 = .ok (.sipush 832, 3) := by decide +kernel
theorem dX3_mixSecond_83 : decode cX3_mixSecond 83 = .ok (.iastore, 1) := by decide +kernel
theorem dX3_mixSecond_84 : decode cX3_mixSecond 84 = .ok (.aload_n 0, 1) := by decide +kernel
theorem dX3_mixSecond_85 : decode cX3_mixSecond 85 = .ok (.invokevirtual 133, 3) := by decide +kernel
theorem dX3_mixSecond_88 : decode cX3_mixSecond 88 = .ok (.return_, 1) := by decide +kernel
theorem dX3_zerosOf_0 : decode cX3_zerosOf 0 = .ok (.iconst 0, 1) := by decide +kernel
theorem dX3_zerosOf_1 : decode cX3_zerosOf 1 = .ok (.istore_n 1, 1) := by decide +kernel
theorem dX3_zerosOf_2 : decode cX3_zerosOf 2 = .ok (.iload_n 1, 1) := by decide +kernel
theorem dX3_zerosOf_3 : decode cX3_zerosOf 3 = .ok (.bipush 32, 2) := by decide +kernel
theorem dX3_zerosOf_5 : decode cX3_zerosOf 5 = .ok (.if_icmp .ge 15, 3) := by decide +kernel
theorem dX3_zerosOf_8 : decode cX3_zerosOf 8 = .ok (.iload_n 0, 1) := by decide +kernel
theorem dX3_zerosOf_9 : decode cX3_zerosOf 9 = .ok (.iload_n 1, 1) := by decide +kernel
theorem dX3_zerosOf_10 : decode cX3_zerosOf 10 = .ok (.ishl, 1) := by decide +kernel
theorem dX3_zerosOf_11 : decode cX3_zerosOf 11 = .ok (.ifCond .lt 9, 3) := by decide +kernel
theorem dX3_zerosOf_14 : decode cX3_zerosOf 14 = .ok (.iinc 1 1, 3) := by decide +kernel
theorem dX3_zerosOf_17 : decode cX3_zerosOf 17 = .ok (.goto (-15), 3) := by decide +kernel
theorem dX3_zerosOf_20 : decode cX3_zerosOf 20 = .ok (.iload_n 1, 1) := by decide +kernel
theorem dX3_zerosOf_21 : decode cX3_zerosOf 21 = .ok (.ireturn, 1) := by decide +kernel
set_option maxRecDepth 20000 in
theorem ggX3_zeros_X3_zerosOf : GoodIn wsX3_zeros wsX3_zerosOf := goodIn_r _ [5] (by decide +kernel) (by decide +kernel)
set_option maxRecDepth 20000 in
theorem gX3_zeros_X3_zerosOf : GoodIn wsX3_zeros (va_wsS RX3 137 yX3_zerosOf wsX3_zerosOf) := goodIn_app (goodIn_of _ (by decide +kernel)) ggX3_zeros_X3_zerosOf
theorem dX3_zeros_0 : decode cX3_zeros 0 = .ok (.iconst 0, 1) := by decide +kernel
theorem dX3_zeros_1 : decode cX3_zeros 1 = .ok (.istore_n 1, 1) := by decide +kernel
theorem dX3_zeros_2 : decode cX3_zeros 2 = .ok (.iconst 0, 1) := by decide +kernel
theorem dX3_zeros_3 : decode cX3_zeros 3 = .ok (.istore_n 2, 1) := by decide +kernel
theorem dX3_zeros_4 : decode cX3_zeros 4 = .ok (.iload_n 2, 1) := by decide +kernel
theorem dX3_zeros_5 : decode cX3_zeros 5 = .ok (.bipush 8, 2) := by decide +kernel
theorem dX3_zeros_7 : decode cX3_zeros 7 = .ok (.if_icmp .ge 21, 3) := by decide +kernel
theorem dX3_zeros_10 : decode cX3_zeros 10 = .ok (.aload_n 0, 1) := by decide +kernel
theorem dX3_zeros_11 : decode cX3_zeros 11 = .ok (.getfield 36, 3) := by decide +kernel
theorem dX3_zeros_14 : decode cX3_zeros 14 = .ok (.iload_n 2, 1) := by decide +kernel
theorem dX3_zeros_15 : decode cX3_zeros 15 = .ok (.iaload, 1) := by decide +kernel
theorem dX3_zeros_16 : decode cX3_zeros 16 = .ok (.ifCond .ne 12, 3) := by decide +kernel
theorem dX3_zeros_19 : decode cX3_zeros 19 = .ok (.iinc 1 32, 3) := by decide +kernel
theorem dX3_zeros_22 : decode cX3_zeros 22 = .ok (.iinc 2 1, 3) := by decide +kernel
theorem dX3_zeros_25 : decode cX3_zeros 25 = .ok (.goto (-21), 3) := by decide +kernel
theorem dX3_zeros_28 : decode cX3_zeros 28 = .ok (.iload_n 2, 1) := by decide +kernel
theorem dX3_zeros_29 : decode cX3_zeros 29 = .ok (.bipush 8, 2) := by decide +kernel
theorem dX3_zeros_31 : decode cX3_zeros 31 = .ok (.if_icmp .ge 17, 3) := by decide +kernel
theorem dX3_zeros_34 : decode cX3_zeros 34 = .ok (.iload_n 1, 1) := by decide +kernel
theorem dX3_zeros_35 : decode cX3_zeros 35 = .ok (.aload_n 0, 1) := by decide +kernel
theorem dX3_zeros_36 : decode cX3_zeros 36 = .ok (.getfield 36, 3) := by decide +kernel
theorem dX3_zeros_39 : decode cX3_zeros 39 = .ok (.iload_n 2, 1) := by decide +kernel
theorem dX3_zeros_40 : decode cX3_zeros 40 = .ok (.iaload, 1) := by decide +kernel
theorem dX3_zeros_41 : decode cX3_zeros 41 = .ok (.invokestatic 137, 3) := by decide +kernel
theorem dX3_zeros_44 : decode cX3_zeros 44 = .ok (.iadd, 1) := by decide +kernel
theorem dX3_zeros_45 : decode cX3_zeros 45 = .ok (.goto 4, 3) := by decide +kernel
theorem dX3_zeros_48 : decode cX3_zeros 48 = .ok (.iload_n 1, 1) := by decide +kernel
theorem dX3_zeros_49 : decode cX3_zeros 49 = .ok (.ireturn, 1) := by decide +kernel
theorem dX3_lowest_0 : decode cX3_lowest 0 = .ok (.iload_n 0, 1) := by decide +kernel
theorem dX3_lowest_1 : decode cX3_lowest 1 = .ok (.iload_n 0, 1) := by decide +kernel
theorem dX3_lowest_2 : decode cX3_lowest 2 = .ok (.ineg, 1) := by decide +kernel
theorem dX3_lowest_3 : decode cX3_lowest 3 = .ok (.iand, 1) := by decide +kernel
theorem dX3_lowest_4 : decode cX3_lowest 4 = .ok (.ireturn, 1) := by decide +kernel
theorem dX3_hashCell_0 : decode cX3_hashCell 0 = .ok (.aload_n 0, 1) := by decide +kernel
theorem dX3_hashCell_1 : decode cX3_hashCell 1 = .ok (.getfield 7, 3) := by decide +kernel
theorem dX3_hashCell_4 : decode cX3_hashCell 4 = .ok (.bipush 34, 2) := by decide +kernel
theorem dX3_hashCell_6 : decode cX3_hashCell 6 = .ok (.iload_n 1, 1) := by decide +kernel
theorem dX3_hashCell_7 : decode cX3_hashCell 7 = .ok (.imul, 1) := by decide +kernel
theorem dX3_hashCell_8 : decode cX3_hashCell 8 = .ok (.bipush 26, 2) := by decide +kernel
theorem dX3_hashCell_10 : decode cX3_hashCell 10 = .ok (.iadd, 1) := by decide +kernel
theorem dX3_hashCell_11 : decode cX3_hashCell 11 = .ok (.iload_n 2, 1) := by decide +kernel
theorem dX3_hashCell_12 : decode cX3_hashCell 12 = .ok (.iadd, 1) := by decide +kernel
theorem dX3_hashCell_13 : decode cX3_hashCell 13 = .ok (.iaload, 1) := by decide +kernel
theorem dX3_hashCell_14 : decode cX3_hashCell 14 = .ok (.ireturn, 1) := by decide +kernel
set_option maxRecDepth 20000 in
theorem ggX3_draft_X3_hashCell : GoodIn wsX3_draft wsX3_hashCell := goodIn_r _ [10, 11, 15, 16, 17, 18, 19, 20, 21, 22, 23, 24, 25, 26, 27, 28, 29, 30, 31, 32, 33] (by decide +kernel) (by decide +kernel)
set_option maxRecDepth 20000 in
theorem gX3_draft_X3_hashCell : GoodIn wsX3_draft (wsV RX3 144 RX3 yX3_hashCell wsX3_hashCell) := goodIn_app (goodIn_of _ (by decide +kernel)) ggX3_draft_X3_hashCell
set_option maxRecDepth 20000 in
theorem ggX3_draft_X3_lowest : GoodIn wsX3_draft wsX3_lowest := goodIn_r _ [14] (by decide +kernel) (by decide +kernel)
set_option maxRecDepth 20000 in
theorem gX3_draft_X3_lowest : GoodIn wsX3_draft (va_wsS RX3 147 yX3_lowest wsX3_lowest) := goodIn_app (goodIn_of _ (by decide +kernel)) ggX3_draft_X3_lowest
theorem dX3_draft_0 : decode cX3_draft 0 = .ok (.iconst 0, 1) := by decide +kernel
theorem dX3_draft_1 : decode cX3_draft 1 = .ok (.istore_n 1, 1) := by decide +kernel
theorem dX3_draft_2 : decode cX3_draft 2 = .ok (.iload_n 1, 1) := by decide +kernel
theorem dX3_draft_3 : decode cX3_draft 3 = .ok (.bipush 8, 2) := by decide +kernel
theorem dX3_draft_5 : decode cX3_draft 5 = .ok (.if_icmp .ge 101, 3) := by decide +kernel
theorem dX3_draft_8 : decode cX3_draft 8 = .ok (.aload_n 0, 1) := by decide +kernel
theorem dX3_draft_9 : decode cX3_draft 9 = .ok (.getfield 45, 3) := by decide +kernel
theorem dX3_draft_12 : decode cX3_draft 12 = .ok (.iload_n 1, 1) := by decide +kernel
theorem dX3_draft_13 : decode cX3_draft 13 = .ok (.aload_n 0, 1) := by decide +kernel
theorem dX3_draft_14 : decode cX3_draft 14 = .ok (.getfield 141, 3) := by decide +kernel
theorem dX3_draft_17 : decode cX3_draft 17 = .ok (.ifCond .ne 7, 3) := by decide +kernel
theorem dX3_draft_20 : decode cX3_draft 20 = .ok (.iconst 0, 1) := by decide +kernel
theorem dX3_draft_21 : decode cX3_draft 21 = .ok (.goto 14, 3) := by decide +kernel
theorem dX3_draft_24 : decode cX3_draft 24 = .ok (.aload_n 0, 1) := by decide +kernel
theorem dX3_draft_25 : decode cX3_draft 25 = .ok (.aload_n 0, 1) := by decide +kernel
theorem dX3_draft_26 : decode cX3_draft 26 = .ok (.getfield 141, 3) := by decide +kernel
theorem dX3_draft_29 : decode cX3_draft 29 = .ok (.iconst 1, 1) := by decide +kernel
theorem dX3_draft_30 : decode cX3_draft 30 = .ok (.isub, 1) := by decide +kernel
theorem dX3_draft_31 : decode cX3_draft 31 = .ok (.iload_n 1, 1) := by decide +kernel
theorem dX3_draft_32 : decode cX3_draft 32 = .ok (.invokevirtual 144, 3) := by decide +kernel
theorem dX3_draft_35 : decode cX3_draft 35 = .ok (.iastore, 1) := by decide +kernel
theorem dX3_draft_36 : decode cX3_draft 36 = .ok (.aload_n 0, 1) := by decide +kernel
theorem dX3_draft_37 : decode cX3_draft 37 = .ok (.getfield 45, 3) := by decide +kernel
theorem dX3_draft_40 : decode cX3_draft 40 = .ok (.bipush 8, 2) := by decide +kernel
theorem dX3_draft_42 : decode cX3_draft 42 = .ok (.iload_n 1, 1) := by decide +kernel
theorem dX3_draft_43 : decode cX3_draft 43 = .ok (.iadd, 1) := by decide +kernel
theorem dX3_draft_44 : decode cX3_draft 44 = .ok (.aload_n 0, 1) := by decide +kernel
theorem dX3_draft_45 : decode cX3_draft 45 = .ok (.getfield 141, 3) := by decide +kernel
theorem dX3_draft_48 : decode cX3_draft 48 = .ok (.ifCond .ne 7, 3) := by decide +kernel
theorem dX3_draft_51 : decode cX3_draft 51 = .ok (.iconst 0, 1) := by decide +kernel
theorem dX3_draft_52 : decode cX3_draft 52 = .ok (.goto 20, 3) := by decide +kernel
theorem dX3_draft_55 : decode cX3_draft 55 = .ok (.aload_n 0, 1) := by decide +kernel
theorem dX3_draft_56 : decode cX3_draft 56 = .ok (.aload_n 0, 1) := by decide +kernel
theorem dX3_draft_57 : decode cX3_draft 57 = .ok (.getfield 141, 3) := by decide +kernel
theorem dX3_draft_60 : decode cX3_draft 60 = .ok (.aload_n 0, 1) := by decide +kernel
theorem dX3_draft_61 : decode cX3_draft 61 = .ok (.getfield 141, 3) := by decide +kernel
theorem dX3_draft_64 : decode cX3_draft 64 = .ok (.invokestatic 147, 3) := by decide +kernel
theorem dX3_draft_67 : decode cX3_draft 67 = .ok (.isub, 1) := by decide +kernel
theorem dX3_draft_68 : decode cX3_draft 68 = .ok (.iload_n 1, 1) := by decide +kernel
theorem dX3_draft_69 : decode cX3_draft 69 = .ok (.invokevirtual 144, 3) := by decide +kernel
theorem dX3_draft_72 : decode cX3_draft 72 = .ok (.iastore, 1) := by decide +kernel
theorem dX3_draft_73 : decode cX3_draft 73 = .ok (.aload_n 0, 1) := by decide +kernel
theorem dX3_draft_74 : decode cX3_draft 74 = .ok (.getfield 45, 3) := by decide +kernel
theorem dX3_draft_77 : decode cX3_draft 77 = .ok (.bipush 16, 2) := by decide +kernel
theorem dX3_draft_79 : decode cX3_draft 79 = .ok (.iload_n 1, 1) := by decide +kernel
theorem dX3_draft_80 : decode cX3_draft 80 = .ok (.iadd, 1) := by decide +kernel
theorem dX3_draft_81 : decode cX3_draft 81 = .ok (.iload_n 1, 1) := by decide +kernel
theorem dX3_draft_82 : decode cX3_draft 82 = .ok (.aload_n 0, 1) := by decide +kernel
theorem dX3_draft_83 : decode cX3_draft 83 = .ok (.getfield 150, 3) := by decide +kernel
theorem dX3_draft_86 : decode cX3_draft 86 = .ok (.if_icmp .ge 12, 3) := by decide +kernel
theorem dX3_draft_89 : decode cX3_draft 89 = .ok (.aload_n 0, 1) := by decide +kernel
theorem dX3_draft_90 : decode cX3_draft 90 = .ok (.getfield 16, 3) := by decide +kernel
theorem dX3_draft_93 : decode cX3_draft 93 = .ok (.iload_n 1, 1) := by decide +kernel
theorem dX3_draft_94 : decode cX3_draft 94 = .ok (.iaload, 1) := by decide +kernel
theorem dX3_draft_95 : decode cX3_draft 95 = .ok (.goto 4, 3) := by decide +kernel
theorem dX3_draft_98 : decode cX3_draft 98 = .ok (.iconst 0, 1) := by decide +kernel
theorem dX3_draft_99 : decode cX3_draft 99 = .ok (.iastore, 1) := by decide +kernel
theorem dX3_draft_100 : decode cX3_draft 100 = .ok (.iinc 1 1, 3) := by decide +kernel
theorem dX3_draft_103 : decode cX3_draft 103 = .ok (.goto (-101), 3) := by decide +kernel
theorem dX3_draft_106 : decode cX3_draft 106 = .ok (.aload_n 0, 1) := by decide +kernel
theorem dX3_draft_107 : decode cX3_draft 107 = .ok (.getfield 45, 3) := by decide +kernel
theorem dX3_draft_110 : decode cX3_draft 110 = .ok (.bipush 24, 2) := by decide +kernel
theorem dX3_draft_112 : decode cX3_draft 112 = .ok (.bipush 16, 2) := by decide +kernel
theorem dX3_draft_114 : decode cX3_draft 114 = .ok (.aload_n 0, 1) := by decide +kernel
theorem dX3_draft_115 : decode cX3_draft 115 = .ok (.getfield 48, 3) := by decide +kernel
theorem dX3_draft_118 : decode cX3_draft 118 = .ok (.imul, 1) := by decide +kernel
theorem dX3_draft_119 : decode cX3_draft 119 = .ok (.aload_n 0, 1) := by decide +kernel
theorem dX3_draft_120 : decode cX3_draft 120 = .ok (.getfield 150, 3) := by decide +kernel
theorem dX3_draft_123 : decode cX3_draft 123 = .ok (.iadd, 1) := by decide +kernel
theorem dX3_draft_124 : decode cX3_draft 124 = .ok (.iastore, 1) := by decide +kernel
theorem dX3_draft_125 : decode cX3_draft 125 = .ok (.return_, 1) := by decide +kernel
theorem dX3_forget_0 : decode cX3_forget 0 = .ok (.aload_n 0, 1) := by decide +kernel
theorem dX3_forget_1 : decode cX3_forget 1 = .ok (.iconst 0, 1) := by decide +kernel
theorem dX3_forget_2 : decode cX3_forget 2 = .ok (.putfield 153, 3) := by decide +kernel
theorem dX3_forget_5 : decode cX3_forget 5 = .ok (.aload_n 0, 1) := by decide +kernel
theorem dX3_forget_6 : decode cX3_forget 6 = .ok (.iconst (-1), 1) := by decide +kernel
theorem dX3_forget_7 : decode cX3_forget 7 = .ok (.putfield 19, 3) := by decide +kernel
theorem dX3_forget_10 : decode cX3_forget 10 = .ok (.return_, 1) := by decide +kernel
set_option maxRecDepth 20000 in
theorem ggX3_put_X3_forget : GoodIn wsX3_put wsX3_forget := goodIn_r _ [7, 8, 9, 10, 11, 12, 13, 14, 15, 16, 17, 18, 19, 20, 21, 22, 23, 24, 25, 26, 27, 28] (by decide +kernel) (by decide +kernel)
set_option maxRecDepth 20000 in
theorem gX3_put_X3_forget : GoodIn wsX3_put (wsV RX3 156 RX3 yX3_forget wsX3_forget) := goodIn_app (goodIn_of _ (by decide +kernel)) ggX3_put_X3_forget
theorem dX3_put_0 : decode cX3_put 0 = .ok (.aload_n 0, 1) := by decide +kernel
theorem dX3_put_1 : decode cX3_put 1 = .ok (.getfield 150, 3) := by decide +kernel
theorem dX3_put_4 : decode cX3_put 4 = .ok (.bipush 8, 2) := by decide +kernel
theorem dX3_put_6 : decode cX3_put 6 = .ok (.if_icmp .ne 6, 3) := by decide +kernel
theorem dX3_put_9 : decode cX3_put 9 = .ok (.bipush (-3), 2) := by decide +kernel
theorem dX3_put_11 : decode cX3_put 11 = .ok (.ireturn, 1) := by decide +kernel
theorem dX3_put_12 : decode cX3_put 12 = .ok (.aload_n 0, 1) := by decide +kernel
theorem dX3_put_13 : decode cX3_put 13 = .ok (.getfield 16, 3) := by decide +kernel
theorem dX3_put_16 : decode cX3_put 16 = .ok (.aload_n 0, 1) := by decide +kernel
theorem dX3_put_17 : decode cX3_put 17 = .ok (.getfield 150, 3) := by decide +kernel
theorem dX3_put_20 : decode cX3_put 20 = .ok (.iload_n 1, 1) := by decide +kernel
theorem dX3_put_21 : decode cX3_put 21 = .ok (.iastore, 1) := by decide +kernel
theorem dX3_put_22 : decode cX3_put 22 = .ok (.aload_n 0, 1) := by decide +kernel
theorem dX3_put_23 : decode cX3_put 23 = .ok (.dup, 1) := by decide +kernel
theorem dX3_put_24 : decode cX3_put 24 = .ok (.getfield 150, 3) := by decide +kernel
theorem dX3_put_27 : decode cX3_put 27 = .ok (.iconst 1, 1) := by decide +kernel
theorem dX3_put_28 : decode cX3_put 28 = .ok (.iadd, 1) := by decide +kernel
theorem dX3_put_29 : decode cX3_put 29 = .ok (.putfield 150, 3) := by decide +kernel
theorem dX3_put_32 : decode cX3_put 32 = .ok (.aload_n 0, 1) := by decide +kernel
theorem dX3_put_33 : decode cX3_put 33 = .ok (.invokevirtual 156, 3) := by decide +kernel
theorem dX3_put_36 : decode cX3_put 36 = .ok (.aload_n 0, 1) := by decide +kernel
theorem dX3_put_37 : decode cX3_put 37 = .ok (.getfield 150, 3) := by decide +kernel
theorem dX3_put_40 : decode cX3_put 40 = .ok (.ireturn, 1) := by decide +kernel
set_option maxRecDepth 20000 in
theorem ggX3_takeBack_X3_forget : GoodIn wsX3_takeBack wsX3_forget := goodIn_r _ [6, 7, 8, 9, 10, 11, 12, 13, 14, 15, 16, 17, 18, 19, 20, 21, 22, 23, 24, 25, 26, 27] (by decide +kernel) (by decide +kernel)
set_option maxRecDepth 20000 in
theorem gX3_takeBack_X3_forget : GoodIn wsX3_takeBack (wsV RX3 156 RX3 yX3_forget wsX3_forget) := goodIn_app (goodIn_of _ (by decide +kernel)) ggX3_takeBack_X3_forget
theorem dX3_takeBack_0 : decode cX3_takeBack 0 = .ok (.iload_n 1, 1) := by decide +kernel
theorem dX3_takeBack_1 : decode cX3_takeBack 1 = .ok (.iconst 1, 1) := by decide +kernel
theorem dX3_takeBack_2 : decode cX3_takeBack 2 = .ok (.if_icmp .lt 11, 3) := by decide +kernel
theorem dX3_takeBack_5 : decode cX3_takeBack 5 = .ok (.iload_n 1, 1) := by decide +kernel
theorem dX3_takeBack_6 : decode cX3_takeBack 6 = .ok (.aload_n 0, 1) := by decide +kernel
theorem dX3_takeBack_7 : decode cX3_takeBack 7 = .ok (.getfield 150, 3) := by decide +kernel
theorem dX3_takeBack_10 : decode cX3_takeBack 10 = .ok (.if_icmp .le 6, 3) := by decide +kernel
theorem dX3_takeBack_13 : decode cX3_takeBack 13 = .ok (.bipush (-2), 2) := by decide +kernel
theorem dX3_takeBack_15 : decode cX3_takeBack 15 = .ok (.ireturn, 1) := by decide +kernel
theorem dX3_takeBack_16 : decode cX3_takeBack 16 = .ok (.aload_n 0, 1) := by decide +kernel
theorem dX3_takeBack_17 : decode cX3_takeBack 17 = .ok (.dup, 1) := by decide +kernel
theorem dX3_takeBack_18 : decode cX3_takeBack 18 = .ok (.getfield 150, 3) := by decide +kernel
theorem dX3_takeBack_21 : decode cX3_takeBack 21 = .ok (.iload_n 1, 1) := by decide +kernel
theorem dX3_takeBack_22 : decode cX3_takeBack 22 = .ok (.isub, 1) := by decide +kernel
theorem dX3_takeBack_23 : decode cX3_takeBack 23 = .ok (.putfield 150, 3) := by decide +kernel
theorem dX3_takeBack_26 : decode cX3_takeBack 26 = .ok (.aload_n 0, 1) := by decide +kernel
theorem dX3_takeBack_27 : decode cX3_takeBack 27 = .ok (.invokevirtual 156, 3) := by decide +kernel
theorem dX3_takeBack_30 : decode cX3_takeBack 30 = .ok (.aload_n 0, 1) := by decide +kernel
theorem dX3_takeBack_31 : decode cX3_takeBack 31 = .ok (.getfield 150, 3) := by decide +kernel
theorem dX3_takeBack_34 : decode cX3_takeBack 34 = .ok (.ireturn, 1) := by decide +kernel
theorem dX3_pending_0 : decode cX3_pending 0 = .ok (.iload_n 1, 1) := by decide +kernel
theorem dX3_pending_1 : decode cX3_pending 1 = .ok (.ifCond .lt 20, 3) := by decide +kernel
theorem dX3_pending_4 : decode cX3_pending 4 = .ok (.iload_n 1, 1) := by decide +kernel
theorem dX3_pending_5 : decode cX3_pending 5 = .ok (.aload_n 0, 1) := by decide +kernel
theorem dX3_pending_6 : decode cX3_pending 6 = .ok (.getfield 150, 3) := by decide +kernel
theorem dX3_pending_9 : decode cX3_pending 9 = .ok (.if_icmp .ge 12, 3) := by decide +kernel
theorem dX3_pending_12 : decode cX3_pending 12 = .ok (.aload_n 0, 1) := by decide +kernel
theorem dX3_pending_13 : decode cX3_pending 13 = .ok (.getfield 16, 3) := by decide +kernel
theorem dX3_pending_16 : decode cX3_pending 16 = .ok (.iload_n 1, 1) := by decide +kernel
theorem dX3_pending_17 : decode cX3_pending 17 = .ok (.iaload, 1) := by decide +kernel
theorem dX3_pending_18 : decode cX3_pending 18 = .ok (.goto 4, 3) := by decide +kernel
theorem dX3_pending_21 : decode cX3_pending 21 = .ok (.iconst 0, 1) := by decide +kernel
theorem dX3_pending_22 : decode cX3_pending 22 = .ok (.ireturn, 1) := by decide +kernel
set_option maxRecDepth 20000 in
theorem ggX3_difficulty_X3_forget : GoodIn wsX3_difficulty wsX3_forget := goodIn_r _ [6, 7, 8, 9, 10, 11, 12, 13, 14, 15, 16, 17, 18, 19, 20, 21, 22, 23, 24, 25, 26, 27] (by decide +kernel) (by decide +kernel)
set_option maxRecDepth 20000 in
theorem gX3_difficulty_X3_forget : GoodIn wsX3_difficulty (wsV RX3 156 RX3 yX3_forget wsX3_forget) := goodIn_app (goodIn_of _ (by decide +kernel)) ggX3_difficulty_X3_forget
theorem dX3_difficulty_0 : decode cX3_difficulty 0 = .ok (.iload_n 1, 1) := by decide +kernel
theorem dX3_difficulty_1 : decode cX3_difficulty 1 = .ok (.ifCond .lt 9, 3) := by decide +kernel
theorem dX3_difficulty_4 : decode cX3_difficulty 4 = .ok (.iload_n 1, 1) := by decide +kernel
theorem dX3_difficulty_5 : decode cX3_difficulty 5 = .ok (.bipush 20, 2) := by decide +kernel
theorem dX3_difficulty_7 : decode cX3_difficulty 7 = .ok (.if_icmp .le 6, 3) := by decide +kernel
theorem dX3_difficulty_10 : decode cX3_difficulty 10 = .ok (.bipush (-2), 2) := by decide +kernel
theorem dX3_difficulty_12 : decode cX3_difficulty 12 = .ok (.ireturn, 1) := by decide +kernel
theorem dX3_difficulty_13 : decode cX3_difficulty 13 = .ok (.aload_n 0, 1) := by decide +kernel
theorem dX3_difficulty_14 : decode cX3_difficulty 14 = .ok (.getfield 48, 3) := by decide +kernel
theorem dX3_difficulty_17 : decode cX3_difficulty 17 = .ok (.istore_n 2, 1) := by decide +kernel
theorem dX3_difficulty_18 : decode cX3_difficulty 18 = .ok (.aload_n 0, 1) := by decide +kernel
theorem dX3_difficulty_19 : decode cX3_difficulty 19 = .ok (.iload_n 1, 1) := by decide +kernel
theorem dX3_difficulty_20 : decode cX3_difficulty 20 = .ok (.putfield 48, 3) := by decide +kernel
theorem dX3_difficulty_23 : decode cX3_difficulty 23 = .ok (.aload_n 0, 1) := by decide +kernel
theorem dX3_difficulty_24 : decode cX3_difficulty 24 = .ok (.invokevirtual 156, 3) := by decide +kernel
theorem dX3_difficulty_27 : decode cX3_difficulty 27 = .ok (.iload_n 2, 1) := by decide +kernel
theorem dX3_difficulty_28 : decode cX3_difficulty 28 = .ok (.ireturn, 1) := by decide +kernel
set_option maxRecDepth 20000 in
theorem ggX3_mine_X3_draft : GoodIn wsX3_mine wsX3_draft := goodIn_r _ [10, 4, 11, 12, 13, 5, 14, 15, 16, 9, 17, 18, 19, 20, 21, 50, 51, 52, 53, 54, 55, 56, 57, 58, 59, 60, 61, 62, 63, 64, 65, 66, 67, 68] (by decide +kernel) (by decide +kernel)
set_option maxRecDepth 20000 in
theorem gX3_mine_X3_draft : GoodIn wsX3_mine (wsV RX3 160 RX3 yX3_draft wsX3_draft) := goodIn_app (goodIn_of _ (by decide +kernel)) ggX3_mine_X3_draft
set_option maxRecDepth 20000 in
theorem ggX3_mine_X3_mixFirst : GoodIn wsX3_mine wsX3_mixFirst := goodIn_r _ [25, 26, 27, 28, 4, 29, 30, 31, 32, 9, 33, 34, 35, 36, 37, 50, 51, 52, 53, 54, 55, 56, 57, 58, 59, 60, 61, 62, 63, 64, 65, 66, 67, 68] (by decide +kernel) (by decide +kernel)
set_option maxRecDepth 20000 in
theorem gX3_mine_X3_mixFirst : GoodIn wsX3_mine (wsV RX3 163 RX3 yX3_mixFirst wsX3_mixFirst) := goodIn_app (goodIn_of _ (by decide +kernel)) ggX3_mine_X3_mixFirst
set_option maxRecDepth 20000 in
theorem ggX3_mine_X3_mixSecond : GoodIn wsX3_mine wsX3_mixSecond := goodIn_r _ [41, 26, 29, 28, 4, 42, 30, 31, 32, 9, 33, 34, 35, 36, 37, 50, 51, 52, 53, 54, 55, 56, 57, 58, 59, 60, 61, 62, 63, 64, 65, 66, 67, 68] (by decide +kernel) (by decide +kernel)
set_option maxRecDepth 20000 in
theorem gX3_mine_X3_mixSecond : GoodIn wsX3_mine (wsV RX3 166 RX3 yX3_mixSecond wsX3_mixSecond) := goodIn_app (goodIn_of _ (by decide +kernel)) ggX3_mine_X3_mixSecond
set_option maxRecDepth 20000 in
theorem ggX3_mine_X3_zeros : GoodIn wsX3_mine wsX3_zeros := goodIn_r _ [46, 26, 47, 48, 9, 49, 50, 51, 52, 53, 54, 55, 56, 57, 58, 59, 60, 61, 62, 63, 64, 65, 66, 67, 68] (by decide +kernel) (by decide +kernel)
set_option maxRecDepth 20000 in
theorem gX3_mine_X3_zeros : GoodIn wsX3_mine (wsV RX3 169 RX3 yX3_zeros wsX3_zeros) := goodIn_app (goodIn_of _ (by decide +kernel)) ggX3_mine_X3_zeros
theorem dX3_mine_0 : decode cX3_mine 0 = .ok (.iload_n 1, 1) := by decide +kernel
theorem dX3_mine_1 : decode cX3_mine 1 = .ok (.iconst 1, 1) := by decide +kernel
theorem dX3_mine_2 : decode cX3_mine 2 = .ok (.if_icmp .lt 10, 3) := by decide +kernel
theorem dX3_mine_5 : decode cX3_mine 5 = .ok (.iload_n 1, 1) := by decide +kernel
theorem dX3_mine_6 : decode cX3_mine 6 = .ok (.sipush 3000, 3) := by decide +kernel
theorem dX3_mine_9 : decode cX3_mine 9 = .ok (.if_icmp .le 6, 3) := by decide +kernel
theorem dX3_mine_12 : decode cX3_mine 12 = .ok (.bipush (-2), 2) := by decide +kernel
theorem dX3_mine_14 : decode cX3_mine 14 = .ok (.ireturn, 1) := by decide +kernel
theorem dX3_mine_15 : decode cX3_mine 15 = .ok (.aload_n 0, 1) := by decide +kernel
theorem dX3_mine_16 : decode cX3_mine 16 = .ok (.getfield 19, 3) := by decide +kernel
theorem dX3_mine_19 : decode cX3_mine 19 = .ok (.ifCond .lt 8, 3) := by decide +kernel
theorem dX3_mine_22 : decode cX3_mine 22 = .ok (.aload_n 0, 1) := by decide +kernel
theorem dX3_mine_23 : decode cX3_mine 23 = .ok (.getfield 19, 3) := by decide +kernel
theorem dX3_mine_26 : decode cX3_mine 26 = .ok (.ireturn, 1) := by decide +kernel
theorem dX3_mine_27 : decode cX3_mine 27 = .ok (.aload_n 0, 1) := by decide +kernel
theorem dX3_mine_28 : decode cX3_mine 28 = .ok (.getfield 153, 3) := by decide +kernel
theorem dX3_mine_31 : decode cX3_mine 31 = .ok (.ldc 159, 2) := by decide +kernel
theorem dX3_mine_33 : decode cX3_mine 33 = .ok (.if_icmp .ne 6, 3) := by decide +kernel
theorem dX3_mine_36 : decode cX3_mine 36 = .ok (.bipush (-3), 2) := by decide +kernel
theorem dX3_mine_38 : decode cX3_mine 38 = .ok (.ireturn, 1) := by decide +kernel
theorem dX3_mine_39 : decode cX3_mine 39 = .ok (.aload_n 0, 1) := by decide +kernel
theorem dX3_mine_40 : decode cX3_mine 40 = .ok (.invokevirtual 160, 3) := by decide +kernel
theorem dX3_mine_43 : decode cX3_mine 43 = .ok (.aload_n 0, 1) := by decide +kernel
theorem dX3_mine_44 : decode cX3_mine 44 = .ok (.invokevirtual 163, 3) := by decide +kernel
theorem dX3_mine_47 : decode cX3_mine 47 = .ok (.iconst 0, 1) := by decide +kernel
theorem dX3_mine_48 : decode cX3_mine 48 = .ok (.istore_n 2, 1) := by decide +kernel
theorem dX3_mine_49 : decode cX3_mine 49 = .ok (.iload_n 2, 1) := by decide +kernel
theorem dX3_mine_50 : decode cX3_mine 50 = .ok (.iload_n 1, 1) := by decide +kernel
theorem dX3_mine_51 : decode cX3_mine 51 = .ok (.if_icmp .ge 73, 3) := by decide +kernel
theorem dX3_mine_54 : decode cX3_mine 54 = .ok (.aload_n 0, 1) := by decide +kernel
theorem dX3_mine_55 : decode cX3_mine 55 = .ok (.getfield 153, 3) := by decide +kernel
theorem dX3_mine_58 : decode cX3_mine 58 = .ok (.ldc 159, 2) := by decide +kernel
theorem dX3_mine_60 : decode cX3_mine 60 = .ok (.if_icmp .ge 64, 3) := by decide +kernel
theorem dX3_mine_63 : decode cX3_mine 63 = .ok (.aload_n 0, 1) := by decide +kernel
theorem dX3_mine_64 : decode cX3_mine 64 = .ok (.getfield 19, 3) := by decide +kernel
theorem dX3_mine_67 : decode cX3_mine 67 = .ok (.ifCond .ge 57, 3) := by decide +kernel
theorem dX3_mine_70 : decode cX3_mine 70 = .ok (.aload_n 0, 1) := by decide +kernel
theorem dX3_mine_71 : decode cX3_mine 71 = .ok (.getfield 45, 3) := by decide +kernel
theorem dX3_mine_74 : decode cX3_mine 74 = .ok (.bipush 25, 2) := by decide +kernel
theorem dX3_mine_76 : decode cX3_mine 76 = .ok (.aload_n 0, 1) := by decide +kernel
theorem dX3_mine_77 : decode cX3_mine 77 = .ok (.getfield 153, 3) := by decide +kernel
theorem dX3_mine_80 : decode cX3_mine 80 = .ok (.iastore, 1) := by decide +kernel
theorem dX3_mine_81 : decode cX3_mine 81 = .ok (.aload_n 0, 1) := by decide +kernel
theorem dX3_mine_82 : decode cX3_mine 82 = .ok (.invokevirtual 166, 3) := by decide +kernel
theorem dX3_mine_85 : decode cX3_mine 85 = .ok (.aload_n 0, 1) := by decide +kernel
theorem dX3_mine_86 : decode cX3_mine 86 = .ok (.aload_n 0, 1) := by decide +kernel
theorem dX3_mine_87 : decode cX3_mine 87 = .ok (.invokevirtual 169, 3) := by decide +kernel
theorem dX3_mine_90 : decode cX3_mine 90 = .ok (.aload_n 0, 1) := by decide +kernel
theorem dX3_mine_91 : decode cX3_mine 91 = .ok (.getfield 48, 3) := by decide +kernel
theorem dX3_mine_94 : decode cX3_mine 94 = .ok (.if_icmp .lt 10, 3) := by decide +kernel
theorem dX3_mine_97 : decode cX3_mine 97 = .ok (.aload_n 0, 1) := by decide +kernel
theorem dX3_mine_98 : decode cX3_mine 98 = .ok (.getfield 153, 3) := by decide +kernel
theorem dX3_mine_101 : decode cX3_mine 101 = .ok (.goto 4, 3) := by decide +kernel
theorem dX3_mine_104 : decode cX3_mine 104 = .ok (.iconst (-1), 1) := by decide +kernel
theorem dX3_mine_105 : decode cX3_mine 105 = .ok (.putfield 19, 3) := by decide +kernel
theorem dX3_mine_108 : decode cX3_mine 108 = .ok (.aload_n 0, 1) := by decide +kernel
theorem dX3_mine_109 : decode cX3_mine 109 = .ok (.dup, 1) := by decide +kernel
theorem dX3_mine_110 : decode cX3_mine 110 = .ok (.getfield 153, 3) := by decide +kernel
theorem dX3_mine_113 : decode cX3_mine 113 = .ok (.iconst 1, 1) := by decide +kernel
theorem dX3_mine_114 : decode cX3_mine 114 = .ok (.iadd, 1) := by decide +kernel
theorem dX3_mine_115 : decode cX3_mine 115 = .ok (.putfield 153, 3) := by decide +kernel
theorem dX3_mine_118 : decode cX3_mine 118 = .ok (.iinc 2 1, 3) := by decide +kernel
theorem dX3_mine_121 : decode cX3_mine 121 = .ok (.goto (-72), 3) := by decide +kernel
theorem dX3_mine_124 : decode cX3_mine 124 = .ok (.aload_n 0, 1) := by decide +kernel
theorem dX3_mine_125 : decode cX3_mine 125 = .ok (.getfield 19, 3) := by decide +kernel
theorem dX3_mine_128 : decode cX3_mine 128 = .ok (.ireturn, 1) := by decide +kernel
theorem dX3_tried_0 : decode cX3_tried 0 = .ok (.aload_n 0, 1) := by decide +kernel
theorem dX3_tried_1 : decode cX3_tried 1 = .ok (.getfield 153, 3) := by decide +kernel
theorem dX3_tried_4 : decode cX3_tried 4 = .ok (.ireturn, 1) := by decide +kernel
set_option maxRecDepth 20000 in
theorem ggX3_commit_X3_draft : GoodIn wsX3_commit wsX3_draft := goodIn_r _ [12, 3, 1, 7, 13, 14, 15, 16, 17, 11, 18, 4, 19, 20, 21, 66, 67, 68, 69, 70, 71, 72, 73, 74, 75, 76, 77, 78, 79, 80, 81, 82, 83, 84] (by decide +kernel) (by decide +kernel)
set_option maxRecDepth 20000 in
theorem gX3_commit_X3_draft : GoodIn wsX3_commit (wsV RX3 160 RX3 yX3_draft wsX3_draft) := goodIn_app (goodIn_of _ (by decide +kernel)) ggX3_commit_X3_draft
set_option maxRecDepth 20000 in
theorem ggX3_commit_X3_mixFirst : GoodIn wsX3_commit wsX3_mixFirst := goodIn_r _ [25, 5, 26, 27, 3, 28, 29, 30, 31, 11, 32, 33, 34, 35, 36, 66, 67, 68, 69, 70, 71, 72, 73, 74, 75, 76, 77, 78, 79, 80, 81, 82, 83, 84] (by decide +kernel) (by decide +kernel)
set_option maxRecDepth 20000 in
theorem gX3_commit_X3_mixFirst : GoodIn wsX3_commit (wsV RX3 163 RX3 yX3_mixFirst wsX3_mixFirst) := goodIn_app (goodIn_of _ (by decide +kernel)) ggX3_commit_X3_mixFirst
set_option maxRecDepth 20000 in
theorem ggX3_commit_X3_mixSecond : GoodIn wsX3_commit wsX3_mixSecond := goodIn_r _ [40, 5, 28, 27, 3, 41, 29, 30, 31, 11, 32, 33, 34, 35, 36, 66, 67, 68, 69, 70, 71, 72, 73, 74, 75, 76, 77, 78, 79, 80, 81, 82, 83, 84] (by decide +kernel) (by decide +kernel)
set_option maxRecDepth 20000 in
theorem gX3_commit_X3_mixSecond : GoodIn wsX3_commit (wsV RX3 166 RX3 yX3_mixSecond wsX3_mixSecond) := goodIn_app (goodIn_of _ (by decide +kernel)) ggX3_commit_X3_mixSecond
set_option maxRecDepth 20000 in
theorem ggX3_commit_X3_setBits : GoodIn wsX3_commit wsX3_setBits := goodIn_r _ [45, 46, 4, 47, 48, 49, 11, 50, 51, 52, 53, 54, 55, 56, 57, 58, 59, 60, 34, 35, 36, 66, 67, 68, 69, 70, 71, 72, 73, 74, 75, 76, 77, 78, 79, 80, 81, 82, 83, 84] (by decide +kernel) (by decide +kernel)
set_option maxRecDepth 20000 in
theorem gX3_commit_X3_setBits : GoodIn wsX3_commit (wsV RX3 173 RX3 yX3_setBits wsX3_setBits) := goodIn_app (goodIn_of _ (by decide +kernel)) ggX3_commit_X3_setBits
set_option maxRecDepth 20000 in
theorem ggX3_commit_X3_forget : GoodIn wsX3_commit wsX3_forget := goodIn_r _ [64, 65, 2, 66, 67, 68, 69, 70, 71, 72, 73, 74, 75, 76, 77, 78, 79, 80, 81, 82, 83, 84] (by decide +kernel) (by decide +kernel)
set_option maxRecDepth 20000 in
theorem gX3_commit_X3_forget : GoodIn wsX3_commit (wsV RX3 156 RX3 yX3_forget wsX3_forget) := goodIn_app (goodIn_of _ (by decide +kernel)) ggX3_commit_X3_forget
theorem dX3_commit_0 : decode cX3_commit 0 = .ok (.aload_n 0, 1) := by decide +kernel
theorem dX3_commit_1 : decode cX3_commit 1 = .ok (.getfield 141, 3) := by decide +kernel
theorem dX3_commit_4 : decode cX3_commit 4 = .ok (.bipush 60, 2) := by decide +kernel
theorem dX3_commit_6 : decode cX3_commit 6 = .ok (.if_icmp .ne 6, 3) := by decide +kernel
theorem dX3_commit_9 : decode cX3_commit 9 = .ok (.bipush (-4), 2) := by decide +kernel
theorem dX3_commit_11 : decode cX3_commit 11 = .ok (.ireturn, 1) := by decide +kernel
theorem dX3_commit_12 : decode cX3_commit 12 = .ok (.aload_n 0, 1) := by decide +kernel
theorem dX3_commit_13 : decode cX3_commit 13 = .ok (.getfield 19, 3) := by decide +kernel
theorem dX3_commit_16 : decode cX3_commit 16 = .ok (.ifCond .ge 6, 3) := by decide +kernel
theorem dX3_commit_19 : decode cX3_commit 19 = .ok (.bipush (-3), 2) := by decide +kernel
theorem dX3_commit_21 : decode cX3_commit 21 = .ok (.ireturn, 1) := by decide +kernel
theorem dX3_commit_22 : decode cX3_commit 22 = .ok (.aload_n 0, 1) := by decide +kernel
theorem dX3_commit_23 : decode cX3_commit 23 = .ok (.invokevirtual 160, 3) := by decide +kernel
theorem dX3_commit_26 : decode cX3_commit 26 = .ok (.aload_n 0, 1) := by decide +kernel
theorem dX3_commit_27 : decode cX3_commit 27 = .ok (.getfield 45, 3) := by decide +kernel
theorem dX3_commit_30 : decode cX3_commit 30 = .ok (.bipush 25, 2) := by decide +kernel
theorem dX3_commit_32 : decode cX3_commit 32 = .ok (.aload_n 0, 1) := by decide +kernel
theorem dX3_commit_33 : decode cX3_commit 33 = .ok (.getfield 19, 3) := by decide +kernel
theorem dX3_commit_36 : decode cX3_commit 36 = .ok (.iastore, 1) := by decide +kernel
theorem dX3_commit_37 : decode cX3_commit 37 = .ok (.aload_n 0, 1) := by decide +kernel
theorem dX3_commit_38 : decode cX3_commit 38 = .ok (.invokevirtual 163, 3) := by decide +kernel
theorem dX3_commit_41 : decode cX3_commit 41 = .ok (.aload_n 0, 1) := by decide +kernel
theorem dX3_commit_42 : decode cX3_commit 42 = .ok (.invokevirtual 166, 3) := by decide +kernel
theorem dX3_commit_45 : decode cX3_commit 45 = .ok (.iconst 0, 1) := by decide +kernel
theorem dX3_commit_46 : decode cX3_commit 46 = .ok (.istore_n 1, 1) := by decide +kernel
theorem dX3_commit_47 : decode cX3_commit 47 = .ok (.iload_n 1, 1) := by decide +kernel
theorem dX3_commit_48 : decode cX3_commit 48 = .ok (.bipush 26, 2) := by decide +kernel
theorem dX3_commit_50 : decode cX3_commit 50 = .ok (.if_icmp .ge 29, 3) := by decide +kernel
theorem dX3_commit_53 : decode cX3_commit 53 = .ok (.aload_n 0, 1) := by decide +kernel
theorem dX3_commit_54 : decode cX3_commit 54 = .ok (.getfield 7, 3) := by decide +kernel
theorem dX3_commit_57 : decode cX3_commit 57 = .ok (.bipush 34, 2) := by decide +kernel
theorem dX3_commit_59 : decode cX3_commit 59 = .ok (.aload_n 0, 1) := by decide +kernel
theorem dX3_commit_60 : decode cX3_commit 60 = .ok (.getfield 141, 3) := by decide +kernel
theorem dX3_commit_63 : decode cX3_commit 63 = .ok (.imul, 1) := by decide +kernel
theorem dX3_commit_64 : decode cX3_commit 64 = .ok (.iload_n 1, 1) := by decide +kernel
theorem dX3_commit_65 : decode cX3_commit 65 = .ok (.iadd, 1) := by decide +kernel
theorem dX3_commit_66 : decode cX3_commit 66 = .ok (.aload_n 0, 1) := by decide +kernel
theorem dX3_commit_67 : decode cX3_commit 67 = .ok (.getfield 45, 3) := by decide +kernel
theorem dX3_commit_70 : decode cX3_commit 70 = .ok (.iload_n 1, 1) := by decide +kernel
theorem dX3_commit_71 : decode cX3_commit 71 = .ok (.iaload, 1) := by decide +kernel
theorem dX3_commit_72 : decode cX3_commit 72 = .ok (.iastore, 1) := by decide +kernel
theorem dX3_commit_73 : decode cX3_commit 73 = .ok (.iinc 1 1, 3) := by decide +kernel
theorem dX3_commit_76 : decode cX3_commit 76 = .ok (.goto (-29), 3) := by decide +kernel
theorem dX3_commit_79 : decode cX3_commit 79 = .ok (.iconst 0, 1) := by decide +kernel
theorem dX3_commit_80 : decode cX3_commit 80 = .ok (.istore_n 1, 1) := by decide +kernel
theorem dX3_commit_81 : decode cX3_commit 81 = .ok (.iload_n 1, 1) := by decide +kernel
theorem dX3_commit_82 : decode cX3_commit 82 = .ok (.bipush 8, 2) := by decide +kernel
theorem dX3_commit_84 : decode cX3_commit 84 = .ok (.if_icmp .ge 44, 3) := by decide +kernel
theorem dX3_commit_87 : decode cX3_commit 87 = .ok (.aload_n 0, 1) := by decide +kernel
theorem dX3_commit_88 : decode cX3_commit 88 = .ok (.getfield 7, 3) := by decide +kernel
theorem dX3_commit_91 : decode cX3_commit 91 = .ok (.bipush 34, 2) := by decide +kernel
theorem dX3_commit_93 : decode cX3_commit 93 = .ok (.aload_n 0, 1) := by decide +kernel
theorem dX3_commit_94 : decode cX3_commit 94 = .ok (.getfield 141, 3) := by decide +kernel
theorem dX3_commit_97 : decode cX3_commit 97 = .ok (.imul, 1) := by decide +kernel
theorem dX3_commit_98 : decode cX3_commit 98 = .ok (.bipush 26, 2) := by decide +kernel
theorem dX3_commit_100 : decode cX3_commit 100 = .ok (.iadd, 1) := by decide +kernel
theorem dX3_commit_101 : decode cX3_commit 101 = .ok (.iload_n 1, 1) := by decide +kernel
theorem dX3_commit_102 : decode cX3_commit 102 = .ok (.iadd, 1) := by decide +kernel
theorem dX3_commit_103 : decode cX3_commit 103 = .ok (.aload_n 0, 1) := by decide +kernel
theorem dX3_commit_104 : decode cX3_commit 104 = .ok (.getfield 36, 3) := by decide +kernel
theorem dX3_commit_107 : decode cX3_commit 107 = .ok (.iload_n 1, 1) := by decide +kernel
theorem dX3_commit_108 : decode cX3_commit 108 = .ok (.iaload, 1) := by decide +kernel
theorem dX3_commit_109 : decode cX3_commit 109 = .ok (.iastore, 1) := by decide +kernel
theorem dX3_commit_110 : decode cX3_commit 110 = .ok (.aload_n 0, 1) := by decide +kernel
theorem dX3_commit_111 : decode cX3_commit 111 = .ok (.getfield 13, 3) := by decide +kernel
theorem dX3_commit_114 : decode cX3_commit 114 = .ok (.iload_n 1, 1) := by decide +kernel
theorem dX3_commit_115 : decode cX3_commit 115 = .ok (.aload_n 0, 1) := by decide +kernel
theorem dX3_commit_116 : decode cX3_commit 116 = .ok (.getfield 36, 3) := by decide +kernel
theorem dX3_commit_119 : decode cX3_commit 119 = .ok (.iload_n 1, 1) := by decide +kernel
theorem dX3_commit_120 : decode cX3_commit 120 = .ok (.iaload, 1) := by decide +kernel
theorem dX3_commit_121 : decode cX3_commit 121 = .ok (.iastore, 1) := by decide +kernel
theorem dX3_commit_122 : decode cX3_commit 122 = .ok (.iinc 1 1, 3) := by decide +kernel
theorem dX3_commit_125 : decode cX3_commit 125 = .ok (.goto (-44), 3) := by decide +kernel
theorem dX3_commit_128 : decode cX3_commit 128 = .ok (.aload_n 0, 1) := by decide +kernel
theorem dX3_commit_129 : decode cX3_commit 129 = .ok (.dup, 1) := by decide +kernel
theorem dX3_commit_130 : decode cX3_commit 130 = .ok (.getfield 141, 3) := by decide +kernel
theorem dX3_commit_133 : decode cX3_commit 133 = .ok (.iconst 1, 1) := by decide +kernel
theorem dX3_commit_134 : decode cX3_commit 134 = .ok (.iadd, 1) := by decide +kernel
theorem dX3_commit_135 : decode cX3_commit 135 = .ok (.putfield 141, 3) := by decide +kernel
theorem dX3_commit_138 : decode cX3_commit 138 = .ok (.aload_n 0, 1) := by decide +kernel
theorem dX3_commit_139 : decode cX3_commit 139 = .ok (.aload_n 0, 1) := by decide +kernel
theorem dX3_commit_140 : decode cX3_commit 140 = .ok (.getfield 141, 3) := by decide +kernel
theorem dX3_commit_143 : decode cX3_commit 143 = .ok (.iconst 1, 1) := by decide +kernel
theorem dX3_commit_144 : decode cX3_commit 144 = .ok (.isub, 1) := by decide +kernel
theorem dX3_commit_145 : decode cX3_commit 145 = .ok (.invokevirtual 173, 3) := by decide +kernel
theorem dX3_commit_148 : decode cX3_commit 148 = .ok (.aload_n 0, 1) := by decide +kernel
theorem dX3_commit_149 : decode cX3_commit 149 = .ok (.iconst 0, 1) := by decide +kernel
theorem dX3_commit_150 : decode cX3_commit 150 = .ok (.putfield 150, 3) := by decide +kernel
theorem dX3_commit_153 : decode cX3_commit 153 = .ok (.aload_n 0, 1) := by decide +kernel
theorem dX3_commit_154 : decode cX3_commit 154 = .ok (.invokevirtual 156, 3) := by decide +kernel
theorem dX3_commit_157 : decode cX3_commit 157 = .ok (.aload_n 0, 1) := by decide +kernel
theorem dX3_commit_158 : decode cX3_commit 158 = .ok (.getfield 141, 3) := by decide +kernel
theorem dX3_commit_161 : decode cX3_commit 161 = .ok (.iconst 1, 1) := by decide +kernel
theorem dX3_commit_162 : decode cX3_commit 162 = .ok (.isub, 1) := by decide +kernel
theorem dX3_commit_163 : decode cX3_commit 163 = .ok (.ireturn, 1) := by decide +kernel
theorem dX3_count_0 : decode cX3_count 0 = .ok (.aload_n 0, 1) := by decide +kernel
theorem dX3_count_1 : decode cX3_count 1 = .ok (.getfield 141, 3) := by decide +kernel
theorem dX3_count_4 : decode cX3_count 4 = .ok (.ireturn, 1) := by decide +kernel
theorem dX3_head_0 : decode cX3_head 0 = .ok (.iload_n 1, 1) := by decide +kernel
theorem dX3_head_1 : decode cX3_head 1 = .ok (.ifCond .lt 18, 3) := by decide +kernel
theorem dX3_head_4 : decode cX3_head 4 = .ok (.iload_n 1, 1) := by decide +kernel
theorem dX3_head_5 : decode cX3_head 5 = .ok (.bipush 8, 2) := by decide +kernel
theorem dX3_head_7 : decode cX3_head 7 = .ok (.if_icmp .ge 12, 3) := by decide +kernel
theorem dX3_head_10 : decode cX3_head 10 = .ok (.aload_n 0, 1) := by decide +kernel
theorem dX3_head_11 : decode cX3_head 11 = .ok (.getfield 13, 3) := by decide +kernel
theorem dX3_head_14 : decode cX3_head 14 = .ok (.iload_n 1, 1) := by decide +kernel
theorem dX3_head_15 : decode cX3_head 15 = .ok (.iaload, 1) := by decide +kernel
theorem dX3_head_16 : decode cX3_head 16 = .ok (.goto 4, 3) := by decide +kernel
theorem dX3_head_19 : decode cX3_head 19 = .ok (.iconst 0, 1) := by decide +kernel
theorem dX3_head_20 : decode cX3_head 20 = .ok (.ireturn, 1) := by decide +kernel
theorem dX3_isCell_0 : decode cX3_isCell 0 = .ok (.iload_n 1, 1) := by decide +kernel
theorem dX3_isCell_1 : decode cX3_isCell 1 = .ok (.ifCond .lt 25, 3) := by decide +kernel
theorem dX3_isCell_4 : decode cX3_isCell 4 = .ok (.iload_n 1, 1) := by decide +kernel
theorem dX3_isCell_5 : decode cX3_isCell 5 = .ok (.aload_n 0, 1) := by decide +kernel
theorem dX3_isCell_6 : decode cX3_isCell 6 = .ok (.getfield 141, 3) := by decide +kernel
theorem dX3_isCell_9 : decode cX3_isCell 9 = .ok (.if_icmp .ge 17, 3) := by decide +kernel
theorem dX3_isCell_12 : decode cX3_isCell 12 = .ok (.iload_n 2, 1) := by decide +kernel
theorem dX3_isCell_13 : decode cX3_isCell 13 = .ok (.ifCond .lt 13, 3) := by decide +kernel
theorem dX3_isCell_16 : decode cX3_isCell 16 = .ok (.iload_n 2, 1) := by decide +kernel
theorem dX3_isCell_17 : decode cX3_isCell 17 = .ok (.bipush 34, 2) := by decide +kernel
theorem dX3_isCell_19 : decode cX3_isCell 19 = .ok (.if_icmp .ge 7, 3) := by decide +kernel
theorem dX3_isCell_22 : decode cX3_isCell 22 = .ok (.iconst 1, 1) := by decide +kernel
theorem dX3_isCell_23 : decode cX3_isCell 23 = .ok (.goto 4, 3) := by decide +kernel
theorem dX3_isCell_26 : decode cX3_isCell 26 = .ok (.iconst 0, 1) := by decide +kernel
theorem dX3_isCell_27 : decode cX3_isCell 27 = .ok (.ireturn, 1) := by decide +kernel
set_option maxRecDepth 20000 in
theorem ggX3_cell_X3_isCell : GoodIn wsX3_cell wsX3_isCell := goodIn_r _ [6, 7, 8, 9, 10, 11, 12, 13, 14, 15, 16, 17, 18, 19, 20, 21, 22, 23, 24, 25, 26] (by decide +kernel) (by decide +kernel)
set_option maxRecDepth 20000 in
theorem gX3_cell_X3_isCell : GoodIn wsX3_cell (wsV RX3 177 RX3 yX3_isCell wsX3_isCell) := goodIn_app (goodIn_of _ (by decide +kernel)) ggX3_cell_X3_isCell
theorem dX3_cell_0 : decode cX3_cell 0 = .ok (.aload_n 0, 1) := by decide +kernel
theorem dX3_cell_1 : decode cX3_cell 1 = .ok (.iload_n 1, 1) := by decide +kernel
theorem dX3_cell_2 : decode cX3_cell 2 = .ok (.iload_n 2, 1) := by decide +kernel
theorem dX3_cell_3 : decode cX3_cell 3 = .ok (.invokevirtual 177, 3) := by decide +kernel
theorem dX3_cell_6 : decode cX3_cell 6 = .ok (.ifCond .eq 17, 3) := by decide +kernel
theorem dX3_cell_9 : decode cX3_cell 9 = .ok (.aload_n 0, 1) := by decide +kernel
theorem dX3_cell_10 : decode cX3_cell 10 = .ok (.getfield 7, 3) := by decide +kernel
theorem dX3_cell_13 : decode cX3_cell 13 = .ok (.bipush 34, 2) := by decide +kernel
theorem dX3_cell_15 : decode cX3_cell 15 = .ok (.iload_n 1, 1) := by decide +kernel
theorem dX3_cell_16 : decode cX3_cell 16 = .ok (.imul, 1) := by decide +kernel
theorem dX3_cell_17 : decode cX3_cell 17 = .ok (.iload_n 2, 1) := by decide +kernel
theorem dX3_cell_18 : decode cX3_cell 18 = .ok (.iadd, 1) := by decide +kernel
theorem dX3_cell_19 : decode cX3_cell 19 = .ok (.iaload, 1) := by decide +kernel
theorem dX3_cell_20 : decode cX3_cell 20 = .ok (.goto 4, 3) := by decide +kernel
theorem dX3_cell_23 : decode cX3_cell 23 = .ok (.iconst 0, 1) := by decide +kernel
theorem dX3_cell_24 : decode cX3_cell 24 = .ok (.ireturn, 1) := by decide +kernel
set_option maxRecDepth 20000 in
theorem ggX3_spoil_X3_isCell : GoodIn wsX3_spoil wsX3_isCell := goodIn_r _ [6, 7, 14, 15, 16, 17, 18, 19, 20, 21, 22, 23, 24, 25, 26, 27, 28, 29, 30, 31, 32] (by decide +kernel) (by decide +kernel)
set_option maxRecDepth 20000 in
theorem gX3_spoil_X3_isCell : GoodIn wsX3_spoil (wsV RX3 177 RX3 yX3_isCell wsX3_isCell) := goodIn_app (goodIn_of _ (by decide +kernel)) ggX3_spoil_X3_isCell
set_option maxRecDepth 20000 in
theorem ggX3_spoil_X3_forget : GoodIn wsX3_spoil wsX3_forget := goodIn_r _ [11, 12, 13, 14, 15, 16, 17, 18, 19, 20, 21, 22, 23, 24, 25, 26, 27, 28, 29, 30, 31, 32] (by decide +kernel) (by decide +kernel)
set_option maxRecDepth 20000 in
theorem gX3_spoil_X3_forget : GoodIn wsX3_spoil (wsV RX3 156 RX3 yX3_forget wsX3_forget) := goodIn_app (goodIn_of _ (by decide +kernel)) ggX3_spoil_X3_forget
theorem dX3_spoil_0 : decode cX3_spoil 0 = .ok (.aload_n 0, 1) := by decide +kernel
theorem dX3_spoil_1 : decode cX3_spoil 1 = .ok (.iload_n 1, 1) := by decide +kernel
theorem dX3_spoil_2 : decode cX3_spoil 2 = .ok (.iload_n 2, 1) := by decide +kernel
theorem dX3_spoil_3 : decode cX3_spoil 3 = .ok (.invokevirtual 177, 3) := by decide +kernel
theorem dX3_spoil_6 : decode cX3_spoil 6 = .ok (.ifCond .ne 5, 3) := by decide +kernel
theorem dX3_spoil_9 : decode cX3_spoil 9 = .ok (.iconst 0, 1) := by decide +kernel
theorem dX3_spoil_10 : decode cX3_spoil 10 = .ok (.ireturn, 1) := by decide +kernel
theorem dX3_spoil_11 : decode cX3_spoil 11 = .ok (.aload_n 0, 1) := by decide +kernel
theorem dX3_spoil_12 : decode cX3_spoil 12 = .ok (.getfield 7, 3) := by decide +kernel
theorem dX3_spoil_15 : decode cX3_spoil 15 = .ok (.bipush 34, 2) := by decide +kernel
theorem dX3_spoil_17 : decode cX3_spoil 17 = .ok (.iload_n 1, 1) := by decide +kernel
theorem dX3_spoil_18 : decode cX3_spoil 18 = .ok (.imul, 1) := by decide +kernel
theorem dX3_spoil_19 : decode cX3_spoil 19 = .ok (.iload_n 2, 1) := by decide +kernel
theorem dX3_spoil_20 : decode cX3_spoil 20 = .ok (.iadd, 1) := by decide +kernel
theorem dX3_spoil_21 : decode cX3_spoil 21 = .ok (.iaload, 1) := by decide +kernel
theorem dX3_spoil_22 : decode cX3_spoil 22 = .ok (.istore 4, 2) := by decide +kernel
theorem dX3_spoil_24 : decode cX3_spoil 24 = .ok (.aload_n 0, 1) := by decide +kernel
theorem dX3_spoil_25 : decode cX3_spoil 25 = .ok (.getfield 7, 3) := by decide +kernel
theorem dX3_spoil_28 : decode cX3_spoil 28 = .ok (.bipush 34, 2) := by decide +kernel
theorem dX3_spoil_30 : decode cX3_spoil 30 = .ok (.iload_n 1, 1) := by decide +kernel
theorem dX3_spoil_31 : decode cX3_spoil 31 = .ok (.imul, 1) := by decide +kernel
theorem dX3_spoil_32 : decode cX3_spoil 32 = .ok (.iload_n 2, 1) := by decide +kernel
theorem dX3_spoil_33 : decode cX3_spoil 33 = .ok (.iadd, 1) := by decide +kernel
theorem dX3_spoil_34 : decode cX3_spoil 34 = .ok (.iload_n 3, 1) := by decide +kernel
theorem dX3_spoil_35 : decode cX3_spoil 35 = .ok (.iastore, 1) := by decide +kernel
theorem dX3_spoil_36 : decode cX3_spoil 36 = .ok (.aload_n 0, 1) := by decide +kernel
theorem dX3_spoil_37 : decode cX3_spoil 37 = .ok (.invokevirtual 156, 3) := by decide +kernel
theorem dX3_spoil_40 : decode cX3_spoil 40 = .ok (.iload 4, 2) := by decide +kernel
theorem dX3_spoil_42 : decode cX3_spoil 42 = .ok (.ireturn, 1) := by decide +kernel
set_option maxRecDepth 20000 in
theorem ggX3_drop_X3_setBits : GoodIn wsX3_drop wsX3_setBits := goodIn_r _ [10, 4, 3, 11, 12, 13, 9, 14, 15, 16, 17, 18, 19, 20, 21, 22, 23, 24, 25, 26, 27, 34, 35, 36, 37, 38, 39, 40, 41, 42, 43, 44, 45, 46, 47, 48, 49, 50, 51, 52] (by decide +kernel) (by decide +kernel)
set_option maxRecDepth 20000 in
theorem gX3_drop_X3_setBits : GoodIn wsX3_drop (wsV RX3 173 RX3 yX3_setBits wsX3_setBits) := goodIn_app (goodIn_of _ (by decide +kernel)) ggX3_drop_X3_setBits
set_option maxRecDepth 20000 in
theorem ggX3_drop_X3_forget : GoodIn wsX3_drop wsX3_forget := goodIn_r _ [31, 32, 33, 34, 35, 36, 37, 38, 39, 40, 41, 42, 43, 44, 45, 46, 47, 48, 49, 50, 51, 52] (by decide +kernel) (by decide +kernel)
set_option maxRecDepth 20000 in
theorem gX3_drop_X3_forget : GoodIn wsX3_drop (wsV RX3 156 RX3 yX3_forget wsX3_forget) := goodIn_app (goodIn_of _ (by decide +kernel)) ggX3_drop_X3_forget
theorem dX3_drop_0 : decode cX3_drop 0 = .ok (.aload_n 0, 1) := by decide +kernel
theorem dX3_drop_1 : decode cX3_drop 1 = .ok (.getfield 141, 3) := by decide +kernel
theorem dX3_drop_4 : decode cX3_drop 4 = .ok (.ifCond .ne 5, 3) := by decide +kernel
theorem dX3_drop_7 : decode cX3_drop 7 = .ok (.iconst (-1), 1) := by decide +kernel
theorem dX3_drop_8 : decode cX3_drop 8 = .ok (.ireturn, 1) := by decide +kernel
theorem dX3_drop_9 : decode cX3_drop 9 = .ok (.aload_n 0, 1) := by decide +kernel
theorem dX3_drop_10 : decode cX3_drop 10 = .ok (.dup, 1) := by decide +kernel
theorem dX3_drop_11 : decode cX3_drop 11 = .ok (.getfield 141, 3) := by decide +kernel
theorem dX3_drop_14 : decode cX3_drop 14 = .ok (.iconst 1, 1) := by decide +kernel
theorem dX3_drop_15 : decode cX3_drop 15 = .ok (.isub, 1) := by decide +kernel
theorem dX3_drop_16 : decode cX3_drop 16 = .ok (.putfield 141, 3) := by decide +kernel
theorem dX3_drop_19 : decode cX3_drop 19 = .ok (.iconst 0, 1) := by decide +kernel
theorem dX3_drop_20 : decode cX3_drop 20 = .ok (.istore_n 1, 1) := by decide +kernel
theorem dX3_drop_21 : decode cX3_drop 21 = .ok (.iload_n 1, 1) := by decide +kernel
theorem dX3_drop_22 : decode cX3_drop 22 = .ok (.bipush 8, 2) := by decide +kernel
theorem dX3_drop_24 : decode cX3_drop 24 = .ok (.if_icmp .ge 29, 3) := by decide +kernel
theorem dX3_drop_27 : decode cX3_drop 27 = .ok (.aload_n 0, 1) := by decide +kernel
theorem dX3_drop_28 : decode cX3_drop 28 = .ok (.getfield 13, 3) := by decide +kernel
theorem dX3_drop_31 : decode cX3_drop 31 = .ok (.iload_n 1, 1) := by decide +kernel
theorem dX3_drop_32 : decode cX3_drop 32 = .ok (.aload_n 0, 1) := by decide +kernel
theorem dX3_drop_33 : decode cX3_drop 33 = .ok (.getfield 7, 3) := by decide +kernel
theorem dX3_drop_36 : decode cX3_drop 36 = .ok (.bipush 34, 2) := by decide +kernel
theorem dX3_drop_38 : decode cX3_drop 38 = .ok (.aload_n 0, 1) := by decide +kernel
theorem dX3_drop_39 : decode cX3_drop 39 = .ok (.getfield 141, 3) := by decide +kernel
theorem dX3_drop_42 : decode cX3_drop 42 = .ok (.imul, 1) := by decide +kernel
theorem dX3_drop_43 : decode cX3_drop 43 = .ok (.iload_n 1, 1) := by decide +kernel
theorem dX3_drop_44 : decode cX3_drop 44 = .ok (.iadd, 1) := by decide +kernel
theorem dX3_drop_45 : decode cX3_drop 45 = .ok (.iaload, 1) := by decide +kernel
theorem dX3_drop_46 : decode cX3_drop 46 = .ok (.iastore, 1) := by decide +kernel
theorem dX3_drop_47 : decode cX3_drop 47 = .ok (.iinc 1 1, 3) := by decide +kernel
theorem dX3_drop_50 : decode cX3_drop 50 = .ok (.goto (-29), 3) := by decide +kernel
theorem dX3_drop_53 : decode cX3_drop 53 = .ok (.iconst 0, 1) := by decide +kernel
theorem dX3_drop_54 : decode cX3_drop 54 = .ok (.istore_n 1, 1) := by decide +kernel
theorem dX3_drop_55 : decode cX3_drop 55 = .ok (.iload_n 1, 1) := by decide +kernel
theorem dX3_drop_56 : decode cX3_drop 56 = .ok (.sipush 1024, 3) := by decide +kernel
theorem dX3_drop_59 : decode cX3_drop 59 = .ok (.if_icmp .ge 16, 3) := by decide +kernel
theorem dX3_drop_62 : decode cX3_drop 62 = .ok (.aload_n 0, 1) := by decide +kernel
theorem dX3_drop_63 : decode cX3_drop 63 = .ok (.getfield 23, 3) := by decide +kernel
theorem dX3_drop_66 : decode cX3_drop 66 = .ok (.iload_n 1, 1) := by decide +kernel
theorem dX3_drop_67 : decode cX3_drop 67 = .ok (.iconst 0, 1) := by decide +kernel
theorem dX3_drop_68 : decode cX3_drop 68 = .ok (.bastore, 1) := by decide +kernel
theorem dX3_drop_69 : decode cX3_drop 69 = .ok (.iinc 1 1, 3) := by decide +kernel
theorem dX3_drop_72 : decode cX3_drop 72 = .ok (.goto (-17), 3) := by decide +kernel
theorem dX3_drop_75 : decode cX3_drop 75 = .ok (.iconst 0, 1) := by decide +kernel
theorem dX3_drop_76 : decode cX3_drop 76 = .ok (.istore_n 1, 1) := by decide +kernel
theorem dX3_drop_77 : decode cX3_drop 77 = .ok (.iload_n 1, 1) := by decide +kernel
theorem dX3_drop_78 : decode cX3_drop 78 = .ok (.aload_n 0, 1) := by decide +kernel
theorem dX3_drop_79 : decode cX3_drop 79 = .ok (.getfield 141, 3) := by decide +kernel
theorem dX3_drop_82 : decode cX3_drop 82 = .ok (.if_icmp .ge 14, 3) := by decide +kernel
theorem dX3_drop_85 : decode cX3_drop 85 = .ok (.aload_n 0, 1) := by decide +kernel
theorem dX3_drop_86 : decode cX3_drop 86 = .ok (.iload_n 1, 1) := by decide +kernel
theorem dX3_drop_87 : decode cX3_drop 87 = .ok (.invokevirtual 173, 3) := by decide +kernel
theorem dX3_drop_90 : decode cX3_drop 90 = .ok (.iinc 1 1, 3) := by decide +kernel
theorem dX3_drop_93 : decode cX3_drop 93 = .ok (.goto (-16), 3) := by decide +kernel
theorem dX3_drop_96 : decode cX3_drop 96 = .ok (.aload_n 0, 1) := by decide +kernel
theorem dX3_drop_97 : decode cX3_drop 97 = .ok (.aload_n 0, 1) := by decide +kernel
theorem dX3_drop_98 : decode cX3_drop 98 = .ok (.getfield 181, 3) := by decide +kernel
theorem dX3_drop_101 : decode cX3_drop 101 = .ok (.aload_n 0, 1) := by decide +kernel
theorem dX3_drop_102 : decode cX3_drop 102 = .ok (.getfield 141, 3) := by decide +kernel
theorem dX3_drop_105 : decode cX3_drop 105 = .ok (.if_icmp .le 10, 3) := by decide +kernel
theorem dX3_drop_108 : decode cX3_drop 108 = .ok (.aload_n 0, 1) := by decide +kernel
theorem dX3_drop_109 : decode cX3_drop 109 = .ok (.getfield 141, 3) := by decide +kernel
theorem dX3_drop_112 : decode cX3_drop 112 = .ok (.goto 7, 3) := by decide +kernel
theorem dX3_drop_115 : decode cX3_drop 115 = .ok (.aload_n 0, 1) := by decide +kernel
theorem dX3_drop_116 : decode cX3_drop 116 = .ok (.getfield 181, 3) := by decide +kernel
theorem dX3_drop_119 : decode cX3_drop 119 = .ok (.putfield 181, 3) := by decide +kernel
theorem dX3_drop_122 : decode cX3_drop 122 = .ok (.aload_n 0, 1) := by decide +kernel
theorem dX3_drop_123 : decode cX3_drop 123 = .ok (.invokevirtual 156, 3) := by decide +kernel
theorem dX3_drop_126 : decode cX3_drop 126 = .ok (.aload_n 0, 1) := by decide +kernel
theorem dX3_drop_127 : decode cX3_drop 127 = .ok (.getfield 141, 3) := by decide +kernel
theorem dX3_drop_130 : decode cX3_drop 130 = .ok (.ireturn, 1) := by decide +kernel
set_option maxRecDepth 20000 in
theorem ggX3_stir_X3_turned : GoodIn wsX3_stir wsX3_turned := goodIn_r _ [9] (by decide +kernel) (by decide +kernel)
set_option maxRecDepth 20000 in
theorem gX3_stir_X3_turned : GoodIn wsX3_stir (va_wsS RX3 129 yX3_turned wsX3_turned) := goodIn_app (goodIn_of _ (by decide +kernel)) ggX3_stir_X3_turned
theorem dX3_stir_0 : decode cX3_stir 0 = .ok (.iload_n 1, 1) := by decide +kernel
theorem dX3_stir_1 : decode cX3_stir 1 = .ok (.ldc 184, 2) := by decide +kernel
theorem dX3_stir_3 : decode cX3_stir 3 = .ok (.imul, 1) := by decide +kernel
theorem dX3_stir_4 : decode cX3_stir 4 = .ok (.istore_n 3, 1) := by decide +kernel
theorem dX3_stir_5 : decode cX3_stir 5 = .ok (.iload_n 3, 1) := by decide +kernel
theorem dX3_stir_6 : decode cX3_stir 6 = .ok (.bipush 17, 2) := by decide +kernel
theorem dX3_stir_8 : decode cX3_stir 8 = .ok (.invokestatic 129, 3) := by decide +kernel
theorem dX3_stir_11 : decode cX3_stir 11 = .ok (.ldc 185, 2) := by decide +kernel
theorem dX3_stir_13 : decode cX3_stir 13 = .ok (.imul, 1) := by decide +kernel
theorem dX3_stir_14 : decode cX3_stir 14 = .ok (.istore_n 3, 1) := by decide +kernel
theorem dX3_stir_15 : decode cX3_stir 15 = .ok (.iload_n 2, 1) := by decide +kernel
theorem dX3_stir_16 : decode cX3_stir 16 = .ok (.iload_n 3, 1) := by decide +kernel
theorem dX3_stir_17 : decode cX3_stir 17 = .ok (.ixor, 1) := by decide +kernel
theorem dX3_stir_18 : decode cX3_stir 18 = .ok (.istore 4, 2) := by decide +kernel
theorem dX3_stir_20 : decode cX3_stir 20 = .ok (.iload 4, 2) := by decide +kernel
theorem dX3_stir_22 : decode cX3_stir 22 = .ok (.bipush 19, 2) := by decide +kernel
theorem dX3_stir_24 : decode cX3_stir 24 = .ok (.invokestatic 129, 3) := by decide +kernel
theorem dX3_stir_27 : decode cX3_stir 27 = .ok (.iconst 5, 1) := by decide +kernel
theorem dX3_stir_28 : decode cX3_stir 28 = .ok (.imul, 1) := by decide +kernel
theorem dX3_stir_29 : decode cX3_stir 29 = .ok (.ldc 186, 2) := by decide +kernel
theorem dX3_stir_31 : decode cX3_stir 31 = .ok (.iadd, 1) := by decide +kernel
theorem dX3_stir_32 : decode cX3_stir 32 = .ok (.istore 4, 2) := by decide +kernel
theorem dX3_stir_34 : decode cX3_stir 34 = .ok (.iload 4, 2) := by decide +kernel
theorem dX3_stir_36 : decode cX3_stir 36 = .ok (.iconst 4, 1) := by decide +kernel
theorem dX3_stir_37 : decode cX3_stir 37 = .ok (.ixor, 1) := by decide +kernel
theorem dX3_stir_38 : decode cX3_stir 38 = .ok (.istore 4, 2) := by decide +kernel
theorem dX3_stir_40 : decode cX3_stir 40 = .ok (.iload 4, 2) := by decide +kernel
theorem dX3_stir_42 : decode cX3_stir 42 = .ok (.iload 4, 2) := by decide +kernel
theorem dX3_stir_44 : decode cX3_stir 44 = .ok (.bipush 16, 2) := by decide +kernel
theorem dX3_stir_46 : decode cX3_stir 46 = .ok (.iushr, 1) := by decide +kernel
theorem dX3_stir_47 : decode cX3_stir 47 = .ok (.ixor, 1) := by decide +kernel
theorem dX3_stir_48 : decode cX3_stir 48 = .ok (.ldc 187, 2) := by decide +kernel
theorem dX3_stir_50 : decode cX3_stir 50 = .ok (.imul, 1) := by decide +kernel
theorem dX3_stir_51 : decode cX3_stir 51 = .ok (.istore 4, 2) := by decide +kernel
theorem dX3_stir_53 : decode cX3_stir 53 = .ok (.iload 4, 2) := by decide +kernel
theorem dX3_stir_55 : decode cX3_stir 55 = .ok (.iload 4, 2) := by decide +kernel
theorem dX3_stir_57 : decode cX3_stir 57 = .ok (.bipush 13, 2) := by decide +kernel
theorem dX3_stir_59 : decode cX3_stir 59 = .ok (.iushr, 1) := by decide +kernel
theorem dX3_stir_60 : decode cX3_stir 60 = .ok (.ixor, 1) := by decide +kernel
theorem dX3_stir_61 : decode cX3_stir 61 = .ok (.ldc 188, 2) := by decide +kernel
theorem dX3_stir_63 : decode cX3_stir 63 = .ok (.imul, 1) := by decide +kernel
theorem dX3_stir_64 : decode cX3_stir 64 = .ok (.istore 4, 2) := by decide +kernel
theorem dX3_stir_66 : decode cX3_stir 66 = .ok (.iload 4, 2) := by decide +kernel
theorem dX3_stir_68 : decode cX3_stir 68 = .ok (.iload 4, 2) := by decide +kernel
theorem dX3_stir_70 : decode cX3_stir 70 = .ok (.bipush 16, 2) := by decide +kernel
theorem dX3_stir_72 : decode cX3_stir 72 = .ok (.iushr, 1) := by decide +kernel
theorem dX3_stir_73 : decode cX3_stir 73 = .ok (.ixor, 1) := by decide +kernel
theorem dX3_stir_74 : decode cX3_stir 74 = .ok (.ireturn, 1) := by decide +kernel
set_option maxRecDepth 20000 in
theorem ggX3_bit_X3_stir : GoodIn wsX3_bit wsX3_stir := goodIn_r _ [6, 7, 8, 9, 10, 11, 12, 13, 5, 14] (by decide +kernel) (by decide +kernel)
set_option maxRecDepth 20000 in
theorem gX3_bit_X3_stir : GoodIn wsX3_bit (wsV RX3 189 RX3 yX3_stir wsX3_stir) := goodIn_app (goodIn_of _ (by decide +kernel)) ggX3_bit_X3_stir
theorem dX3_bit_0 : decode cX3_bit 0 = .ok (.aload_n 0, 1) := by decide +kernel
theorem dX3_bit_1 : decode cX3_bit 1 = .ok (.iload_n 1, 1) := by decide +kernel
theorem dX3_bit_2 : decode cX3_bit 2 = .ok (.iconst 0, 1) := by decide +kernel
theorem dX3_bit_3 : decode cX3_bit 3 = .ok (.invokevirtual 189, 3) := by decide +kernel
theorem dX3_bit_6 : decode cX3_bit 6 = .ok (.iload_n 2, 1) := by decide +kernel
theorem dX3_bit_7 : decode cX3_bit 7 = .ok (.aload_n 0, 1) := by decide +kernel
theorem dX3_bit_8 : decode cX3_bit 8 = .ok (.iload_n 1, 1) := by decide +kernel
theorem dX3_bit_9 : decode cX3_bit 9 = .ok (.ldc 192, 2) := by decide +kernel
theorem dX3_bit_11 : decode cX3_bit 11 = .ok (.invokevirtual 189, 3) := by decide +kernel
theorem dX3_bit_14 : decode cX3_bit 14 = .ok (.imul, 1) := by decide +kernel
theorem dX3_bit_15 : decode cX3_bit 15 = .ok (.iadd, 1) := by decide +kernel
theorem dX3_bit_16 : decode cX3_bit 16 = .ok (.sipush 1023, 3) := by decide +kernel
theorem dX3_bit_19 : decode cX3_bit 19 = .ok (.iand, 1) := by decide +kernel
theorem dX3_bit_20 : decode cX3_bit 20 = .ok (.ireturn, 1) := by decide +kernel
set_option maxRecDepth 20000 in
theorem ggX3_setBits_X3_bit : GoodIn wsX3_setBits wsX3_bit := goodIn_r _ [7, 8, 9, 10, 11, 6, 12, 13, 14, 15, 16, 17, 18, 19, 20] (by decide +kernel) (by decide +kernel)
set_option maxRecDepth 20000 in
theorem gX3_setBits_X3_bit : GoodIn wsX3_setBits (wsV RX3 193 RX3 yX3_bit wsX3_bit) := goodIn_app (goodIn_of _ (by decide +kernel)) ggX3_setBits_X3_bit
theorem dX3_setBits_0 : decode cX3_setBits 0 = .ok (.bipush 16, 2) := by decide +kernel
theorem dX3_setBits_2 : decode cX3_setBits 2 = .ok (.istore_n 2, 1) := by decide +kernel
theorem dX3_setBits_3 : decode cX3_setBits 3 = .ok (.iload_n 2, 1) := by decide +kernel
theorem dX3_setBits_4 : decode cX3_setBits 4 = .ok (.bipush 24, 2) := by decide +kernel
theorem dX3_setBits_6 : decode cX3_setBits 6 = .ok (.if_icmp .ge 44, 3) := by decide +kernel
theorem dX3_setBits_9 : decode cX3_setBits 9 = .ok (.iconst 0, 1) := by decide +kernel
theorem dX3_setBits_10 : decode cX3_setBits 10 = .ok (.istore_n 3, 1) := by decide +kernel
theorem dX3_setBits_11 : decode cX3_setBits 11 = .ok (.iload_n 3, 1) := by decide +kernel
theorem dX3_setBits_12 : decode cX3_setBits 12 = .ok (.iconst 4, 1) := by decide +kernel
theorem dX3_setBits_13 : decode cX3_setBits 13 = .ok (.if_icmp .ge 31, 3) := by decide +kernel
theorem dX3_setBits_16 : decode cX3_setBits 16 = .ok (.aload_n 0, 1) := by decide +kernel
theorem dX3_setBits_17 : decode cX3_setBits 17 = .ok (.getfield 23, 3) := by decide +kernel
theorem dX3_setBits_20 : decode cX3_setBits 20 = .ok (.aload_n 0, 1) := by decide +kernel
theorem dX3_setBits_21 : decode cX3_setBits 21 = .ok (.aload_n 0, 1) := by decide +kernel
theorem dX3_setBits_22 : decode cX3_setBits 22 = .ok (.getfield 7, 3) := by decide +kernel
theorem dX3_setBits_25 : decode cX3_setBits 25 = .ok (.bipush 34, 2) := by decide +kernel
theorem dX3_setBits_27 : decode cX3_setBits 27 = .ok (.iload_n 1, 1) := by decide +kernel
theorem dX3_setBits_28 : decode cX3_setBits 28 = .ok (.imul, 1) := by decide +kernel
theorem dX3_setBits_29 : decode cX3_setBits 29 = .ok (.iload_n 2, 1) := by decide +kernel
theorem dX3_setBits_30 : decode cX3_setBits 30 = .ok (.iadd, 1) := by decide +kernel
theorem dX3_setBits_31 : decode cX3_setBits 31 = .ok (.iaload, 1) := by decide +kernel
theorem dX3_setBits_32 : decode cX3_setBits 32 = .ok (.iload_n 3, 1) := by decide +kernel
theorem dX3_setBits_33 : decode cX3_setBits 33 = .ok (.invokevirtual 193, 3) := by decide +kernel
theorem dX3_setBits_36 : decode cX3_setBits 36 = .ok (.iconst 1, 1) := by decide +kernel
theorem dX3_setBits_37 : decode cX3_setBits 37 = .ok (.bastore, 1) := by decide +kernel
theorem dX3_setBits_38 : decode cX3_setBits 38 = .ok (.iinc 3 1, 3) := by decide +kernel
theorem dX3_setBits_41 : decode cX3_setBits 41 = .ok (.goto (-30), 3) := by decide +kernel
theorem dX3_setBits_44 : decode cX3_setBits 44 = .ok (.iinc 2 1, 3) := by decide +kernel
theorem dX3_setBits_47 : decode cX3_setBits 47 = .ok (.goto (-44), 3) := by decide +kernel
theorem dX3_setBits_50 : decode cX3_setBits 50 = .ok (.return_, 1) := by decide +kernel
set_option maxRecDepth 20000 in
theorem ggX3_maybe_X3_bit : GoodIn wsX3_maybe wsX3_bit := goodIn_r _ [6, 7, 8, 9, 10, 5, 11, 12, 13, 14, 15, 16, 17, 18, 19] (by decide +kernel) (by decide +kernel)
set_option maxRecDepth 20000 in
theorem gX3_maybe_X3_bit : GoodIn wsX3_maybe (wsV RX3 193 RX3 yX3_bit wsX3_bit) := goodIn_app (goodIn_of _ (by decide +kernel)) ggX3_maybe_X3_bit
theorem dX3_maybe_0 : decode cX3_maybe 0 = .ok (.iconst 1, 1) := by decide +kernel
theorem dX3_maybe_1 : decode cX3_maybe 1 = .ok (.istore_n 2, 1) := by decide +kernel
theorem dX3_maybe_2 : decode cX3_maybe 2 = .ok (.iconst 0, 1) := by decide +kernel
theorem dX3_maybe_3 : decode cX3_maybe 3 = .ok (.istore_n 3, 1) := by decide +kernel
theorem dX3_maybe_4 : decode cX3_maybe 4 = .ok (.iload_n 3, 1) := by decide +kernel
theorem dX3_maybe_5 : decode cX3_maybe 5 = .ok (.iconst 4, 1) := by decide +kernel
theorem dX3_maybe_6 : decode cX3_maybe 6 = .ok (.if_icmp .ge 33, 3) := by decide +kernel
theorem dX3_maybe_9 : decode cX3_maybe 9 = .ok (.iload_n 2, 1) := by decide +kernel
theorem dX3_maybe_10 : decode cX3_maybe 10 = .ok (.ifCond .eq 21, 3) := by decide +kernel
theorem dX3_maybe_13 : decode cX3_maybe 13 = .ok (.aload_n 0, 1) := by decide +kernel
theorem dX3_maybe_14 : decode cX3_maybe 14 = .ok (.getfield 23, 3) := by decide +kernel
theorem dX3_maybe_17 : decode cX3_maybe 17 = .ok (.aload_n 0, 1) := by decide +kernel
theorem dX3_maybe_18 : decode cX3_maybe 18 = .ok (.iload_n 1, 1) := by decide +kernel
theorem dX3_maybe_19 : decode cX3_maybe 19 = .ok (.iload_n 3, 1) := by decide +kernel
theorem dX3_maybe_20 : decode cX3_maybe 20 = .ok (.invokevirtual 193, 3) := by decide +kernel
theorem dX3_maybe_23 : decode cX3_maybe 23 = .ok (.baload, 1) := by decide +kernel
theorem dX3_maybe_24 : decode cX3_maybe 24 = .ok (.ifCond .eq 7, 3) := by decide +kernel
theorem dX3_maybe_27 : decode cX3_maybe 27 = .ok (.iconst 1, 1) := by decide +kernel
theorem dX3_maybe_28 : decode cX3_maybe 28 = .ok (.goto 4, 3) := by decide +kernel
theorem dX3_maybe_31 : decode cX3_maybe 31 = .ok (.iconst 0, 1) := by decide +kernel
theorem dX3_maybe_32 : decode cX3_maybe 32 = .ok (.istore_n 2, 1) := by decide +kernel
theorem dX3_maybe_33 : decode cX3_maybe 33 = .ok (.iinc 3 1, 3) := by decide +kernel
theorem dX3_maybe_36 : decode cX3_maybe 36 = .ok (.goto (-32), 3) := by decide +kernel
theorem dX3_maybe_39 : decode cX3_maybe 39 = .ok (.iload_n 2, 1) := by decide +kernel
theorem dX3_maybe_40 : decode cX3_maybe 40 = .ok (.ireturn, 1) := by decide +kernel
set_option maxRecDepth 20000 in
theorem ggX3_may_X3_maybe : GoodIn wsX3_may wsX3_maybe := goodIn_r _ [5, 6, 7, 8, 9, 4, 10, 11, 12, 13, 14, 15, 16, 17, 18, 19, 20, 21, 22, 23, 24, 25, 26, 27, 28, 29, 30, 31, 32, 33, 34, 35, 36, 37, 38, 39, 40, 41, 42] (by decide +kernel) (by decide +kernel)
set_option maxRecDepth 20000 in
theorem gX3_may_X3_maybe : GoodIn wsX3_may (wsV RX3 196 RX3 yX3_maybe wsX3_maybe) := goodIn_app (goodIn_of _ (by decide +kernel)) ggX3_may_X3_maybe
theorem dX3_may_0 : decode cX3_may 0 = .ok (.aload_n 0, 1) := by decide +kernel
theorem dX3_may_1 : decode cX3_may 1 = .ok (.iload_n 1, 1) := by decide +kernel
theorem dX3_may_2 : decode cX3_may 2 = .ok (.invokevirtual 196, 3) := by decide +kernel
theorem dX3_may_5 : decode cX3_may 5 = .ok (.ifCond .eq 7, 3) := by decide +kernel
theorem dX3_may_8 : decode cX3_may 8 = .ok (.iconst 1, 1) := by decide +kernel
theorem dX3_may_9 : decode cX3_may 9 = .ok (.goto 4, 3) := by decide +kernel
theorem dX3_may_12 : decode cX3_may 12 = .ok (.iconst 0, 1) := by decide +kernel
theorem dX3_may_13 : decode cX3_may 13 = .ok (.ireturn, 1) := by decide +kernel
set_option maxRecDepth 20000 in
theorem ggX3_find_X3_maybe : GoodIn wsX3_find wsX3_maybe := goodIn_r _ [7, 8, 9, 10, 11, 6, 12, 13, 14, 15, 16, 17, 18, 19, 20, 21, 22, 23, 24, 25, 26, 27, 28, 29, 30, 31, 32, 33, 34, 35, 36, 37, 38, 39, 40, 41, 42, 43, 44] (by decide +kernel) (by decide +kernel)
set_option maxRecDepth 20000 in
theorem gX3_find_X3_maybe : GoodIn wsX3_find (wsV RX3 196 RX3 yX3_maybe wsX3_maybe) := goodIn_app (goodIn_of _ (by decide +kernel)) ggX3_find_X3_maybe
theorem dX3_find_0 : decode cX3_find 0 = .ok (.aload_n 0, 1) := by decide +kernel
theorem dX3_find_1 : decode cX3_find 1 = .ok (.iload_n 1, 1) := by decide +kernel
theorem dX3_find_2 : decode cX3_find 2 = .ok (.invokevirtual 196, 3) := by decide +kernel
theorem dX3_find_5 : decode cX3_find 5 = .ok (.ifCond .ne 5, 3) := by decide +kernel
theorem dX3_find_8 : decode cX3_find 8 = .ok (.iconst (-1), 1) := by decide +kernel
theorem dX3_find_9 : decode cX3_find 9 = .ok (.ireturn, 1) := by decide +kernel
theorem dX3_find_10 : decode cX3_find 10 = .ok (.iconst 0, 1) := by decide +kernel
theorem dX3_find_11 : decode cX3_find 11 = .ok (.istore_n 2, 1) := by decide +kernel
theorem dX3_find_12 : decode cX3_find 12 = .ok (.iload_n 2, 1) := by decide +kernel
theorem dX3_find_13 : decode cX3_find 13 = .ok (.aload_n 0, 1) := by decide +kernel
theorem dX3_find_14 : decode cX3_find 14 = .ok (.getfield 141, 3) := by decide +kernel
theorem dX3_find_17 : decode cX3_find 17 = .ok (.if_icmp .ge 41, 3) := by decide +kernel
theorem dX3_find_20 : decode cX3_find 20 = .ok (.bipush 16, 2) := by decide +kernel
theorem dX3_find_22 : decode cX3_find 22 = .ok (.istore_n 3, 1) := by decide +kernel
theorem dX3_find_23 : decode cX3_find 23 = .ok (.iload_n 3, 1) := by decide +kernel
theorem dX3_find_24 : decode cX3_find 24 = .ok (.bipush 24, 2) := by decide +kernel
theorem dX3_find_26 : decode cX3_find 26 = .ok (.if_icmp .ge 26, 3) := by decide +kernel
theorem dX3_find_29 : decode cX3_find 29 = .ok (.aload_n 0, 1) := by decide +kernel
theorem dX3_find_30 : decode cX3_find 30 = .ok (.getfield 7, 3) := by decide +kernel
theorem dX3_find_33 : decode cX3_find 33 = .ok (.bipush 34, 2) := by decide +kernel
theorem dX3_find_35 : decode cX3_find 35 = .ok (.iload_n 2, 1) := by decide +kernel
theorem dX3_find_36 : decode cX3_find 36 = .ok (.imul, 1) := by decide +kernel
theorem dX3_find_37 : decode cX3_find 37 = .ok (.iload_n 3, 1) := by decide +kernel
theorem dX3_find_38 : decode cX3_find 38 = .ok (.iadd, 1) := by decide +kernel
theorem dX3_find_39 : decode cX3_find 39 = .ok (.iaload, 1) := by decide +kernel
theorem dX3_find_40 : decode cX3_find 40 = .ok (.iload_n 1, 1) := by decide +kernel
theorem dX3_find_41 : decode cX3_find 41 = .ok (.if_icmp .ne 5, 3) := by decide +kernel
theorem dX3_find_44 : decode cX3_find 44 = .ok (.iload_n 2, 1) := by decide +kernel
theorem dX3_find_45 : decode cX3_find 45 = .ok (.ireturn, 1) := by decide +kernel
theorem dX3_find_46 : decode cX3_find 46 = .ok (.iinc 3 1, 3) := by decide +kernel
theorem dX3_find_49 : decode cX3_find 49 = .ok (.goto (-26), 3) := by decide +kernel
theorem dX3_find_52 : decode cX3_find 52 = .ok (.iinc 2 1, 3) := by decide +kernel
theorem dX3_find_55 : decode cX3_find 55 = .ok (.goto (-43), 3) := by decide +kernel
theorem dX3_find_58 : decode cX3_find 58 = .ok (.iconst (-1), 1) := by decide +kernel
theorem dX3_find_59 : decode cX3_find 59 = .ok (.ireturn, 1) := by decide +kernel
theorem dX3_begin_0 : decode cX3_begin 0 = .ok (.aload_n 0, 1) := by decide +kernel
theorem dX3_begin_1 : decode cX3_begin 1 = .ok (.getfield 181, 3) := by decide +kernel
theorem dX3_begin_4 : decode cX3_begin 4 = .ok (.istore_n 1, 1) := by decide +kernel
theorem dX3_begin_5 : decode cX3_begin 5 = .ok (.aload_n 0, 1) := by decide +kernel
theorem dX3_begin_6 : decode cX3_begin 6 = .ok (.iconst 0, 1) := by decide +kernel
theorem dX3_begin_7 : decode cX3_begin 7 = .ok (.putfield 181, 3) := by decide +kernel
theorem dX3_begin_10 : decode cX3_begin 10 = .ok (.iload_n 1, 1) := by decide +kernel
theorem dX3_begin_11 : decode cX3_begin 11 = .ok (.ireturn, 1) := by decide +kernel
set_option maxRecDepth 20000 in
theorem ggX3_isHashOf_X3_hashCell : GoodIn wsX3_isHashOf wsX3_hashCell := goodIn_r _ [6, 1, 7, 8, 9, 10, 11, 12, 13, 14, 15, 16, 17, 18, 19, 20, 21, 22, 23, 24, 25] (by decide +kernel) (by decide +kernel)
set_option maxRecDepth 20000 in
theorem gX3_isHashOf_X3_hashCell : GoodIn wsX3_isHashOf (wsV RX3 144 RX3 yX3_hashCell wsX3_hashCell) := goodIn_app (goodIn_of _ (by decide +kernel)) ggX3_isHashOf_X3_hashCell
theorem dX3_isHashOf_0 : decode cX3_isHashOf 0 = .ok (.iconst 1, 1) := by decide +kernel
theorem dX3_isHashOf_1 : decode cX3_isHashOf 1 = .ok (.istore_n 3, 1) := by decide +kernel
theorem dX3_isHashOf_2 : decode cX3_isHashOf 2 = .ok (.iconst 0, 1) := by decide +kernel
theorem dX3_isHashOf_3 : decode cX3_isHashOf 3 = .ok (.istore 4, 2) := by decide +kernel
theorem dX3_isHashOf_5 : decode cX3_isHashOf 5 = .ok (.iload 4, 2) := by decide +kernel
theorem dX3_isHashOf_7 : decode cX3_isHashOf 7 = .ok (.bipush 8, 2) := by decide +kernel
theorem dX3_isHashOf_9 : decode cX3_isHashOf 9 = .ok (.if_icmp .ge 46, 3) := by decide +kernel
theorem dX3_isHashOf_12 : decode cX3_isHashOf 12 = .ok (.iload_n 3, 1) := by decide +kernel
theorem dX3_isHashOf_13 : decode cX3_isHashOf 13 = .ok (.ifCond .eq 34, 3) := by decide +kernel
theorem dX3_isHashOf_16 : decode cX3_isHashOf 16 = .ok (.aload_n 0, 1) := by decide +kernel
theorem dX3_isHashOf_17 : decode cX3_isHashOf 17 = .ok (.getfield 7, 3) := by decide +kernel
theorem dX3_isHashOf_20 : decode cX3_isHashOf 20 = .ok (.iload_n 1, 1) := by decide +kernel
theorem dX3_isHashOf_21 : decode cX3_isHashOf 21 = .ok (.iload 4, 2) := by decide +kernel
theorem dX3_isHashOf_23 : decode cX3_isHashOf 23 = .ok (.iadd, 1) := by decide +kernel
theorem dX3_isHashOf_24 : decode cX3_isHashOf 24 = .ok (.iaload, 1) := by decide +kernel
theorem dX3_isHashOf_25 : decode cX3_isHashOf 25 = .ok (.iload_n 2, 1) := by decide +kernel
theorem dX3_isHashOf_26 : decode cX3_isHashOf 26 = .ok (.ifCond .ge 7, 3) := by decide +kernel
theorem dX3_isHashOf_29 : decode cX3_isHashOf 29 = .ok (.iconst 0, 1) := by decide +kernel
theorem dX3_isHashOf_30 : decode cX3_isHashOf 30 = .ok (.goto 10, 3) := by decide +kernel
theorem dX3_isHashOf_33 : decode cX3_isHashOf 33 = .ok (.aload_n 0, 1) := by decide +kernel
theorem dX3_isHashOf_34 : decode cX3_isHashOf 34 = .ok (.iload_n 2, 1) := by decide +kernel
theorem dX3_isHashOf_35 : decode cX3_isHashOf 35 = .ok (.iload 4, 2) := by decide +kernel
theorem dX3_isHashOf_37 : decode cX3_isHashOf 37 = .ok (.invokevirtual 144, 3) := by decide +kernel
theorem dX3_isHashOf_40 : decode cX3_isHashOf 40 = .ok (.if_icmp .ne 7, 3) := by decide +kernel
theorem dX3_isHashOf_43 : decode cX3_isHashOf 43 = .ok (.iconst 1, 1) := by decide +kernel
theorem dX3_isHashOf_44 : decode cX3_isHashOf 44 = .ok (.goto 4, 3) := by decide +kernel
theorem dX3_isHashOf_47 : decode cX3_isHashOf 47 = .ok (.iconst 0, 1) := by decide +kernel
theorem dX3_isHashOf_48 : decode cX3_isHashOf 48 = .ok (.istore_n 3, 1) := by decide +kernel
theorem dX3_isHashOf_49 : decode cX3_isHashOf 49 = .ok (.iinc 4 1, 3) := by decide +kernel
theorem dX3_isHashOf_52 : decode cX3_isHashOf 52 = .ok (.goto (-47), 3) := by decide +kernel
theorem dX3_isHashOf_55 : decode cX3_isHashOf 55 = .ok (.iload_n 3, 1) := by decide +kernel
theorem dX3_isHashOf_56 : decode cX3_isHashOf 56 = .ok (.ireturn, 1) := by decide +kernel
set_option maxRecDepth 20000 in
theorem ggX3_faultOf_X3_isHashOf : GoodIn wsX3_faultOf wsX3_isHashOf := goodIn_r _ [8, 2, 9, 10, 11, 7, 12, 43, 44, 45, 46, 47, 48, 49, 50, 51, 52, 53, 54, 55, 56, 57, 58, 59, 60, 61] (by decide +kernel) (by decide +kernel)
set_option maxRecDepth 20000 in
theorem gX3_faultOf_X3_isHashOf : GoodIn wsX3_faultOf (wsV RX3 200 RX3 yX3_isHashOf wsX3_isHashOf) := goodIn_app (goodIn_of _ (by decide +kernel)) ggX3_faultOf_X3_isHashOf
set_option maxRecDepth 20000 in
theorem ggX3_faultOf_X3_lowest : GoodIn wsX3_faultOf wsX3_lowest := goodIn_r _ [15] (by decide +kernel) (by decide +kernel)
set_option maxRecDepth 20000 in
theorem gX3_faultOf_X3_lowest : GoodIn wsX3_faultOf (va_wsS RX3 147 yX3_lowest wsX3_lowest) := goodIn_app (goodIn_of _ (by decide +kernel)) ggX3_faultOf_X3_lowest
set_option maxRecDepth 20000 in
theorem ggX3_faultOf_X3_mixFirst : GoodIn wsX3_faultOf wsX3_mixFirst := goodIn_r _ [19, 3, 20, 21, 1, 22, 23, 24, 25, 7, 26, 27, 28, 29, 30, 43, 44, 45, 46, 47, 48, 49, 50, 51, 52, 53, 54, 55, 56, 57, 58, 59, 60, 61] (by decide +kernel) (by decide +kernel)
set_option maxRecDepth 20000 in
theorem gX3_faultOf_X3_mixFirst : GoodIn wsX3_faultOf (wsV RX3 163 RX3 yX3_mixFirst wsX3_mixFirst) := goodIn_app (goodIn_of _ (by decide +kernel)) ggX3_faultOf_X3_mixFirst
set_option maxRecDepth 20000 in
theorem ggX3_faultOf_X3_mixSecond : GoodIn wsX3_faultOf wsX3_mixSecond := goodIn_r _ [34, 3, 22, 21, 1, 35, 23, 24, 25, 7, 26, 27, 28, 29, 30, 43, 44, 45, 46, 47, 48, 49, 50, 51, 52, 53, 54, 55, 56, 57, 58, 59, 60, 61] (by decide +kernel) (by decide +kernel)
set_option maxRecDepth 20000 in
theorem gX3_faultOf_X3_mixSecond : GoodIn wsX3_faultOf (wsV RX3 166 RX3 yX3_mixSecond wsX3_mixSecond) := goodIn_app (goodIn_of _ (by decide +kernel)) ggX3_faultOf_X3_mixSecond
set_option maxRecDepth 20000 in
theorem ggX3_faultOf_X3_hashCell : GoodIn wsX3_faultOf wsX3_hashCell := goodIn_r _ [12, 2, 43, 44, 45, 46, 47, 48, 49, 50, 51, 52, 53, 54, 55, 56, 57, 58, 59, 60, 61] (by decide +kernel) (by decide +kernel)
set_option maxRecDepth 20000 in
theorem gX3_faultOf_X3_hashCell : GoodIn wsX3_faultOf (wsV RX3 144 RX3 yX3_hashCell wsX3_hashCell) := goodIn_app (goodIn_of _ (by decide +kernel)) ggX3_faultOf_X3_hashCell
set_option maxRecDepth 20000 in
theorem ggX3_faultOf_X3_zeros : GoodIn wsX3_faultOf wsX3_zeros := goodIn_r _ [39, 3, 40, 41, 7, 42, 43, 44, 45, 46, 47, 48, 49, 50, 51, 52, 53, 54, 55, 56, 57, 58, 59, 60, 61] (by decide +kernel) (by decide +kernel)
set_option maxRecDepth 20000 in
theorem gX3_faultOf_X3_zeros : GoodIn wsX3_faultOf (wsV RX3 169 RX3 yX3_zeros wsX3_zeros) := goodIn_app (goodIn_of _ (by decide +kernel)) ggX3_faultOf_X3_zeros
theorem dX3_faultOf_0 : decode cX3_faultOf 0 = .ok (.aload_n 0, 1) := by decide +kernel
theorem dX3_faultOf_1 : decode cX3_faultOf 1 = .ok (.bipush 34, 2) := by decide +kernel
theorem dX3_faultOf_3 : decode cX3_faultOf 3 = .ok (.iload_n 1, 1) := by decide +kernel
theorem dX3_faultOf_4 : decode cX3_faultOf 4 = .ok (.imul, 1) := by decide +kernel
theorem dX3_faultOf_5 : decode cX3_faultOf 5 = .ok (.iload_n 1, 1) := by decide +kernel
theorem dX3_faultOf_6 : decode cX3_faultOf 6 = .ok (.iconst 1, 1) := by decide +kernel
theorem dX3_faultOf_7 : decode cX3_faultOf 7 = .ok (.isub, 1) := by decide +kernel
theorem dX3_faultOf_8 : decode cX3_faultOf 8 = .ok (.invokevirtual 200, 3) := by decide +kernel
theorem dX3_faultOf_11 : decode cX3_faultOf 11 = .ok (.ifCond .ne 5, 3) := by decide +kernel
theorem dX3_faultOf_14 : decode cX3_faultOf 14 = .ok (.iconst 1, 1) := by decide +kernel
theorem dX3_faultOf_15 : decode cX3_faultOf 15 = .ok (.ireturn, 1) := by decide +kernel
theorem dX3_faultOf_16 : decode cX3_faultOf 16 = .ok (.aload_n 0, 1) := by decide +kernel
theorem dX3_faultOf_17 : decode cX3_faultOf 17 = .ok (.bipush 34, 2) := by decide +kernel
theorem dX3_faultOf_19 : decode cX3_faultOf 19 = .ok (.iload_n 1, 1) := by decide +kernel
theorem dX3_faultOf_20 : decode cX3_faultOf 20 = .ok (.imul, 1) := by decide +kernel
theorem dX3_faultOf_21 : decode cX3_faultOf 21 = .ok (.bipush 8, 2) := by decide +kernel
theorem dX3_faultOf_23 : decode cX3_faultOf 23 = .ok (.iadd, 1) := by decide +kernel
theorem dX3_faultOf_24 : decode cX3_faultOf 24 = .ok (.iload_n 1, 1) := by decide +kernel
theorem dX3_faultOf_25 : decode cX3_faultOf 25 = .ok (.ifCond .ne 7, 3) := by decide +kernel
theorem dX3_faultOf_28 : decode cX3_faultOf 28 = .ok (.iconst (-1), 1) := by decide +kernel
theorem dX3_faultOf_29 : decode cX3_faultOf 29 = .ok (.goto 9, 3) := by decide +kernel
theorem dX3_faultOf_32 : decode cX3_faultOf 32 = .ok (.iload_n 1, 1) := by decide +kernel
theorem dX3_faultOf_33 : decode cX3_faultOf 33 = .ok (.iload_n 1, 1) := by decide +kernel
theorem dX3_faultOf_34 : decode cX3_faultOf 34 = .ok (.invokestatic 147, 3) := by decide +kernel
theorem dX3_faultOf_37 : decode cX3_faultOf 37 = .ok (.isub, 1) := by decide +kernel
theorem dX3_faultOf_38 : decode cX3_faultOf 38 = .ok (.invokevirtual 200, 3) := by decide +kernel
theorem dX3_faultOf_41 : decode cX3_faultOf 41 = .ok (.ifCond .ne 5, 3) := by decide +kernel
theorem dX3_faultOf_44 : decode cX3_faultOf 44 = .ok (.iconst 2, 1) := by decide +kernel
theorem dX3_faultOf_45 : decode cX3_faultOf 45 = .ok (.ireturn, 1) := by decide +kernel
theorem dX3_faultOf_46 : decode cX3_faultOf 46 = .ok (.iconst 0, 1) := by decide +kernel
theorem dX3_faultOf_47 : decode cX3_faultOf 47 = .ok (.istore_n 2, 1) := by decide +kernel
theorem dX3_faultOf_48 : decode cX3_faultOf 48 = .ok (.iload_n 2, 1) := by decide +kernel
theorem dX3_faultOf_49 : decode cX3_faultOf 49 = .ok (.bipush 26, 2) := by decide +kernel
theorem dX3_faultOf_51 : decode cX3_faultOf 51 = .ok (.if_icmp .ge 26, 3) := by decide +kernel
theorem dX3_faultOf_54 : decode cX3_faultOf 54 = .ok (.aload_n 0, 1) := by decide +kernel
theorem dX3_faultOf_55 : decode cX3_faultOf 55 = .ok (.getfield 45, 3) := by decide +kernel
theorem dX3_faultOf_58 : decode cX3_faultOf 58 = .ok (.iload_n 2, 1) := by decide +kernel
theorem dX3_faultOf_59 : decode cX3_faultOf 59 = .ok (.aload_n 0, 1) := by decide +kernel
theorem dX3_faultOf_60 : decode cX3_faultOf 60 = .ok (.getfield 7, 3) := by decide +kernel
theorem dX3_faultOf_63 : decode cX3_faultOf 63 = .ok (.bipush 34, 2) := by decide +kernel
theorem dX3_faultOf_65 : decode cX3_faultOf 65 = .ok (.iload_n 1, 1) := by decide +kernel
theorem dX3_faultOf_66 : decode cX3_faultOf 66 = .ok (.imul, 1) := by decide +kernel
theorem dX3_faultOf_67 : decode cX3_faultOf 67 = .ok (.iload_n 2, 1) := by decide +kernel
theorem dX3_faultOf_68 : decode cX3_faultOf 68 = .ok (.iadd, 1) := by decide +kernel
theorem dX3_faultOf_69 : decode cX3_faultOf 69 = .ok (.iaload, 1) := by decide +kernel
theorem dX3_faultOf_70 : decode cX3_faultOf 70 = .ok (.iastore, 1) := by decide +kernel
theorem dX3_faultOf_71 : decode cX3_faultOf 71 = .ok (.iinc 2 1, 3) := by decide +kernel
theorem dX3_faultOf_74 : decode cX3_faultOf 74 = .ok (.goto (-26), 3) := by decide +kernel
theorem dX3_faultOf_77 : decode cX3_faultOf 77 = .ok (.aload_n 0, 1) := by decide +kernel
theorem dX3_faultOf_78 : decode cX3_faultOf 78 = .ok (.invokevirtual 163, 3) := by decide +kernel
theorem dX3_faultOf_81 : decode cX3_faultOf 81 = .ok (.aload_n 0, 1) := by decide +kernel
theorem dX3_faultOf_82 : decode cX3_faultOf 82 = .ok (.invokevirtual 166, 3) := by decide +kernel
theorem dX3_faultOf_85 : decode cX3_faultOf 85 = .ok (.iconst 0, 1) := by decide +kernel
theorem dX3_faultOf_86 : decode cX3_faultOf 86 = .ok (.istore_n 2, 1) := by decide +kernel
theorem dX3_faultOf_87 : decode cX3_faultOf 87 = .ok (.iload_n 2, 1) := by decide +kernel
theorem dX3_faultOf_88 : decode cX3_faultOf 88 = .ok (.bipush 8, 2) := by decide +kernel
theorem dX3_faultOf_90 : decode cX3_faultOf 90 = .ok (.if_icmp .ge 26, 3) := by decide +kernel
theorem dX3_faultOf_93 : decode cX3_faultOf 93 = .ok (.aload_n 0, 1) := by decide +kernel
theorem dX3_faultOf_94 : decode cX3_faultOf 94 = .ok (.getfield 36, 3) := by decide +kernel
theorem dX3_faultOf_97 : decode cX3_faultOf 97 = .ok (.iload_n 2, 1) := by decide +kernel
theorem dX3_faultOf_98 : decode cX3_faultOf 98 = .ok (.iaload, 1) := by decide +kernel
theorem dX3_faultOf_99 : decode cX3_faultOf 99 = .ok (.aload_n 0, 1) := by decide +kernel
theorem dX3_faultOf_100 : decode cX3_faultOf 100 = .ok (.iload_n 1, 1) := by decide +kernel
theorem dX3_faultOf_101 : decode cX3_faultOf 101 = .ok (.iload_n 2, 1) := by decide +kernel
theorem dX3_faultOf_102 : decode cX3_faultOf 102 = .ok (.invokevirtual 144, 3) := by decide +kernel
theorem dX3_faultOf_105 : decode cX3_faultOf 105 = .ok (.if_icmp .eq 5, 3) := by decide +kernel
theorem dX3_faultOf_108 : decode cX3_faultOf 108 = .ok (.iconst 3, 1) := by decide +kernel
theorem dX3_faultOf_109 : decode cX3_faultOf 109 = .ok (.ireturn, 1) := by decide +kernel
theorem dX3_faultOf_110 : decode cX3_faultOf 110 = .ok (.iinc 2 1, 3) := by decide +kernel
theorem dX3_faultOf_113 : decode cX3_faultOf 113 = .ok (.goto (-26), 3) := by decide +kernel
theorem dX3_faultOf_116 : decode cX3_faultOf 116 = .ok (.aload_n 0, 1) := by decide +kernel
theorem dX3_faultOf_117 : decode cX3_faultOf 117 = .ok (.invokevirtual 169, 3) := by decide +kernel
theorem dX3_faultOf_120 : decode cX3_faultOf 120 = .ok (.aload_n 0, 1) := by decide +kernel
theorem dX3_faultOf_121 : decode cX3_faultOf 121 = .ok (.getfield 7, 3) := by decide +kernel
theorem dX3_faultOf_124 : decode cX3_faultOf 124 = .ok (.bipush 34, 2) := by decide +kernel
theorem dX3_faultOf_126 : decode cX3_faultOf 126 = .ok (.iload_n 1, 1) := by decide +kernel
theorem dX3_faultOf_127 : decode cX3_faultOf 127 = .ok (.imul, 1) := by decide +kernel
theorem dX3_faultOf_128 : decode cX3_faultOf 128 = .ok (.bipush 24, 2) := by decide +kernel
theorem dX3_faultOf_130 : decode cX3_faultOf 130 = .ok (.iadd, 1) := by decide +kernel
theorem dX3_faultOf_131 : decode cX3_faultOf 131 = .ok (.iaload, 1) := by decide +kernel
theorem dX3_faultOf_132 : decode cX3_faultOf 132 = .ok (.iconst 4, 1) := by decide +kernel
theorem dX3_faultOf_133 : decode cX3_faultOf 133 = .ok (.iushr, 1) := by decide +kernel
theorem dX3_faultOf_134 : decode cX3_faultOf 134 = .ok (.if_icmp .ge 7, 3) := by decide +kernel
theorem dX3_faultOf_137 : decode cX3_faultOf 137 = .ok (.iconst 4, 1) := by decide +kernel
theorem dX3_faultOf_138 : decode cX3_faultOf 138 = .ok (.goto 4, 3) := by decide +kernel
theorem dX3_faultOf_141 : decode cX3_faultOf 141 = .ok (.iconst 0, 1) := by decide +kernel
theorem dX3_faultOf_142 : decode cX3_faultOf 142 = .ok (.ireturn, 1) := by decide +kernel
set_option maxRecDepth 20000 in
theorem ggX3_isHeadRight_X3_hashCell : GoodIn wsX3_isHeadRight wsX3_hashCell := goodIn_r _ [7, 8, 9, 10, 11, 12, 13, 14, 15, 16, 17, 18, 19, 20, 21, 22, 23, 24, 25, 26, 27] (by decide +kernel) (by decide +kernel)
set_option maxRecDepth 20000 in
theorem gX3_isHeadRight_X3_hashCell : GoodIn wsX3_isHeadRight (wsV RX3 144 RX3 yX3_hashCell wsX3_hashCell) := goodIn_app (goodIn_of _ (by decide +kernel)) ggX3_isHeadRight_X3_hashCell
theorem dX3_isHeadRight_0 : decode cX3_isHeadRight 0 = .ok (.iconst 1, 1) := by decide +kernel
theorem dX3_isHeadRight_1 : decode cX3_isHeadRight 1 = .ok (.istore_n 1, 1) := by decide +kernel
theorem dX3_isHeadRight_2 : decode cX3_isHeadRight 2 = .ok (.iconst 0, 1) := by decide +kernel
theorem dX3_isHeadRight_3 : decode cX3_isHeadRight 3 = .ok (.istore_n 2, 1) := by decide +kernel
theorem dX3_isHeadRight_4 : decode cX3_isHeadRight 4 = .ok (.iload_n 2, 1) := by decide +kernel
theorem dX3_isHeadRight_5 : decode cX3_isHeadRight 5 = .ok (.bipush 8, 2) := by decide +kernel
theorem dX3_isHeadRight_7 : decode cX3_isHeadRight 7 = .ok (.if_icmp .ge 50, 3) := by decide +kernel
theorem dX3_isHeadRight_10 : decode cX3_isHeadRight 10 = .ok (.iload_n 1, 1) := by decide +kernel
theorem dX3_isHeadRight_11 : decode cX3_isHeadRight 11 = .ok (.ifCond .eq 38, 3) := by decide +kernel
theorem dX3_isHeadRight_14 : decode cX3_isHeadRight 14 = .ok (.aload_n 0, 1) := by decide +kernel
theorem dX3_isHeadRight_15 : decode cX3_isHeadRight 15 = .ok (.getfield 13, 3) := by decide +kernel
theorem dX3_isHeadRight_18 : decode cX3_isHeadRight 18 = .ok (.iload_n 2, 1) := by decide +kernel
theorem dX3_isHeadRight_19 : decode cX3_isHeadRight 19 = .ok (.iaload, 1) := by decide +kernel
theorem dX3_isHeadRight_20 : decode cX3_isHeadRight 20 = .ok (.aload_n 0, 1) := by decide +kernel
theorem dX3_isHeadRight_21 : decode cX3_isHeadRight 21 = .ok (.getfield 141, 3) := by decide +kernel
theorem dX3_isHeadRight_24 : decode cX3_isHeadRight 24 = .ok (.ifCond .ne 7, 3) := by decide +kernel
theorem dX3_isHeadRight_27 : decode cX3_isHeadRight 27 = .ok (.iconst 0, 1) := by decide +kernel
theorem dX3_isHeadRight_28 : decode cX3_isHeadRight 28 = .ok (.goto 14, 3) := by decide +kernel
theorem dX3_isHeadRight_31 : decode cX3_isHeadRight 31 = .ok (.aload_n 0, 1) := by decide +kernel
theorem dX3_isHeadRight_32 : decode cX3_isHeadRight 32 = .ok (.aload_n 0, 1) := by decide +kernel
theorem dX3_isHeadRight_33 : decode cX3_isHeadRight 33 = .ok (.getfield 141, 3) := by decide +kernel
theorem dX3_isHeadRight_36 : decode cX3_isHeadRight 36 = .ok (.iconst 1, 1) := by decide +kernel
theorem dX3_isHeadRight_37 : decode cX3_isHeadRight 37 = .ok (.isub, 1) := by decide +kernel
theorem dX3_isHeadRight_38 : decode cX3_isHeadRight 38 = .ok (.iload_n 2, 1) := by decide +kernel
theorem dX3_isHeadRight_39 : decode cX3_isHeadRight 39 = .ok (.invokevirtual 144, 3) := by decide +kernel
theorem dX3_isHeadRight_42 : decode cX3_isHeadRight 42 = .ok (.if_icmp .ne 7, 3) := by decide +kernel
theorem dX3_isHeadRight_45 : decode cX3_isHeadRight 45 = .ok (.iconst 1, 1) := by decide +kernel
theorem dX3_isHeadRight_46 : decode cX3_isHeadRight 46 = .ok (.goto 4, 3) := by decide +kernel
theorem dX3_isHeadRight_49 : decode cX3_isHeadRight 49 = .ok (.iconst 0, 1) := by decide +kernel
theorem dX3_isHeadRight_50 : decode cX3_isHeadRight 50 = .ok (.istore_n 1, 1) := by decide +kernel
theorem dX3_isHeadRight_51 : decode cX3_isHeadRight 51 = .ok (.iinc 2 1, 3) := by decide +kernel
theorem dX3_isHeadRight_54 : decode cX3_isHeadRight 54 = .ok (.goto (-50), 3) := by decide +kernel
theorem dX3_isHeadRight_57 : decode cX3_isHeadRight 57 = .ok (.iload_n 1, 1) := by decide +kernel
theorem dX3_isHeadRight_58 : decode cX3_isHeadRight 58 = .ok (.ireturn, 1) := by decide +kernel
set_option maxRecDepth 20000 in
theorem ggX3_audit_X3_faultOf : GoodIn wsX3_audit wsX3_faultOf := goodIn_r _ [8, 9, 10, 11, 12, 13, 14, 7, 15, 16, 17, 18, 19, 20, 21, 22, 23, 24, 25, 26, 27, 28, 29, 30, 31, 32, 33, 34, 35, 36, 37, 38, 39, 40, 41, 42, 43, 44, 45, 46, 47, 48, 49, 55, 56, 57, 58, 59, 60, 61, 62, 63, 64, 65, 66, 67, 68, 69, 70, 71, 72, 73] (by decide +kernel) (by decide +kernel)
set_option maxRecDepth 20000 in
theorem gX3_audit_X3_faultOf : GoodIn wsX3_audit (wsV RX3 206 RX3 yX3_faultOf wsX3_faultOf) := goodIn_app (goodIn_of _ (by decide +kernel)) ggX3_audit_X3_faultOf
set_option maxRecDepth 20000 in
theorem ggX3_audit_X3_isHeadRight : GoodIn wsX3_audit wsX3_isHeadRight := goodIn_r _ [53, 54, 3, 16, 17, 18, 7, 19, 10, 55, 56, 57, 58, 59, 60, 61, 62, 63, 64, 65, 66, 67, 68, 69, 70, 71, 72, 73] (by decide +kernel) (by decide +kernel)
set_option maxRecDepth 20000 in
theorem gX3_audit_X3_isHeadRight : GoodIn wsX3_audit (wsV RX3 209 RX3 yX3_isHeadRight wsX3_isHeadRight) := goodIn_app (goodIn_of _ (by decide +kernel)) ggX3_audit_X3_isHeadRight
theorem dX3_audit_0 : decode cX3_audit 0 = .ok (.iload_n 1, 1) := by decide +kernel
theorem dX3_audit_1 : decode cX3_audit 1 = .ok (.iconst 1, 1) := by decide +kernel
theorem dX3_audit_2 : decode cX3_audit 2 = .ok (.if_icmp .lt 9, 3) := by decide +kernel
theorem dX3_audit_5 : decode cX3_audit 5 = .ok (.iload_n 1, 1) := by decide +kernel
theorem dX3_audit_6 : decode cX3_audit 6 = .ok (.bipush 100, 2) := by decide +kernel
theorem dX3_audit_8 : decode cX3_audit 8 = .ok (.if_icmp .le 6, 3) := by decide +kernel
theorem dX3_audit_11 : decode cX3_audit 11 = .ok (.bipush (-2), 2) := by decide +kernel
theorem dX3_audit_13 : decode cX3_audit 13 = .ok (.ireturn, 1) := by decide +kernel
theorem dX3_audit_14 : decode cX3_audit 14 = .ok (.aload_n 0, 1) := by decide +kernel
theorem dX3_audit_15 : decode cX3_audit 15 = .ok (.iconst 0, 1) := by decide +kernel
theorem dX3_audit_16 : decode cX3_audit 16 = .ok (.putfield 203, 3) := by decide +kernel
theorem dX3_audit_19 : decode cX3_audit 19 = .ok (.iconst 0, 1) := by decide +kernel
theorem dX3_audit_20 : decode cX3_audit 20 = .ok (.istore_n 2, 1) := by decide +kernel
theorem dX3_audit_21 : decode cX3_audit 21 = .ok (.iload_n 2, 1) := by decide +kernel
theorem dX3_audit_22 : decode cX3_audit 22 = .ok (.iload_n 1, 1) := by decide +kernel
theorem dX3_audit_23 : decode cX3_audit 23 = .ok (.if_icmp .ge 54, 3) := by decide +kernel
theorem dX3_audit_26 : decode cX3_audit 26 = .ok (.aload_n 0, 1) := by decide +kernel
theorem dX3_audit_27 : decode cX3_audit 27 = .ok (.getfield 181, 3) := by decide +kernel
theorem dX3_audit_30 : decode cX3_audit 30 = .ok (.aload_n 0, 1) := by decide +kernel
theorem dX3_audit_31 : decode cX3_audit 31 = .ok (.getfield 141, 3) := by decide +kernel
theorem dX3_audit_34 : decode cX3_audit 34 = .ok (.if_icmp .ge 43, 3) := by decide +kernel
theorem dX3_audit_37 : decode cX3_audit 37 = .ok (.aload_n 0, 1) := by decide +kernel
theorem dX3_audit_38 : decode cX3_audit 38 = .ok (.aload_n 0, 1) := by decide +kernel
theorem dX3_audit_39 : decode cX3_audit 39 = .ok (.aload_n 0, 1) := by decide +kernel
theorem dX3_audit_40 : decode cX3_audit 40 = .ok (.getfield 181, 3) := by decide +kernel
theorem dX3_audit_43 : decode cX3_audit 43 = .ok (.invokevirtual 206, 3) := by decide +kernel
theorem dX3_audit_46 : decode cX3_audit 46 = .ok (.putfield 203, 3) := by decide +kernel
theorem dX3_audit_49 : decode cX3_audit 49 = .ok (.aload_n 0, 1) := by decide +kernel
theorem dX3_audit_50 : decode cX3_audit 50 = .ok (.getfield 203, 3) := by decide +kernel
theorem dX3_audit_53 : decode cX3_audit 53 = .ok (.ifCond .le 8, 3) := by decide +kernel
theorem dX3_audit_56 : decode cX3_audit 56 = .ok (.aload_n 0, 1) := by decide +kernel
theorem dX3_audit_57 : decode cX3_audit 57 = .ok (.getfield 181, 3) := by decide +kernel
theorem dX3_audit_60 : decode cX3_audit 60 = .ok (.ireturn, 1) := by decide +kernel
theorem dX3_audit_61 : decode cX3_audit 61 = .ok (.aload_n 0, 1) := by decide +kernel
theorem dX3_audit_62 : decode cX3_audit 62 = .ok (.dup, 1) := by decide +kernel
theorem dX3_audit_63 : decode cX3_audit 63 = .ok (.getfield 181, 3) := by decide +kernel
theorem dX3_audit_66 : decode cX3_audit 66 = .ok (.iconst 1, 1) := by decide +kernel
theorem dX3_audit_67 : decode cX3_audit 67 = .ok (.iadd, 1) := by decide +kernel
theorem dX3_audit_68 : decode cX3_audit 68 = .ok (.putfield 181, 3) := by decide +kernel
theorem dX3_audit_71 : decode cX3_audit 71 = .ok (.iinc 2 1, 3) := by decide +kernel
theorem dX3_audit_74 : decode cX3_audit 74 = .ok (.goto (-53), 3) := by decide +kernel
theorem dX3_audit_77 : decode cX3_audit 77 = .ok (.iload_n 2, 1) := by decide +kernel
theorem dX3_audit_78 : decode cX3_audit 78 = .ok (.iload_n 1, 1) := by decide +kernel
theorem dX3_audit_79 : decode cX3_audit 79 = .ok (.if_icmp .ne 5, 3) := by decide +kernel
theorem dX3_audit_82 : decode cX3_audit 82 = .ok (.iconst (-1), 1) := by decide +kernel
theorem dX3_audit_83 : decode cX3_audit 83 = .ok (.ireturn, 1) := by decide +kernel
theorem dX3_audit_84 : decode cX3_audit 84 = .ok (.aload_n 0, 1) := by decide +kernel
theorem dX3_audit_85 : decode cX3_audit 85 = .ok (.invokevirtual 209, 3) := by decide +kernel
theorem dX3_audit_88 : decode cX3_audit 88 = .ok (.ifCond .eq 6, 3) := by decide +kernel
theorem dX3_audit_91 : decode cX3_audit 91 = .ok (.bipush (-5), 2) := by decide +kernel
theorem dX3_audit_93 : decode cX3_audit 93 = .ok (.ireturn, 1) := by decide +kernel
theorem dX3_audit_94 : decode cX3_audit 94 = .ok (.aload_n 0, 1) := by decide +kernel
theorem dX3_audit_95 : decode cX3_audit 95 = .ok (.aload_n 0, 1) := by decide +kernel
theorem dX3_audit_96 : decode cX3_audit 96 = .ok (.getfield 141, 3) := by decide +kernel
theorem dX3_audit_99 : decode cX3_audit 99 = .ok (.ifCond .ne 8, 3) := by decide +kernel
theorem dX3_audit_102 : decode cX3_audit 102 = .ok (.bipush 6, 2) := by decide +kernel
theorem dX3_audit_104 : decode cX3_audit 104 = .ok (.goto 4, 3) := by decide +kernel
theorem dX3_audit_107 : decode cX3_audit 107 = .ok (.iconst 5, 1) := by decide +kernel
theorem dX3_audit_108 : decode cX3_audit 108 = .ok (.putfield 203, 3) := by decide +kernel
theorem dX3_audit_111 : decode cX3_audit 111 = .ok (.aload_n 0, 1) := by decide +kernel
theorem dX3_audit_112 : decode cX3_audit 112 = .ok (.getfield 141, 3) := by decide +kernel
theorem dX3_audit_115 : decode cX3_audit 115 = .ok (.ifCond .ne 7, 3) := by decide +kernel
theorem dX3_audit_118 : decode cX3_audit 118 = .ok (.iconst 0, 1) := by decide +kernel
theorem dX3_audit_119 : decode cX3_audit 119 = .ok (.goto 9, 3) := by decide +kernel
theorem dX3_audit_122 : decode cX3_audit 122 = .ok (.aload_n 0, 1) := by decide +kernel
theorem dX3_audit_123 : decode cX3_audit 123 = .ok (.getfield 141, 3) := by decide +kernel
theorem dX3_audit_126 : decode cX3_audit 126 = .ok (.iconst 1, 1) := by decide +kernel
theorem dX3_audit_127 : decode cX3_audit 127 = .ok (.isub, 1) := by decide +kernel
theorem dX3_audit_128 : decode cX3_audit 128 = .ok (.ireturn, 1) := by decide +kernel
theorem dX3_fault_0 : decode cX3_fault 0 = .ok (.aload_n 0, 1) := by decide +kernel
theorem dX3_fault_1 : decode cX3_fault 1 = .ok (.getfield 203, 3) := by decide +kernel
theorem dX3_fault_4 : decode cX3_fault 4 = .ok (.ireturn, 1) := by decide +kernel
set_option maxRecDepth 20000 in
theorem ggX3_next_X3_lowest : GoodIn wsX3_next wsX3_lowest := goodIn_r _ [4] (by decide +kernel) (by decide +kernel)
set_option maxRecDepth 20000 in
theorem gX3_next_X3_lowest : GoodIn wsX3_next (va_wsS RX3 147 yX3_lowest wsX3_lowest) := goodIn_app (goodIn_of _ (by decide +kernel)) ggX3_next_X3_lowest
theorem dX3_next_0 : decode cX3_next 0 = .ok (.iload_n 1, 1) := by decide +kernel
theorem dX3_next_1 : decode cX3_next 1 = .ok (.iload_n 1, 1) := by decide +kernel
theorem dX3_next_2 : decode cX3_next 2 = .ok (.invokestatic 147, 3) := by decide +kernel
theorem dX3_next_5 : decode cX3_next 5 = .ok (.isub, 1) := by decide +kernel
theorem dX3_next_6 : decode cX3_next 6 = .ok (.iload_n 2, 1) := by decide +kernel
theorem dX3_next_7 : decode cX3_next 7 = .ok (.if_icmp .lt 12, 3) := by decide +kernel
theorem dX3_next_10 : decode cX3_next 10 = .ok (.iload_n 1, 1) := by decide +kernel
theorem dX3_next_11 : decode cX3_next 11 = .ok (.iload_n 1, 1) := by decide +kernel
theorem dX3_next_12 : decode cX3_next 12 = .ok (.invokestatic 147, 3) := by decide +kernel
theorem dX3_next_15 : decode cX3_next 15 = .ok (.isub, 1) := by decide +kernel
theorem dX3_next_16 : decode cX3_next 16 = .ok (.goto 6, 3) := by decide +kernel
theorem dX3_next_19 : decode cX3_next 19 = .ok (.iload_n 1, 1) := by decide +kernel
theorem dX3_next_20 : decode cX3_next 20 = .ok (.iconst 1, 1) := by decide +kernel
theorem dX3_next_21 : decode cX3_next 21 = .ok (.isub, 1) := by decide +kernel
theorem dX3_next_22 : decode cX3_next 22 = .ok (.ireturn, 1) := by decide +kernel
set_option maxRecDepth 20000 in
theorem ggX3_way_X3_next : GoodIn wsX3_way wsX3_next := goodIn_r _ [6, 7, 8, 5, 9] (by decide +kernel) (by decide +kernel)
set_option maxRecDepth 20000 in
theorem gX3_way_X3_next : GoodIn wsX3_way (wsV RX3 213 RX3 yX3_next wsX3_next) := goodIn_app (goodIn_of _ (by decide +kernel)) ggX3_way_X3_next
theorem dX3_way_0 : decode cX3_way 0 = .ok (.iload_n 1, 1) := by decide +kernel
theorem dX3_way_1 : decode cX3_way 1 = .ok (.ifCond .lt 11, 3) := by decide +kernel
theorem dX3_way_4 : decode cX3_way 4 = .ok (.iload_n 1, 1) := by decide +kernel
theorem dX3_way_5 : decode cX3_way 5 = .ok (.aload_n 0, 1) := by decide +kernel
theorem dX3_way_6 : decode cX3_way 6 = .ok (.getfield 141, 3) := by decide +kernel
theorem dX3_way_9 : decode cX3_way 9 = .ok (.if_icmp .lt 6, 3) := by decide +kernel
theorem dX3_way_12 : decode cX3_way 12 = .ok (.bipush (-2), 2) := by decide +kernel
theorem dX3_way_14 : decode cX3_way 14 = .ok (.ireturn, 1) := by decide +kernel
theorem dX3_way_15 : decode cX3_way 15 = .ok (.iload_n 2, 1) := by decide +kernel
theorem dX3_way_16 : decode cX3_way 16 = .ok (.ifCond .ge 5, 3) := by decide +kernel
theorem dX3_way_19 : decode cX3_way 19 = .ok (.iconst (-1), 1) := by decide +kernel
theorem dX3_way_20 : decode cX3_way 20 = .ok (.ireturn, 1) := by decide +kernel
theorem dX3_way_21 : decode cX3_way 21 = .ok (.aload_n 0, 1) := by decide +kernel
theorem dX3_way_22 : decode cX3_way 22 = .ok (.getfield 141, 3) := by decide +kernel
theorem dX3_way_25 : decode cX3_way 25 = .ok (.iconst 1, 1) := by decide +kernel
theorem dX3_way_26 : decode cX3_way 26 = .ok (.isub, 1) := by decide +kernel
theorem dX3_way_27 : decode cX3_way 27 = .ok (.istore_n 3, 1) := by decide +kernel
theorem dX3_way_28 : decode cX3_way 28 = .ok (.iconst 0, 1) := by decide +kernel
theorem dX3_way_29 : decode cX3_way 29 = .ok (.istore 4, 2) := by decide +kernel
theorem dX3_way_31 : decode cX3_way 31 = .ok (.iload 4, 2) := by decide +kernel
theorem dX3_way_33 : decode cX3_way 33 = .ok (.iload_n 2, 1) := by decide +kernel
theorem dX3_way_34 : decode cX3_way 34 = .ok (.if_icmp .ge 21, 3) := by decide +kernel
theorem dX3_way_37 : decode cX3_way 37 = .ok (.iload_n 3, 1) := by decide +kernel
theorem dX3_way_38 : decode cX3_way 38 = .ok (.iload_n 1, 1) := by decide +kernel
theorem dX3_way_39 : decode cX3_way 39 = .ok (.if_icmp .le 16, 3) := by decide +kernel
theorem dX3_way_42 : decode cX3_way 42 = .ok (.aload_n 0, 1) := by decide +kernel
theorem dX3_way_43 : decode cX3_way 43 = .ok (.iload_n 3, 1) := by decide +kernel
theorem dX3_way_44 : decode cX3_way 44 = .ok (.iload_n 1, 1) := by decide +kernel
theorem dX3_way_45 : decode cX3_way 45 = .ok (.invokevirtual 213, 3) := by decide +kernel
theorem dX3_way_48 : decode cX3_way 48 = .ok (.istore_n 3, 1) := by decide +kernel
theorem dX3_way_49 : decode cX3_way 49 = .ok (.iinc 4 1, 3) := by decide +kernel
theorem dX3_way_52 : decode cX3_way 52 = .ok (.goto (-21), 3) := by decide +kernel
theorem dX3_way_55 : decode cX3_way 55 = .ok (.iload 4, 2) := by decide +kernel
theorem dX3_way_57 : decode cX3_way 57 = .ok (.iload_n 2, 1) := by decide +kernel
theorem dX3_way_58 : decode cX3_way 58 = .ok (.if_icmp .ne 7, 3) := by decide +kernel
theorem dX3_way_61 : decode cX3_way 61 = .ok (.iload_n 3, 1) := by decide +kernel
theorem dX3_way_62 : decode cX3_way 62 = .ok (.goto 4, 3) := by decide +kernel
theorem dX3_way_65 : decode cX3_way 65 = .ok (.iconst (-1), 1) := by decide +kernel
theorem dX3_way_66 : decode cX3_way 66 = .ok (.ireturn, 1) := by decide +kernel
set_option maxRecDepth 20000 in
theorem ggX3_prove_X3_next : GoodIn wsX3_prove wsX3_next := goodIn_r _ [9, 10, 11, 8, 12] (by decide +kernel) (by decide +kernel)
set_option maxRecDepth 20000 in
theorem gX3_prove_X3_next : GoodIn wsX3_prove (wsV RX3 213 RX3 yX3_next wsX3_next) := goodIn_app (goodIn_of _ (by decide +kernel)) ggX3_prove_X3_next
theorem dX3_prove_0 : decode cX3_prove 0 = .ok (.iload_n 1, 1) := by decide +kernel
theorem dX3_prove_1 : decode cX3_prove 1 = .ok (.ifCond .lt 11, 3) := by decide +kernel
theorem dX3_prove_4 : decode cX3_prove 4 = .ok (.iload_n 1, 1) := by decide +kernel
theorem dX3_prove_5 : decode cX3_prove 5 = .ok (.aload_n 0, 1) := by decide +kernel
theorem dX3_prove_6 : decode cX3_prove 6 = .ok (.getfield 141, 3) := by decide +kernel
theorem dX3_prove_9 : decode cX3_prove 9 = .ok (.if_icmp .lt 6, 3) := by decide +kernel
theorem dX3_prove_12 : decode cX3_prove 12 = .ok (.bipush (-2), 2) := by decide +kernel
theorem dX3_prove_14 : decode cX3_prove 14 = .ok (.ireturn, 1) := by decide +kernel
theorem dX3_prove_15 : decode cX3_prove 15 = .ok (.aload_n 0, 1) := by decide +kernel
theorem dX3_prove_16 : decode cX3_prove 16 = .ok (.iconst 0, 1) := by decide +kernel
theorem dX3_prove_17 : decode cX3_prove 17 = .ok (.putfield 216, 3) := by decide +kernel
theorem dX3_prove_20 : decode cX3_prove 20 = .ok (.aload_n 0, 1) := by decide +kernel
theorem dX3_prove_21 : decode cX3_prove 21 = .ok (.getfield 141, 3) := by decide +kernel
theorem dX3_prove_24 : decode cX3_prove 24 = .ok (.iconst 1, 1) := by decide +kernel
theorem dX3_prove_25 : decode cX3_prove 25 = .ok (.isub, 1) := by decide +kernel
theorem dX3_prove_26 : decode cX3_prove 26 = .ok (.istore_n 2, 1) := by decide +kernel
theorem dX3_prove_27 : decode cX3_prove 27 = .ok (.iconst 1, 1) := by decide +kernel
theorem dX3_prove_28 : decode cX3_prove 28 = .ok (.istore_n 3, 1) := by decide +kernel
theorem dX3_prove_29 : decode cX3_prove 29 = .ok (.iload_n 3, 1) := by decide +kernel
theorem dX3_prove_30 : decode cX3_prove 30 = .ok (.ifCond .eq 79, 3) := by decide +kernel
theorem dX3_prove_33 : decode cX3_prove 33 = .ok (.iconst 0, 1) := by decide +kernel
theorem dX3_prove_34 : decode cX3_prove 34 = .ok (.istore 4, 2) := by decide +kernel
theorem dX3_prove_36 : decode cX3_prove 36 = .ok (.iload 4, 2) := by decide +kernel
theorem dX3_prove_38 : decode cX3_prove 38 = .ok (.bipush 26, 2) := by decide +kernel
theorem dX3_prove_40 : decode cX3_prove 40 = .ok (.if_icmp .ge 40, 3) := by decide +kernel
theorem dX3_prove_43 : decode cX3_prove 43 = .ok (.aload_n 0, 1) := by decide +kernel
theorem dX3_prove_44 : decode cX3_prove 44 = .ok (.getfield 27, 3) := by decide +kernel
theorem dX3_prove_47 : decode cX3_prove 47 = .ok (.aload_n 0, 1) := by decide +kernel
theorem dX3_prove_48 : decode cX3_prove 48 = .ok (.getfield 216, 3) := by decide +kernel
theorem dX3_prove_51 : decode cX3_prove 51 = .ok (.aload_n 0, 1) := by decide +kernel
theorem dX3_prove_52 : decode cX3_prove 52 = .ok (.getfield 7, 3) := by decide +kernel
theorem dX3_prove_55 : decode cX3_prove 55 = .ok (.bipush 34, 2) := by decide +kernel
theorem dX3_prove_57 : decode cX3_prove 57 = .ok (.iload_n 2, 1) := by decide +kernel
theorem dX3_prove_58 : decode cX3_prove 58 = .ok (.imul, 1) := by decide +kernel
theorem dX3_prove_59 : decode cX3_prove 59 = .ok (.iload 4, 2) := by decide +kernel
theorem dX3_prove_61 : decode cX3_prove 61 = .ok (.iadd, 1) := by decide +kernel
theorem dX3_prove_62 : decode cX3_prove 62 = .ok (.iaload, 1) := by decide +kernel
theorem dX3_prove_63 : decode cX3_prove 63 = .ok (.iastore, 1) := by decide +kernel
theorem dX3_prove_64 : decode cX3_prove 64 = .ok (.aload_n 0, 1) := by decide +kernel
theorem dX3_prove_65 : decode cX3_prove 65 = .ok (.dup, 1) := by decide +kernel
theorem dX3_prove_66 : decode cX3_prove 66 = .ok (.getfield 216, 3) := by decide +kernel
theorem dX3_prove_69 : decode cX3_prove 69 = .ok (.iconst 1, 1) := by decide +kernel
theorem dX3_prove_70 : decode cX3_prove 70 = .ok (.iadd, 1) := by decide +kernel
theorem dX3_prove_71 : decode cX3_prove 71 = .ok (.putfield 216, 3) := by decide +kernel
theorem dX3_prove_74 : decode cX3_prove 74 = .ok (.iinc 4 1, 3) := by decide +kernel
theorem dX3_prove_77 : decode cX3_prove 77 = .ok (.goto (-41), 3) := by decide +kernel
theorem dX3_prove_80 : decode cX3_prove 80 = .ok (.iload_n 2, 1) := by decide +kernel
theorem dX3_prove_81 : decode cX3_prove 81 = .ok (.iload_n 1, 1) := by decide +kernel
theorem dX3_prove_82 : decode cX3_prove 82 = .ok (.if_icmp .le 7, 3) := by decide +kernel
theorem dX3_prove_85 : decode cX3_prove 85 = .ok (.iconst 1, 1) := by decide +kernel
theorem dX3_prove_86 : decode cX3_prove 86 = .ok (.goto 4, 3) := by decide +kernel
theorem dX3_prove_89 : decode cX3_prove 89 = .ok (.iconst 0, 1) := by decide +kernel
theorem dX3_prove_90 : decode cX3_prove 90 = .ok (.istore_n 3, 1) := by decide +kernel
theorem dX3_prove_91 : decode cX3_prove 91 = .ok (.iload_n 3, 1) := by decide +kernel
theorem dX3_prove_92 : decode cX3_prove 92 = .ok (.ifCond .eq 12, 3) := by decide +kernel
theorem dX3_prove_95 : decode cX3_prove 95 = .ok (.aload_n 0, 1) := by decide +kernel
theorem dX3_prove_96 : decode cX3_prove 96 = .ok (.iload_n 2, 1) := by decide +kernel
theorem dX3_prove_97 : decode cX3_prove 97 = .ok (.iload_n 1, 1) := by decide +kernel
theorem dX3_prove_98 : decode cX3_prove 98 = .ok (.invokevirtual 213, 3) := by decide +kernel
theorem dX3_prove_101 : decode cX3_prove 101 = .ok (.goto 4, 3) := by decide +kernel
theorem dX3_prove_104 : decode cX3_prove 104 = .ok (.iload_n 2, 1) := by decide +kernel
theorem dX3_prove_105 : decode cX3_prove 105 = .ok (.istore_n 2, 1) := by decide +kernel
theorem dX3_prove_106 : decode cX3_prove 106 = .ok (.goto (-77), 3) := by decide +kernel
theorem dX3_prove_109 : decode cX3_prove 109 = .ok (.aload_n 0, 1) := by decide +kernel
theorem dX3_prove_110 : decode cX3_prove 110 = .ok (.getfield 216, 3) := by decide +kernel
theorem dX3_prove_113 : decode cX3_prove 113 = .ok (.ireturn, 1) := by decide +kernel
theorem dX3_proof_0 : decode cX3_proof 0 = .ok (.iload_n 1, 1) := by decide +kernel
theorem dX3_proof_1 : decode cX3_proof 1 = .ok (.ifCond .lt 20, 3) := by decide +kernel
theorem dX3_proof_4 : decode cX3_proof 4 = .ok (.iload_n 1, 1) := by decide +kernel
theorem dX3_proof_5 : decode cX3_proof 5 = .ok (.aload_n 0, 1) := by decide +kernel
theorem dX3_proof_6 : decode cX3_proof 6 = .ok (.getfield 216, 3) := by decide +kernel
theorem dX3_proof_9 : decode cX3_proof 9 = .ok (.if_icmp .ge 12, 3) := by decide +kernel
theorem dX3_proof_12 : decode cX3_proof 12 = .ok (.aload_n 0, 1) := by decide +kernel
theorem dX3_proof_13 : decode cX3_proof 13 = .ok (.getfield 27, 3) := by decide +kernel
theorem dX3_proof_16 : decode cX3_proof 16 = .ok (.iload_n 1, 1) := by decide +kernel
theorem dX3_proof_17 : decode cX3_proof 17 = .ok (.iaload, 1) := by decide +kernel
theorem dX3_proof_18 : decode cX3_proof 18 = .ok (.goto 4, 3) := by decide +kernel
theorem dX3_proof_21 : decode cX3_proof 21 = .ok (.iconst 0, 1) := by decide +kernel
theorem dX3_proof_22 : decode cX3_proof 22 = .ok (.ireturn, 1) := by decide +kernel
theorem dX3_forge_0 : decode cX3_forge 0 = .ok (.iload_n 1, 1) := by decide +kernel
theorem dX3_forge_1 : decode cX3_forge 1 = .ok (.ifCond .lt 11, 3) := by decide +kernel
theorem dX3_forge_4 : decode cX3_forge 4 = .ok (.iload_n 1, 1) := by decide +kernel
theorem dX3_forge_5 : decode cX3_forge 5 = .ok (.aload_n 0, 1) := by decide +kernel
theorem dX3_forge_6 : decode cX3_forge 6 = .ok (.getfield 216, 3) := by decide +kernel
theorem dX3_forge_9 : decode cX3_forge 9 = .ok (.if_icmp .lt 5, 3) := by decide +kernel
theorem dX3_forge_12 : decode cX3_forge 12 = .ok (.iconst 0, 1) := by decide +kernel
theorem dX3_forge_13 : decode cX3_forge 13 = .ok (.ireturn, 1) := by decide +kernel
theorem dX3_forge_14 : decode cX3_forge 14 = .ok (.aload_n 0, 1) := by decide +kernel
theorem dX3_forge_15 : decode cX3_forge 15 = .ok (.getfield 27, 3) := by decide +kernel
theorem dX3_forge_18 : decode cX3_forge 18 = .ok (.iload_n 1, 1) := by decide +kernel
theorem dX3_forge_19 : decode cX3_forge 19 = .ok (.iaload, 1) := by decide +kernel
theorem dX3_forge_20 : decode cX3_forge 20 = .ok (.istore_n 3, 1) := by decide +kernel
theorem dX3_forge_21 : decode cX3_forge 21 = .ok (.aload_n 0, 1) := by decide +kernel
theorem dX3_forge_22 : decode cX3_forge 22 = .ok (.getfield 27, 3) := by decide +kernel
theorem dX3_forge_25 : decode cX3_forge 25 = .ok (.iload_n 1, 1) := by decide +kernel
theorem dX3_forge_26 : decode cX3_forge 26 = .ok (.iload_n 2, 1) := by decide +kernel
theorem dX3_forge_27 : decode cX3_forge 27 = .ok (.iastore, 1) := by decide +kernel
theorem dX3_forge_28 : decode cX3_forge 28 = .ok (.iload_n 3, 1) := by decide +kernel
theorem dX3_forge_29 : decode cX3_forge 29 = .ok (.ireturn, 1) := by decide +kernel
set_option maxRecDepth 20000 in
theorem ggX3_check_X3_mixFirst : GoodIn wsX3_check wsX3_mixFirst := goodIn_r _ [11, 5, 12, 13, 3, 14, 15, 16, 17, 10, 18, 19, 20, 21, 22, 35, 36, 37, 38, 39, 40, 41, 42, 43, 44, 45, 46, 47, 48, 49, 50, 51, 52, 53] (by decide +kernel) (by decide +kernel)
set_option maxRecDepth 20000 in
theorem gX3_check_X3_mixFirst : GoodIn wsX3_check (wsV RX3 163 RX3 yX3_mixFirst wsX3_mixFirst) := goodIn_app (goodIn_of _ (by decide +kernel)) ggX3_check_X3_mixFirst
set_option maxRecDepth 20000 in
theorem ggX3_check_X3_mixSecond : GoodIn wsX3_check wsX3_mixSecond := goodIn_r _ [26, 5, 14, 13, 3, 27, 15, 16, 17, 10, 18, 19, 20, 21, 22, 35, 36, 37, 38, 39, 40, 41, 42, 43, 44, 45, 46, 47, 48, 49, 50, 51, 52, 53] (by decide +kernel) (by decide +kernel)
set_option maxRecDepth 20000 in
theorem gX3_check_X3_mixSecond : GoodIn wsX3_check (wsV RX3 166 RX3 yX3_mixSecond wsX3_mixSecond) := goodIn_app (goodIn_of _ (by decide +kernel)) ggX3_check_X3_mixSecond
set_option maxRecDepth 20000 in
theorem ggX3_check_X3_next : GoodIn wsX3_check wsX3_next := goodIn_r _ [31, 32, 33, 10, 34] (by decide +kernel) (by decide +kernel)
set_option maxRecDepth 20000 in
theorem gX3_check_X3_next : GoodIn wsX3_check (wsV RX3 213 RX3 yX3_next wsX3_next) := goodIn_app (goodIn_of _ (by decide +kernel)) ggX3_check_X3_next
set_option maxRecDepth 20000 in
theorem ggX3_check_X3_lowest : GoodIn wsX3_check wsX3_lowest := goodIn_r _ [34] (by decide +kernel) (by decide +kernel)
set_option maxRecDepth 20000 in
theorem gX3_check_X3_lowest : GoodIn wsX3_check (va_wsS RX3 147 yX3_lowest wsX3_lowest) := goodIn_app (goodIn_of _ (by decide +kernel)) ggX3_check_X3_lowest
theorem dX3_check_0 : decode cX3_check 0 = .ok (.iload_n 1, 1) := by decide +kernel
theorem dX3_check_1 : decode cX3_check 1 = .ok (.ifCond .lt 11, 3) := by decide +kernel
theorem dX3_check_4 : decode cX3_check 4 = .ok (.iload_n 1, 1) := by decide +kernel
theorem dX3_check_5 : decode cX3_check 5 = .ok (.aload_n 0, 1) := by decide +kernel
theorem dX3_check_6 : decode cX3_check 6 = .ok (.getfield 141, 3) := by decide +kernel
theorem dX3_check_9 : decode cX3_check 9 = .ok (.if_icmp .lt 6, 3) := by decide +kernel
theorem dX3_check_12 : decode cX3_check 12 = .ok (.bipush (-2), 2) := by decide +kernel
theorem dX3_check_14 : decode cX3_check 14 = .ok (.ireturn, 1) := by decide +kernel
theorem dX3_check_15 : decode cX3_check 15 = .ok (.aload_n 0, 1) := by decide +kernel
theorem dX3_check_16 : decode cX3_check 16 = .ok (.getfield 141, 3) := by decide +kernel
theorem dX3_check_19 : decode cX3_check 19 = .ok (.iconst 1, 1) := by decide +kernel
theorem dX3_check_20 : decode cX3_check 20 = .ok (.isub, 1) := by decide +kernel
theorem dX3_check_21 : decode cX3_check 21 = .ok (.istore_n 2, 1) := by decide +kernel
theorem dX3_check_22 : decode cX3_check 22 = .ok (.iconst 0, 1) := by decide +kernel
theorem dX3_check_23 : decode cX3_check 23 = .ok (.istore_n 3, 1) := by decide +kernel
theorem dX3_check_24 : decode cX3_check 24 = .ok (.iconst 1, 1) := by decide +kernel
theorem dX3_check_25 : decode cX3_check 25 = .ok (.istore 4, 2) := by decide +kernel
theorem dX3_check_27 : decode cX3_check 27 = .ok (.iconst 1, 1) := by decide +kernel
theorem dX3_check_28 : decode cX3_check 28 = .ok (.istore 5, 2) := by decide +kernel
theorem dX3_check_30 : decode cX3_check 30 = .ok (.iconst (-1), 1) := by decide +kernel
theorem dX3_check_31 : decode cX3_check 31 = .ok (.istore 6, 2) := by decide +kernel
theorem dX3_check_33 : decode cX3_check 33 = .ok (.iload 5, 2) := by decide +kernel
theorem dX3_check_35 : decode cX3_check 35 = .ok (.ifCond .eq 194, 3) := by decide +kernel
theorem dX3_check_38 : decode cX3_check 38 = .ok (.iload 4, 2) := by decide +kernel
theorem dX3_check_40 : decode cX3_check 40 = .ok (.ifCond .eq 189, 3) := by decide +kernel
theorem dX3_check_43 : decode cX3_check 43 = .ok (.iload_n 3, 1) := by decide +kernel
theorem dX3_check_44 : decode cX3_check 44 = .ok (.bipush 26, 2) := by decide +kernel
theorem dX3_check_46 : decode cX3_check 46 = .ok (.iadd, 1) := by decide +kernel
theorem dX3_check_47 : decode cX3_check 47 = .ok (.aload_n 0, 1) := by decide +kernel
theorem dX3_check_48 : decode cX3_check 48 = .ok (.getfield 216, 3) := by decide +kernel
theorem dX3_check_51 : decode cX3_check 51 = .ok (.if_icmp .gt 7, 3) := by decide +kernel
theorem dX3_check_54 : decode cX3_check 54 = .ok (.iconst 1, 1) := by decide +kernel
theorem dX3_check_55 : decode cX3_check 55 = .ok (.goto 4, 3) := by decide +kernel
theorem dX3_check_58 : decode cX3_check 58 = .ok (.iconst 0, 1) := by decide +kernel
theorem dX3_check_59 : decode cX3_check 59 = .ok (.istore 4, 2) := by decide +kernel
theorem dX3_check_61 : decode cX3_check 61 = .ok (.iconst 0, 1) := by decide +kernel
theorem dX3_check_62 : decode cX3_check 62 = .ok (.istore 7, 2) := by decide +kernel
theorem dX3_check_64 : decode cX3_check 64 = .ok (.iload 7, 2) := by decide +kernel
theorem dX3_check_66 : decode cX3_check 66 = .ok (.bipush 26, 2) := by decide +kernel
theorem dX3_check_68 : decode cX3_check 68 = .ok (.if_icmp .ge 30, 3) := by decide +kernel
theorem dX3_check_71 : decode cX3_check 71 = .ok (.iload 4, 2) := by decide +kernel
theorem dX3_check_73 : decode cX3_check 73 = .ok (.ifCond .eq 25, 3) := by decide +kernel
theorem dX3_check_76 : decode cX3_check 76 = .ok (.aload_n 0, 1) := by decide +kernel
theorem dX3_check_77 : decode cX3_check 77 = .ok (.getfield 45, 3) := by decide +kernel
theorem dX3_check_80 : decode cX3_check 80 = .ok (.iload 7, 2) := by decide +kernel
theorem dX3_check_82 : decode cX3_check 82 = .ok (.aload_n 0, 1) := by decide +kernel
theorem dX3_check_83 : decode cX3_check 83 = .ok (.getfield 27, 3) := by decide +kernel
theorem dX3_check_86 : decode cX3_check 86 = .ok (.iload_n 3, 1) := by decide +kernel
theorem dX3_check_87 : decode cX3_check 87 = .ok (.iload 7, 2) := by decide +kernel
theorem dX3_check_89 : decode cX3_check 89 = .ok (.iadd, 1) := by decide +kernel
theorem dX3_check_90 : decode cX3_check 90 = .ok (.iaload, 1) := by decide +kernel
theorem dX3_check_91 : decode cX3_check 91 = .ok (.iastore, 1) := by decide +kernel
theorem dX3_check_92 : decode cX3_check 92 = .ok (.iinc 7 1, 3) := by decide +kernel
theorem dX3_check_95 : decode cX3_check 95 = .ok (.goto (-31), 3) := by decide +kernel
theorem dX3_check_98 : decode cX3_check 98 = .ok (.iload 4, 2) := by decide +kernel
theorem dX3_check_100 : decode cX3_check 100 = .ok (.ifCond .eq 11, 3) := by decide +kernel
theorem dX3_check_103 : decode cX3_check 103 = .ok (.aload_n 0, 1) := by decide +kernel
theorem dX3_check_104 : decode cX3_check 104 = .ok (.invokevirtual 163, 3) := by decide +kernel
theorem dX3_check_107 : decode cX3_check 107 = .ok (.aload_n 0, 1) := by decide +kernel
theorem dX3_check_108 : decode cX3_check 108 = .ok (.invokevirtual 166, 3) := by decide +kernel
theorem dX3_check_111 : decode cX3_check 111 = .ok (.iconst 0, 1) := by decide +kernel
theorem dX3_check_112 : decode cX3_check 112 = .ok (.istore 7, 2) := by decide +kernel
theorem dX3_check_114 : decode cX3_check 114 = .ok (.iload 7, 2) := by decide +kernel
theorem dX3_check_116 : decode cX3_check 116 = .ok (.bipush 8, 2) := by decide +kernel
theorem dX3_check_118 : decode cX3_check 118 = .ok (.if_icmp .ge 56, 3) := by decide +kernel
theorem dX3_check_121 : decode cX3_check 121 = .ok (.iload 4, 2) := by decide +kernel
theorem dX3_check_123 : decode cX3_check 123 = .ok (.ifCond .eq 51, 3) := by decide +kernel
theorem dX3_check_126 : decode cX3_check 126 = .ok (.aload_n 0, 1) := by decide +kernel
theorem dX3_check_127 : decode cX3_check 127 = .ok (.getfield 36, 3) := by decide +kernel
theorem dX3_check_130 : decode cX3_check 130 = .ok (.iload 7, 2) := by decide +kernel
theorem dX3_check_132 : decode cX3_check 132 = .ok (.iaload, 1) := by decide +kernel
theorem dX3_check_133 : decode cX3_check 133 = .ok (.iload 6, 2) := by decide +kernel
theorem dX3_check_135 : decode cX3_check 135 = .ok (.ifCond .ge 13, 3) := by decide +kernel
theorem dX3_check_138 : decode cX3_check 138 = .ok (.aload_n 0, 1) := by decide +kernel
theorem dX3_check_139 : decode cX3_check 139 = .ok (.getfield 13, 3) := by decide +kernel
theorem dX3_check_142 : decode cX3_check 142 = .ok (.iload 7, 2) := by decide +kernel
theorem dX3_check_144 : decode cX3_check 144 = .ok (.iaload, 1) := by decide +kernel
theorem dX3_check_145 : decode cX3_check 145 = .ok (.goto 13, 3) := by decide +kernel
theorem dX3_check_148 : decode cX3_check 148 = .ok (.aload_n 0, 1) := by decide +kernel
theorem dX3_check_149 : decode cX3_check 149 = .ok (.getfield 27, 3) := by decide +kernel
theorem dX3_check_152 : decode cX3_check 152 = .ok (.iload 6, 2) := by decide +kernel
theorem dX3_check_154 : decode cX3_check 154 = .ok (.iload 7, 2) := by decide +kernel
theorem dX3_check_156 : decode cX3_check 156 = .ok (.iadd, 1) := by decide +kernel
theorem dX3_check_157 : decode cX3_check 157 = .ok (.iaload, 1) := by decide +kernel
theorem dX3_check_158 : decode cX3_check 158 = .ok (.if_icmp .ne 7, 3) := by decide +kernel
theorem dX3_check_161 : decode cX3_check 161 = .ok (.iconst 1, 1) := by decide +kernel
theorem dX3_check_162 : decode cX3_check 162 = .ok (.goto 4, 3) := by decide +kernel
theorem dX3_check_165 : decode cX3_check 165 = .ok (.iconst 0, 1) := by decide +kernel
theorem dX3_check_166 : decode cX3_check 166 = .ok (.istore 4, 2) := by decide +kernel
theorem dX3_check_168 : decode cX3_check 168 = .ok (.iinc 7 1, 3) := by decide +kernel
theorem dX3_check_171 : decode cX3_check 171 = .ok (.goto (-57), 3) := by decide +kernel
theorem dX3_check_174 : decode cX3_check 174 = .ok (.iload_n 2, 1) := by decide +kernel
theorem dX3_check_175 : decode cX3_check 175 = .ok (.iload_n 1, 1) := by decide +kernel
theorem dX3_check_176 : decode cX3_check 176 = .ok (.if_icmp .le 7, 3) := by decide +kernel
theorem dX3_check_179 : decode cX3_check 179 = .ok (.iconst 1, 1) := by decide +kernel
theorem dX3_check_180 : decode cX3_check 180 = .ok (.goto 4, 3) := by decide +kernel
theorem dX3_check_183 : decode cX3_check 183 = .ok (.iconst 0, 1) := by decide +kernel
theorem dX3_check_184 : decode cX3_check 184 = .ok (.istore 5, 2) := by decide +kernel
theorem dX3_check_186 : decode cX3_check 186 = .ok (.iload 5, 2) := by decide +kernel
theorem dX3_check_188 : decode cX3_check 188 = .ok (.ifCond .eq 35, 3) := by decide +kernel
theorem dX3_check_191 : decode cX3_check 191 = .ok (.aload_n 0, 1) := by decide +kernel
theorem dX3_check_192 : decode cX3_check 192 = .ok (.iload_n 2, 1) := by decide +kernel
theorem dX3_check_193 : decode cX3_check 193 = .ok (.iload_n 1, 1) := by decide +kernel
theorem dX3_check_194 : decode cX3_check 194 = .ok (.invokevirtual 213, 3) := by decide +kernel
theorem dX3_check_197 : decode cX3_check 197 = .ok (.istore 7, 2) := by decide +kernel
theorem dX3_check_199 : decode cX3_check 199 = .ok (.iload 7, 2) := by decide +kernel
theorem dX3_check_201 : decode cX3_check 201 = .ok (.iload_n 2, 1) := by decide +kernel
theorem dX3_check_202 : decode cX3_check 202 = .ok (.iload_n 2, 1) := by decide +kernel
theorem dX3_check_203 : decode cX3_check 203 = .ok (.invokestatic 147, 3) := by decide +kernel
theorem dX3_check_206 : decode cX3_check 206 = .ok (.isub, 1) := by decide +kernel
theorem dX3_check_207 : decode cX3_check 207 = .ok (.if_icmp .ne 10, 3) := by decide +kernel
theorem dX3_check_210 : decode cX3_check 210 = .ok (.iload_n 3, 1) := by decide +kernel
theorem dX3_check_211 : decode cX3_check 211 = .ok (.bipush 8, 2) := by decide +kernel
theorem dX3_check_213 : decode cX3_check 213 = .ok (.iadd, 1) := by decide +kernel
theorem dX3_check_214 : decode cX3_check 214 = .ok (.goto 4, 3) := by decide +kernel
theorem dX3_check_217 : decode cX3_check 217 = .ok (.iload_n 3, 1) := by decide +kernel
theorem dX3_check_218 : decode cX3_check 218 = .ok (.istore 6, 2) := by decide +kernel
theorem dX3_check_220 : decode cX3_check 220 = .ok (.iload 7, 2) := by decide +kernel
theorem dX3_check_222 : decode cX3_check 222 = .ok (.istore_n 2, 1) := by decide +kernel
theorem dX3_check_223 : decode cX3_check 223 = .ok (.iinc 3 26, 3) := by decide +kernel
theorem dX3_check_226 : decode cX3_check 226 = .ok (.goto (-193), 3) := by decide +kernel
theorem dX3_check_229 : decode cX3_check 229 = .ok (.iload 4, 2) := by decide +kernel
theorem dX3_check_231 : decode cX3_check 231 = .ok (.ifCond .eq 15, 3) := by decide +kernel
theorem dX3_check_234 : decode cX3_check 234 = .ok (.iload_n 3, 1) := by decide +kernel
theorem dX3_check_235 : decode cX3_check 235 = .ok (.aload_n 0, 1) := by decide +kernel
theorem dX3_check_236 : decode cX3_check 236 = .ok (.getfield 216, 3) := by decide +kernel
theorem dX3_check_239 : decode cX3_check 239 = .ok (.if_icmp .ne 7, 3) := by decide +kernel
theorem dX3_check_242 : decode cX3_check 242 = .ok (.iconst 1, 1) := by decide +kernel
theorem dX3_check_243 : decode cX3_check 243 = .ok (.goto 4, 3) := by decide +kernel
theorem dX3_check_246 : decode cX3_check 246 = .ok (.iconst 0, 1) := by decide +kernel
theorem dX3_check_247 : decode cX3_check 247 = .ok (.ireturn, 1) := by decide +kernel
theorem dJ6_numberOfLeadingZeros_0f7a4_0 : decode cJ6_numberOfLeadingZeros_0f7a4 0 = .ok (.iload_n 0, 1) := by decide +kernel
theorem dJ6_numberOfLeadingZeros_0f7a4_1 : decode cJ6_numberOfLeadingZeros_0f7a4 1 = .ok (.ifCond .gt 14, 3) := by decide +kernel
theorem dJ6_numberOfLeadingZeros_0f7a4_4 : decode cJ6_numberOfLeadingZeros_0f7a4 4 = .ok (.iload_n 0, 1) := by decide +kernel
theorem dJ6_numberOfLeadingZeros_0f7a4_5 : decode cJ6_numberOfLeadingZeros_0f7a4 5 = .ok (.ifCond .ne 8, 3) := by decide +kernel
theorem dJ6_numberOfLeadingZeros_0f7a4_8 : decode cJ6_numberOfLeadingZeros_0f7a4 8 = .ok (.bipush 32, 2) := by decide +kernel
theorem dJ6_numberOfLeadingZeros_0f7a4_10 : decode cJ6_numberOfLeadingZeros_0f7a4 10 = .ok (.goto 4, 3) := by decide +kernel
theorem dJ6_numberOfLeadingZeros_0f7a4_13 : decode cJ6_numberOfLeadingZeros_0f7a4 13 = .ok (.iconst 0, 1) := by decide +kernel
theorem dJ6_numberOfLeadingZeros_0f7a4_14 : decode cJ6_numberOfLeadingZeros_0f7a4 14 = .ok (.ireturn, 1) := by decide +kernel
theorem dJ6_numberOfLeadingZeros_0f7a4_15 : decode cJ6_numberOfLeadingZeros_0f7a4 15 = .ok (.bipush 31, 2) := by decide +kernel
theorem dJ6_numberOfLeadingZeros_0f7a4_17 : decode cJ6_numberOfLeadingZeros_0f7a4 17 = .ok (.istore_n 1, 1) := by decide +kernel
theorem dJ6_numberOfLeadingZeros_0f7a4_18 : decode cJ6_numberOfLeadingZeros_0f7a4 18 = .ok (.iload_n 0, 1) := by decide +kernel
theorem dJ6_numberOfLeadingZeros_0f7a4_19 : decode cJ6_numberOfLeadingZeros_0f7a4 19 = .ok (.ldc_w 264, 3) := by decide +kernel
theorem dJ6_numberOfLeadingZeros_0f7a4_22 : decode cJ6_numberOfLeadingZeros_0f7a4 22 = .ok (.if_icmp .lt 11, 3) := by decide +kernel
theorem dJ6_numberOfLeadingZeros_0f7a4_25 : decode cJ6_numberOfLeadingZeros_0f7a4 25 = .ok (.iinc 1 (-16), 3) := by decide +kernel
theorem dJ6_numberOfLeadingZeros_0f7a4_28 : decode cJ6_numberOfLeadingZeros_0f7a4 28 = .ok (.iload_n 0, 1) := by decide +kernel
theorem dJ6_numberOfLeadingZeros_0f7a4_29 : decode cJ6_numberOfLeadingZeros_0f7a4 29 = .ok (.bipush 16, 2) := by decide +kernel
theorem dJ6_numberOfLeadingZeros_0f7a4_31 : decode cJ6_numberOfLeadingZeros_0f7a4 31 = .ok (.iushr, 1) := by decide +kernel
theorem dJ6_numberOfLeadingZeros_0f7a4_32 : decode cJ6_numberOfLeadingZeros_0f7a4 32 = .ok (.istore_n 0, 1) := by decide +kernel
theorem dJ6_numberOfLeadingZeros_0f7a4_33 : decode cJ6_numberOfLeadingZeros_0f7a4 33 = .ok (.iload_n 0, 1) := by decide +kernel
theorem dJ6_numberOfLeadingZeros_0f7a4_34 : decode cJ6_numberOfLeadingZeros_0f7a4 34 = .ok (.sipush 256, 3) := by decide +kernel
theorem dJ6_numberOfLeadingZeros_0f7a4_37 : decode cJ6_numberOfLeadingZeros_0f7a4 37 = .ok (.if_icmp .lt 11, 3) := by decide +kernel
theorem dJ6_numberOfLeadingZeros_0f7a4_40 : decode cJ6_numberOfLeadingZeros_0f7a4 40 = .ok (.iinc 1 (-8), 3) := by decide +kernel
theorem dJ6_numberOfLeadingZeros_0f7a4_43 : decode cJ6_numberOfLeadingZeros_0f7a4 43 = .ok (.iload_n 0, 1) := by decide +kernel
theorem dJ6_numberOfLeadingZeros_0f7a4_44 : decode cJ6_numberOfLeadingZeros_0f7a4 44 = .ok (.bipush 8, 2) := by decide +kernel
theorem dJ6_numberOfLeadingZeros_0f7a4_46 : decode cJ6_numberOfLeadingZeros_0f7a4 46 = .ok (.iushr, 1) := by decide +kernel
theorem dJ6_numberOfLeadingZeros_0f7a4_47 : decode cJ6_numberOfLeadingZeros_0f7a4 47 = .ok (.istore_n 0, 1) := by decide +kernel
theorem dJ6_numberOfLeadingZeros_0f7a4_48 : decode cJ6_numberOfLeadingZeros_0f7a4 48 = .ok (.iload_n 0, 1) := by decide +kernel
theorem dJ6_numberOfLeadingZeros_0f7a4_49 : decode cJ6_numberOfLeadingZeros_0f7a4 49 = .ok (.bipush 16, 2) := by decide +kernel
theorem dJ6_numberOfLeadingZeros_0f7a4_51 : decode cJ6_numberOfLeadingZeros_0f7a4 51 = .ok (.if_icmp .lt 10, 3) := by decide +kernel
theorem dJ6_numberOfLeadingZeros_0f7a4_54 : decode cJ6_numberOfLeadingZeros_0f7a4 54 = .ok (.iinc 1 (-4), 3) := by decide +kernel
theorem dJ6_numberOfLeadingZeros_0f7a4_57 : decode cJ6_numberOfLeadingZeros_0f7a4 57 = .ok (.iload_n 0, 1) := by decide +kernel
theorem dJ6_numberOfLeadingZeros_0f7a4_58 : decode cJ6_numberOfLeadingZeros_0f7a4 58 = .ok (.iconst 4, 1) := by decide +kernel
theorem dJ6_numberOfLeadingZeros_0f7a4_59 : decode cJ6_numberOfLeadingZeros_0f7a4 59 = .ok (.iushr, 1) := by decide +kernel
theorem dJ6_numberOfLeadingZeros_0f7a4_60 : decode cJ6_numberOfLeadingZeros_0f7a4 60 = .ok (.istore_n 0, 1) := by decide +kernel
theorem dJ6_numberOfLeadingZeros_0f7a4_61 : decode cJ6_numberOfLeadingZeros_0f7a4 61 = .ok (.iload_n 0, 1) := by decide +kernel
theorem dJ6_numberOfLeadingZeros_0f7a4_62 : decode cJ6_numberOfLeadingZeros_0f7a4 62 = .ok (.iconst 4, 1) := by decide +kernel
theorem dJ6_numberOfLeadingZeros_0f7a4_63 : decode cJ6_numberOfLeadingZeros_0f7a4 63 = .ok (.if_icmp .lt 10, 3) := by decide +kernel
theorem dJ6_numberOfLeadingZeros_0f7a4_66 : decode cJ6_numberOfLeadingZeros_0f7a4 66 = .ok (.iinc 1 (-2), 3) := by decide +kernel
theorem dJ6_numberOfLeadingZeros_0f7a4_69 : decode cJ6_numberOfLeadingZeros_0f7a4 69 = .ok (.iload_n 0, 1) := by decide +kernel
theorem dJ6_numberOfLeadingZeros_0f7a4_70 : decode cJ6_numberOfLeadingZeros_0f7a4 70 = .ok (.iconst 2, 1) := by decide +kernel
theorem dJ6_numberOfLeadingZeros_0f7a4_71 : decode cJ6_numberOfLeadingZeros_0f7a4 71 = .ok (.iushr, 1) := by decide +kernel
theorem dJ6_numberOfLeadingZeros_0f7a4_72 : decode cJ6_numberOfLeadingZeros_0f7a4 72 = .ok (.istore_n 0, 1) := by decide +kernel
theorem dJ6_numberOfLeadingZeros_0f7a4_73 : decode cJ6_numberOfLeadingZeros_0f7a4 73 = .ok (.iload_n 1, 1) := by decide +kernel
theorem dJ6_numberOfLeadingZeros_0f7a4_74 : decode cJ6_numberOfLeadingZeros_0f7a4 74 = .ok (.iload_n 0, 1) := by decide +kernel
theorem dJ6_numberOfLeadingZeros_0f7a4_75 : decode cJ6_numberOfLeadingZeros_0f7a4 75 = .ok (.iconst 1, 1) := by decide +kernel
theorem dJ6_numberOfLeadingZeros_0f7a4_76 : decode cJ6_numberOfLeadingZeros_0f7a4 76 = .ok (.iushr, 1) := by decide +kernel
theorem dJ6_numberOfLeadingZeros_0f7a4_77 : decode cJ6_numberOfLeadingZeros_0f7a4 77 = .ok (.isub, 1) := by decide +kernel
theorem dJ6_numberOfLeadingZeros_0f7a4_78 : decode cJ6_numberOfLeadingZeros_0f7a4 78 = .ok (.ireturn, 1) := by decide +kernel
theorem dJ9_max_7cf53_0 : decode cJ9_max_7cf53 0 = .ok (.iload_n 0, 1) := by decide +kernel
theorem dJ9_max_7cf53_1 : decode cJ9_max_7cf53 1 = .ok (.iload_n 1, 1) := by decide +kernel
theorem dJ9_max_7cf53_2 : decode cJ9_max_7cf53 2 = .ok (.if_icmp .lt 7, 3) := by decide +kernel
theorem dJ9_max_7cf53_5 : decode cJ9_max_7cf53 5 = .ok (.iload_n 0, 1) := by decide +kernel
theorem dJ9_max_7cf53_6 : decode cJ9_max_7cf53 6 = .ok (.goto 4, 3) := by decide +kernel
theorem dJ9_max_7cf53_9 : decode cJ9_max_7cf53 9 = .ok (.iload_n 1, 1) := by decide +kernel
theorem dJ9_max_7cf53_10 : decode cJ9_max_7cf53 10 = .ok (.ireturn, 1) := by decide +kernel
theorem dJ9_min_7cf53_0 : decode cJ9_min_7cf53 0 = .ok (.iload_n 0, 1) := by decide +kernel
theorem dJ9_min_7cf53_1 : decode cJ9_min_7cf53 1 = .ok (.iload_n 1, 1) := by decide +kernel
theorem dJ9_min_7cf53_2 : decode cJ9_min_7cf53 2 = .ok (.if_icmp .gt 7, 3) := by decide +kernel
theorem dJ9_min_7cf53_5 : decode cJ9_min_7cf53 5 = .ok (.iload_n 0, 1) := by decide +kernel
theorem dJ9_min_7cf53_6 : decode cJ9_min_7cf53 6 = .ok (.goto 4, 3) := by decide +kernel
theorem dJ9_min_7cf53_9 : decode cJ9_min_7cf53 9 = .ok (.iload_n 1, 1) := by decide +kernel
theorem dJ9_min_7cf53_10 : decode cJ9_min_7cf53 10 = .ok (.ireturn, 1) := by decide +kernel
theorem dJ7_rangeCheck_23922_0 : decode cJ7_rangeCheck_23922 0 = .ok (.iload_n 1, 1) := by decide +kernel
theorem dJ7_rangeCheck_23922_1 : decode cJ7_rangeCheck_23922 1 = .ok (.iload_n 2, 1) := by decide +kernel
theorem dJ7_rangeCheck_23922_2 : decode cJ7_rangeCheck_23922 2 = .ok (.if_icmp .le 44, 3) := by decide +kernel
theorem dJ7_rangeCheck_23922_5 : decode cJ7_rangeCheck_23922 5 = .ok (.new 43, 3) := by decide +kernel
theorem dJ7_rangeCheck_23922_8 : decode cJ7_rangeCheck_23922 8 = .ok (.dup, 1) := by decide +kernel
theorem dJ7_rangeCheck_23922_9 : decode cJ7_rangeCheck_23922 9 = .ok (.new 45, 3) := by decide +kernel
theorem dJ7_rangeCheck_23922_12 : decode cJ7_rangeCheck_23922 12 = .ok (.dup, 1) := by decide +kernel
theorem dJ7_rangeCheck_23922_13 : decode cJ7_rangeCheck_23922 13 = .ok (.invokespecial 47, 3) := by decide +kernel
theorem dJ7_rangeCheck_23922_16 : decode cJ7_rangeCheck_23922 16 = .ok (.ldc 48, 2) := by decide +kernel
theorem dJ7_rangeCheck_23922_18 : decode cJ7_rangeCheck_23922 18 = .ok (.invokevirtual 50, 3) := by decide +kernel
theorem dJ7_rangeCheck_23922_21 : decode cJ7_rangeCheck_23922 21 = .ok (.iload_n 1, 1) := by decide +kernel
theorem dJ7_rangeCheck_23922_22 : decode cJ7_rangeCheck_23922 22 = .ok (.invokevirtual 54, 3) := by decide +kernel
theorem dJ7_rangeCheck_23922_25 : decode cJ7_rangeCheck_23922 25 = .ok (.ldc 57, 2) := by decide +kernel
theorem dJ7_rangeCheck_23922_27 : decode cJ7_rangeCheck_23922 27 = .ok (.invokevirtual 50, 3) := by decide +kernel
theorem dJ7_rangeCheck_23922_30 : decode cJ7_rangeCheck_23922 30 = .ok (.iload_n 2, 1) := by decide +kernel
theorem dJ7_rangeCheck_23922_31 : decode cJ7_rangeCheck_23922 31 = .ok (.invokevirtual 54, 3) := by decide +kernel
theorem dJ7_rangeCheck_23922_34 : decode cJ7_rangeCheck_23922 34 = .ok (.ldc 59, 2) := by decide +kernel
theorem dJ7_rangeCheck_23922_36 : decode cJ7_rangeCheck_23922 36 = .ok (.invokevirtual 50, 3) := by decide +kernel
theorem dJ7_rangeCheck_23922_39 : decode cJ7_rangeCheck_23922 39 = .ok (.invokevirtual 61, 3) := by decide +kernel
theorem dJ7_rangeCheck_23922_42 : decode cJ7_rangeCheck_23922 42 = .ok (.invokespecial 65, 3) := by decide +kernel
theorem dJ7_rangeCheck_23922_45 : decode cJ7_rangeCheck_23922 45 = .ok (.athrow, 1) := by decide +kernel
theorem dJ7_rangeCheck_23922_46 : decode cJ7_rangeCheck_23922 46 = .ok (.iload_n 1, 1) := by decide +kernel
theorem dJ7_rangeCheck_23922_47 : decode cJ7_rangeCheck_23922 47 = .ok (.ifCond .ge 12, 3) := by decide +kernel
theorem dJ7_rangeCheck_23922_50 : decode cJ7_rangeCheck_23922 50 = .ok (.new 68, 3) := by decide +kernel
theorem dJ7_rangeCheck_23922_53 : decode cJ7_rangeCheck_23922 53 = .ok (.dup, 1) := by decide +kernel
theorem dJ7_rangeCheck_23922_54 : decode cJ7_rangeCheck_23922 54 = .ok (.iload_n 1, 1) := by decide +kernel
theorem dJ7_rangeCheck_23922_55 : decode cJ7_rangeCheck_23922 55 = .ok (.invokespecial 70, 3) := by decide +kernel
theorem dJ7_rangeCheck_23922_58 : decode cJ7_rangeCheck_23922 58 = .ok (.athrow, 1) := by decide +kernel
theorem dJ7_rangeCheck_23922_59 : decode cJ7_rangeCheck_23922 59 = .ok (.iload_n 2, 1) := by decide +kernel
theorem dJ7_rangeCheck_23922_60 : decode cJ7_rangeCheck_23922 60 = .ok (.iload_n 0, 1) := by decide +kernel
theorem dJ7_rangeCheck_23922_61 : decode cJ7_rangeCheck_23922 61 = .ok (.if_icmp .le 12, 3) := by decide +kernel
theorem dJ7_rangeCheck_23922_64 : decode cJ7_rangeCheck_23922 64 = .ok (.new 68, 3) := by decide +kernel
theorem dJ7_rangeCheck_23922_67 : decode cJ7_rangeCheck_23922 67 = .ok (.dup, 1) := by decide +kernel
theorem dJ7_rangeCheck_23922_68 : decode cJ7_rangeCheck_23922 68 = .ok (.iload_n 2, 1) := by decide +kernel
theorem dJ7_rangeCheck_23922_69 : decode cJ7_rangeCheck_23922 69 = .ok (.invokespecial 70, 3) := by decide +kernel
theorem dJ7_rangeCheck_23922_72 : decode cJ7_rangeCheck_23922 72 = .ok (.athrow, 1) := by decide +kernel
theorem dJ7_rangeCheck_23922_73 : decode cJ7_rangeCheck_23922 73 = .ok (.return_, 1) := by decide +kernel
theorem dJ7_fill_53178_0 : decode cJ7_fill_53178 0 = .ok (.iconst 0, 1) := by decide +kernel
theorem dJ7_fill_53178_1 : decode cJ7_fill_53178 1 = .ok (.istore_n 2, 1) := by decide +kernel
theorem dJ7_fill_53178_2 : decode cJ7_fill_53178 2 = .ok (.aload_n 0, 1) := by decide +kernel
theorem dJ7_fill_53178_3 : decode cJ7_fill_53178 3 = .ok (.arraylength, 1) := by decide +kernel
theorem dJ7_fill_53178_4 : decode cJ7_fill_53178 4 = .ok (.istore_n 3, 1) := by decide +kernel
theorem dJ7_fill_53178_5 : decode cJ7_fill_53178 5 = .ok (.iload_n 2, 1) := by decide +kernel
theorem dJ7_fill_53178_6 : decode cJ7_fill_53178 6 = .ok (.iload_n 3, 1) := by decide +kernel
theorem dJ7_fill_53178_7 : decode cJ7_fill_53178 7 = .ok (.if_icmp .ge 13, 3) := by decide +kernel
theorem dJ7_fill_53178_10 : decode cJ7_fill_53178 10 = .ok (.aload_n 0, 1) := by decide +kernel
theorem dJ7_fill_53178_11 : decode cJ7_fill_53178 11 = .ok (.iload_n 2, 1) := by decide +kernel
theorem dJ7_fill_53178_12 : decode cJ7_fill_53178 12 = .ok (.iload_n 1, 1) := by decide +kernel
theorem dJ7_fill_53178_13 : decode cJ7_fill_53178 13 = .ok (.iastore, 1) := by decide +kernel
theorem dJ7_fill_53178_14 : decode cJ7_fill_53178 14 = .ok (.iinc 2 1, 3) := by decide +kernel
theorem dJ7_fill_53178_17 : decode cJ7_fill_53178 17 = .ok (.goto (-12), 3) := by decide +kernel
theorem dJ7_fill_53178_20 : decode cJ7_fill_53178 20 = .ok (.return_, 1) := by decide +kernel
set_option maxRecDepth 20000 in
theorem ggJ7_fill_fda19_J7_rangeCheck_23922 : GoodIn wsJ7_fill_fda19 wsJ7_rangeCheck_23922 := goodIn_r _ [4] (by decide +kernel) (by decide +kernel)
set_option maxRecDepth 20000 in
theorem gJ7_fill_fda19_J7_rangeCheck_23922 : GoodIn wsJ7_fill_fda19 (va_wsS RJ7 13 yJ7_rangeCheck_23922 wsJ7_rangeCheck_23922) := goodIn_app (goodIn_of _ (by decide +kernel)) ggJ7_fill_fda19_J7_rangeCheck_23922
theorem dJ7_fill_fda19_0 : decode cJ7_fill_fda19 0 = .ok (.aload_n 0, 1) := by decide +kernel
theorem dJ7_fill_fda19_1 : decode cJ7_fill_fda19 1 = .ok (.arraylength, 1) := by decide +kernel
theorem dJ7_fill_fda19_2 : decode cJ7_fill_fda19 2 = .ok (.iload_n 1, 1) := by decide +kernel
theorem dJ7_fill_fda19_3 : decode cJ7_fill_fda19 3 = .ok (.iload_n 2, 1) := by decide +kernel
theorem dJ7_fill_fda19_4 : decode cJ7_fill_fda19 4 = .ok (.invokestatic 13, 3) := by decide +kernel
theorem dJ7_fill_fda19_7 : decode cJ7_fill_fda19 7 = .ok (.iload_n 1, 1) := by decide +kernel
theorem dJ7_fill_fda19_8 : decode cJ7_fill_fda19 8 = .ok (.istore 4, 2) := by decide +kernel
theorem dJ7_fill_fda19_10 : decode cJ7_fill_fda19 10 = .ok (.iload 4, 2) := by decide +kernel
theorem dJ7_fill_fda19_12 : decode cJ7_fill_fda19 12 = .ok (.iload_n 2, 1) := by decide +kernel
theorem dJ7_fill_fda19_13 : decode cJ7_fill_fda19 13 = .ok (.if_icmp .ge 14, 3) := by decide +kernel
theorem dJ7_fill_fda19_16 : decode cJ7_fill_fda19 16 = .ok (.aload_n 0, 1) := by decide +kernel
theorem dJ7_fill_fda19_17 : decode cJ7_fill_fda19 17 = .ok (.iload 4, 2) := by decide +kernel
theorem dJ7_fill_fda19_19 : decode cJ7_fill_fda19 19 = .ok (.iload_n 3, 1) := by decide +kernel
theorem dJ7_fill_fda19_20 : decode cJ7_fill_fda19 20 = .ok (.iastore, 1) := by decide +kernel
theorem dJ7_fill_fda19_21 : decode cJ7_fill_fda19 21 = .ok (.iinc 4 1, 3) := by decide +kernel
theorem dJ7_fill_fda19_24 : decode cJ7_fill_fda19 24 = .ok (.goto (-14), 3) := by decide +kernel
theorem dJ7_fill_fda19_27 : decode cJ7_fill_fda19 27 = .ok (.return_, 1) := by decide +kernel
theorem dL_cell_0 : decode cL_cell 0 = .ok (.iload_n 1, 1) := by decide +kernel
theorem dL_cell_1 : decode cL_cell 1 = .ok (.aload_n 0, 1) := by decide +kernel
theorem dL_cell_2 : decode cL_cell 2 = .ok (.arraylength, 1) := by decide +kernel
theorem dL_cell_3 : decode cL_cell 3 = .ok (.if_icmp .ge 9, 3) := by decide +kernel
theorem dL_cell_6 : decode cL_cell 6 = .ok (.aload_n 0, 1) := by decide +kernel
theorem dL_cell_7 : decode cL_cell 7 = .ok (.iload_n 1, 1) := by decide +kernel
theorem dL_cell_8 : decode cL_cell 8 = .ok (.iaload, 1) := by decide +kernel
theorem dL_cell_9 : decode cL_cell 9 = .ok (.goto 4, 3) := by decide +kernel
theorem dL_cell_12 : decode cL_cell 12 = .ok (.iconst 0, 1) := by decide +kernel
theorem dL_cell_13 : decode cL_cell 13 = .ok (.ireturn, 1) := by decide +kernel
set_option maxRecDepth 20000 in
theorem ggL_law_L_cell : GoodIn wsL_law wsL_cell := goodIn_r _ [9] (by decide +kernel) (by decide +kernel)
set_option maxRecDepth 20000 in
theorem gL_law_L_cell : GoodIn wsL_law (va_wsS RL 9 yL_cell wsL_cell) := goodIn_app (goodIn_of _ (by decide +kernel)) ggL_law_L_cell
set_option maxRecDepth 20000 in
theorem ggL_law_X2_init : GoodIn wsL_law wsX2_init := goodIn_r _ [12, 13, 14, 15, 16, 17, 18, 19, 20, 21, 22, 23, 24, 25, 26, 27, 28, 29, 30, 31, 32, 33, 34, 35, 36, 37, 38, 39, 40, 41, 42, 43, 44, 45, 46, 47, 48, 49, 50, 51, 52, 53, 608, 609, 610, 575, 576, 577, 578, 579, 580, 581, 582, 583, 584, 585, 586, 587, 588, 611] (by decide +kernel) (by decide +kernel)
set_option maxRecDepth 20000 in
theorem gL_law_X2_init : GoodIn wsL_law (wsX2_init) := ggL_law_X2_init
set_option maxRecDepth 20000 in
theorem ggL_law_X3_init : GoodIn wsL_law wsX3_init := goodIn_r _ [56, 57, 14, 15, 24, 58, 59, 60, 61, 62, 63, 64, 65, 66, 67, 68, 69, 70, 71, 72, 73, 74, 75, 76, 77, 78, 79, 80, 81, 82, 5, 83, 84, 85, 86, 87, 88, 89, 90, 91, 92, 93, 94, 95, 96, 97, 98, 99, 100, 101, 102, 103, 104, 105, 106, 107, 108, 109, 110, 111, 112, 113, 114, 115, 116, 117, 118, 119, 120, 121, 122, 123, 124, 125, 126, 127, 128, 129, 130, 131, 132, 133, 134, 135, 136, 137, 138, 139, 140, 141, 142, 143, 144, 145, 146, 147, 148, 149, 150, 151, 589, 590, 591, 592, 593, 594, 595, 596, 597, 598, 599, 600, 601, 602, 603, 604, 605, 606, 607] (by decide +kernel) (by decide +kernel)
set_option maxRecDepth 20000 in
theorem gL_law_X3_init : GoodIn wsL_law (wsX3_init) := ggL_law_X3_init
set_option maxRecDepth 20000 in
theorem ggL_law_X2_put : GoodIn wsL_law wsX2_put := goodIn_r _ [155, 30, 27, 156, 157, 158, 2, 159, 39, 40, 575, 576, 577, 578, 579, 580, 581, 582, 583, 584, 585, 586, 587, 588] (by decide +kernel) (by decide +kernel)
set_option maxRecDepth 20000 in
theorem gL_law_X2_put : GoodIn wsL_law (wsV RL 21 RX2 yX2_put wsX2_put) := goodIn_app (goodIn_of _ (by decide +kernel)) ggL_law_X2_put
set_option maxRecDepth 20000 in
theorem ggL_law_X3_put : GoodIn wsL_law wsX3_put := goodIn_r _ [163, 164, 60, 165, 166, 167, 5, 168, 169, 61, 589, 590, 591, 592, 593, 594, 595, 596, 597, 598, 599, 600, 601, 602, 603, 604, 605, 606, 607] (by decide +kernel) (by decide +kernel)
set_option maxRecDepth 20000 in
theorem gL_law_X3_put : GoodIn wsL_law (wsV RL 25 RX3 yX3_put wsX3_put) := goodIn_app (goodIn_of _ (by decide +kernel)) ggL_law_X3_put
set_option maxRecDepth 20000 in
theorem ggL_law_X2_takeBack : GoodIn wsL_law wsX2_takeBack := goodIn_r _ [173, 30, 174, 175, 176, 2, 177, 27, 178, 179, 180, 181, 182, 183, 184, 156, 157, 158, 159, 39, 40, 575, 576, 577, 578, 579, 580, 581, 582, 583, 584, 585, 586, 587, 588] (by decide +kernel) (by decide +kernel)
set_option maxRecDepth 20000 in
theorem gL_law_X2_takeBack : GoodIn wsL_law (wsV RL 26 RX2 yX2_takeBack wsX2_takeBack) := goodIn_app (goodIn_of _ (by decide +kernel)) ggL_law_X2_takeBack
set_option maxRecDepth 20000 in
theorem ggL_law_X3_takeBack : GoodIn wsL_law wsX3_takeBack := goodIn_r _ [188, 164, 165, 166, 167, 5, 168, 169, 61, 589, 590, 591, 592, 593, 594, 595, 596, 597, 598, 599, 600, 601, 602, 603, 604, 605, 606, 607] (by decide +kernel) (by decide +kernel)
set_option maxRecDepth 20000 in
theorem gL_law_X3_takeBack : GoodIn wsL_law (wsV RL 29 RX3 yX3_takeBack wsX3_takeBack) := goodIn_app (goodIn_of _ (by decide +kernel)) ggL_law_X3_takeBack
set_option maxRecDepth 20000 in
theorem ggL_law_X2_pending : GoodIn wsL_law wsX2_pending := goodIn_r _ [192, 30, 27, 575, 576, 577, 578, 579, 580, 581, 582, 583, 584, 585, 586, 587, 588] (by decide +kernel) (by decide +kernel)
set_option maxRecDepth 20000 in
theorem gL_law_X2_pending : GoodIn wsL_law (wsV RL 30 RX2 yX2_pending wsX2_pending) := goodIn_app (goodIn_of _ (by decide +kernel)) ggL_law_X2_pending
set_option maxRecDepth 20000 in
theorem ggL_law_X3_pending : GoodIn wsL_law wsX3_pending := goodIn_r _ [196, 164, 60, 589, 590, 591, 592, 593, 594, 595, 596, 597, 598, 599, 600, 601, 602, 603, 604, 605, 606, 607] (by decide +kernel) (by decide +kernel)
set_option maxRecDepth 20000 in
theorem gL_law_X3_pending : GoodIn wsL_law (wsV RL 33 RX3 yX3_pending wsX3_pending) := goodIn_app (goodIn_of _ (by decide +kernel)) ggL_law_X3_pending
set_option maxRecDepth 20000 in
theorem ggL_law_X2_difficulty : GoodIn wsL_law wsX2_difficulty := goodIn_r _ [200, 38, 156, 157, 158, 2, 159, 39, 40, 575, 576, 577, 578, 579, 580, 581, 582, 583, 584, 585, 586, 587, 588] (by decide +kernel) (by decide +kernel)
set_option maxRecDepth 20000 in
theorem gL_law_X2_difficulty : GoodIn wsL_law (wsV RL 34 RX2 yX2_difficulty wsX2_difficulty) := goodIn_app (goodIn_of _ (by decide +kernel)) ggL_law_X2_difficulty
set_option maxRecDepth 20000 in
theorem ggL_law_X3_difficulty : GoodIn wsL_law wsX3_difficulty := goodIn_r _ [204, 71, 165, 166, 167, 5, 168, 169, 61, 589, 590, 591, 592, 593, 594, 595, 596, 597, 598, 599, 600, 601, 602, 603, 604, 605, 606, 607] (by decide +kernel) (by decide +kernel)
set_option maxRecDepth 20000 in
theorem gL_law_X3_difficulty : GoodIn wsL_law (wsV RL 37 RX3 yX3_difficulty wsX3_difficulty) := goodIn_app (goodIn_of _ (by decide +kernel)) ggL_law_X3_difficulty
set_option maxRecDepth 20000 in
theorem ggL_law_X2_mine : GoodIn wsL_law wsX2_mine := goodIn_r _ [208, 40, 39, 209, 31, 32, 33, 34, 210, 211, 212, 2, 213, 29, 27, 38, 30, 214, 215, 216, 217, 25, 218, 219, 220, 221, 222, 223, 224, 225, 178, 179, 180, 181, 182, 183, 184, 226, 227, 228, 229, 230, 231, 232, 19, 233, 234, 235, 18, 236, 237, 47, 238, 49, 239, 240, 241, 242, 243, 244, 245, 246, 247, 248, 249, 250, 251, 252, 253, 48, 254, 255, 256, 257, 258, 259, 260, 261, 262, 263, 264, 265, 266, 267, 268, 575, 576, 577, 578, 579, 580, 581, 582, 583, 584, 585, 586, 587, 588, 608, 609, 610] (by decide +kernel) (by decide +kernel)
set_option maxRecDepth 20000 in
theorem gL_law_X2_mine : GoodIn wsL_law (wsV RL 38 RX2 yX2_mine wsX2_mine) := goodIn_app (goodIn_of _ (by decide +kernel)) ggL_law_X2_mine
set_option maxRecDepth 20000 in
theorem ggL_law_X3_mine : GoodIn wsL_law wsX3_mine := goodIn_r _ [272, 61, 169, 273, 70, 71, 274, 275, 276, 5, 277, 278, 164, 60, 279, 280, 281, 282, 58, 283, 284, 285, 286, 287, 288, 289, 67, 66, 69, 68, 290, 291, 292, 293, 65, 294, 295, 296, 297, 298, 299, 300, 301, 302, 303, 304, 305, 306, 307, 308, 589, 590, 591, 592, 593, 594, 595, 596, 597, 598, 599, 600, 601, 602, 603, 604, 605, 606, 607] (by decide +kernel) (by decide +kernel)
set_option maxRecDepth 20000 in
theorem gL_law_X3_mine : GoodIn wsL_law (wsV RL 41 RX3 yX3_mine wsX3_mine) := goodIn_app (goodIn_of _ (by decide +kernel)) ggL_law_X3_mine
set_option maxRecDepth 20000 in
theorem ggL_law_X2_tried : GoodIn wsL_law wsX2_tried := goodIn_r _ [312, 39, 575, 576, 577, 578, 579, 580, 581, 582, 583, 584, 585, 586, 587, 588] (by decide +kernel) (by decide +kernel)
set_option maxRecDepth 20000 in
theorem gL_law_X2_tried : GoodIn wsL_law (wsV RL 42 RX2 yX2_tried wsX2_tried) := goodIn_app (goodIn_of _ (by decide +kernel)) ggL_law_X2_tried
set_option maxRecDepth 20000 in
theorem ggL_law_X3_tried : GoodIn wsL_law wsX3_tried := goodIn_r _ [316, 169, 589, 590, 591, 592, 593, 594, 595, 596, 597, 598, 599, 600, 601, 602, 603, 604, 605, 606, 607] (by decide +kernel) (by decide +kernel)
set_option maxRecDepth 20000 in
theorem gL_law_X3_tried : GoodIn wsL_law (wsV RL 46 RX3 yX3_tried wsX3_tried) := goodIn_app (goodIn_of _ (by decide +kernel)) ggL_law_X3_tried
set_option maxRecDepth 20000 in
theorem ggL_law_X2_commit : GoodIn wsL_law wsX2_commit := goodIn_r _ [320, 29, 40, 27, 25, 218, 219, 220, 221, 26, 321, 322, 323, 2, 324, 23, 325, 326, 327, 22, 328, 53, 329, 330, 331, 332, 333, 334, 335, 336, 337, 338, 339, 340, 248, 249, 174, 175, 176, 177, 30, 178, 179, 180, 181, 182, 183, 184, 156, 157, 158, 159, 39, 575, 576, 577, 578, 579, 580, 581, 582, 583, 584, 585, 586, 587, 588, 611] (by decide +kernel) (by decide +kernel)
set_option maxRecDepth 20000 in
theorem gL_law_X2_commit : GoodIn wsL_law (wsV RL 47 RX2 yX2_commit wsX2_commit) := goodIn_app (goodIn_of _ (by decide +kernel)) ggL_law_X2_commit
set_option maxRecDepth 20000 in
theorem ggL_law_X3_commit : GoodIn wsL_law wsX3_commit := goodIn_r _ [344, 278, 61, 70, 58, 67, 59, 164, 274, 275, 276, 5, 277, 60, 71, 279, 280, 281, 282, 283, 284, 285, 286, 287, 288, 289, 66, 69, 68, 290, 291, 292, 293, 65, 294, 295, 296, 297, 298, 299, 300, 301, 345, 346, 347, 348, 63, 349, 350, 351, 352, 353, 354, 355, 356, 357, 358, 359, 360, 361, 362, 165, 166, 167, 168, 169, 589, 590, 591, 592, 593, 594, 595, 596, 597, 598, 599, 600, 601, 602, 603, 604, 605, 606, 607] (by decide +kernel) (by decide +kernel)
set_option maxRecDepth 20000 in
theorem gL_law_X3_commit : GoodIn wsL_law (wsV RL 50 RX3 yX3_commit wsX3_commit) := goodIn_app (goodIn_of _ (by decide +kernel)) ggL_law_X3_commit
set_option maxRecDepth 20000 in
theorem ggL_law_X2_count : GoodIn wsL_law wsX2_count := goodIn_r _ [366, 29, 575, 576, 577, 578, 579, 580, 581, 582, 583, 584, 585, 586, 587, 588] (by decide +kernel) (by decide +kernel)
set_option maxRecDepth 20000 in
theorem gL_law_X2_count : GoodIn wsL_law (wsV RL 51 RX2 yX2_count wsX2_count) := goodIn_app (goodIn_of _ (by decide +kernel)) ggL_law_X2_count
set_option maxRecDepth 20000 in
theorem ggL_law_X3_count : GoodIn wsL_law wsX3_count := goodIn_r _ [370, 278, 589, 590, 591, 592, 593, 594, 595, 596, 597, 598, 599, 600, 601, 602, 603, 604, 605, 606, 607] (by decide +kernel) (by decide +kernel)
set_option maxRecDepth 20000 in
theorem gL_law_X3_count : GoodIn wsL_law (wsV RL 54 RX3 yX3_count wsX3_count) := goodIn_app (goodIn_of _ (by decide +kernel)) ggL_law_X3_count
set_option maxRecDepth 20000 in
theorem ggL_law_X2_head : GoodIn wsL_law wsX2_head := goodIn_r _ [374, 26, 575, 576, 577, 578, 579, 580, 581, 582, 583, 584, 585, 586, 587, 588] (by decide +kernel) (by decide +kernel)
set_option maxRecDepth 20000 in
theorem gL_law_X2_head : GoodIn wsL_law (wsV RL 55 RX2 yX2_head wsX2_head) := goodIn_app (goodIn_of _ (by decide +kernel)) ggL_law_X2_head
set_option maxRecDepth 20000 in
theorem ggL_law_X3_head : GoodIn wsL_law wsX3_head := goodIn_r _ [378, 59, 589, 590, 591, 592, 593, 594, 595, 596, 597, 598, 599, 600, 601, 602, 603, 604, 605, 606, 607] (by decide +kernel) (by decide +kernel)
set_option maxRecDepth 20000 in
theorem gL_law_X3_head : GoodIn wsL_law (wsV RL 58 RX3 yX3_head wsX3_head) := goodIn_app (goodIn_of _ (by decide +kernel)) ggL_law_X3_head
set_option maxRecDepth 20000 in
theorem ggL_law_X2_cell : GoodIn wsL_law wsX2_cell := goodIn_r _ [382, 25, 383, 384, 385, 2, 386, 222, 223, 224, 225, 29, 575, 576, 577, 578, 579, 580, 581, 582, 583, 584, 585, 586, 587, 588] (by decide +kernel) (by decide +kernel)
set_option maxRecDepth 20000 in
theorem gL_law_X2_cell : GoodIn wsL_law (wsV RL 59 RX2 yX2_cell wsX2_cell) := goodIn_app (goodIn_of _ (by decide +kernel)) ggL_law_X2_cell
set_option maxRecDepth 20000 in
theorem ggL_law_X3_cell : GoodIn wsL_law wsX3_cell := goodIn_r _ [390, 58, 391, 392, 393, 5, 394, 278, 589, 590, 591, 592, 593, 594, 595, 596, 597, 598, 599, 600, 601, 602, 603, 604, 605, 606, 607] (by decide +kernel) (by decide +kernel)
set_option maxRecDepth 20000 in
theorem gL_law_X3_cell : GoodIn wsL_law (wsV RL 62 RX3 yX3_cell wsX3_cell) := goodIn_app (goodIn_of _ (by decide +kernel)) ggL_law_X3_cell
set_option maxRecDepth 20000 in
theorem ggL_law_X2_spoil : GoodIn wsL_law wsX2_spoil := goodIn_r _ [398, 25, 383, 384, 385, 2, 386, 222, 223, 224, 225, 29, 156, 157, 158, 159, 39, 40, 575, 576, 577, 578, 579, 580, 581, 582, 583, 584, 585, 586, 587, 588] (by decide +kernel) (by decide +kernel)
set_option maxRecDepth 20000 in
theorem gL_law_X2_spoil : GoodIn wsL_law (wsV RL 63 RX2 yX2_spoil wsX2_spoil) := goodIn_app (goodIn_of _ (by decide +kernel)) ggL_law_X2_spoil
set_option maxRecDepth 20000 in
theorem ggL_law_X3_spoil : GoodIn wsL_law wsX3_spoil := goodIn_r _ [402, 58, 391, 392, 393, 5, 394, 278, 165, 166, 167, 168, 169, 61, 589, 590, 591, 592, 593, 594, 595, 596, 597, 598, 599, 600, 601, 602, 603, 604, 605, 606, 607] (by decide +kernel) (by decide +kernel)
set_option maxRecDepth 20000 in
theorem gL_law_X3_spoil : GoodIn wsL_law (wsV RL 67 RX3 yX3_spoil wsX3_spoil) := goodIn_app (goodIn_of _ (by decide +kernel)) ggL_law_X3_spoil
set_option maxRecDepth 20000 in
theorem ggL_law_X2_drop : GoodIn wsL_law wsX2_drop := goodIn_r _ [406, 29, 25, 26, 218, 219, 220, 221, 41, 31, 32, 33, 34, 407, 408, 409, 2, 410, 23, 411, 412, 413, 22, 414, 53, 415, 416, 180, 417, 321, 322, 323, 324, 325, 326, 327, 328, 329, 330, 331, 332, 333, 334, 335, 336, 337, 338, 339, 340, 248, 249, 156, 157, 158, 159, 39, 40, 575, 576, 577, 578, 579, 580, 581, 582, 583, 584, 585, 586, 587, 588, 611] (by decide +kernel) (by decide +kernel)
set_option maxRecDepth 20000 in
theorem gL_law_X2_drop : GoodIn wsL_law (wsV RL 68 RX2 yX2_drop wsX2_drop) := goodIn_app (goodIn_of _ (by decide +kernel)) ggL_law_X2_drop
set_option maxRecDepth 20000 in
theorem ggL_law_X3_drop : GoodIn wsL_law wsX3_drop := goodIn_r _ [421, 278, 59, 58, 63, 422, 345, 346, 347, 5, 348, 349, 350, 351, 352, 353, 354, 355, 356, 357, 358, 359, 360, 361, 362, 294, 295, 296, 165, 166, 167, 168, 169, 61, 589, 590, 591, 592, 593, 594, 595, 596, 597, 598, 599, 600, 601, 602, 603, 604, 605, 606, 607] (by decide +kernel) (by decide +kernel)
set_option maxRecDepth 20000 in
theorem gL_law_X3_drop : GoodIn wsL_law (wsV RL 71 RX3 yX3_drop wsX3_drop) := goodIn_app (goodIn_of _ (by decide +kernel)) ggL_law_X3_drop
set_option maxRecDepth 20000 in
theorem ggL_law_X2_may : GoodIn wsL_law wsX2_may := goodIn_r _ [426, 23, 427, 428, 429, 22, 430, 53, 329, 330, 331, 332, 333, 334, 335, 336, 337, 338, 339, 340, 248, 2, 249, 575, 576, 577, 578, 579, 580, 581, 582, 583, 584, 585, 586, 587, 588, 611] (by decide +kernel) (by decide +kernel)
set_option maxRecDepth 20000 in
theorem gL_law_X2_may : GoodIn wsL_law (wsV RL 72 RX2 yX2_may wsX2_may) := goodIn_app (goodIn_of _ (by decide +kernel)) ggL_law_X2_may
set_option maxRecDepth 20000 in
theorem ggL_law_X3_may : GoodIn wsL_law wsX3_may := goodIn_r _ [434, 435, 436, 437, 5, 438, 63, 349, 350, 351, 352, 353, 354, 355, 356, 357, 358, 359, 360, 361, 362, 294, 295, 296, 589, 590, 591, 592, 593, 594, 595, 596, 597, 598, 599, 600, 601, 602, 603, 604, 605, 606, 607] (by decide +kernel) (by decide +kernel)
set_option maxRecDepth 20000 in
theorem gL_law_X3_may : GoodIn wsL_law (wsV RL 75 RX3 yX3_may wsX3_may) := goodIn_app (goodIn_of _ (by decide +kernel)) ggL_law_X3_may
set_option maxRecDepth 20000 in
theorem ggL_law_X2_find : GoodIn wsL_law wsX2_find := goodIn_r _ [442, 23, 29, 427, 428, 429, 22, 430, 53, 329, 330, 331, 332, 333, 334, 335, 336, 337, 338, 339, 340, 248, 2, 249, 443, 444, 445, 446, 25, 575, 576, 577, 578, 579, 580, 581, 582, 583, 584, 585, 586, 587, 588, 611] (by decide +kernel) (by decide +kernel)
set_option maxRecDepth 20000 in
theorem gL_law_X2_find : GoodIn wsL_law (wsV RL 76 RX2 yX2_find wsX2_find) := goodIn_app (goodIn_of _ (by decide +kernel)) ggL_law_X2_find
set_option maxRecDepth 20000 in
theorem ggL_law_X3_find : GoodIn wsL_law wsX3_find := goodIn_r _ [450, 278, 58, 435, 436, 437, 5, 438, 63, 349, 350, 351, 352, 353, 354, 355, 356, 357, 358, 359, 360, 361, 362, 294, 295, 296, 589, 590, 591, 592, 593, 594, 595, 596, 597, 598, 599, 600, 601, 602, 603, 604, 605, 606, 607] (by decide +kernel) (by decide +kernel)
set_option maxRecDepth 20000 in
theorem gL_law_X3_find : GoodIn wsL_law (wsV RL 79 RX3 yX3_find wsX3_find) := goodIn_app (goodIn_of _ (by decide +kernel)) ggL_law_X3_find
set_option maxRecDepth 20000 in
theorem ggL_law_X2_stir : GoodIn wsL_law wsX2_stir := goodIn_r _ [454, 455, 334, 22, 335, 336, 337, 338, 339, 340, 248, 2, 249] (by decide +kernel) (by decide +kernel)
set_option maxRecDepth 20000 in
theorem gL_law_X2_stir : GoodIn wsL_law (wsV RL 80 RX2 yX2_stir wsX2_stir) := goodIn_app (goodIn_of _ (by decide +kernel)) ggL_law_X2_stir
set_option maxRecDepth 20000 in
theorem ggL_law_X3_stir : GoodIn wsL_law wsX3_stir := goodIn_r _ [357, 358, 359, 360, 361, 362, 294, 295, 5, 296] (by decide +kernel) (by decide +kernel)
set_option maxRecDepth 20000 in
theorem gL_law_X3_stir : GoodIn wsL_law (wsV RL 83 RX3 yX3_stir wsX3_stir) := goodIn_app (goodIn_of _ (by decide +kernel)) ggL_law_X3_stir
set_option maxRecDepth 20000 in
theorem ggL_law_X2_begin : GoodIn wsL_law wsX2_begin := goodIn_r _ [460, 41, 575, 576, 577, 578, 579, 580, 581, 582, 583, 584, 585, 586, 587, 588] (by decide +kernel) (by decide +kernel)
set_option maxRecDepth 20000 in
theorem gL_law_X2_begin : GoodIn wsL_law (wsV RL 84 RX2 yX2_begin wsX2_begin) := goodIn_app (goodIn_of _ (by decide +kernel)) ggL_law_X2_begin
set_option maxRecDepth 20000 in
theorem ggL_law_X3_begin : GoodIn wsL_law wsX3_begin := goodIn_r _ [464, 422, 589, 590, 591, 592, 593, 594, 595, 596, 597, 598, 599, 600, 601, 602, 603, 604, 605, 606, 607] (by decide +kernel) (by decide +kernel)
set_option maxRecDepth 20000 in
theorem gL_law_X3_begin : GoodIn wsL_law (wsV RL 87 RX3 yX3_begin wsX3_begin) := goodIn_app (goodIn_of _ (by decide +kernel)) ggL_law_X3_begin
set_option maxRecDepth 20000 in
theorem ggL_law_X2_audit : GoodIn wsL_law wsX2_audit := goodIn_r _ [468, 42, 41, 29, 469, 470, 471, 2, 472, 26, 35, 36, 33, 37, 473, 474, 475, 476, 25, 222, 223, 224, 225, 477, 478, 479, 480, 19, 226, 227, 228, 481, 482, 483, 18, 484, 485, 234, 235, 236, 237, 47, 238, 219, 220, 221, 49, 239, 240, 241, 242, 243, 244, 245, 246, 247, 248, 249, 486, 251, 252, 253, 48, 254, 255, 179, 180, 181, 182, 183, 184, 487, 488, 489, 490, 256, 257, 258, 259, 260, 261, 262, 263, 264, 575, 576, 577, 578, 579, 580, 581, 582, 583, 584, 585, 586, 587, 588, 608, 609, 610] (by decide +kernel) (by decide +kernel)
set_option maxRecDepth 20000 in
theorem gL_law_X2_audit : GoodIn wsL_law (wsV RL 88 RX2 yX2_audit wsX2_audit) := goodIn_app (goodIn_of _ (by decide +kernel)) ggL_law_X2_audit
set_option maxRecDepth 20000 in
theorem ggL_law_X3_audit : GoodIn wsL_law wsX3_audit := goodIn_r _ [494, 495, 422, 278, 496, 497, 498, 5, 499, 70, 58, 67, 500, 501, 502, 503, 279, 280, 281, 282, 283, 284, 285, 286, 287, 288, 289, 66, 69, 68, 290, 291, 292, 293, 65, 294, 295, 296, 297, 298, 299, 300, 301, 302, 303, 304, 305, 306, 307, 308, 504, 505, 506, 507, 59, 589, 590, 591, 592, 593, 594, 595, 596, 597, 598, 599, 600, 601, 602, 603, 604, 605, 606, 607] (by decide +kernel) (by decide +kernel)
set_option maxRecDepth 20000 in
theorem gL_law_X3_audit : GoodIn wsL_law (wsV RL 91 RX3 yX3_audit wsX3_audit) := goodIn_app (goodIn_of _ (by decide +kernel)) ggL_law_X3_audit
set_option maxRecDepth 20000 in
theorem ggL_law_X2_fault : GoodIn wsL_law wsX2_fault := goodIn_r _ [511, 42, 575, 576, 577, 578, 579, 580, 581, 582, 583, 584, 585, 586, 587, 588] (by decide +kernel) (by decide +kernel)
set_option maxRecDepth 20000 in
theorem gL_law_X2_fault : GoodIn wsL_law (wsV RL 92 RX2 yX2_fault wsX2_fault) := goodIn_app (goodIn_of _ (by decide +kernel)) ggL_law_X2_fault
set_option maxRecDepth 20000 in
theorem ggL_law_X3_fault : GoodIn wsL_law wsX3_fault := goodIn_r _ [515, 495, 589, 590, 591, 592, 593, 594, 595, 596, 597, 598, 599, 600, 601, 602, 603, 604, 605, 606, 607] (by decide +kernel) (by decide +kernel)
set_option maxRecDepth 20000 in
theorem gL_law_X3_fault : GoodIn wsL_law (wsV RL 95 RX3 yX3_fault wsX3_fault) := goodIn_app (goodIn_of _ (by decide +kernel)) ggL_law_X3_fault
set_option maxRecDepth 20000 in
theorem ggL_law_X2_way : GoodIn wsL_law wsX2_way := goodIn_r _ [519, 29, 222, 223, 224, 2, 225, 520, 521, 522, 523, 524, 525, 526, 527, 528, 529, 226, 227, 228, 575, 576, 577, 578, 579, 580, 581, 582, 583, 584, 585, 586, 587, 588] (by decide +kernel) (by decide +kernel)
set_option maxRecDepth 20000 in
theorem gL_law_X2_way : GoodIn wsL_law (wsV RL 96 RX2 yX2_way wsX2_way) := goodIn_app (goodIn_of _ (by decide +kernel)) ggL_law_X2_way
set_option maxRecDepth 20000 in
theorem ggL_law_X3_way : GoodIn wsL_law wsX3_way := goodIn_r _ [533, 278, 534, 535, 536, 5, 537, 283, 284, 285, 589, 590, 591, 592, 593, 594, 595, 596, 597, 598, 599, 600, 601, 602, 603, 604, 605, 606, 607] (by decide +kernel) (by decide +kernel)
set_option maxRecDepth 20000 in
theorem gL_law_X3_way : GoodIn wsL_law (wsV RL 99 RX3 yX3_way wsX3_way) := goodIn_app (goodIn_of _ (by decide +kernel)) ggL_law_X3_way
set_option maxRecDepth 20000 in
theorem ggL_law_X2_prove : GoodIn wsL_law wsX2_prove := goodIn_r _ [541, 29, 25, 28, 218, 219, 220, 221, 43, 222, 223, 224, 2, 225, 520, 521, 522, 523, 524, 525, 526, 527, 528, 529, 226, 227, 228, 575, 576, 577, 578, 579, 580, 581, 582, 583, 584, 585, 586, 587, 588] (by decide +kernel) (by decide +kernel)
set_option maxRecDepth 20000 in
theorem gL_law_X2_prove : GoodIn wsL_law (wsV RL 100 RX2 yX2_prove wsX2_prove) := goodIn_app (goodIn_of _ (by decide +kernel)) ggL_law_X2_prove
set_option maxRecDepth 20000 in
theorem ggL_law_X3_prove : GoodIn wsL_law wsX3_prove := goodIn_r _ [545, 278, 546, 64, 58, 534, 535, 536, 5, 537, 283, 284, 285, 589, 590, 591, 592, 593, 594, 595, 596, 597, 598, 599, 600, 601, 602, 603, 604, 605, 606, 607] (by decide +kernel) (by decide +kernel)
set_option maxRecDepth 20000 in
theorem gL_law_X3_prove : GoodIn wsL_law (wsV RL 103 RX3 yX3_prove wsX3_prove) := goodIn_app (goodIn_of _ (by decide +kernel)) ggL_law_X3_prove
set_option maxRecDepth 20000 in
theorem ggL_law_X2_proof : GoodIn wsL_law wsX2_proof := goodIn_r _ [550, 43, 28, 575, 576, 577, 578, 579, 580, 581, 582, 583, 584, 585, 586, 587, 588] (by decide +kernel) (by decide +kernel)
set_option maxRecDepth 20000 in
theorem gL_law_X2_proof : GoodIn wsL_law (wsV RL 104 RX2 yX2_proof wsX2_proof) := goodIn_app (goodIn_of _ (by decide +kernel)) ggL_law_X2_proof
set_option maxRecDepth 20000 in
theorem ggL_law_X3_proof : GoodIn wsL_law wsX3_proof := goodIn_r _ [554, 546, 64, 589, 590, 591, 592, 593, 594, 595, 596, 597, 598, 599, 600, 601, 602, 603, 604, 605, 606, 607] (by decide +kernel) (by decide +kernel)
set_option maxRecDepth 20000 in
theorem gL_law_X3_proof : GoodIn wsL_law (wsV RL 107 RX3 yX3_proof wsX3_proof) := goodIn_app (goodIn_of _ (by decide +kernel)) ggL_law_X3_proof
set_option maxRecDepth 20000 in
theorem ggL_law_X2_forge : GoodIn wsL_law wsX2_forge := goodIn_r _ [558, 43, 28, 575, 576, 577, 578, 579, 580, 581, 582, 583, 584, 585, 586, 587, 588] (by decide +kernel) (by decide +kernel)
set_option maxRecDepth 20000 in
theorem gL_law_X2_forge : GoodIn wsL_law (wsV RL 108 RX2 yX2_forge wsX2_forge) := goodIn_app (goodIn_of _ (by decide +kernel)) ggL_law_X2_forge
set_option maxRecDepth 20000 in
theorem ggL_law_X3_forge : GoodIn wsL_law wsX3_forge := goodIn_r _ [562, 546, 64, 589, 590, 591, 592, 593, 594, 595, 596, 597, 598, 599, 600, 601, 602, 603, 604, 605, 606, 607] (by decide +kernel) (by decide +kernel)
set_option maxRecDepth 20000 in
theorem gL_law_X3_forge : GoodIn wsL_law (wsV RL 111 RX3 yX3_forge wsX3_forge) := goodIn_app (goodIn_of _ (by decide +kernel)) ggL_law_X3_forge
set_option maxRecDepth 20000 in
theorem ggL_law_X2_check : GoodIn wsL_law wsX2_check := goodIn_r _ [566, 222, 223, 224, 2, 225, 29, 567, 568, 569, 570, 43, 26, 19, 28, 520, 521, 522, 523, 524, 525, 526, 527, 528, 529, 226, 227, 228, 481, 482, 483, 18, 484, 485, 234, 235, 236, 237, 47, 238, 219, 220, 221, 49, 239, 240, 241, 242, 243, 244, 245, 246, 247, 248, 249, 486, 251, 252, 253, 48, 254, 255, 179, 180, 181, 182, 183, 184, 487, 488, 489, 490, 575, 576, 577, 578, 579, 580, 581, 582, 583, 584, 585, 586, 587, 588, 608, 609, 610] (by decide +kernel) (by decide +kernel)
set_option maxRecDepth 20000 in
theorem gL_law_X2_check : GoodIn wsL_law (wsV RL 112 RX2 yX2_check wsX2_check) := goodIn_app (goodIn_of _ (by decide +kernel)) ggL_law_X2_check
set_option maxRecDepth 20000 in
theorem ggL_law_X3_check : GoodIn wsL_law wsX3_check := goodIn_r _ [574, 278, 546, 70, 64, 67, 59, 286, 287, 288, 5, 289, 66, 69, 68, 290, 291, 292, 293, 65, 294, 295, 296, 297, 298, 299, 300, 301, 534, 535, 536, 537, 283, 284, 285, 589, 590, 591, 592, 593, 594, 595, 596, 597, 598, 599, 600, 601, 602, 603, 604, 605, 606, 607] (by decide +kernel) (by decide +kernel)
set_option maxRecDepth 20000 in
theorem gL_law_X3_check : GoodIn wsL_law (wsV RL 115 RX3 yX3_check wsX3_check) := goodIn_app (goodIn_of _ (by decide +kernel)) ggL_law_X3_check
theorem dL_law_0 : decode cL_law 0 = .ok (.new 7, 3) := by decide +kernel
theorem dL_law_3 : decode cL_law 3 = .ok (.dup, 1) := by decide +kernel
theorem dL_law_4 : decode cL_law 4 = .ok (.aload_n 0, 1) := by decide +kernel
theorem dL_law_5 : decode cL_law 5 = .ok (.iconst 0, 1) := by decide +kernel
theorem dL_law_6 : decode cL_law 6 = .ok (.invokestatic 9, 3) := by decide +kernel
theorem dL_law_9 : decode cL_law 9 = .ok (.invokespecial 15, 3) := by decide +kernel
theorem dL_law_12 : decode cL_law 12 = .ok (.astore_n 1, 1) := by decide +kernel
theorem dL_law_13 : decode cL_law 13 = .ok (.new 18, 3) := by decide +kernel
theorem dL_law_16 : decode cL_law 16 = .ok (.dup, 1) := by decide +kernel
theorem dL_law_17 : decode cL_law 17 = .ok (.aload_n 0, 1) := by decide +kernel
theorem dL_law_18 : decode cL_law 18 = .ok (.iconst 0, 1) := by decide +kernel
theorem dL_law_19 : decode cL_law 19 = .ok (.invokestatic 9, 3) := by decide +kernel
theorem dL_law_22 : decode cL_law 22 = .ok (.invokespecial 20, 3) := by decide +kernel
theorem dL_law_25 : decode cL_law 25 = .ok (.astore_n 2, 1) := by decide +kernel
theorem dL_law_26 : decode cL_law 26 = .ok (.iconst 1, 1) := by decide +kernel
theorem dL_law_27 : decode cL_law 27 = .ok (.istore_n 3, 1) := by decide +kernel
theorem dL_law_28 : decode cL_law 28 = .ok (.iload_n 3, 1) := by decide +kernel
theorem dL_law_29 : decode cL_law 29 = .ok (.aload_n 0, 1) := by decide +kernel
theorem dL_law_30 : decode cL_law 30 = .ok (.arraylength, 1) := by decide +kernel
theorem dL_law_31 : decode cL_law 31 = .ok (.iconst 4, 1) := by decide +kernel
theorem dL_law_32 : decode cL_law 32 = .ok (.isub, 1) := by decide +kernel
theorem dL_law_33 : decode cL_law 33 = .ok (.if_icmp .gt 650, 3) := by decide +kernel
theorem dL_law_36 : decode cL_law 36 = .ok (.aload_n 0, 1) := by decide +kernel
theorem dL_law_37 : decode cL_law 37 = .ok (.iload_n 3, 1) := by decide +kernel
theorem dL_law_38 : decode cL_law 38 = .ok (.iaload, 1) := by decide +kernel
theorem dL_law_39 : decode cL_law 39 = .ok (.bipush 31, 2) := by decide +kernel
theorem dL_law_41 : decode cL_law 41 = .ok (.iand, 1) := by decide +kernel
theorem dL_law_42 : decode cL_law 42 = .ok (.tableswitch 635 0 22 #[106, 129, 152, 175, 198, 221, 234, 247, 260, 283, 316, 359, 372, 395, 418, 451, 464, 487, 500, 533, 556, 579, 612], 106) := by decide +kernel
theorem dL_law_148 : decode cL_law 148 = .ok (.aload_n 1, 1) := by decide +kernel
theorem dL_law_149 : decode cL_law 149 = .ok (.aload_n 0, 1) := by decide +kernel
theorem dL_law_150 : decode cL_law 150 = .ok (.iload_n 3, 1) := by decide +kernel
theorem dL_law_151 : decode cL_law 151 = .ok (.iconst 1, 1) := by decide +kernel
theorem dL_law_152 : decode cL_law 152 = .ok (.iadd, 1) := by decide +kernel
theorem dL_law_153 : decode cL_law 153 = .ok (.iaload, 1) := by decide +kernel
theorem dL_law_154 : decode cL_law 154 = .ok (.invokevirtual 21, 3) := by decide +kernel
theorem dL_law_157 : decode cL_law 157 = .ok (.aload_n 2, 1) := by decide +kernel
theorem dL_law_158 : decode cL_law 158 = .ok (.aload_n 0, 1) := by decide +kernel
theorem dL_law_159 : decode cL_law 159 = .ok (.iload_n 3, 1) := by decide +kernel
theorem dL_law_160 : decode cL_law 160 = .ok (.iconst 1, 1) := by decide +kernel
theorem dL_law_161 : decode cL_law 161 = .ok (.iadd, 1) := by decide +kernel
theorem dL_law_162 : decode cL_law 162 = .ok (.iaload, 1) := by decide +kernel
theorem dL_law_163 : decode cL_law 163 = .ok (.invokevirtual 25, 3) := by decide +kernel
theorem dL_law_166 : decode cL_law 166 = .ok (.if_icmp .eq 511, 3) := by decide +kernel
theorem dL_law_169 : decode cL_law 169 = .ok (.iconst 0, 1) := by decide +kernel
theorem dL_law_170 : decode cL_law 170 = .ok (.ireturn, 1) := by decide +kernel
theorem dL_law_171 : decode cL_law 171 = .ok (.aload_n 1, 1) := by decide +kernel
theorem dL_law_172 : decode cL_law 172 = .ok (.aload_n 0, 1) := by decide +kernel
theorem dL_law_173 : decode cL_law 173 = .ok (.iload_n 3, 1) := by decide +kernel
theorem dL_law_174 : decode cL_law 174 = .ok (.iconst 1, 1) := by decide +kernel
theorem dL_law_175 : decode cL_law 175 = .ok (.iadd, 1) := by decide +kernel
theorem dL_law_176 : decode cL_law 176 = .ok (.iaload, 1) := by decide +kernel
theorem dL_law_177 : decode cL_law 177 = .ok (.invokevirtual 26, 3) := by decide +kernel
theorem dL_law_180 : decode cL_law 180 = .ok (.aload_n 2, 1) := by decide +kernel
theorem dL_law_181 : decode cL_law 181 = .ok (.aload_n 0, 1) := by decide +kernel
theorem dL_law_182 : decode cL_law 182 = .ok (.iload_n 3, 1) := by decide +kernel
theorem dL_law_183 : decode cL_law 183 = .ok (.iconst 1, 1) := by decide +kernel
theorem dL_law_184 : decode cL_law 184 = .ok (.iadd, 1) := by decide +kernel
theorem dL_law_185 : decode cL_law 185 = .ok (.iaload, 1) := by decide +kernel
theorem dL_law_186 : decode cL_law 186 = .ok (.invokevirtual 29, 3) := by decide +kernel
theorem dL_law_189 : decode cL_law 189 = .ok (.if_icmp .eq 488, 3) := by decide +kernel
theorem dL_law_192 : decode cL_law 192 = .ok (.iconst 0, 1) := by decide +kernel
theorem dL_law_193 : decode cL_law 193 = .ok (.ireturn, 1) := by decide +kernel
theorem dL_law_194 : decode cL_law 194 = .ok (.aload_n 1, 1) := by decide +kernel
theorem dL_law_195 : decode cL_law 195 = .ok (.aload_n 0, 1) := by decide +kernel
theorem dL_law_196 : decode cL_law 196 = .ok (.iload_n 3, 1) := by decide +kernel
theorem dL_law_197 : decode cL_law 197 = .ok (.iconst 1, 1) := by decide +kernel
theorem dL_law_198 : decode cL_law 198 = .ok (.iadd, 1) := by decide +kernel
theorem dL_law_199 : decode cL_law 199 = .ok (.iaload, 1) := by decide +kernel
theorem dL_law_200 : decode cL_law 200 = .ok (.invokevirtual 30, 3) := by decide +kernel
theorem dL_law_203 : decode cL_law 203 = .ok (.aload_n 2, 1) := by decide +kernel
theorem dL_law_204 : decode cL_law 204 = .ok (.aload_n 0, 1) := by decide +kernel
theorem dL_law_205 : decode cL_law 205 = .ok (.iload_n 3, 1) := by decide +kernel
theorem dL_law_206 : decode cL_law 206 = .ok (.iconst 1, 1) := by decide +kernel
theorem dL_law_207 : decode cL_law 207 = .ok (.iadd, 1) := by decide +kernel
theorem dL_law_208 : decode cL_law 208 = .ok (.iaload, 1) := by decide +kernel
theorem dL_law_209 : decode cL_law 209 = .ok (.invokevirtual 33, 3) := by decide +kernel
theorem dL_law_212 : decode cL_law 212 = .ok (.if_icmp .eq 465, 3) := by decide +kernel
theorem dL_law_215 : decode cL_law 215 = .ok (.iconst 0, 1) := by decide +kernel
theorem dL_law_216 : decode cL_law 216 = .ok (.ireturn, 1) := by decide +kernel
theorem dL_law_217 : decode cL_law 217 = .ok (.aload_n 1, 1) := by decide +kernel
theorem dL_law_218 : decode cL_law 218 = .ok (.aload_n 0, 1) := by decide +kernel
theorem dL_law_219 : decode cL_law 219 = .ok (.iload_n 3, 1) := by decide +kernel
theorem dL_law_220 : decode cL_law 220 = .ok (.iconst 1, 1) := by decide +kernel
theorem dL_law_221 : decode cL_law 221 = .ok (.iadd, 1) := by decide +kernel
theorem dL_law_222 : decode cL_law 222 = .ok (.iaload, 1) := by decide +kernel
theorem dL_law_223 : decode cL_law 223 = .ok (.invokevirtual 34, 3) := by decide +kernel
theorem dL_law_226 : decode cL_law 226 = .ok (.aload_n 2, 1) := by decide +kernel
theorem dL_law_227 : decode cL_law 227 = .ok (.aload_n 0, 1) := by decide +kernel
theorem dL_law_228 : decode cL_law 228 = .ok (.iload_n 3, 1) := by decide +kernel
theorem dL_law_229 : decode cL_law 229 = .ok (.iconst 1, 1) := by decide +kernel
theorem dL_law_230 : decode cL_law 230 = .ok (.iadd, 1) := by decide +kernel
theorem dL_law_231 : decode cL_law 231 = .ok (.iaload, 1) := by decide +kernel
theorem dL_law_232 : decode cL_law 232 = .ok (.invokevirtual 37, 3) := by decide +kernel
theorem dL_law_235 : decode cL_law 235 = .ok (.if_icmp .eq 442, 3) := by decide +kernel
theorem dL_law_238 : decode cL_law 238 = .ok (.iconst 0, 1) := by decide +kernel
theorem dL_law_239 : decode cL_law 239 = .ok (.ireturn, 1) := by decide +kernel
theorem dL_law_240 : decode cL_law 240 = .ok (.aload_n 1, 1) := by decide +kernel
theorem dL_law_241 : decode cL_law 241 = .ok (.aload_n 0, 1) := by decide +kernel
theorem dL_law_242 : decode cL_law 242 = .ok (.iload_n 3, 1) := by decide +kernel
theorem dL_law_243 : decode cL_law 243 = .ok (.iconst 1, 1) := by decide +kernel
theorem dL_law_244 : decode cL_law 244 = .ok (.iadd, 1) := by decide +kernel
theorem dL_law_245 : decode cL_law 245 = .ok (.iaload, 1) := by decide +kernel
theorem dL_law_246 : decode cL_law 246 = .ok (.invokevirtual 38, 3) := by decide +kernel
theorem dL_law_249 : decode cL_law 249 = .ok (.aload_n 2, 1) := by decide +kernel
theorem dL_law_250 : decode cL_law 250 = .ok (.aload_n 0, 1) := by decide +kernel
theorem dL_law_251 : decode cL_law 251 = .ok (.iload_n 3, 1) := by decide +kernel
theorem dL_law_252 : decode cL_law 252 = .ok (.iconst 1, 1) := by decide +kernel
theorem dL_law_253 : decode cL_law 253 = .ok (.iadd, 1) := by decide +kernel
theorem dL_law_254 : decode cL_law 254 = .ok (.iaload, 1) := by decide +kernel
theorem dL_law_255 : decode cL_law 255 = .ok (.invokevirtual 41, 3) := by decide +kernel
theorem dL_law_258 : decode cL_law 258 = .ok (.if_icmp .eq 419, 3) := by decide +kernel
theorem dL_law_261 : decode cL_law 261 = .ok (.iconst 0, 1) := by decide +kernel
theorem dL_law_262 : decode cL_law 262 = .ok (.ireturn, 1) := by decide +kernel
theorem dL_law_263 : decode cL_law 263 = .ok (.aload_n 1, 1) := by decide +kernel
theorem dL_law_264 : decode cL_law 264 = .ok (.invokevirtual 42, 3) := by decide +kernel
theorem dL_law_267 : decode cL_law 267 = .ok (.aload_n 2, 1) := by decide +kernel
theorem dL_law_268 : decode cL_law 268 = .ok (.invokevirtual 46, 3) := by decide +kernel
theorem dL_law_271 : decode cL_law 271 = .ok (.if_icmp .eq 406, 3) := by decide +kernel
theorem dL_law_274 : decode cL_law 274 = .ok (.iconst 0, 1) := by decide +kernel
theorem dL_law_275 : decode cL_law 275 = .ok (.ireturn, 1) := by decide +kernel
theorem dL_law_276 : decode cL_law 276 = .ok (.aload_n 1, 1) := by decide +kernel
theorem dL_law_277 : decode cL_law 277 = .ok (.invokevirtual 47, 3) := by decide +kernel
theorem dL_law_280 : decode cL_law 280 = .ok (.aload_n 2, 1) := by decide +kernel
theorem dL_law_281 : decode cL_law 281 = .ok (.invokevirtual 50, 3) := by decide +kernel
theorem dL_law_284 : decode cL_law 284 = .ok (.if_icmp .eq 393, 3) := by decide +kernel
theorem dL_law_287 : decode cL_law 287 = .ok (.iconst 0, 1) := by decide +kernel
theorem dL_law_288 : decode cL_law 288 = .ok (.ireturn, 1) := by decide +kernel
theorem dL_law_289 : decode cL_law 289 = .ok (.aload_n 1, 1) := by decide +kernel
theorem dL_law_290 : decode cL_law 290 = .ok (.invokevirtual 51, 3) := by decide +kernel
theorem dL_law_293 : decode cL_law 293 = .ok (.aload_n 2, 1) := by decide +kernel
theorem dL_law_294 : decode cL_law 294 = .ok (.invokevirtual 54, 3) := by decide +kernel
theorem dL_law_297 : decode cL_law 297 = .ok (.if_icmp .eq 380, 3) := by decide +kernel
theorem dL_law_300 : decode cL_law 300 = .ok (.iconst 0, 1) := by decide +kernel
theorem dL_law_301 : decode cL_law 301 = .ok (.ireturn, 1) := by decide +kernel
theorem dL_law_302 : decode cL_law 302 = .ok (.aload_n 1, 1) := by decide +kernel
theorem dL_law_303 : decode cL_law 303 = .ok (.aload_n 0, 1) := by decide +kernel
theorem dL_law_304 : decode cL_law 304 = .ok (.iload_n 3, 1) := by decide +kernel
theorem dL_law_305 : decode cL_law 305 = .ok (.iconst 1, 1) := by decide +kernel
theorem dL_law_306 : decode cL_law 306 = .ok (.iadd, 1) := by decide +kernel
theorem dL_law_307 : decode cL_law 307 = .ok (.iaload, 1) := by decide +kernel
theorem dL_law_308 : decode cL_law 308 = .ok (.invokevirtual 55, 3) := by decide +kernel
theorem dL_law_311 : decode cL_law 311 = .ok (.aload_n 2, 1) := by decide +kernel
theorem dL_law_312 : decode cL_law 312 = .ok (.aload_n 0, 1) := by decide +kernel
theorem dL_law_313 : decode cL_law 313 = .ok (.iload_n 3, 1) := by decide +kernel
theorem dL_law_314 : decode cL_law 314 = .ok (.iconst 1, 1) := by decide +kernel
theorem dL_law_315 : decode cL_law 315 = .ok (.iadd, 1) := by decide +kernel
theorem dL_law_316 : decode cL_law 316 = .ok (.iaload, 1) := by decide +kernel
theorem dL_law_317 : decode cL_law 317 = .ok (.invokevirtual 58, 3) := by decide +kernel
theorem dL_law_320 : decode cL_law 320 = .ok (.if_icmp .eq 357, 3) := by decide +kernel
theorem dL_law_323 : decode cL_law 323 = .ok (.iconst 0, 1) := by decide +kernel
theorem dL_law_324 : decode cL_law 324 = .ok (.ireturn, 1) := by decide +kernel
theorem dL_law_325 : decode cL_law 325 = .ok (.aload_n 1, 1) := by decide +kernel
theorem dL_law_326 : decode cL_law 326 = .ok (.aload_n 0, 1) := by decide +kernel
theorem dL_law_327 : decode cL_law 327 = .ok (.iload_n 3, 1) := by decide +kernel
theorem dL_law_328 : decode cL_law 328 = .ok (.iconst 1, 1) := by decide +kernel
theorem dL_law_329 : decode cL_law 329 = .ok (.iadd, 1) := by decide +kernel
theorem dL_law_330 : decode cL_law 330 = .ok (.iaload, 1) := by decide +kernel
theorem dL_law_331 : decode cL_law 331 = .ok (.aload_n 0, 1) := by decide +kernel
theorem dL_law_332 : decode cL_law 332 = .ok (.iload_n 3, 1) := by decide +kernel
theorem dL_law_333 : decode cL_law 333 = .ok (.iconst 2, 1) := by decide +kernel
theorem dL_law_334 : decode cL_law 334 = .ok (.iadd, 1) := by decide +kernel
theorem dL_law_335 : decode cL_law 335 = .ok (.iaload, 1) := by decide +kernel
theorem dL_law_336 : decode cL_law 336 = .ok (.invokevirtual 59, 3) := by decide +kernel
theorem dL_law_339 : decode cL_law 339 = .ok (.aload_n 2, 1) := by decide +kernel
theorem dL_law_340 : decode cL_law 340 = .ok (.aload_n 0, 1) := by decide +kernel
theorem dL_law_341 : decode cL_law 341 = .ok (.iload_n 3, 1) := by decide +kernel
theorem dL_law_342 : decode cL_law 342 = .ok (.iconst 1, 1) := by decide +kernel
theorem dL_law_343 : decode cL_law 343 = .ok (.iadd, 1) := by decide +kernel
theorem dL_law_344 : decode cL_law 344 = .ok (.iaload, 1) := by decide +kernel
theorem dL_law_345 : decode cL_law 345 = .ok (.aload_n 0, 1) := by decide +kernel
theorem dL_law_346 : decode cL_law 346 = .ok (.iload_n 3, 1) := by decide +kernel
theorem dL_law_347 : decode cL_law 347 = .ok (.iconst 2, 1) := by decide +kernel
theorem dL_law_348 : decode cL_law 348 = .ok (.iadd, 1) := by decide +kernel
theorem dL_law_349 : decode cL_law 349 = .ok (.iaload, 1) := by decide +kernel
theorem dL_law_350 : decode cL_law 350 = .ok (.invokevirtual 62, 3) := by decide +kernel
theorem dL_law_353 : decode cL_law 353 = .ok (.if_icmp .eq 324, 3) := by decide +kernel
theorem dL_law_356 : decode cL_law 356 = .ok (.iconst 0, 1) := by decide +kernel
theorem dL_law_357 : decode cL_law 357 = .ok (.ireturn, 1) := by decide +kernel
theorem dL_law_358 : decode cL_law 358 = .ok (.aload_n 1, 1) := by decide +kernel
theorem dL_law_359 : decode cL_law 359 = .ok (.aload_n 0, 1) := by decide +kernel
theorem dL_law_360 : decode cL_law 360 = .ok (.iload_n 3, 1) := by decide +kernel
theorem dL_law_361 : decode cL_law 361 = .ok (.iconst 1, 1) := by decide +kernel
theorem dL_law_362 : decode cL_law 362 = .ok (.iadd, 1) := by decide +kernel
theorem dL_law_363 : decode cL_law 363 = .ok (.iaload, 1) := by decide +kernel
theorem dL_law_364 : decode cL_law 364 = .ok (.aload_n 0, 1) := by decide +kernel
theorem dL_law_365 : decode cL_law 365 = .ok (.iload_n 3, 1) := by decide +kernel
theorem dL_law_366 : decode cL_law 366 = .ok (.iconst 2, 1) := by decide +kernel
theorem dL_law_367 : decode cL_law 367 = .ok (.iadd, 1) := by decide +kernel
theorem dL_law_368 : decode cL_law 368 = .ok (.iaload, 1) := by decide +kernel
theorem dL_law_369 : decode cL_law 369 = .ok (.aload_n 0, 1) := by decide +kernel
theorem dL_law_370 : decode cL_law 370 = .ok (.iload_n 3, 1) := by decide +kernel
theorem dL_law_371 : decode cL_law 371 = .ok (.iconst 3, 1) := by decide +kernel
theorem dL_law_372 : decode cL_law 372 = .ok (.iadd, 1) := by decide +kernel
theorem dL_law_373 : decode cL_law 373 = .ok (.iaload, 1) := by decide +kernel
theorem dL_law_374 : decode cL_law 374 = .ok (.invokevirtual 63, 3) := by decide +kernel
theorem dL_law_377 : decode cL_law 377 = .ok (.aload_n 2, 1) := by decide +kernel
theorem dL_law_378 : decode cL_law 378 = .ok (.aload_n 0, 1) := by decide +kernel
theorem dL_law_379 : decode cL_law 379 = .ok (.iload_n 3, 1) := by decide +kernel
theorem dL_law_380 : decode cL_law 380 = .ok (.iconst 1, 1) := by decide +kernel
theorem dL_law_381 : decode cL_law 381 = .ok (.iadd, 1) := by decide +kernel
theorem dL_law_382 : decode cL_law 382 = .ok (.iaload, 1) := by decide +kernel
theorem dL_law_383 : decode cL_law 383 = .ok (.aload_n 0, 1) := by decide +kernel
theorem dL_law_384 : decode cL_law 384 = .ok (.iload_n 3, 1) := by decide +kernel
theorem dL_law_385 : decode cL_law 385 = .ok (.iconst 2, 1) := by decide +kernel
theorem dL_law_386 : decode cL_law 386 = .ok (.iadd, 1) := by decide +kernel
theorem dL_law_387 : decode cL_law 387 = .ok (.iaload, 1) := by decide +kernel
theorem dL_law_388 : decode cL_law 388 = .ok (.aload_n 0, 1) := by decide +kernel
theorem dL_law_389 : decode cL_law 389 = .ok (.iload_n 3, 1) := by decide +kernel
theorem dL_law_390 : decode cL_law 390 = .ok (.iconst 3, 1) := by decide +kernel
theorem dL_law_391 : decode cL_law 391 = .ok (.iadd, 1) := by decide +kernel
theorem dL_law_392 : decode cL_law 392 = .ok (.iaload, 1) := by decide +kernel
theorem dL_law_393 : decode cL_law 393 = .ok (.invokevirtual 67, 3) := by decide +kernel
theorem dL_law_396 : decode cL_law 396 = .ok (.if_icmp .eq 281, 3) := by decide +kernel
theorem dL_law_399 : decode cL_law 399 = .ok (.iconst 0, 1) := by decide +kernel
theorem dL_law_400 : decode cL_law 400 = .ok (.ireturn, 1) := by decide +kernel
theorem dL_law_401 : decode cL_law 401 = .ok (.aload_n 1, 1) := by decide +kernel
theorem dL_law_402 : decode cL_law 402 = .ok (.invokevirtual 68, 3) := by decide +kernel
theorem dL_law_405 : decode cL_law 405 = .ok (.aload_n 2, 1) := by decide +kernel
theorem dL_law_406 : decode cL_law 406 = .ok (.invokevirtual 71, 3) := by decide +kernel
theorem dL_law_409 : decode cL_law 409 = .ok (.if_icmp .eq 268, 3) := by decide +kernel
theorem dL_law_412 : decode cL_law 412 = .ok (.iconst 0, 1) := by decide +kernel
theorem dL_law_413 : decode cL_law 413 = .ok (.ireturn, 1) := by decide +kernel
theorem dL_law_414 : decode cL_law 414 = .ok (.aload_n 1, 1) := by decide +kernel
theorem dL_law_415 : decode cL_law 415 = .ok (.aload_n 0, 1) := by decide +kernel
theorem dL_law_416 : decode cL_law 416 = .ok (.iload_n 3, 1) := by decide +kernel
theorem dL_law_417 : decode cL_law 417 = .ok (.iconst 1, 1) := by decide +kernel
theorem dL_law_418 : decode cL_law 418 = .ok (.iadd, 1) := by decide +kernel
theorem dL_law_419 : decode cL_law 419 = .ok (.iaload, 1) := by decide +kernel
theorem dL_law_420 : decode cL_law 420 = .ok (.invokevirtual 72, 3) := by decide +kernel
theorem dL_law_423 : decode cL_law 423 = .ok (.aload_n 2, 1) := by decide +kernel
theorem dL_law_424 : decode cL_law 424 = .ok (.aload_n 0, 1) := by decide +kernel
theorem dL_law_425 : decode cL_law 425 = .ok (.iload_n 3, 1) := by decide +kernel
theorem dL_law_426 : decode cL_law 426 = .ok (.iconst 1, 1) := by decide +kernel
theorem dL_law_427 : decode cL_law 427 = .ok (.iadd, 1) := by decide +kernel
theorem dL_law_428 : decode cL_law 428 = .ok (.iaload, 1) := by decide +kernel
theorem dL_law_429 : decode cL_law 429 = .ok (.invokevirtual 75, 3) := by decide +kernel
theorem dL_law_432 : decode cL_law 432 = .ok (.if_icmp .eq 245, 3) := by decide +kernel
theorem dL_law_435 : decode cL_law 435 = .ok (.iconst 0, 1) := by decide +kernel
theorem dL_law_436 : decode cL_law 436 = .ok (.ireturn, 1) := by decide +kernel
theorem dL_law_437 : decode cL_law 437 = .ok (.aload_n 1, 1) := by decide +kernel
theorem dL_law_438 : decode cL_law 438 = .ok (.aload_n 0, 1) := by decide +kernel
theorem dL_law_439 : decode cL_law 439 = .ok (.iload_n 3, 1) := by decide +kernel
theorem dL_law_440 : decode cL_law 440 = .ok (.iconst 1, 1) := by decide +kernel
theorem dL_law_441 : decode cL_law 441 = .ok (.iadd, 1) := by decide +kernel
theorem dL_law_442 : decode cL_law 442 = .ok (.iaload, 1) := by decide +kernel
theorem dL_law_443 : decode cL_law 443 = .ok (.invokevirtual 76, 3) := by decide +kernel
theorem dL_law_446 : decode cL_law 446 = .ok (.aload_n 2, 1) := by decide +kernel
theorem dL_law_447 : decode cL_law 447 = .ok (.aload_n 0, 1) := by decide +kernel
theorem dL_law_448 : decode cL_law 448 = .ok (.iload_n 3, 1) := by decide +kernel
theorem dL_law_449 : decode cL_law 449 = .ok (.iconst 1, 1) := by decide +kernel
theorem dL_law_450 : decode cL_law 450 = .ok (.iadd, 1) := by decide +kernel
theorem dL_law_451 : decode cL_law 451 = .ok (.iaload, 1) := by decide +kernel
theorem dL_law_452 : decode cL_law 452 = .ok (.invokevirtual 79, 3) := by decide +kernel
theorem dL_law_455 : decode cL_law 455 = .ok (.if_icmp .eq 222, 3) := by decide +kernel
theorem dL_law_458 : decode cL_law 458 = .ok (.iconst 0, 1) := by decide +kernel
theorem dL_law_459 : decode cL_law 459 = .ok (.ireturn, 1) := by decide +kernel
theorem dL_law_460 : decode cL_law 460 = .ok (.aload_n 1, 1) := by decide +kernel
theorem dL_law_461 : decode cL_law 461 = .ok (.aload_n 0, 1) := by decide +kernel
theorem dL_law_462 : decode cL_law 462 = .ok (.iload_n 3, 1) := by decide +kernel
theorem dL_law_463 : decode cL_law 463 = .ok (.iconst 1, 1) := by decide +kernel
theorem dL_law_464 : decode cL_law 464 = .ok (.iadd, 1) := by decide +kernel
theorem dL_law_465 : decode cL_law 465 = .ok (.iaload, 1) := by decide +kernel
theorem dL_law_466 : decode cL_law 466 = .ok (.aload_n 0, 1) := by decide +kernel
theorem dL_law_467 : decode cL_law 467 = .ok (.iload_n 3, 1) := by decide +kernel
theorem dL_law_468 : decode cL_law 468 = .ok (.iconst 2, 1) := by decide +kernel
theorem dL_law_469 : decode cL_law 469 = .ok (.iadd, 1) := by decide +kernel
theorem dL_law_470 : decode cL_law 470 = .ok (.iaload, 1) := by decide +kernel
theorem dL_law_471 : decode cL_law 471 = .ok (.invokevirtual 80, 3) := by decide +kernel
theorem dL_law_474 : decode cL_law 474 = .ok (.aload_n 2, 1) := by decide +kernel
theorem dL_law_475 : decode cL_law 475 = .ok (.aload_n 0, 1) := by decide +kernel
theorem dL_law_476 : decode cL_law 476 = .ok (.iload_n 3, 1) := by decide +kernel
theorem dL_law_477 : decode cL_law 477 = .ok (.iconst 1, 1) := by decide +kernel
theorem dL_law_478 : decode cL_law 478 = .ok (.iadd, 1) := by decide +kernel
theorem dL_law_479 : decode cL_law 479 = .ok (.iaload, 1) := by decide +kernel
theorem dL_law_480 : decode cL_law 480 = .ok (.aload_n 0, 1) := by decide +kernel
theorem dL_law_481 : decode cL_law 481 = .ok (.iload_n 3, 1) := by decide +kernel
theorem dL_law_482 : decode cL_law 482 = .ok (.iconst 2, 1) := by decide +kernel
theorem dL_law_483 : decode cL_law 483 = .ok (.iadd, 1) := by decide +kernel
theorem dL_law_484 : decode cL_law 484 = .ok (.iaload, 1) := by decide +kernel
theorem dL_law_485 : decode cL_law 485 = .ok (.invokevirtual 83, 3) := by decide +kernel
theorem dL_law_488 : decode cL_law 488 = .ok (.if_icmp .eq 189, 3) := by decide +kernel
theorem dL_law_491 : decode cL_law 491 = .ok (.iconst 0, 1) := by decide +kernel
theorem dL_law_492 : decode cL_law 492 = .ok (.ireturn, 1) := by decide +kernel
theorem dL_law_493 : decode cL_law 493 = .ok (.aload_n 1, 1) := by decide +kernel
theorem dL_law_494 : decode cL_law 494 = .ok (.invokevirtual 84, 3) := by decide +kernel
theorem dL_law_497 : decode cL_law 497 = .ok (.aload_n 2, 1) := by decide +kernel
theorem dL_law_498 : decode cL_law 498 = .ok (.invokevirtual 87, 3) := by decide +kernel
theorem dL_law_501 : decode cL_law 501 = .ok (.if_icmp .eq 176, 3) := by decide +kernel
theorem dL_law_504 : decode cL_law 504 = .ok (.iconst 0, 1) := by decide +kernel
theorem dL_law_505 : decode cL_law 505 = .ok (.ireturn, 1) := by decide +kernel
theorem dL_law_506 : decode cL_law 506 = .ok (.aload_n 1, 1) := by decide +kernel
theorem dL_law_507 : decode cL_law 507 = .ok (.aload_n 0, 1) := by decide +kernel
theorem dL_law_508 : decode cL_law 508 = .ok (.iload_n 3, 1) := by decide +kernel
theorem dL_law_509 : decode cL_law 509 = .ok (.iconst 1, 1) := by decide +kernel
theorem dL_law_510 : decode cL_law 510 = .ok (.iadd, 1) := by decide +kernel
theorem dL_law_511 : decode cL_law 511 = .ok (.iaload, 1) := by decide +kernel
theorem dL_law_512 : decode cL_law 512 = .ok (.invokevirtual 88, 3) := by decide +kernel
theorem dL_law_515 : decode cL_law 515 = .ok (.aload_n 2, 1) := by decide +kernel
theorem dL_law_516 : decode cL_law 516 = .ok (.aload_n 0, 1) := by decide +kernel
theorem dL_law_517 : decode cL_law 517 = .ok (.iload_n 3, 1) := by decide +kernel
theorem dL_law_518 : decode cL_law 518 = .ok (.iconst 1, 1) := by decide +kernel
theorem dL_law_519 : decode cL_law 519 = .ok (.iadd, 1) := by decide +kernel
theorem dL_law_520 : decode cL_law 520 = .ok (.iaload, 1) := by decide +kernel
theorem dL_law_521 : decode cL_law 521 = .ok (.invokevirtual 91, 3) := by decide +kernel
theorem dL_law_524 : decode cL_law 524 = .ok (.if_icmp .eq 153, 3) := by decide +kernel
theorem dL_law_527 : decode cL_law 527 = .ok (.iconst 0, 1) := by decide +kernel
theorem dL_law_528 : decode cL_law 528 = .ok (.ireturn, 1) := by decide +kernel
theorem dL_law_529 : decode cL_law 529 = .ok (.aload_n 1, 1) := by decide +kernel
theorem dL_law_530 : decode cL_law 530 = .ok (.invokevirtual 92, 3) := by decide +kernel
theorem dL_law_533 : decode cL_law 533 = .ok (.aload_n 2, 1) := by decide +kernel
theorem dL_law_534 : decode cL_law 534 = .ok (.invokevirtual 95, 3) := by decide +kernel
theorem dL_law_537 : decode cL_law 537 = .ok (.if_icmp .eq 140, 3) := by decide +kernel
theorem dL_law_540 : decode cL_law 540 = .ok (.iconst 0, 1) := by decide +kernel
theorem dL_law_541 : decode cL_law 541 = .ok (.ireturn, 1) := by decide +kernel
theorem dL_law_542 : decode cL_law 542 = .ok (.aload_n 1, 1) := by decide +kernel
theorem dL_law_543 : decode cL_law 543 = .ok (.aload_n 0, 1) := by decide +kernel
theorem dL_law_544 : decode cL_law 544 = .ok (.iload_n 3, 1) := by decide +kernel
theorem dL_law_545 : decode cL_law 545 = .ok (.iconst 1, 1) := by decide +kernel
theorem dL_law_546 : decode cL_law 546 = .ok (.iadd, 1) := by decide +kernel
theorem dL_law_547 : decode cL_law 547 = .ok (.iaload, 1) := by decide +kernel
theorem dL_law_548 : decode cL_law 548 = .ok (.aload_n 0, 1) := by decide +kernel
theorem dL_law_549 : decode cL_law 549 = .ok (.iload_n 3, 1) := by decide +kernel
theorem dL_law_550 : decode cL_law 550 = .ok (.iconst 2, 1) := by decide +kernel
theorem dL_law_551 : decode cL_law 551 = .ok (.iadd, 1) := by decide +kernel
theorem dL_law_552 : decode cL_law 552 = .ok (.iaload, 1) := by decide +kernel
theorem dL_law_553 : decode cL_law 553 = .ok (.invokevirtual 96, 3) := by decide +kernel
theorem dL_law_556 : decode cL_law 556 = .ok (.aload_n 2, 1) := by decide +kernel
theorem dL_law_557 : decode cL_law 557 = .ok (.aload_n 0, 1) := by decide +kernel
theorem dL_law_558 : decode cL_law 558 = .ok (.iload_n 3, 1) := by decide +kernel
theorem dL_law_559 : decode cL_law 559 = .ok (.iconst 1, 1) := by decide +kernel
theorem dL_law_560 : decode cL_law 560 = .ok (.iadd, 1) := by decide +kernel
theorem dL_law_561 : decode cL_law 561 = .ok (.iaload, 1) := by decide +kernel
theorem dL_law_562 : decode cL_law 562 = .ok (.aload_n 0, 1) := by decide +kernel
theorem dL_law_563 : decode cL_law 563 = .ok (.iload_n 3, 1) := by decide +kernel
theorem dL_law_564 : decode cL_law 564 = .ok (.iconst 2, 1) := by decide +kernel
theorem dL_law_565 : decode cL_law 565 = .ok (.iadd, 1) := by decide +kernel
theorem dL_law_566 : decode cL_law 566 = .ok (.iaload, 1) := by decide +kernel
theorem dL_law_567 : decode cL_law 567 = .ok (.invokevirtual 99, 3) := by decide +kernel
theorem dL_law_570 : decode cL_law 570 = .ok (.if_icmp .eq 107, 3) := by decide +kernel
theorem dL_law_573 : decode cL_law 573 = .ok (.iconst 0, 1) := by decide +kernel
theorem dL_law_574 : decode cL_law 574 = .ok (.ireturn, 1) := by decide +kernel
theorem dL_law_575 : decode cL_law 575 = .ok (.aload_n 1, 1) := by decide +kernel
theorem dL_law_576 : decode cL_law 576 = .ok (.aload_n 0, 1) := by decide +kernel
theorem dL_law_577 : decode cL_law 577 = .ok (.iload_n 3, 1) := by decide +kernel
theorem dL_law_578 : decode cL_law 578 = .ok (.iconst 1, 1) := by decide +kernel
theorem dL_law_579 : decode cL_law 579 = .ok (.iadd, 1) := by decide +kernel
theorem dL_law_580 : decode cL_law 580 = .ok (.iaload, 1) := by decide +kernel
theorem dL_law_581 : decode cL_law 581 = .ok (.invokevirtual 100, 3) := by decide +kernel
theorem dL_law_584 : decode cL_law 584 = .ok (.aload_n 2, 1) := by decide +kernel
theorem dL_law_585 : decode cL_law 585 = .ok (.aload_n 0, 1) := by decide +kernel
theorem dL_law_586 : decode cL_law 586 = .ok (.iload_n 3, 1) := by decide +kernel
theorem dL_law_587 : decode cL_law 587 = .ok (.iconst 1, 1) := by decide +kernel
theorem dL_law_588 : decode cL_law 588 = .ok (.iadd, 1) := by decide +kernel
theorem dL_law_589 : decode cL_law 589 = .ok (.iaload, 1) := by decide +kernel
theorem dL_law_590 : decode cL_law 590 = .ok (.invokevirtual 103, 3) := by decide +kernel
theorem dL_law_593 : decode cL_law 593 = .ok (.if_icmp .eq 84, 3) := by decide +kernel
theorem dL_law_596 : decode cL_law 596 = .ok (.iconst 0, 1) := by decide +kernel
theorem dL_law_597 : decode cL_law 597 = .ok (.ireturn, 1) := by decide +kernel
theorem dL_law_598 : decode cL_law 598 = .ok (.aload_n 1, 1) := by decide +kernel
theorem dL_law_599 : decode cL_law 599 = .ok (.aload_n 0, 1) := by decide +kernel
theorem dL_law_600 : decode cL_law 600 = .ok (.iload_n 3, 1) := by decide +kernel
theorem dL_law_601 : decode cL_law 601 = .ok (.iconst 1, 1) := by decide +kernel
theorem dL_law_602 : decode cL_law 602 = .ok (.iadd, 1) := by decide +kernel
theorem dL_law_603 : decode cL_law 603 = .ok (.iaload, 1) := by decide +kernel
theorem dL_law_604 : decode cL_law 604 = .ok (.invokevirtual 104, 3) := by decide +kernel
theorem dL_law_607 : decode cL_law 607 = .ok (.aload_n 2, 1) := by decide +kernel
theorem dL_law_608 : decode cL_law 608 = .ok (.aload_n 0, 1) := by decide +kernel
theorem dL_law_609 : decode cL_law 609 = .ok (.iload_n 3, 1) := by decide +kernel
theorem dL_law_610 : decode cL_law 610 = .ok (.iconst 1, 1) := by decide +kernel
theorem dL_law_611 : decode cL_law 611 = .ok (.iadd, 1) := by decide +kernel
theorem dL_law_612 : decode cL_law 612 = .ok (.iaload, 1) := by decide +kernel
theorem dL_law_613 : decode cL_law 613 = .ok (.invokevirtual 107, 3) := by decide +kernel
theorem dL_law_616 : decode cL_law 616 = .ok (.if_icmp .eq 61, 3) := by decide +kernel
theorem dL_law_619 : decode cL_law 619 = .ok (.iconst 0, 1) := by decide +kernel
theorem dL_law_620 : decode cL_law 620 = .ok (.ireturn, 1) := by decide +kernel
theorem dL_law_621 : decode cL_law 621 = .ok (.aload_n 1, 1) := by decide +kernel
theorem dL_law_622 : decode cL_law 622 = .ok (.aload_n 0, 1) := by decide +kernel
theorem dL_law_623 : decode cL_law 623 = .ok (.iload_n 3, 1) := by decide +kernel
theorem dL_law_624 : decode cL_law 624 = .ok (.iconst 1, 1) := by decide +kernel
theorem dL_law_625 : decode cL_law 625 = .ok (.iadd, 1) := by decide +kernel
theorem dL_law_626 : decode cL_law 626 = .ok (.iaload, 1) := by decide +kernel
theorem dL_law_627 : decode cL_law 627 = .ok (.aload_n 0, 1) := by decide +kernel
theorem dL_law_628 : decode cL_law 628 = .ok (.iload_n 3, 1) := by decide +kernel
theorem dL_law_629 : decode cL_law 629 = .ok (.iconst 2, 1) := by decide +kernel
theorem dL_law_630 : decode cL_law 630 = .ok (.iadd, 1) := by decide +kernel
theorem dL_law_631 : decode cL_law 631 = .ok (.iaload, 1) := by decide +kernel
theorem dL_law_632 : decode cL_law 632 = .ok (.invokevirtual 108, 3) := by decide +kernel
theorem dL_law_635 : decode cL_law 635 = .ok (.aload_n 2, 1) := by decide +kernel
theorem dL_law_636 : decode cL_law 636 = .ok (.aload_n 0, 1) := by decide +kernel
theorem dL_law_637 : decode cL_law 637 = .ok (.iload_n 3, 1) := by decide +kernel
theorem dL_law_638 : decode cL_law 638 = .ok (.iconst 1, 1) := by decide +kernel
theorem dL_law_639 : decode cL_law 639 = .ok (.iadd, 1) := by decide +kernel
theorem dL_law_640 : decode cL_law 640 = .ok (.iaload, 1) := by decide +kernel
theorem dL_law_641 : decode cL_law 641 = .ok (.aload_n 0, 1) := by decide +kernel
theorem dL_law_642 : decode cL_law 642 = .ok (.iload_n 3, 1) := by decide +kernel
theorem dL_law_643 : decode cL_law 643 = .ok (.iconst 2, 1) := by decide +kernel
theorem dL_law_644 : decode cL_law 644 = .ok (.iadd, 1) := by decide +kernel
theorem dL_law_645 : decode cL_law 645 = .ok (.iaload, 1) := by decide +kernel
theorem dL_law_646 : decode cL_law 646 = .ok (.invokevirtual 111, 3) := by decide +kernel
theorem dL_law_649 : decode cL_law 649 = .ok (.if_icmp .eq 28, 3) := by decide +kernel
theorem dL_law_652 : decode cL_law 652 = .ok (.iconst 0, 1) := by decide +kernel
theorem dL_law_653 : decode cL_law 653 = .ok (.ireturn, 1) := by decide +kernel
theorem dL_law_654 : decode cL_law 654 = .ok (.aload_n 1, 1) := by decide +kernel
theorem dL_law_655 : decode cL_law 655 = .ok (.aload_n 0, 1) := by decide +kernel
theorem dL_law_656 : decode cL_law 656 = .ok (.iload_n 3, 1) := by decide +kernel
theorem dL_law_657 : decode cL_law 657 = .ok (.iconst 1, 1) := by decide +kernel
theorem dL_law_658 : decode cL_law 658 = .ok (.iadd, 1) := by decide +kernel
theorem dL_law_659 : decode cL_law 659 = .ok (.iaload, 1) := by decide +kernel
theorem dL_law_660 : decode cL_law 660 = .ok (.invokevirtual 112, 3) := by decide +kernel
theorem dL_law_663 : decode cL_law 663 = .ok (.aload_n 2, 1) := by decide +kernel
theorem dL_law_664 : decode cL_law 664 = .ok (.aload_n 0, 1) := by decide +kernel
theorem dL_law_665 : decode cL_law 665 = .ok (.iload_n 3, 1) := by decide +kernel
theorem dL_law_666 : decode cL_law 666 = .ok (.iconst 1, 1) := by decide +kernel
theorem dL_law_667 : decode cL_law 667 = .ok (.iadd, 1) := by decide +kernel
theorem dL_law_668 : decode cL_law 668 = .ok (.iaload, 1) := by decide +kernel
theorem dL_law_669 : decode cL_law 669 = .ok (.invokevirtual 115, 3) := by decide +kernel
theorem dL_law_672 : decode cL_law 672 = .ok (.if_icmp .eq 5, 3) := by decide +kernel
theorem dL_law_675 : decode cL_law 675 = .ok (.iconst 0, 1) := by decide +kernel
theorem dL_law_676 : decode cL_law 676 = .ok (.ireturn, 1) := by decide +kernel
theorem dL_law_677 : decode cL_law 677 = .ok (.iinc 3 4, 3) := by decide +kernel
theorem dL_law_680 : decode cL_law 680 = .ok (.goto (-652), 3) := by decide +kernel
theorem dL_law_683 : decode cL_law 683 = .ok (.iconst 1, 1) := by decide +kernel
theorem dL_law_684 : decode cL_law 684 = .ok (.ireturn, 1) := by decide +kernel
abbrev vwCl : List vw_C := [(RX0, TX0, 1), (RX1, TX1, 3), (RX2, TX2, 14), (RX3, TX3, 19)]
end
section
theorem zz_t : (1 : Nat) = 1 := rfl
end
