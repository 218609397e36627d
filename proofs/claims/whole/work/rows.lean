section
/-- a private method of a class that the tables say can be made, by its rows of tables_1 -/
def lw_okq (q : MethodName × Nat) : Prop := (q.1.cls ≠ "java/lang/invoke/MethodHandle" ∧ q.1.cls ≠ "java/lang/invoke/VarHandle") ∧ Cond.instantiable q.1.cls q.2 ∈ tables_1 ∧ Cond.privateMethod q.1 ∈ tables_1 ∧ Cond.instanceMethod q.1 ∈ tables_1
theorem lw_p0 : lw_okq (⟨"WeekOrders", "isThere", "(I)Z"⟩, 4) := ⟨⟨by decide +kernel, by decide +kernel⟩, List.mem_of_getElem? (i := 13) (by decide +kernel), List.mem_of_getElem? (i := 210) (by decide +kernel), List.mem_of_getElem? (i := 211) (by decide +kernel)⟩
theorem lw_p1 : lw_okq (⟨"WeekOrders", "isSetOfThere", "(I)Z"⟩, 4) := ⟨⟨by decide +kernel, by decide +kernel⟩, List.mem_of_getElem? (i := 13) (by decide +kernel), List.mem_of_getElem? (i := 265) (by decide +kernel), List.mem_of_getElem? (i := 266) (by decide +kernel)⟩
theorem lw_p2 : lw_okq (⟨"WeekOrders", "areTwoThere", "(II)Z"⟩, 4) := ⟨⟨by decide +kernel, by decide +kernel⟩, List.mem_of_getElem? (i := 13) (by decide +kernel), List.mem_of_getElem? (i := 277) (by decide +kernel), List.mem_of_getElem? (i := 278) (by decide +kernel)⟩
theorem lw_p3 : lw_okq (⟨"WeekOrders", "pairs", "(ZI)I"⟩, 4) := ⟨⟨by decide +kernel, by decide +kernel⟩, List.mem_of_getElem? (i := 13) (by decide +kernel), List.mem_of_getElem? (i := 293) (by decide +kernel), List.mem_of_getElem? (i := 294) (by decide +kernel)⟩
theorem lw_p4 : lw_okq (⟨"WeekOrders", "isPair", "(ZII)Z"⟩, 4) := ⟨⟨by decide +kernel, by decide +kernel⟩, List.mem_of_getElem? (i := 13) (by decide +kernel), List.mem_of_getElem? (i := 297) (by decide +kernel), List.mem_of_getElem? (i := 298) (by decide +kernel)⟩
theorem lw_p5 : lw_okq (⟨"WeekOrders$Folk", "isDelayed", "(III)Z"⟩, 5) := ⟨⟨by decide +kernel, by decide +kernel⟩, List.mem_of_getElem? (i := 44) (by decide +kernel), List.mem_of_getElem? (i := 305) (by decide +kernel), List.mem_of_getElem? (i := 306) (by decide +kernel)⟩
theorem lw_p6 : lw_okq (⟨"WeekOrders", "countMarkets", "(II)I"⟩, 4) := ⟨⟨by decide +kernel, by decide +kernel⟩, List.mem_of_getElem? (i := 13) (by decide +kernel), List.mem_of_getElem? (i := 317) (by decide +kernel), List.mem_of_getElem? (i := 318) (by decide +kernel)⟩
theorem lw_p7 : lw_okq (⟨"WeekOrders", "isMarket", "(III)Z"⟩, 4) := ⟨⟨by decide +kernel, by decide +kernel⟩, List.mem_of_getElem? (i := 13) (by decide +kernel), List.mem_of_getElem? (i := 321) (by decide +kernel), List.mem_of_getElem? (i := 322) (by decide +kernel)⟩
theorem lw_p8 : lw_okq (⟨"WeekOrders", "firstMarket", "(II)I"⟩, 4) := ⟨⟨by decide +kernel, by decide +kernel⟩, List.mem_of_getElem? (i := 13) (by decide +kernel), List.mem_of_getElem? (i := 325) (by decide +kernel), List.mem_of_getElem? (i := 326) (by decide +kernel)⟩
theorem lw_p9 : lw_okq (⟨"WeekOrders", "longestWithoutMarket", "(II)I"⟩, 4) := ⟨⟨by decide +kernel, by decide +kernel⟩, List.mem_of_getElem? (i := 13) (by decide +kernel), List.mem_of_getElem? (i := 329) (by decide +kernel), List.mem_of_getElem? (i := 330) (by decide +kernel)⟩
theorem lw_p10 : lw_okq (⟨"WeekOrders$Month", "collect", "(LWeekOrders$Land;II)V"⟩, 7) := ⟨⟨by decide +kernel, by decide +kernel⟩, List.mem_of_getElem? (i := 118) (by decide +kernel), List.mem_of_getElem? (i := 368) (by decide +kernel), List.mem_of_getElem? (i := 369) (by decide +kernel)⟩
theorem lw_p11 : lw_okq (⟨"WeekOrders$Month", "keep", "(I)V"⟩, 7) := ⟨⟨by decide +kernel, by decide +kernel⟩, List.mem_of_getElem? (i := 118) (by decide +kernel), List.mem_of_getElem? (i := 377) (by decide +kernel), List.mem_of_getElem? (i := 378) (by decide +kernel)⟩
theorem lw_p12 : lw_okq (⟨"WeekOrders$Month", "isFree", "(II)Z"⟩, 7) := ⟨⟨by decide +kernel, by decide +kernel⟩, List.mem_of_getElem? (i := 118) (by decide +kernel), List.mem_of_getElem? (i := 384) (by decide +kernel), List.mem_of_getElem? (i := 385) (by decide +kernel)⟩
theorem lw_p13 : lw_okq (⟨"WeekOrders", "weddingCost", "(III)I"⟩, 4) := ⟨⟨by decide +kernel, by decide +kernel⟩, List.mem_of_getElem? (i := 13) (by decide +kernel), List.mem_of_getElem? (i := 424) (by decide +kernel), List.mem_of_getElem? (i := 425) (by decide +kernel)⟩
theorem lw_p14 : lw_okq (⟨"WeekOrders", "toldOfPerson", "(I)I"⟩, 4) := ⟨⟨by decide +kernel, by decide +kernel⟩, List.mem_of_getElem? (i := 13) (by decide +kernel), List.mem_of_getElem? (i := 570) (by decide +kernel), List.mem_of_getElem? (i := 571) (by decide +kernel)⟩
theorem lw_p15 : lw_okq (⟨"WeekOrders", "toldOfWork", "(I)I"⟩, 4) := ⟨⟨by decide +kernel, by decide +kernel⟩, List.mem_of_getElem? (i := 13) (by decide +kernel), List.mem_of_getElem? (i := 586) (by decide +kernel), List.mem_of_getElem? (i := 587) (by decide +kernel)⟩
def lw_privs_1 : List (MethodName × Nat) := [(⟨"WeekOrders", "isThere", "(I)Z"⟩, 4), (⟨"WeekOrders", "isSetOfThere", "(I)Z"⟩, 4), (⟨"WeekOrders", "areTwoThere", "(II)Z"⟩, 4), (⟨"WeekOrders", "pairs", "(ZI)I"⟩, 4), (⟨"WeekOrders", "isPair", "(ZII)Z"⟩, 4), (⟨"WeekOrders$Folk", "isDelayed", "(III)Z"⟩, 5), (⟨"WeekOrders", "countMarkets", "(II)I"⟩, 4), (⟨"WeekOrders", "isMarket", "(III)Z"⟩, 4), (⟨"WeekOrders", "firstMarket", "(II)I"⟩, 4), (⟨"WeekOrders", "longestWithoutMarket", "(II)I"⟩, 4), (⟨"WeekOrders$Month", "collect", "(LWeekOrders$Land;II)V"⟩, 7), (⟨"WeekOrders$Month", "keep", "(I)V"⟩, 7), (⟨"WeekOrders$Month", "isFree", "(II)Z"⟩, 7), (⟨"WeekOrders", "weddingCost", "(III)I"⟩, 4), (⟨"WeekOrders", "toldOfPerson", "(I)I"⟩, 4), (⟨"WeekOrders", "toldOfWork", "(I)I"⟩, 4)]
theorem lw_r1 : ∀ q ∈ lw_privs_1, lw_okq q := List.forall_mem_cons.mpr ⟨lw_p0, List.forall_mem_cons.mpr ⟨lw_p1, List.forall_mem_cons.mpr ⟨lw_p2, List.forall_mem_cons.mpr ⟨lw_p3, List.forall_mem_cons.mpr ⟨lw_p4, List.forall_mem_cons.mpr ⟨lw_p5, List.forall_mem_cons.mpr ⟨lw_p6, List.forall_mem_cons.mpr ⟨lw_p7, List.forall_mem_cons.mpr ⟨lw_p8, List.forall_mem_cons.mpr ⟨lw_p9, List.forall_mem_cons.mpr ⟨lw_p10, List.forall_mem_cons.mpr ⟨lw_p11, List.forall_mem_cons.mpr ⟨lw_p12, List.forall_mem_cons.mpr ⟨lw_p13, List.forall_mem_cons.mpr ⟨lw_p14, List.forall_mem_cons.mpr ⟨lw_p15, fun _ h => absurd h List.not_mem_nil⟩⟩⟩⟩⟩⟩⟩⟩⟩⟩⟩⟩⟩⟩⟩⟩
theorem lw_p16 : lw_okq (⟨"WeekOrdersModel", "orderFault", "()I"⟩, 14) := ⟨⟨by decide +kernel, by decide +kernel⟩, List.mem_of_getElem? (i := 590) (by decide +kernel), List.mem_of_getElem? (i := 655) (by decide +kernel), List.mem_of_getElem? (i := 656) (by decide +kernel)⟩
theorem lw_p17 : lw_okq (⟨"WeekOrdersModel", "planFault", "()I"⟩, 14) := ⟨⟨by decide +kernel, by decide +kernel⟩, List.mem_of_getElem? (i := 590) (by decide +kernel), List.mem_of_getElem? (i := 665) (by decide +kernel), List.mem_of_getElem? (i := 666) (by decide +kernel)⟩
theorem lw_p18 : lw_okq (⟨"WeekOrdersModel", "isThere", "(I)Z"⟩, 14) := ⟨⟨by decide +kernel, by decide +kernel⟩, List.mem_of_getElem? (i := 590) (by decide +kernel), List.mem_of_getElem? (i := 677) (by decide +kernel), List.mem_of_getElem? (i := 678) (by decide +kernel)⟩
theorem lw_p19 : lw_okq (⟨"WeekOrdersModel", "dayOf", "(II)I"⟩, 14) := ⟨⟨by decide +kernel, by decide +kernel⟩, List.mem_of_getElem? (i := 590) (by decide +kernel), List.mem_of_getElem? (i := 695) (by decide +kernel), List.mem_of_getElem? (i := 696) (by decide +kernel)⟩
theorem lw_p20 : lw_okq (⟨"WeekOrdersModel", "having", "(III)I"⟩, 14) := ⟨⟨by decide +kernel, by decide +kernel⟩, List.mem_of_getElem? (i := 590) (by decide +kernel), List.mem_of_getElem? (i := 703) (by decide +kernel), List.mem_of_getElem? (i := 704) (by decide +kernel)⟩
theorem lw_p21 : lw_okq (⟨"WeekOrdersModel", "areThere", "(I)Z"⟩, 14) := ⟨⟨by decide +kernel, by decide +kernel⟩, List.mem_of_getElem? (i := 590) (by decide +kernel), List.mem_of_getElem? (i := 715) (by decide +kernel), List.mem_of_getElem? (i := 716) (by decide +kernel)⟩
theorem lw_p22 : lw_okq (⟨"WeekOrdersModel", "oneDay", "(II)I"⟩, 14) := ⟨⟨by decide +kernel, by decide +kernel⟩, List.mem_of_getElem? (i := 590) (by decide +kernel), List.mem_of_getElem? (i := 719) (by decide +kernel), List.mem_of_getElem? (i := 720) (by decide +kernel)⟩
theorem lw_p23 : lw_okq (⟨"WeekOrdersModel", "sharedBy", "(III)I"⟩, 14) := ⟨⟨by decide +kernel, by decide +kernel⟩, List.mem_of_getElem? (i := 590) (by decide +kernel), List.mem_of_getElem? (i := 727) (by decide +kernel), List.mem_of_getElem? (i := 728) (by decide +kernel)⟩
theorem lw_p24 : lw_okq (⟨"WeekOrdersModel", "isWork", "(I)Z"⟩, 14) := ⟨⟨by decide +kernel, by decide +kernel⟩, List.mem_of_getElem? (i := 590) (by decide +kernel), List.mem_of_getElem? (i := 743) (by decide +kernel), List.mem_of_getElem? (i := 744) (by decide +kernel)⟩
theorem lw_p25 : lw_okq (⟨"WeekOrdersModel", "canBe", "(II)Z"⟩, 14) := ⟨⟨by decide +kernel, by decide +kernel⟩, List.mem_of_getElem? (i := 590) (by decide +kernel), List.mem_of_getElem? (i := 747) (by decide +kernel), List.mem_of_getElem? (i := 748) (by decide +kernel)⟩
theorem lw_p26 : lw_okq (⟨"WeekOrdersModel", "canMonth", "(II)Z"⟩, 14) := ⟨⟨by decide +kernel, by decide +kernel⟩, List.mem_of_getElem? (i := 590) (by decide +kernel), List.mem_of_getElem? (i := 755) (by decide +kernel), List.mem_of_getElem? (i := 756) (by decide +kernel)⟩
theorem lw_p27 : lw_okq (⟨"WeekOrdersModel", "fitsAhead", "(II)Z"⟩, 14) := ⟨⟨by decide +kernel, by decide +kernel⟩, List.mem_of_getElem? (i := 590) (by decide +kernel), List.mem_of_getElem? (i := 759) (by decide +kernel), List.mem_of_getElem? (i := 760) (by decide +kernel)⟩
theorem lw_p28 : lw_okq (⟨"WeekOrdersModel", "isBarred", "(I)Z"⟩, 14) := ⟨⟨by decide +kernel, by decide +kernel⟩, List.mem_of_getElem? (i := 590) (by decide +kernel), List.mem_of_getElem? (i := 767) (by decide +kernel), List.mem_of_getElem? (i := 768) (by decide +kernel)⟩
theorem lw_p29 : lw_okq (⟨"WeekOrdersModel", "haveAtOnce", "(II)Z"⟩, 14) := ⟨⟨by decide +kernel, by decide +kernel⟩, List.mem_of_getElem? (i := 590) (by decide +kernel), List.mem_of_getElem? (i := 775) (by decide +kernel), List.mem_of_getElem? (i := 776) (by decide +kernel)⟩
theorem lw_p30 : lw_okq (⟨"WeekOrdersModel", "costOf", "(II)I"⟩, 14) := ⟨⟨by decide +kernel, by decide +kernel⟩, List.mem_of_getElem? (i := 590) (by decide +kernel), List.mem_of_getElem? (i := 788) (by decide +kernel), List.mem_of_getElem? (i := 789) (by decide +kernel)⟩
theorem lw_p31 : lw_okq (⟨"WeekOrdersModel", "feastOn", "(I)I"⟩, 14) := ⟨⟨by decide +kernel, by decide +kernel⟩, List.mem_of_getElem? (i := 590) (by decide +kernel), List.mem_of_getElem? (i := 803) (by decide +kernel), List.mem_of_getElem? (i := 804) (by decide +kernel)⟩
def lw_privs_2 : List (MethodName × Nat) := [(⟨"WeekOrdersModel", "orderFault", "()I"⟩, 14), (⟨"WeekOrdersModel", "planFault", "()I"⟩, 14), (⟨"WeekOrdersModel", "isThere", "(I)Z"⟩, 14), (⟨"WeekOrdersModel", "dayOf", "(II)I"⟩, 14), (⟨"WeekOrdersModel", "having", "(III)I"⟩, 14), (⟨"WeekOrdersModel", "areThere", "(I)Z"⟩, 14), (⟨"WeekOrdersModel", "oneDay", "(II)I"⟩, 14), (⟨"WeekOrdersModel", "sharedBy", "(III)I"⟩, 14), (⟨"WeekOrdersModel", "isWork", "(I)Z"⟩, 14), (⟨"WeekOrdersModel", "canBe", "(II)Z"⟩, 14), (⟨"WeekOrdersModel", "canMonth", "(II)Z"⟩, 14), (⟨"WeekOrdersModel", "fitsAhead", "(II)Z"⟩, 14), (⟨"WeekOrdersModel", "isBarred", "(I)Z"⟩, 14), (⟨"WeekOrdersModel", "haveAtOnce", "(II)Z"⟩, 14), (⟨"WeekOrdersModel", "costOf", "(II)I"⟩, 14), (⟨"WeekOrdersModel", "feastOn", "(I)I"⟩, 14)]
theorem lw_r2 : ∀ q ∈ lw_privs_2, lw_okq q := List.forall_mem_cons.mpr ⟨lw_p16, List.forall_mem_cons.mpr ⟨lw_p17, List.forall_mem_cons.mpr ⟨lw_p18, List.forall_mem_cons.mpr ⟨lw_p19, List.forall_mem_cons.mpr ⟨lw_p20, List.forall_mem_cons.mpr ⟨lw_p21, List.forall_mem_cons.mpr ⟨lw_p22, List.forall_mem_cons.mpr ⟨lw_p23, List.forall_mem_cons.mpr ⟨lw_p24, List.forall_mem_cons.mpr ⟨lw_p25, List.forall_mem_cons.mpr ⟨lw_p26, List.forall_mem_cons.mpr ⟨lw_p27, List.forall_mem_cons.mpr ⟨lw_p28, List.forall_mem_cons.mpr ⟨lw_p29, List.forall_mem_cons.mpr ⟨lw_p30, List.forall_mem_cons.mpr ⟨lw_p31, fun _ h => absurd h List.not_mem_nil⟩⟩⟩⟩⟩⟩⟩⟩⟩⟩⟩⟩⟩⟩⟩⟩
theorem lw_p32 : lw_okq (⟨"WeekOrdersModel", "goesWith", "(III)Z"⟩, 14) := ⟨⟨by decide +kernel, by decide +kernel⟩, List.mem_of_getElem? (i := 590) (by decide +kernel), List.mem_of_getElem? (i := 819) (by decide +kernel), List.mem_of_getElem? (i := 820) (by decide +kernel)⟩
theorem lw_p33 : lw_okq (⟨"WeekOrdersModel", "isWell", "(II)Z"⟩, 14) := ⟨⟨by decide +kernel, by decide +kernel⟩, List.mem_of_getElem? (i := 590) (by decide +kernel), List.mem_of_getElem? (i := 839) (by decide +kernel), List.mem_of_getElem? (i := 840) (by decide +kernel)⟩
def lw_privs_3 : List (MethodName × Nat) := [(⟨"WeekOrdersModel", "goesWith", "(III)Z"⟩, 14), (⟨"WeekOrdersModel", "isWell", "(II)Z"⟩, 14)]
theorem lw_r3 : ∀ q ∈ lw_privs_3, lw_okq q := List.forall_mem_cons.mpr ⟨lw_p32, List.forall_mem_cons.mpr ⟨lw_p33, fun _ h => absurd h List.not_mem_nil⟩⟩
def lw_privs : List (MethodName × Nat) := lw_privs_1 ++ (lw_privs_2 ++ (lw_privs_3))
def lw_tbl : List Cond := k2_sels lw_privs ++ tables_1
theorem lw_privs_ok : ∀ q ∈ lw_privs, lw_okq q := by
  show ∀ q ∈ lw_privs_1 ++ (lw_privs_2 ++ (lw_privs_3)), lw_okq q
  exact List.forall_mem_append.mpr ⟨lw_r1, List.forall_mem_append.mpr ⟨lw_r2, lw_r3⟩⟩
end
section
def RX0 : String := "WeekOrders$Folk"
def TX0 : u_T := fun k => match k with
  | 0 => ("WeekOrders$Folk", "there", "I", false)
  | 1 => ("WeekOrders$Folk", "births", "[I", true)
  | 2 => ("WeekOrders$Folk", "sizes", "[I", true)
  | 3 => ("WeekOrders$Folk", "orders", "[I", true)
  | _ => ("WeekOrders$Folk", "votes", "[I", true)
def tyX0 : Nat → FieldType := fun k => match k with
  | 0 => .int
  | 1 => .array .int
  | 2 => .array .int
  | 3 => .array .int
  | _ => .array .int
abbrev wsX00 : List Cond := u_ws RX0 TX0 5
theorem nmX0 : ∀ a, a < 5 → ∀ b, b < 5 → a ≠ b → (TX0 a).2.1 ≠ (TX0 b).2.1 := by decide +kernel
theorem tyX0_ok : ∀ k, k < 5 → parseFieldDescriptor (TX0 k).2.2.1 = some (tyX0 k) := by decide +kernel
abbrev cX0_init : ByteArray := prog_2_method_1_code
def yX0_init : MethodName := ⟨RX0, "<init>", "()V"⟩
abbrev cX0_become : ByteArray := prog_2_method_2_code
def yX0_become : MethodName := ⟨RX0, "become", "(LWeekOrders$Folk;)V"⟩
abbrev cX0_settle : ByteArray := prog_2_method_3_code
def yX0_settle : MethodName := ⟨RX0, "settle", "(IILWeekOrders$Pad;)V"⟩
abbrev cX0_isThere : ByteArray := prog_2_method_4_code
def yX0_isThere : MethodName := ⟨RX0, "isThere", "(I)Z"⟩
abbrev cX0_birthOf : ByteArray := prog_2_method_5_code
def yX0_birthOf : MethodName := ⟨RX0, "birthOf", "(I)I"⟩
abbrev cX0_sizeOf : ByteArray := prog_2_method_6_code
def yX0_sizeOf : MethodName := ⟨RX0, "sizeOf", "(I)I"⟩
abbrev cX0_dayAt : ByteArray := prog_2_method_7_code
def yX0_dayAt : MethodName := ⟨RX0, "dayAt", "(II)I"⟩
abbrev cX0_dayOn : ByteArray := prog_2_method_8_code
def yX0_dayOn : MethodName := ⟨RX0, "dayOn", "(II)I"⟩
abbrev cX0_having : ByteArray := prog_2_method_9_code
def yX0_having : MethodName := ⟨RX0, "having", "(II)I"⟩
abbrev cX0_commonDay : ByteArray := prog_2_method_10_code
def yX0_commonDay : MethodName := ⟨RX0, "commonDay", "(II)I"⟩
abbrev cX0_share : ByteArray := prog_2_method_11_code
def yX0_share : MethodName := ⟨RX0, "share", "(III)Z"⟩
abbrev cX0_sharedDates : ByteArray := prog_2_method_12_code
def yX0_sharedDates : MethodName := ⟨RX0, "sharedDates", "(III)I"⟩
abbrev cX0_everShare : ByteArray := prog_2_method_13_code
def yX0_everShare : MethodName := ⟨RX0, "everShare", "(II)Z"⟩
abbrev cX0_allHave : ByteArray := prog_2_method_14_code
def yX0_allHave : MethodName := ⟨RX0, "allHave", "(III)Z"⟩
abbrev cX0_everAllHave : ByteArray := prog_2_method_15_code
def yX0_everAllHave : MethodName := ⟨RX0, "everAllHave", "(II)Z"⟩
abbrev cX0_whyNever : ByteArray := prog_2_method_16_code
def yX0_whyNever : MethodName := ⟨RX0, "whyNever", "(II)I"⟩
abbrev cX0_cost : ByteArray := prog_2_method_17_code
def yX0_cost : MethodName := ⟨RX0, "cost", "(II)I"⟩
abbrev cX0_costOfAll : ByteArray := prog_2_method_18_code
def yX0_costOfAll : MethodName := ⟨RX0, "costOfAll", "(I)I"⟩
abbrev cX0_datesApart : ByteArray := prog_2_method_19_code
def yX0_datesApart : MethodName := ⟨RX0, "datesApart", "()I"⟩
abbrev cX0_fewestShared : ByteArray := prog_2_method_20_code
def yX0_fewestShared : MethodName := ⟨RX0, "fewestShared", "(III)I"⟩
abbrev cX0_feastOn : ByteArray := prog_2_method_21_code
def yX0_feastOn : MethodName := ⟨RX0, "feastOn", "(I)I"⟩
abbrev cX0_areTwins : ByteArray := prog_2_method_22_code
def yX0_areTwins : MethodName := ⟨RX0, "areTwins", "(II)Z"⟩
abbrev cX0_isDelayed : ByteArray := prog_2_method_23_code
def yX0_isDelayed : MethodName := ⟨RX0, "isDelayed", "(III)Z"⟩
def RX1 : String := "WeekOrders$Land"
def TX1 : u_T := fun k => match k with
  | 0 => ("WeekOrders$Land", "folk", "LWeekOrders$Folk;", true)
  | 1 => ("WeekOrders$Land", "plan", "LWeekOrders$Plan;", true)
  | _ => ("WeekOrders$Land", "sights", "LWeekOrders$Sights;", true)
def tyX1 : Nat → FieldType := fun k => match k with
  | 0 => .object "WeekOrders$Folk"
  | 1 => .object "WeekOrders$Plan"
  | _ => .object "WeekOrders$Sights"
abbrev wsX10 : List Cond := u_ws RX1 TX1 3
theorem nmX1 : ∀ a, a < 3 → ∀ b, b < 3 → a ≠ b → (TX1 a).2.1 ≠ (TX1 b).2.1 := by decide +kernel
theorem tyX1_ok : ∀ k, k < 3 → parseFieldDescriptor (TX1 k).2.2.1 = some (tyX1 k) := by decide +kernel
abbrev cX1_init : ByteArray := prog_3_method_1_code
def yX1_init : MethodName := ⟨RX1, "<init>", "()V"⟩
abbrev cX1_become : ByteArray := prog_3_method_2_code
def yX1_become : MethodName := ⟨RX1, "become", "(LWeekOrders$Land;)V"⟩
abbrev cX1_isDoable : ByteArray := prog_3_method_3_code
def yX1_isDoable : MethodName := ⟨RX1, "isDoable", "(II)Z"⟩
abbrev cX1_isBarred : ByteArray := prog_3_method_4_code
def yX1_isBarred : MethodName := ⟨RX1, "isBarred", "(I)Z"⟩
abbrev cX1_fitsSights : ByteArray := prog_3_method_5_code
def yX1_fitsSights : MethodName := ⟨RX1, "fitsSights", "(II)Z"⟩
def RX2 : String := "WeekOrders$Month"
def TX2 : u_T := fun k => match k with
  | 0 => ("WeekOrders$Month", "works", "I", false)
  | 1 => ("WeekOrders$Month", "most", "I", false)
  | 2 => ("WeekOrders$Month", "people", "[I", true)
  | 3 => ("WeekOrders$Month", "counts", "[I", true)
  | 4 => ("WeekOrders$Month", "choices", "[I", true)
  | 5 => ("WeekOrders$Month", "tried", "[I", true)
  | _ => ("WeekOrders$Month", "best", "[I", true)
def tyX2 : Nat → FieldType := fun k => match k with
  | 0 => .int
  | 1 => .int
  | 2 => .array .int
  | 3 => .array .int
  | 4 => .array .int
  | 5 => .array .int
  | _ => .array .int
abbrev wsX20 : List Cond := u_ws RX2 TX2 7
theorem nmX2 : ∀ a, a < 7 → ∀ b, b < 7 → a ≠ b → (TX2 a).2.1 ≠ (TX2 b).2.1 := by decide +kernel
theorem tyX2_ok : ∀ k, k < 7 → parseFieldDescriptor (TX2 k).2.2.1 = some (tyX2 k) := by decide +kernel
abbrev cX2_init : ByteArray := prog_4_method_1_code
def yX2_init : MethodName := ⟨RX2, "<init>", "()V"⟩
abbrev cX2_settle : ByteArray := prog_4_method_2_code
def yX2_settle : MethodName := ⟨RX2, "settle", "(LWeekOrders$Land;I)V"⟩
abbrev cX2_dateOf : ByteArray := prog_4_method_3_code
def yX2_dateOf : MethodName := ⟨RX2, "dateOf", "(I)I"⟩
abbrev cX2_collect : ByteArray := prog_4_method_4_code
def yX2_collect : MethodName := ⟨RX2, "collect", "(LWeekOrders$Land;II)V"⟩
abbrev cX2_search : ByteArray := prog_4_method_5_code
def yX2_search : MethodName := ⟨RX2, "search", "(LWeekOrders$Month;II)V"⟩
abbrev cX2_keep : ByteArray := prog_4_method_6_code
def yX2_keep : MethodName := ⟨RX2, "keep", "(I)V"⟩
abbrev cX2_isFree : ByteArray := prog_4_method_7_code
def yX2_isFree : MethodName := ⟨RX2, "isFree", "(II)Z"⟩
def RX3 : String := "WeekOrders$Pad"
def TX3 : u_T := fun k => match k with
  | 0 => ("WeekOrders$Pad", "signs", "[I", true)
  | _ => ("WeekOrders$Pad", "count", "I", false)
def tyX3 : Nat → FieldType := fun k => match k with
  | 0 => .array .int
  | _ => .int
abbrev wsX30 : List Cond := u_ws RX3 TX3 2
theorem nmX3 : ∀ a, a < 2 → ∀ b, b < 2 → a ≠ b → (TX3 a).2.1 ≠ (TX3 b).2.1 := by decide +kernel
theorem tyX3_ok : ∀ k, k < 2 → parseFieldDescriptor (TX3 k).2.2.1 = some (tyX3 k) := by decide +kernel
abbrev cX3_init : ByteArray := prog_5_method_1_code
def yX3_init : MethodName := ⟨RX3, "<init>", "()V"⟩
abbrev cX3_add : ByteArray := prog_5_method_2_code
def yX3_add : MethodName := ⟨RX3, "add", "(I)Z"⟩
abbrev cX3_signAt : ByteArray := prog_5_method_3_code
def yX3_signAt : MethodName := ⟨RX3, "signAt", "(I)I"⟩
abbrev cX3_orderFault : ByteArray := prog_5_method_4_code
def yX3_orderFault : MethodName := ⟨RX3, "orderFault", "()I"⟩
abbrev cX3_planFault : ByteArray := prog_5_method_5_code
def yX3_planFault : MethodName := ⟨RX3, "planFault", "()I"⟩
def RX4 : String := "WeekOrders$Plan"
def TX4 : u_T := fun k => match k with
  | 0 => ("WeekOrders$Plan", "count", "I", false)
  | 1 => ("WeekOrders$Plan", "days", "[I", true)
  | _ => ("WeekOrders$Plan", "people", "[I", true)
def tyX4 : Nat → FieldType := fun k => match k with
  | 0 => .int
  | 1 => .array .int
  | _ => .array .int
abbrev wsX40 : List Cond := u_ws RX4 TX4 3
theorem nmX4 : ∀ a, a < 3 → ∀ b, b < 3 → a ≠ b → (TX4 a).2.1 ≠ (TX4 b).2.1 := by decide +kernel
theorem tyX4_ok : ∀ k, k < 3 → parseFieldDescriptor (TX4 k).2.2.1 = some (tyX4 k) := by decide +kernel
abbrev cX4_init : ByteArray := prog_6_method_1_code
def yX4_init : MethodName := ⟨RX4, "<init>", "()V"⟩
abbrev cX4_become : ByteArray := prog_6_method_2_code
def yX4_become : MethodName := ⟨RX4, "become", "(LWeekOrders$Plan;)V"⟩
abbrev cX4_read : ByteArray := prog_6_method_3_code
def yX4_read : MethodName := ⟨RX4, "read", "(LWeekOrders$Pad;)V"⟩
abbrev cX4_dayOf : ByteArray := prog_6_method_4_code
def yX4_dayOf : MethodName := ⟨RX4, "dayOf", "(I)I"⟩
abbrev cX4_peopleOf : ByteArray := prog_6_method_5_code
def yX4_peopleOf : MethodName := ⟨RX4, "peopleOf", "(I)I"⟩
def RX5 : String := "WeekOrders$Sights"
def TX5 : u_T := fun k => match k with
  | 0 => ("WeekOrders$Sights", "count", "I", false)
  | 1 => ("WeekOrders$Sights", "dates", "[I", true)
  | _ => ("WeekOrders$Sights", "shuts", "[I", true)
def tyX5 : Nat → FieldType := fun k => match k with
  | 0 => .int
  | 1 => .array .int
  | _ => .array .int
abbrev wsX50 : List Cond := u_ws RX5 TX5 3
theorem nmX5 : ∀ a, a < 3 → ∀ b, b < 3 → a ≠ b → (TX5 a).2.1 ≠ (TX5 b).2.1 := by decide +kernel
theorem tyX5_ok : ∀ k, k < 3 → parseFieldDescriptor (TX5 k).2.2.1 = some (tyX5 k) := by decide +kernel
abbrev cX5_init : ByteArray := prog_7_method_1_code
def yX5_init : MethodName := ⟨RX5, "<init>", "()V"⟩
abbrev cX5_become : ByteArray := prog_7_method_2_code
def yX5_become : MethodName := ⟨RX5, "become", "(LWeekOrders$Sights;)V"⟩
abbrev cX5_add : ByteArray := prog_7_method_3_code
def yX5_add : MethodName := ⟨RX5, "add", "(II)Z"⟩
abbrev cX5_dateOf : ByteArray := prog_7_method_4_code
def yX5_dateOf : MethodName := ⟨RX5, "dateOf", "(I)I"⟩
abbrev cX5_wasShut : ByteArray := prog_7_method_5_code
def yX5_wasShut : MethodName := ⟨RX5, "wasShut", "(I)Z"⟩
def RX6 : String := "WeekOrders"
def TX6 : u_T := fun k => match k with
  | 0 => ("WeekOrders", "pad", "LWeekOrders$Pad;", true)
  | 1 => ("WeekOrders", "land", "LWeekOrders$Land;", true)
  | 2 => ("WeekOrders", "images", "[LWeekOrders$Land;", true)
  | _ => ("WeekOrders", "month", "LWeekOrders$Month;", true)
def tyX6 : Nat → FieldType := fun k => match k with
  | 0 => .object "WeekOrders$Pad"
  | 1 => .object "WeekOrders$Land"
  | 2 => .array (.object "WeekOrders$Land")
  | _ => .object "WeekOrders$Month"
abbrev wsX60 : List Cond := u_ws RX6 TX6 4
theorem nmX6 : ∀ a, a < 4 → ∀ b, b < 4 → a ≠ b → (TX6 a).2.1 ≠ (TX6 b).2.1 := by decide +kernel
theorem tyX6_ok : ∀ k, k < 4 → parseFieldDescriptor (TX6 k).2.2.1 = some (tyX6 k) := by decide +kernel
abbrev cX6_init : ByteArray := prog_1_method_1_code
def yX6_init : MethodName := ⟨RX6, "<init>", "()V"⟩
abbrev cX6_say : ByteArray := prog_1_method_2_code
def yX6_say : MethodName := ⟨RX6, "say", "(I)I"⟩
abbrev cX6_wipe : ByteArray := prog_1_method_3_code
def yX6_wipe : MethodName := ⟨RX6, "wipe", "()I"⟩
abbrev cX6_fault : ByteArray := prog_1_method_4_code
def yX6_fault : MethodName := ⟨RX6, "fault", "(I)I"⟩
abbrev cX6_born : ByteArray := prog_1_method_5_code
def yX6_born : MethodName := ⟨RX6, "born", "(II)I"⟩
abbrev cX6_exile : ByteArray := prog_1_method_6_code
def yX6_exile : MethodName := ⟨RX6, "exile", "(I)I"⟩
abbrev cX6_plan : ByteArray := prog_1_method_7_code
def yX6_plan : MethodName := ⟨RX6, "plan", "()I"⟩
abbrev cX6_today : ByteArray := prog_1_method_8_code
def yX6_today : MethodName := ⟨RX6, "today", "(II)I"⟩
abbrev cX6_same : ByteArray := prog_1_method_9_code
def yX6_same : MethodName := ⟨RX6, "same", "(II)I"⟩
abbrev cX6_next : ByteArray := prog_1_method_10_code
def yX6_next : MethodName := ⟨RX6, "next", "(III)I"⟩
abbrev cX6_meet : ByteArray := prog_1_method_11_code
def yX6_meet : MethodName := ⟨RX6, "meet", "(III)I"⟩
abbrev cX6_shared : ByteArray := prog_1_method_12_code
def yX6_shared : MethodName := ⟨RX6, "shared", "(II)I"⟩
abbrev cX6_never : ByteArray := prog_1_method_13_code
def yX6_never : MethodName := ⟨RX6, "never", "(I)I"⟩
abbrev cX6_market : ByteArray := prog_1_method_14_code
def yX6_market : MethodName := ⟨RX6, "market", "(III)I"⟩
abbrev cX6_isMarket : ByteArray := prog_1_method_15_code
def yX6_isMarket : MethodName := ⟨RX6, "isMarket", "(III)Z"⟩
abbrev cX6_countMarkets : ByteArray := prog_1_method_16_code
def yX6_countMarkets : MethodName := ⟨RX6, "countMarkets", "(II)I"⟩
abbrev cX6_firstMarket : ByteArray := prog_1_method_17_code
def yX6_firstMarket : MethodName := ⟨RX6, "firstMarket", "(II)I"⟩
abbrev cX6_longestWithoutMarket : ByteArray := prog_1_method_18_code
def yX6_longestWithoutMarket : MethodName := ⟨RX6, "longestWithoutMarket", "(II)I"⟩
abbrev cX6_can : ByteArray := prog_1_method_19_code
def yX6_can : MethodName := ⟨RX6, "can", "(II)I"⟩
abbrev cX6_month : ByteArray := prog_1_method_20_code
def yX6_month : MethodName := ⟨RX6, "month", "(II)I"⟩
abbrev cX6_barred : ByteArray := prog_1_method_21_code
def yX6_barred : MethodName := ⟨RX6, "barred", "()I"⟩
abbrev cX6_why : ByteArray := prog_1_method_22_code
def yX6_why : MethodName := ⟨RX6, "why", "(I)I"⟩
abbrev cX6_common : ByteArray := prog_1_method_23_code
def yX6_common : MethodName := ⟨RX6, "common", "(III)I"⟩
abbrev cX6_wedding : ByteArray := prog_1_method_24_code
def yX6_wedding : MethodName := ⟨RX6, "wedding", "(III)I"⟩
abbrev cX6_weddingCost : ByteArray := prog_1_method_25_code
def yX6_weddingCost : MethodName := ⟨RX6, "weddingCost", "(III)I"⟩
abbrev cX6_best : ByteArray := prog_1_method_26_code
def yX6_best : MethodName := ⟨RX6, "best", "(II)I"⟩
abbrev cX6_feast : ByteArray := prog_1_method_27_code
def yX6_feast : MethodName := ⟨RX6, "feast", "(I)I"⟩
abbrev cX6_feasts : ByteArray := prog_1_method_28_code
def yX6_feasts : MethodName := ⟨RX6, "feasts", "(I)I"⟩
abbrev cX6_poor : ByteArray := prog_1_method_29_code
def yX6_poor : MethodName := ⟨RX6, "poor", "()I"⟩
abbrev cX6_twins : ByteArray := prog_1_method_30_code
def yX6_twins : MethodName := ⟨RX6, "twins", "(I)I"⟩
abbrev cX6_oneOrder : ByteArray := prog_1_method_31_code
def yX6_oneOrder : MethodName := ⟨RX6, "oneOrder", "(II)I"⟩
abbrev cX6_seen : ByteArray := prog_1_method_32_code
def yX6_seen : MethodName := ⟨RX6, "seen", "(II)I"⟩
abbrev cX6_forget : ByteArray := prog_1_method_33_code
def yX6_forget : MethodName := ⟨RX6, "forget", "()I"⟩
abbrev cX6_whose : ByteArray := prog_1_method_34_code
def yX6_whose : MethodName := ⟨RX6, "whose", "(I)I"⟩
abbrev cX6_sure : ByteArray := prog_1_method_35_code
def yX6_sure : MethodName := ⟨RX6, "sure", "(I)I"⟩
abbrev cX6_chance : ByteArray := prog_1_method_36_code
def yX6_chance : MethodName := ⟨RX6, "chance", "(III)J"⟩
abbrev cX6_shares : ByteArray := prog_1_method_37_code
def yX6_shares : MethodName := ⟨RX6, "shares", "(III)J"⟩
abbrev cX6_year : ByteArray := prog_1_method_38_code
def yX6_year : MethodName := ⟨RX6, "year", "(III)I"⟩
abbrev cX6_image : ByteArray := prog_1_method_39_code
def yX6_image : MethodName := ⟨RX6, "image", "(I)I"⟩
abbrev cX6_restore : ByteArray := prog_1_method_40_code
def yX6_restore : MethodName := ⟨RX6, "restore", "(I)I"⟩
abbrev cX6_told : ByteArray := prog_1_method_41_code
def yX6_told : MethodName := ⟨RX6, "told", "(I)I"⟩
abbrev cX6_toldOfPerson : ByteArray := prog_1_method_42_code
def yX6_toldOfPerson : MethodName := ⟨RX6, "toldOfPerson", "(I)I"⟩
abbrev cX6_toldOfWork : ByteArray := prog_1_method_43_code
def yX6_toldOfWork : MethodName := ⟨RX6, "toldOfWork", "(I)I"⟩
abbrev cX6_pairs : ByteArray := prog_1_method_44_code
def yX6_pairs : MethodName := ⟨RX6, "pairs", "(ZI)I"⟩
abbrev cX6_isPair : ByteArray := prog_1_method_45_code
def yX6_isPair : MethodName := ⟨RX6, "isPair", "(ZII)Z"⟩
abbrev cX6_isOneOf : ByteArray := prog_1_method_46_code
def yX6_isOneOf : MethodName := ⟨RX6, "isOneOf", "(II)Z"⟩
abbrev cX6_isDate : ByteArray := prog_1_method_47_code
def yX6_isDate : MethodName := ⟨RX6, "isDate", "(I)Z"⟩
abbrev cX6_isBirth : ByteArray := prog_1_method_48_code
def yX6_isBirth : MethodName := ⟨RX6, "isBirth", "(I)Z"⟩
abbrev cX6_isThere : ByteArray := prog_1_method_49_code
def yX6_isThere : MethodName := ⟨RX6, "isThere", "(I)Z"⟩
abbrev cX6_areTwoThere : ByteArray := prog_1_method_50_code
def yX6_areTwoThere : MethodName := ⟨RX6, "areTwoThere", "(II)Z"⟩
abbrev cX6_isSetOfThere : ByteArray := prog_1_method_51_code
def yX6_isSetOfThere : MethodName := ⟨RX6, "isSetOfThere", "(I)Z"⟩
abbrev cX6_bornDay : ByteArray := prog_1_method_52_code
def yX6_bornDay : MethodName := ⟨RX6, "bornDay", "(IIII)I"⟩
abbrev cX6_chanceOfDay : ByteArray := prog_1_method_53_code
def yX6_chanceOfDay : MethodName := ⟨RX6, "chanceOfDay", "(III)J"⟩
abbrev cX6_greatestFactor : ByteArray := prog_1_method_54_code
def yX6_greatestFactor : MethodName := ⟨RX6, "greatestFactor", "(II)I"⟩
def RX7 : String := "WeekOrdersModel"
def TX7 : u_T := fun k => match k with
  | 0 => ("WeekOrdersModel", "there", "I", false)
  | 1 => ("WeekOrdersModel", "order", "[I", true)
  | 2 => ("WeekOrdersModel", "length", "[I", true)
  | 3 => ("WeekOrdersModel", "birth", "[I", true)
  | 4 => ("WeekOrdersModel", "works", "I", false)
  | 5 => ("WeekOrdersModel", "workDay", "[I", true)
  | 6 => ("WeekOrdersModel", "workOf", "[I", true)
  | 7 => ("WeekOrdersModel", "sights", "I", false)
  | 8 => ("WeekOrdersModel", "sight", "[I", true)
  | 9 => ("WeekOrdersModel", "signs", "I", false)
  | 10 => ("WeekOrdersModel", "pad", "[I", true)
  | 11 => ("WeekOrdersModel", "later", "[I", true)
  | 12 => ("WeekOrdersModel", "image", "[I", true)
  | _ => ("WeekOrdersModel", "isKept", "[Z", true)
def tyX7 : Nat → FieldType := fun k => match k with
  | 0 => .int
  | 1 => .array .int
  | 2 => .array .int
  | 3 => .array .int
  | 4 => .int
  | 5 => .array .int
  | 6 => .array .int
  | 7 => .int
  | 8 => .array .int
  | 9 => .int
  | 10 => .array .int
  | 11 => .array .int
  | 12 => .array .int
  | _ => .array .boolean
abbrev wsX70 : List Cond := u_ws RX7 TX7 14
theorem nmX7 : ∀ a, a < 14 → ∀ b, b < 14 → a ≠ b → (TX7 a).2.1 ≠ (TX7 b).2.1 := by decide +kernel
theorem tyX7_ok : ∀ k, k < 14 → parseFieldDescriptor (TX7 k).2.2.1 = some (tyX7 k) := by decide +kernel
abbrev cX7_init : ByteArray := prog_9_method_1_code
def yX7_init : MethodName := ⟨RX7, "<init>", "()V"⟩
abbrev cX7_in : ByteArray := prog_9_method_2_code
def yX7_in : MethodName := ⟨RX7, "in", "(III)Z"⟩
abbrev cX7_has : ByteArray := prog_9_method_3_code
def yX7_has : MethodName := ⟨RX7, "has", "(II)Z"⟩
abbrev cX7_bits : ByteArray := prog_9_method_4_code
def yX7_bits : MethodName := ⟨RX7, "bits", "(I)I"⟩
abbrev cX7_isThere : ByteArray := prog_9_method_5_code
def yX7_isThere : MethodName := ⟨RX7, "isThere", "(I)Z"⟩
abbrev cX7_isDay : ByteArray := prog_9_method_6_code
def yX7_isDay : MethodName := ⟨RX7, "isDay", "(I)Z"⟩
abbrev cX7_isDate : ByteArray := prog_9_method_7_code
def yX7_isDate : MethodName := ⟨RX7, "isDate", "(I)Z"⟩
abbrev cX7_say : ByteArray := prog_9_method_8_code
def yX7_say : MethodName := ⟨RX7, "say", "(I)I"⟩
abbrev cX7_wipe : ByteArray := prog_9_method_9_code
def yX7_wipe : MethodName := ⟨RX7, "wipe", "()I"⟩
abbrev cX7_orderFault : ByteArray := prog_9_method_10_code
def yX7_orderFault : MethodName := ⟨RX7, "orderFault", "()I"⟩
abbrev cX7_planFault : ByteArray := prog_9_method_11_code
def yX7_planFault : MethodName := ⟨RX7, "planFault", "()I"⟩
abbrev cX7_fault : ByteArray := prog_9_method_12_code
def yX7_fault : MethodName := ⟨RX7, "fault", "(I)I"⟩
abbrev cX7_born : ByteArray := prog_9_method_13_code
def yX7_born : MethodName := ⟨RX7, "born", "(II)I"⟩
abbrev cX7_exile : ByteArray := prog_9_method_14_code
def yX7_exile : MethodName := ⟨RX7, "exile", "(I)I"⟩
abbrev cX7_plan : ByteArray := prog_9_method_15_code
def yX7_plan : MethodName := ⟨RX7, "plan", "()I"⟩
abbrev cX7_dayOf : ByteArray := prog_9_method_16_code
def yX7_dayOf : MethodName := ⟨RX7, "dayOf", "(II)I"⟩
abbrev cX7_today : ByteArray := prog_9_method_17_code
def yX7_today : MethodName := ⟨RX7, "today", "(II)I"⟩
abbrev cX7_having : ByteArray := prog_9_method_18_code
def yX7_having : MethodName := ⟨RX7, "having", "(III)I"⟩
abbrev cX7_same : ByteArray := prog_9_method_19_code
def yX7_same : MethodName := ⟨RX7, "same", "(II)I"⟩
abbrev cX7_next : ByteArray := prog_9_method_20_code
def yX7_next : MethodName := ⟨RX7, "next", "(III)I"⟩
abbrev cX7_areThere : ByteArray := prog_9_method_21_code
def yX7_areThere : MethodName := ⟨RX7, "areThere", "(I)Z"⟩
abbrev cX7_oneDay : ByteArray := prog_9_method_22_code
def yX7_oneDay : MethodName := ⟨RX7, "oneDay", "(II)I"⟩
abbrev cX7_meet : ByteArray := prog_9_method_23_code
def yX7_meet : MethodName := ⟨RX7, "meet", "(III)I"⟩
abbrev cX7_sharedBy : ByteArray := prog_9_method_24_code
def yX7_sharedBy : MethodName := ⟨RX7, "sharedBy", "(III)I"⟩
abbrev cX7_shared : ByteArray := prog_9_method_25_code
def yX7_shared : MethodName := ⟨RX7, "shared", "(II)I"⟩
abbrev cX7_never : ByteArray := prog_9_method_26_code
def yX7_never : MethodName := ⟨RX7, "never", "(I)I"⟩
abbrev cX7_market : ByteArray := prog_9_method_27_code
def yX7_market : MethodName := ⟨RX7, "market", "(III)I"⟩
abbrev cX7_isWork : ByteArray := prog_9_method_28_code
def yX7_isWork : MethodName := ⟨RX7, "isWork", "(I)Z"⟩
abbrev cX7_canBe : ByteArray := prog_9_method_29_code
def yX7_canBe : MethodName := ⟨RX7, "canBe", "(II)Z"⟩
abbrev cX7_can : ByteArray := prog_9_method_30_code
def yX7_can : MethodName := ⟨RX7, "can", "(II)I"⟩
abbrev cX7_fitsAhead : ByteArray := prog_9_method_31_code
def yX7_fitsAhead : MethodName := ⟨RX7, "fitsAhead", "(II)Z"⟩
abbrev cX7_canMonth : ByteArray := prog_9_method_32_code
def yX7_canMonth : MethodName := ⟨RX7, "canMonth", "(II)Z"⟩
abbrev cX7_month : ByteArray := prog_9_method_33_code
def yX7_month : MethodName := ⟨RX7, "month", "(II)I"⟩
abbrev cX7_isBarred : ByteArray := prog_9_method_34_code
def yX7_isBarred : MethodName := ⟨RX7, "isBarred", "(I)Z"⟩
abbrev cX7_barred : ByteArray := prog_9_method_35_code
def yX7_barred : MethodName := ⟨RX7, "barred", "()I"⟩
abbrev cX7_haveAtOnce : ByteArray := prog_9_method_36_code
def yX7_haveAtOnce : MethodName := ⟨RX7, "haveAtOnce", "(II)Z"⟩
abbrev cX7_why : ByteArray := prog_9_method_37_code
def yX7_why : MethodName := ⟨RX7, "why", "(I)I"⟩
abbrev cX7_common : ByteArray := prog_9_method_38_code
def yX7_common : MethodName := ⟨RX7, "common", "(III)I"⟩
abbrev cX7_costOf : ByteArray := prog_9_method_39_code
def yX7_costOf : MethodName := ⟨RX7, "costOf", "(II)I"⟩
abbrev cX7_wedding : ByteArray := prog_9_method_40_code
def yX7_wedding : MethodName := ⟨RX7, "wedding", "(III)I"⟩
abbrev cX7_turned : ByteArray := prog_9_method_41_code
def yX7_turned : MethodName := ⟨RX7, "turned", "(II)I"⟩
abbrev cX7_best : ByteArray := prog_9_method_42_code
def yX7_best : MethodName := ⟨RX7, "best", "(II)I"⟩
abbrev cX7_feastOn : ByteArray := prog_9_method_43_code
def yX7_feastOn : MethodName := ⟨RX7, "feastOn", "(I)I"⟩
abbrev cX7_feast : ByteArray := prog_9_method_44_code
def yX7_feast : MethodName := ⟨RX7, "feast", "(I)I"⟩
abbrev cX7_feasts : ByteArray := prog_9_method_45_code
def yX7_feasts : MethodName := ⟨RX7, "feasts", "(I)I"⟩
abbrev cX7_poor : ByteArray := prog_9_method_46_code
def yX7_poor : MethodName := ⟨RX7, "poor", "()I"⟩
abbrev cX7_goesWith : ByteArray := prog_9_method_47_code
def yX7_goesWith : MethodName := ⟨RX7, "goesWith", "(III)Z"⟩
abbrev cX7_twins : ByteArray := prog_9_method_48_code
def yX7_twins : MethodName := ⟨RX7, "twins", "(I)I"⟩
abbrev cX7_oneOrder : ByteArray := prog_9_method_49_code
def yX7_oneOrder : MethodName := ⟨RX7, "oneOrder", "(II)I"⟩
abbrev cX7_seen : ByteArray := prog_9_method_50_code
def yX7_seen : MethodName := ⟨RX7, "seen", "(II)I"⟩
abbrev cX7_forget : ByteArray := prog_9_method_51_code
def yX7_forget : MethodName := ⟨RX7, "forget", "()I"⟩
abbrev cX7_isWell : ByteArray := prog_9_method_52_code
def yX7_isWell : MethodName := ⟨RX7, "isWell", "(II)Z"⟩
abbrev cX7_whose : ByteArray := prog_9_method_53_code
def yX7_whose : MethodName := ⟨RX7, "whose", "(I)I"⟩
abbrev cX7_sure : ByteArray := prog_9_method_54_code
def yX7_sure : MethodName := ⟨RX7, "sure", "(I)I"⟩
abbrev cX7_newly : ByteArray := prog_9_method_55_code
def yX7_newly : MethodName := ⟨RX7, "newly", "(III)J"⟩
abbrev cX7_chance : ByteArray := prog_9_method_56_code
def yX7_chance : MethodName := ⟨RX7, "chance", "(III)J"⟩
abbrev cX7_shares : ByteArray := prog_9_method_57_code
def yX7_shares : MethodName := ⟨RX7, "shares", "(III)J"⟩
abbrev cX7_year : ByteArray := prog_9_method_58_code
def yX7_year : MethodName := ⟨RX7, "year", "(III)I"⟩
abbrev cX7_image : ByteArray := prog_9_method_59_code
def yX7_image : MethodName := ⟨RX7, "image", "(I)I"⟩
abbrev cX7_restore : ByteArray := prog_9_method_60_code
def yX7_restore : MethodName := ⟨RX7, "restore", "(I)I"⟩
abbrev cX7_told : ByteArray := prog_9_method_61_code
def yX7_told : MethodName := ⟨RX7, "told", "(I)I"⟩
def RJ6 : String := "java/lang/Integer"
def TJ6 : u_T := fun k => match k with
  | _ => ("", "", "", false)
def tyJ6 : Nat → FieldType := fun k => match k with
  | _ => .int
abbrev wsJ60 : List Cond := u_ws RJ6 TJ6 0
theorem nmJ6 : ∀ a, a < 0 → ∀ b, b < 0 → a ≠ b → (TJ6 a).2.1 ≠ (TJ6 b).2.1 := by decide +kernel
theorem tyJ6_ok : ∀ k, k < 0 → parseFieldDescriptor (TJ6 k).2.2.1 = some (tyJ6 k) := by decide +kernel
abbrev cJ6_bitCount_0f7a4 : ByteArray := prog_10_method_49_code
def yJ6_bitCount_0f7a4 : MethodName := ⟨RJ6, "bitCount", "(I)I"⟩
def RJ9 : String := "java/lang/Math"
def TJ9 : u_T := fun k => match k with
  | _ => ("", "", "", false)
def tyJ9 : Nat → FieldType := fun k => match k with
  | _ => .int
abbrev wsJ90 : List Cond := u_ws RJ9 TJ9 0
theorem nmJ9 : ∀ a, a < 0 → ∀ b, b < 0 → a ≠ b → (TJ9 a).2.1 ≠ (TJ9 b).2.1 := by decide +kernel
theorem tyJ9_ok : ∀ k, k < 0 → parseFieldDescriptor (TJ9 k).2.2.1 = some (tyJ9 k) := by decide +kernel
abbrev cJ9_floorMod_7cf53 : ByteArray := prog_11_method_50_code
def yJ9_floorMod_7cf53 : MethodName := ⟨RJ9, "floorMod", "(II)I"⟩
abbrev cJ9_max_7cf53 : ByteArray := prog_11_method_65_code
def yJ9_max_7cf53 : MethodName := ⟨RJ9, "max", "(II)I"⟩
abbrev cJ9_min_7cf53 : ByteArray := prog_11_method_69_code
def yJ9_min_7cf53 : MethodName := ⟨RJ9, "min", "(II)I"⟩
def RJ10 : String := "java/lang/System"
def TJ10 : u_T := fun k => match k with
  | _ => ("", "", "", false)
def tyJ10 : Nat → FieldType := fun k => match k with
  | _ => .int
abbrev wsJ100 : List Cond := u_ws RJ10 TJ10 0
theorem nmJ10 : ∀ a, a < 0 → ∀ b, b < 0 → a ≠ b → (TJ10 a).2.1 ≠ (TJ10 b).2.1 := by decide +kernel
theorem tyJ10_ok : ∀ k, k < 0 → parseFieldDescriptor (TJ10 k).2.2.1 = some (tyJ10 k) := by decide +kernel
def RL : String := "WeekOrdersLaw"
abbrev cL_law : ByteArray := code
def yL_law : MethodName := ⟨RL, "law", "([I)Z"⟩
abbrev vwCl : List vw_C := [(RX0, TX0, 5), (RX1, TX1, 3), (RX2, TX2, 7), (RX3, TX3, 2), (RX4, TX4, 3), (RX5, TX5, 3), (RX6, TX6, 4), (RX7, TX7, 14)]
end
section
theorem dX0_init_0 : decode cX0_init 0 = .ok (.aload_n 0, 1) := by decide +kernel
theorem dX0_init_1 : decode cX0_init 1 = .ok (.invokespecial 3, 3) := by decide +kernel
theorem dX0_init_4 : decode cX0_init 4 = .ok (.aload_n 0, 1) := by decide +kernel
theorem dX0_init_5 : decode cX0_init 5 = .ok (.bipush 6, 2) := by decide +kernel
theorem dX0_init_7 : decode cX0_init 7 = .ok (.newarray .int, 2) := by decide +kernel
theorem dX0_init_9 : decode cX0_init 9 = .ok (.putfield 9, 3) := by decide +kernel
theorem dX0_init_12 : decode cX0_init 12 = .ok (.aload_n 0, 1) := by decide +kernel
theorem dX0_init_13 : decode cX0_init 13 = .ok (.bipush 6, 2) := by decide +kernel
theorem dX0_init_15 : decode cX0_init 15 = .ok (.newarray .int, 2) := by decide +kernel
theorem dX0_init_17 : decode cX0_init 17 = .ok (.putfield 15, 3) := by decide +kernel
theorem dX0_init_20 : decode cX0_init 20 = .ok (.aload_n 0, 1) := by decide +kernel
theorem dX0_init_21 : decode cX0_init 21 = .ok (.bipush 48, 2) := by decide +kernel
theorem dX0_init_23 : decode cX0_init 23 = .ok (.newarray .int, 2) := by decide +kernel
theorem dX0_init_25 : decode cX0_init 25 = .ok (.putfield 18, 3) := by decide +kernel
theorem dX0_init_28 : decode cX0_init 28 = .ok (.aload_n 0, 1) := by decide +kernel
theorem dX0_init_29 : decode cX0_init 29 = .ok (.bipush 8, 2) := by decide +kernel
theorem dX0_init_31 : decode cX0_init 31 = .ok (.newarray .int, 2) := by decide +kernel
theorem dX0_init_33 : decode cX0_init 33 = .ok (.putfield 21, 3) := by decide +kernel
theorem dX0_init_36 : decode cX0_init 36 = .ok (.return_, 1) := by decide +kernel
theorem dX0_become_0 : decode cX0_become 0 = .ok (.aload_n 1, 1) := by decide +kernel
theorem dX0_become_1 : decode cX0_become 1 = .ok (.ifnonnull 4, 3) := by decide +kernel
theorem dX0_become_4 : decode cX0_become 4 = .ok (.return_, 1) := by decide +kernel
theorem dX0_become_5 : decode cX0_become 5 = .ok (.aload_n 0, 1) := by decide +kernel
theorem dX0_become_6 : decode cX0_become 6 = .ok (.aload_n 1, 1) := by decide +kernel
theorem dX0_become_7 : decode cX0_become 7 = .ok (.getfield 24, 3) := by decide +kernel
theorem dX0_become_10 : decode cX0_become 10 = .ok (.putfield 24, 3) := by decide +kernel
theorem dX0_become_13 : decode cX0_become 13 = .ok (.aload_n 1, 1) := by decide +kernel
theorem dX0_become_14 : decode cX0_become 14 = .ok (.getfield 9, 3) := by decide +kernel
theorem dX0_become_17 : decode cX0_become 17 = .ok (.iconst 0, 1) := by decide +kernel
theorem dX0_become_18 : decode cX0_become 18 = .ok (.aload_n 0, 1) := by decide +kernel
theorem dX0_become_19 : decode cX0_become 19 = .ok (.getfield 9, 3) := by decide +kernel
theorem dX0_become_22 : decode cX0_become 22 = .ok (.iconst 0, 1) := by decide +kernel
theorem dX0_become_23 : decode cX0_become 23 = .ok (.bipush 6, 2) := by decide +kernel
theorem dX0_become_25 : decode cX0_become 25 = .ok (.invokestatic 28, 3) := by decide +kernel
theorem dX0_become_28 : decode cX0_become 28 = .ok (.aload_n 1, 1) := by decide +kernel
theorem dX0_become_29 : decode cX0_become 29 = .ok (.getfield 15, 3) := by decide +kernel
theorem dX0_become_32 : decode cX0_become 32 = .ok (.iconst 0, 1) := by decide +kernel
theorem dX0_become_33 : decode cX0_become 33 = .ok (.aload_n 0, 1) := by decide +kernel
theorem dX0_become_34 : decode cX0_become 34 = .ok (.getfield 15, 3) := by decide +kernel
theorem dX0_become_37 : decode cX0_become 37 = .ok (.iconst 0, 1) := by decide +kernel
theorem dX0_become_38 : decode cX0_become 38 = .ok (.bipush 6, 2) := by decide +kernel
theorem dX0_become_40 : decode cX0_become 40 = .ok (.invokestatic 28, 3) := by decide +kernel
theorem dX0_become_43 : decode cX0_become 43 = .ok (.aload_n 1, 1) := by decide +kernel
theorem dX0_become_44 : decode cX0_become 44 = .ok (.getfield 18, 3) := by decide +kernel
theorem dX0_become_47 : decode cX0_become 47 = .ok (.iconst 0, 1) := by decide +kernel
theorem dX0_become_48 : decode cX0_become 48 = .ok (.aload_n 0, 1) := by decide +kernel
theorem dX0_become_49 : decode cX0_become 49 = .ok (.getfield 18, 3) := by decide +kernel
theorem dX0_become_52 : decode cX0_become 52 = .ok (.iconst 0, 1) := by decide +kernel
theorem dX0_become_53 : decode cX0_become 53 = .ok (.bipush 48, 2) := by decide +kernel
theorem dX0_become_55 : decode cX0_become 55 = .ok (.invokestatic 28, 3) := by decide +kernel
theorem dX0_become_58 : decode cX0_become 58 = .ok (.return_, 1) := by decide +kernel
theorem dX0_settle_0 : decode cX0_settle 0 = .ok (.iload_n 1, 1) := by decide +kernel
theorem dX0_settle_1 : decode cX0_settle 1 = .ok (.bipush 6, 2) := by decide +kernel
theorem dX0_settle_3 : decode cX0_settle 3 = .ok (.invokestatic 34, 3) := by decide +kernel
theorem dX0_settle_6 : decode cX0_settle 6 = .ok (.ifCond .eq 16, 3) := by decide +kernel
theorem dX0_settle_9 : decode cX0_settle 9 = .ok (.aload_n 3, 1) := by decide +kernel
theorem dX0_settle_10 : decode cX0_settle 10 = .ok (.ifnull 12, 3) := by decide +kernel
theorem dX0_settle_13 : decode cX0_settle 13 = .ok (.aload_n 3, 1) := by decide +kernel
theorem dX0_settle_14 : decode cX0_settle 14 = .ok (.getfield 38, 3) := by decide +kernel
theorem dX0_settle_17 : decode cX0_settle 17 = .ok (.bipush 8, 2) := by decide +kernel
theorem dX0_settle_19 : decode cX0_settle 19 = .ok (.if_icmp .le 4, 3) := by decide +kernel
theorem dX0_settle_22 : decode cX0_settle 22 = .ok (.return_, 1) := by decide +kernel
theorem dX0_settle_23 : decode cX0_settle 23 = .ok (.aload_n 0, 1) := by decide +kernel
theorem dX0_settle_24 : decode cX0_settle 24 = .ok (.dup, 1) := by decide +kernel
theorem dX0_settle_25 : decode cX0_settle 25 = .ok (.getfield 24, 3) := by decide +kernel
theorem dX0_settle_28 : decode cX0_settle 28 = .ok (.iconst 1, 1) := by decide +kernel
theorem dX0_settle_29 : decode cX0_settle 29 = .ok (.iload_n 1, 1) := by decide +kernel
theorem dX0_settle_30 : decode cX0_settle 30 = .ok (.ishl, 1) := by decide +kernel
theorem dX0_settle_31 : decode cX0_settle 31 = .ok (.ior, 1) := by decide +kernel
theorem dX0_settle_32 : decode cX0_settle 32 = .ok (.putfield 24, 3) := by decide +kernel
theorem dX0_settle_35 : decode cX0_settle 35 = .ok (.aload_n 0, 1) := by decide +kernel
theorem dX0_settle_36 : decode cX0_settle 36 = .ok (.getfield 9, 3) := by decide +kernel
theorem dX0_settle_39 : decode cX0_settle 39 = .ok (.iload_n 1, 1) := by decide +kernel
theorem dX0_settle_40 : decode cX0_settle 40 = .ok (.iload_n 2, 1) := by decide +kernel
theorem dX0_settle_41 : decode cX0_settle 41 = .ok (.iastore, 1) := by decide +kernel
theorem dX0_settle_42 : decode cX0_settle 42 = .ok (.aload_n 0, 1) := by decide +kernel
theorem dX0_settle_43 : decode cX0_settle 43 = .ok (.getfield 15, 3) := by decide +kernel
theorem dX0_settle_46 : decode cX0_settle 46 = .ok (.iload_n 1, 1) := by decide +kernel
theorem dX0_settle_47 : decode cX0_settle 47 = .ok (.aload_n 3, 1) := by decide +kernel
theorem dX0_settle_48 : decode cX0_settle 48 = .ok (.getfield 38, 3) := by decide +kernel
theorem dX0_settle_51 : decode cX0_settle 51 = .ok (.iastore, 1) := by decide +kernel
theorem dX0_settle_52 : decode cX0_settle 52 = .ok (.iconst 0, 1) := by decide +kernel
theorem dX0_settle_53 : decode cX0_settle 53 = .ok (.istore 4, 2) := by decide +kernel
theorem dX0_settle_55 : decode cX0_settle 55 = .ok (.iload 4, 2) := by decide +kernel
theorem dX0_settle_57 : decode cX0_settle 57 = .ok (.aload_n 3, 1) := by decide +kernel
theorem dX0_settle_58 : decode cX0_settle 58 = .ok (.getfield 38, 3) := by decide +kernel
theorem dX0_settle_61 : decode cX0_settle 61 = .ok (.if_icmp .ge 30, 3) := by decide +kernel
theorem dX0_settle_64 : decode cX0_settle 64 = .ok (.aload_n 0, 1) := by decide +kernel
theorem dX0_settle_65 : decode cX0_settle 65 = .ok (.getfield 18, 3) := by decide +kernel
theorem dX0_settle_68 : decode cX0_settle 68 = .ok (.iload_n 1, 1) := by decide +kernel
theorem dX0_settle_69 : decode cX0_settle 69 = .ok (.bipush 8, 2) := by decide +kernel
theorem dX0_settle_71 : decode cX0_settle 71 = .ok (.imul, 1) := by decide +kernel
theorem dX0_settle_72 : decode cX0_settle 72 = .ok (.iload 4, 2) := by decide +kernel
theorem dX0_settle_74 : decode cX0_settle 74 = .ok (.iadd, 1) := by decide +kernel
theorem dX0_settle_75 : decode cX0_settle 75 = .ok (.aload_n 3, 1) := by decide +kernel
theorem dX0_settle_76 : decode cX0_settle 76 = .ok (.iload 4, 2) := by decide +kernel
theorem dX0_settle_78 : decode cX0_settle 78 = .ok (.invokevirtual 43, 3) := by decide +kernel
theorem dX0_settle_81 : decode cX0_settle 81 = .ok (.bipush 97, 2) := by decide +kernel
theorem dX0_settle_83 : decode cX0_settle 83 = .ok (.isub, 1) := by decide +kernel
theorem dX0_settle_84 : decode cX0_settle 84 = .ok (.iastore, 1) := by decide +kernel
theorem dX0_settle_85 : decode cX0_settle 85 = .ok (.iinc 4 1, 3) := by decide +kernel
theorem dX0_settle_88 : decode cX0_settle 88 = .ok (.goto (-33), 3) := by decide +kernel
theorem dX0_settle_91 : decode cX0_settle 91 = .ok (.return_, 1) := by decide +kernel
theorem dX0_isThere_0 : decode cX0_isThere 0 = .ok (.iload_n 1, 1) := by decide +kernel
theorem dX0_isThere_1 : decode cX0_isThere 1 = .ok (.bipush 6, 2) := by decide +kernel
theorem dX0_isThere_3 : decode cX0_isThere 3 = .ok (.invokestatic 34, 3) := by decide +kernel
theorem dX0_isThere_6 : decode cX0_isThere 6 = .ok (.ifCond .eq 19, 3) := by decide +kernel
theorem dX0_isThere_9 : decode cX0_isThere 9 = .ok (.aload_n 0, 1) := by decide +kernel
theorem dX0_isThere_10 : decode cX0_isThere 10 = .ok (.getfield 24, 3) := by decide +kernel
theorem dX0_isThere_13 : decode cX0_isThere 13 = .ok (.iload_n 1, 1) := by decide +kernel
theorem dX0_isThere_14 : decode cX0_isThere 14 = .ok (.ishr, 1) := by decide +kernel
theorem dX0_isThere_15 : decode cX0_isThere 15 = .ok (.iconst 1, 1) := by decide +kernel
theorem dX0_isThere_16 : decode cX0_isThere 16 = .ok (.iand, 1) := by decide +kernel
theorem dX0_isThere_17 : decode cX0_isThere 17 = .ok (.iconst 1, 1) := by decide +kernel
theorem dX0_isThere_18 : decode cX0_isThere 18 = .ok (.if_icmp .ne 7, 3) := by decide +kernel
theorem dX0_isThere_21 : decode cX0_isThere 21 = .ok (.iconst 1, 1) := by decide +kernel
theorem dX0_isThere_22 : decode cX0_isThere 22 = .ok (.goto 4, 3) := by decide +kernel
theorem dX0_isThere_25 : decode cX0_isThere 25 = .ok (.iconst 0, 1) := by decide +kernel
theorem dX0_isThere_26 : decode cX0_isThere 26 = .ok (.ireturn, 1) := by decide +kernel
theorem dX0_birthOf_0 : decode cX0_birthOf 0 = .ok (.iload_n 1, 1) := by decide +kernel
theorem dX0_birthOf_1 : decode cX0_birthOf 1 = .ok (.bipush 6, 2) := by decide +kernel
theorem dX0_birthOf_3 : decode cX0_birthOf 3 = .ok (.invokestatic 34, 3) := by decide +kernel
theorem dX0_birthOf_6 : decode cX0_birthOf 6 = .ok (.ifCond .eq 12, 3) := by decide +kernel
theorem dX0_birthOf_9 : decode cX0_birthOf 9 = .ok (.aload_n 0, 1) := by decide +kernel
theorem dX0_birthOf_10 : decode cX0_birthOf 10 = .ok (.getfield 9, 3) := by decide +kernel
theorem dX0_birthOf_13 : decode cX0_birthOf 13 = .ok (.iload_n 1, 1) := by decide +kernel
theorem dX0_birthOf_14 : decode cX0_birthOf 14 = .ok (.iaload, 1) := by decide +kernel
theorem dX0_birthOf_15 : decode cX0_birthOf 15 = .ok (.goto 4, 3) := by decide +kernel
theorem dX0_birthOf_18 : decode cX0_birthOf 18 = .ok (.iconst 0, 1) := by decide +kernel
theorem dX0_birthOf_19 : decode cX0_birthOf 19 = .ok (.ireturn, 1) := by decide +kernel
theorem dX0_sizeOf_0 : decode cX0_sizeOf 0 = .ok (.iload_n 1, 1) := by decide +kernel
theorem dX0_sizeOf_1 : decode cX0_sizeOf 1 = .ok (.bipush 6, 2) := by decide +kernel
theorem dX0_sizeOf_3 : decode cX0_sizeOf 3 = .ok (.invokestatic 34, 3) := by decide +kernel
theorem dX0_sizeOf_6 : decode cX0_sizeOf 6 = .ok (.ifCond .eq 12, 3) := by decide +kernel
theorem dX0_sizeOf_9 : decode cX0_sizeOf 9 = .ok (.aload_n 0, 1) := by decide +kernel
theorem dX0_sizeOf_10 : decode cX0_sizeOf 10 = .ok (.getfield 15, 3) := by decide +kernel
theorem dX0_sizeOf_13 : decode cX0_sizeOf 13 = .ok (.iload_n 1, 1) := by decide +kernel
theorem dX0_sizeOf_14 : decode cX0_sizeOf 14 = .ok (.iaload, 1) := by decide +kernel
theorem dX0_sizeOf_15 : decode cX0_sizeOf 15 = .ok (.goto 4, 3) := by decide +kernel
theorem dX0_sizeOf_18 : decode cX0_sizeOf 18 = .ok (.iconst 0, 1) := by decide +kernel
theorem dX0_sizeOf_19 : decode cX0_sizeOf 19 = .ok (.ireturn, 1) := by decide +kernel
theorem dX0_dayAt_0 : decode cX0_dayAt 0 = .ok (.iload_n 1, 1) := by decide +kernel
theorem dX0_dayAt_1 : decode cX0_dayAt 1 = .ok (.bipush 6, 2) := by decide +kernel
theorem dX0_dayAt_3 : decode cX0_dayAt 3 = .ok (.invokestatic 34, 3) := by decide +kernel
theorem dX0_dayAt_6 : decode cX0_dayAt 6 = .ok (.ifCond .eq 12, 3) := by decide +kernel
theorem dX0_dayAt_9 : decode cX0_dayAt 9 = .ok (.iload_n 2, 1) := by decide +kernel
theorem dX0_dayAt_10 : decode cX0_dayAt 10 = .ok (.bipush 8, 2) := by decide +kernel
theorem dX0_dayAt_12 : decode cX0_dayAt 12 = .ok (.invokestatic 34, 3) := by decide +kernel
theorem dX0_dayAt_15 : decode cX0_dayAt 15 = .ok (.ifCond .ne 6, 3) := by decide +kernel
theorem dX0_dayAt_18 : decode cX0_dayAt 18 = .ok (.bipush (-6), 2) := by decide +kernel
theorem dX0_dayAt_20 : decode cX0_dayAt 20 = .ok (.ireturn, 1) := by decide +kernel
theorem dX0_dayAt_21 : decode cX0_dayAt 21 = .ok (.aload_n 0, 1) := by decide +kernel
theorem dX0_dayAt_22 : decode cX0_dayAt 22 = .ok (.getfield 18, 3) := by decide +kernel
theorem dX0_dayAt_25 : decode cX0_dayAt 25 = .ok (.iload_n 1, 1) := by decide +kernel
theorem dX0_dayAt_26 : decode cX0_dayAt 26 = .ok (.bipush 8, 2) := by decide +kernel
theorem dX0_dayAt_28 : decode cX0_dayAt 28 = .ok (.imul, 1) := by decide +kernel
theorem dX0_dayAt_29 : decode cX0_dayAt 29 = .ok (.iload_n 2, 1) := by decide +kernel
theorem dX0_dayAt_30 : decode cX0_dayAt 30 = .ok (.iadd, 1) := by decide +kernel
theorem dX0_dayAt_31 : decode cX0_dayAt 31 = .ok (.iaload, 1) := by decide +kernel
theorem dX0_dayAt_32 : decode cX0_dayAt 32 = .ok (.ireturn, 1) := by decide +kernel
theorem dX0_dayOn_0 : decode cX0_dayOn 0 = .ok (.iload_n 1, 1) := by decide +kernel
theorem dX0_dayOn_1 : decode cX0_dayOn 1 = .ok (.ifCond .lt 20, 3) := by decide +kernel
theorem dX0_dayOn_4 : decode cX0_dayOn 4 = .ok (.iload_n 1, 1) := by decide +kernel
theorem dX0_dayOn_5 : decode cX0_dayOn 5 = .ok (.bipush 6, 2) := by decide +kernel
theorem dX0_dayOn_7 : decode cX0_dayOn 7 = .ok (.if_icmp .ge 14, 3) := by decide +kernel
theorem dX0_dayOn_10 : decode cX0_dayOn 10 = .ok (.aload_n 0, 1) := by decide +kernel
theorem dX0_dayOn_11 : decode cX0_dayOn 11 = .ok (.getfield 24, 3) := by decide +kernel
theorem dX0_dayOn_14 : decode cX0_dayOn 14 = .ok (.iload_n 1, 1) := by decide +kernel
theorem dX0_dayOn_15 : decode cX0_dayOn 15 = .ok (.ishr, 1) := by decide +kernel
theorem dX0_dayOn_16 : decode cX0_dayOn 16 = .ok (.iconst 1, 1) := by decide +kernel
theorem dX0_dayOn_17 : decode cX0_dayOn 17 = .ok (.iand, 1) := by decide +kernel
theorem dX0_dayOn_18 : decode cX0_dayOn 18 = .ok (.ifCond .ne 6, 3) := by decide +kernel
theorem dX0_dayOn_21 : decode cX0_dayOn 21 = .ok (.bipush (-6), 2) := by decide +kernel
theorem dX0_dayOn_23 : decode cX0_dayOn 23 = .ok (.ireturn, 1) := by decide +kernel
theorem dX0_dayOn_24 : decode cX0_dayOn 24 = .ok (.aload_n 0, 1) := by decide +kernel
theorem dX0_dayOn_25 : decode cX0_dayOn 25 = .ok (.getfield 15, 3) := by decide +kernel
theorem dX0_dayOn_28 : decode cX0_dayOn 28 = .ok (.iload_n 1, 1) := by decide +kernel
theorem dX0_dayOn_29 : decode cX0_dayOn 29 = .ok (.iaload, 1) := by decide +kernel
theorem dX0_dayOn_30 : decode cX0_dayOn 30 = .ok (.istore_n 3, 1) := by decide +kernel
theorem dX0_dayOn_31 : decode cX0_dayOn 31 = .ok (.iload_n 3, 1) := by decide +kernel
theorem dX0_dayOn_32 : decode cX0_dayOn 32 = .ok (.iconst 1, 1) := by decide +kernel
theorem dX0_dayOn_33 : decode cX0_dayOn 33 = .ok (.if_icmp .lt 9, 3) := by decide +kernel
theorem dX0_dayOn_36 : decode cX0_dayOn 36 = .ok (.iload_n 3, 1) := by decide +kernel
theorem dX0_dayOn_37 : decode cX0_dayOn 37 = .ok (.bipush 8, 2) := by decide +kernel
theorem dX0_dayOn_39 : decode cX0_dayOn 39 = .ok (.if_icmp .le 6, 3) := by decide +kernel
theorem dX0_dayOn_42 : decode cX0_dayOn 42 = .ok (.bipush (-6), 2) := by decide +kernel
theorem dX0_dayOn_44 : decode cX0_dayOn 44 = .ok (.ireturn, 1) := by decide +kernel
theorem dX0_dayOn_45 : decode cX0_dayOn 45 = .ok (.aload_n 0, 1) := by decide +kernel
theorem dX0_dayOn_46 : decode cX0_dayOn 46 = .ok (.getfield 18, 3) := by decide +kernel
theorem dX0_dayOn_49 : decode cX0_dayOn 49 = .ok (.iload_n 1, 1) := by decide +kernel
theorem dX0_dayOn_50 : decode cX0_dayOn 50 = .ok (.bipush 8, 2) := by decide +kernel
theorem dX0_dayOn_52 : decode cX0_dayOn 52 = .ok (.imul, 1) := by decide +kernel
theorem dX0_dayOn_53 : decode cX0_dayOn 53 = .ok (.iload_n 2, 1) := by decide +kernel
theorem dX0_dayOn_54 : decode cX0_dayOn 54 = .ok (.aload_n 0, 1) := by decide +kernel
theorem dX0_dayOn_55 : decode cX0_dayOn 55 = .ok (.getfield 9, 3) := by decide +kernel
theorem dX0_dayOn_58 : decode cX0_dayOn 58 = .ok (.iload_n 1, 1) := by decide +kernel
theorem dX0_dayOn_59 : decode cX0_dayOn 59 = .ok (.iaload, 1) := by decide +kernel
theorem dX0_dayOn_60 : decode cX0_dayOn 60 = .ok (.isub, 1) := by decide +kernel
theorem dX0_dayOn_61 : decode cX0_dayOn 61 = .ok (.iload_n 3, 1) := by decide +kernel
theorem dX0_dayOn_62 : decode cX0_dayOn 62 = .ok (.invokestatic 47, 3) := by decide +kernel
theorem dX0_dayOn_65 : decode cX0_dayOn 65 = .ok (.iadd, 1) := by decide +kernel
theorem dX0_dayOn_66 : decode cX0_dayOn 66 = .ok (.iaload, 1) := by decide +kernel
theorem dX0_dayOn_67 : decode cX0_dayOn 67 = .ok (.ireturn, 1) := by decide +kernel
theorem dX0_having_0 : decode cX0_having 0 = .ok (.iconst 0, 1) := by decide +kernel
theorem dX0_having_1 : decode cX0_having 1 = .ok (.istore_n 3, 1) := by decide +kernel
theorem dX0_having_2 : decode cX0_having 2 = .ok (.iconst 0, 1) := by decide +kernel
theorem dX0_having_3 : decode cX0_having 3 = .ok (.istore 4, 2) := by decide +kernel
theorem dX0_having_5 : decode cX0_having 5 = .ok (.iload 4, 2) := by decide +kernel
theorem dX0_having_7 : decode cX0_having 7 = .ok (.bipush 6, 2) := by decide +kernel
theorem dX0_having_9 : decode cX0_having 9 = .ok (.if_icmp .ge 27, 3) := by decide +kernel
theorem dX0_having_12 : decode cX0_having 12 = .ok (.aload_n 0, 1) := by decide +kernel
theorem dX0_having_13 : decode cX0_having 13 = .ok (.iload 4, 2) := by decide +kernel
theorem dX0_having_15 : decode cX0_having 15 = .ok (.iload_n 2, 1) := by decide +kernel
theorem dX0_having_16 : decode cX0_having 16 = .ok (.invokevirtual 53, 3) := by decide +kernel
theorem dX0_having_19 : decode cX0_having 19 = .ok (.iload_n 1, 1) := by decide +kernel
theorem dX0_having_20 : decode cX0_having 20 = .ok (.if_icmp .ne 10, 3) := by decide +kernel
theorem dX0_having_23 : decode cX0_having 23 = .ok (.iload_n 3, 1) := by decide +kernel
theorem dX0_having_24 : decode cX0_having 24 = .ok (.iconst 1, 1) := by decide +kernel
theorem dX0_having_25 : decode cX0_having 25 = .ok (.iload 4, 2) := by decide +kernel
theorem dX0_having_27 : decode cX0_having 27 = .ok (.ishl, 1) := by decide +kernel
theorem dX0_having_28 : decode cX0_having 28 = .ok (.ior, 1) := by decide +kernel
theorem dX0_having_29 : decode cX0_having 29 = .ok (.istore_n 3, 1) := by decide +kernel
theorem dX0_having_30 : decode cX0_having 30 = .ok (.iinc 4 1, 3) := by decide +kernel
theorem dX0_having_33 : decode cX0_having 33 = .ok (.goto (-28), 3) := by decide +kernel
theorem dX0_having_36 : decode cX0_having 36 = .ok (.iload_n 3, 1) := by decide +kernel
theorem dX0_having_37 : decode cX0_having 37 = .ok (.ireturn, 1) := by decide +kernel
theorem dX0_commonDay_0 : decode cX0_commonDay 0 = .ok (.bipush (-6), 2) := by decide +kernel
theorem dX0_commonDay_2 : decode cX0_commonDay 2 = .ok (.istore_n 3, 1) := by decide +kernel
theorem dX0_commonDay_3 : decode cX0_commonDay 3 = .ok (.iconst 0, 1) := by decide +kernel
theorem dX0_commonDay_4 : decode cX0_commonDay 4 = .ok (.istore 4, 2) := by decide +kernel
theorem dX0_commonDay_6 : decode cX0_commonDay 6 = .ok (.iload 4, 2) := by decide +kernel
theorem dX0_commonDay_8 : decode cX0_commonDay 8 = .ok (.bipush 6, 2) := by decide +kernel
theorem dX0_commonDay_10 : decode cX0_commonDay 10 = .ok (.if_icmp .ge 46, 3) := by decide +kernel
theorem dX0_commonDay_13 : decode cX0_commonDay 13 = .ok (.iload_n 1, 1) := by decide +kernel
theorem dX0_commonDay_14 : decode cX0_commonDay 14 = .ok (.iload 4, 2) := by decide +kernel
theorem dX0_commonDay_16 : decode cX0_commonDay 16 = .ok (.ishr, 1) := by decide +kernel
theorem dX0_commonDay_17 : decode cX0_commonDay 17 = .ok (.iconst 1, 1) := by decide +kernel
theorem dX0_commonDay_18 : decode cX0_commonDay 18 = .ok (.iand, 1) := by decide +kernel
theorem dX0_commonDay_19 : decode cX0_commonDay 19 = .ok (.iconst 1, 1) := by decide +kernel
theorem dX0_commonDay_20 : decode cX0_commonDay 20 = .ok (.if_icmp .ne 30, 3) := by decide +kernel
theorem dX0_commonDay_23 : decode cX0_commonDay 23 = .ok (.aload_n 0, 1) := by decide +kernel
theorem dX0_commonDay_24 : decode cX0_commonDay 24 = .ok (.iload 4, 2) := by decide +kernel
theorem dX0_commonDay_26 : decode cX0_commonDay 26 = .ok (.iload_n 2, 1) := by decide +kernel
theorem dX0_commonDay_27 : decode cX0_commonDay 27 = .ok (.invokevirtual 53, 3) := by decide +kernel
theorem dX0_commonDay_30 : decode cX0_commonDay 30 = .ok (.istore 5, 2) := by decide +kernel
theorem dX0_commonDay_32 : decode cX0_commonDay 32 = .ok (.iload_n 3, 1) := by decide +kernel
theorem dX0_commonDay_33 : decode cX0_commonDay 33 = .ok (.bipush (-6), 2) := by decide +kernel
theorem dX0_commonDay_35 : decode cX0_commonDay 35 = .ok (.if_icmp .eq 12, 3) := by decide +kernel
theorem dX0_commonDay_38 : decode cX0_commonDay 38 = .ok (.iload 5, 2) := by decide +kernel
theorem dX0_commonDay_40 : decode cX0_commonDay 40 = .ok (.iload_n 3, 1) := by decide +kernel
theorem dX0_commonDay_41 : decode cX0_commonDay 41 = .ok (.if_icmp .eq 6, 3) := by decide +kernel
theorem dX0_commonDay_44 : decode cX0_commonDay 44 = .ok (.bipush (-6), 2) := by decide +kernel
theorem dX0_commonDay_46 : decode cX0_commonDay 46 = .ok (.ireturn, 1) := by decide +kernel
theorem dX0_commonDay_47 : decode cX0_commonDay 47 = .ok (.iload 5, 2) := by decide +kernel
theorem dX0_commonDay_49 : decode cX0_commonDay 49 = .ok (.istore_n 3, 1) := by decide +kernel
theorem dX0_commonDay_50 : decode cX0_commonDay 50 = .ok (.iinc 4 1, 3) := by decide +kernel
theorem dX0_commonDay_53 : decode cX0_commonDay 53 = .ok (.goto (-47), 3) := by decide +kernel
theorem dX0_commonDay_56 : decode cX0_commonDay 56 = .ok (.iload_n 3, 1) := by decide +kernel
theorem dX0_commonDay_57 : decode cX0_commonDay 57 = .ok (.ireturn, 1) := by decide +kernel
theorem dX0_share_0 : decode cX0_share 0 = .ok (.aload_n 0, 1) := by decide +kernel
theorem dX0_share_1 : decode cX0_share 1 = .ok (.iload_n 1, 1) := by decide +kernel
theorem dX0_share_2 : decode cX0_share 2 = .ok (.iload_n 3, 1) := by decide +kernel
theorem dX0_share_3 : decode cX0_share 3 = .ok (.invokevirtual 53, 3) := by decide +kernel
theorem dX0_share_6 : decode cX0_share 6 = .ok (.aload_n 0, 1) := by decide +kernel
theorem dX0_share_7 : decode cX0_share 7 = .ok (.iload_n 2, 1) := by decide +kernel
theorem dX0_share_8 : decode cX0_share 8 = .ok (.iload_n 3, 1) := by decide +kernel
theorem dX0_share_9 : decode cX0_share 9 = .ok (.invokevirtual 53, 3) := by decide +kernel
theorem dX0_share_12 : decode cX0_share 12 = .ok (.if_icmp .ne 7, 3) := by decide +kernel
theorem dX0_share_15 : decode cX0_share 15 = .ok (.iconst 1, 1) := by decide +kernel
theorem dX0_share_16 : decode cX0_share 16 = .ok (.goto 4, 3) := by decide +kernel
theorem dX0_share_19 : decode cX0_share 19 = .ok (.iconst 0, 1) := by decide +kernel
theorem dX0_share_20 : decode cX0_share 20 = .ok (.ireturn, 1) := by decide +kernel
theorem dX0_sharedDates_0 : decode cX0_sharedDates 0 = .ok (.iconst 0, 1) := by decide +kernel
theorem dX0_sharedDates_1 : decode cX0_sharedDates 1 = .ok (.istore 4, 2) := by decide +kernel
theorem dX0_sharedDates_3 : decode cX0_sharedDates 3 = .ok (.iconst 0, 1) := by decide +kernel
theorem dX0_sharedDates_4 : decode cX0_sharedDates 4 = .ok (.istore 5, 2) := by decide +kernel
theorem dX0_sharedDates_6 : decode cX0_sharedDates 6 = .ok (.iload 5, 2) := by decide +kernel
theorem dX0_sharedDates_8 : decode cX0_sharedDates 8 = .ok (.iload_n 3, 1) := by decide +kernel
theorem dX0_sharedDates_9 : decode cX0_sharedDates 9 = .ok (.if_icmp .ge 23, 3) := by decide +kernel
theorem dX0_sharedDates_12 : decode cX0_sharedDates 12 = .ok (.aload_n 0, 1) := by decide +kernel
theorem dX0_sharedDates_13 : decode cX0_sharedDates 13 = .ok (.iload_n 1, 1) := by decide +kernel
theorem dX0_sharedDates_14 : decode cX0_sharedDates 14 = .ok (.iload_n 2, 1) := by decide +kernel
theorem dX0_sharedDates_15 : decode cX0_sharedDates 15 = .ok (.iload 5, 2) := by decide +kernel
theorem dX0_sharedDates_17 : decode cX0_sharedDates 17 = .ok (.invokevirtual 56, 3) := by decide +kernel
theorem dX0_sharedDates_20 : decode cX0_sharedDates 20 = .ok (.ifCond .eq 6, 3) := by decide +kernel
theorem dX0_sharedDates_23 : decode cX0_sharedDates 23 = .ok (.iinc 4 1, 3) := by decide +kernel
theorem dX0_sharedDates_26 : decode cX0_sharedDates 26 = .ok (.iinc 5 1, 3) := by decide +kernel
theorem dX0_sharedDates_29 : decode cX0_sharedDates 29 = .ok (.goto (-23), 3) := by decide +kernel
theorem dX0_sharedDates_32 : decode cX0_sharedDates 32 = .ok (.iload 4, 2) := by decide +kernel
theorem dX0_sharedDates_34 : decode cX0_sharedDates 34 = .ok (.ireturn, 1) := by decide +kernel
theorem dX0_everShare_0 : decode cX0_everShare 0 = .ok (.iconst 0, 1) := by decide +kernel
theorem dX0_everShare_1 : decode cX0_everShare 1 = .ok (.istore_n 3, 1) := by decide +kernel
theorem dX0_everShare_2 : decode cX0_everShare 2 = .ok (.iload_n 3, 1) := by decide +kernel
theorem dX0_everShare_3 : decode cX0_everShare 3 = .ok (.sipush 840, 3) := by decide +kernel
theorem dX0_everShare_6 : decode cX0_everShare 6 = .ok (.if_icmp .ge 21, 3) := by decide +kernel
theorem dX0_everShare_9 : decode cX0_everShare 9 = .ok (.aload_n 0, 1) := by decide +kernel
theorem dX0_everShare_10 : decode cX0_everShare 10 = .ok (.iload_n 1, 1) := by decide +kernel
theorem dX0_everShare_11 : decode cX0_everShare 11 = .ok (.iload_n 2, 1) := by decide +kernel
theorem dX0_everShare_12 : decode cX0_everShare 12 = .ok (.iload_n 3, 1) := by decide +kernel
theorem dX0_everShare_13 : decode cX0_everShare 13 = .ok (.invokevirtual 56, 3) := by decide +kernel
theorem dX0_everShare_16 : decode cX0_everShare 16 = .ok (.ifCond .eq 5, 3) := by decide +kernel
theorem dX0_everShare_19 : decode cX0_everShare 19 = .ok (.iconst 1, 1) := by decide +kernel
theorem dX0_everShare_20 : decode cX0_everShare 20 = .ok (.ireturn, 1) := by decide +kernel
theorem dX0_everShare_21 : decode cX0_everShare 21 = .ok (.iinc 3 1, 3) := by decide +kernel
theorem dX0_everShare_24 : decode cX0_everShare 24 = .ok (.goto (-22), 3) := by decide +kernel
theorem dX0_everShare_27 : decode cX0_everShare 27 = .ok (.iconst 0, 1) := by decide +kernel
theorem dX0_everShare_28 : decode cX0_everShare 28 = .ok (.ireturn, 1) := by decide +kernel
theorem dX0_allHave_0 : decode cX0_allHave 0 = .ok (.iconst 0, 1) := by decide +kernel
theorem dX0_allHave_1 : decode cX0_allHave 1 = .ok (.istore 4, 2) := by decide +kernel
theorem dX0_allHave_3 : decode cX0_allHave 3 = .ok (.iload 4, 2) := by decide +kernel
theorem dX0_allHave_5 : decode cX0_allHave 5 = .ok (.bipush 6, 2) := by decide +kernel
theorem dX0_allHave_7 : decode cX0_allHave 7 = .ok (.if_icmp .ge 32, 3) := by decide +kernel
theorem dX0_allHave_10 : decode cX0_allHave 10 = .ok (.iload_n 1, 1) := by decide +kernel
theorem dX0_allHave_11 : decode cX0_allHave 11 = .ok (.iload 4, 2) := by decide +kernel
theorem dX0_allHave_13 : decode cX0_allHave 13 = .ok (.ishr, 1) := by decide +kernel
theorem dX0_allHave_14 : decode cX0_allHave 14 = .ok (.iconst 1, 1) := by decide +kernel
theorem dX0_allHave_15 : decode cX0_allHave 15 = .ok (.iand, 1) := by decide +kernel
theorem dX0_allHave_16 : decode cX0_allHave 16 = .ok (.iconst 1, 1) := by decide +kernel
theorem dX0_allHave_17 : decode cX0_allHave 17 = .ok (.if_icmp .ne 16, 3) := by decide +kernel
theorem dX0_allHave_20 : decode cX0_allHave 20 = .ok (.aload_n 0, 1) := by decide +kernel
theorem dX0_allHave_21 : decode cX0_allHave 21 = .ok (.iload 4, 2) := by decide +kernel
theorem dX0_allHave_23 : decode cX0_allHave 23 = .ok (.iload_n 3, 1) := by decide +kernel
theorem dX0_allHave_24 : decode cX0_allHave 24 = .ok (.invokevirtual 53, 3) := by decide +kernel
theorem dX0_allHave_27 : decode cX0_allHave 27 = .ok (.iload_n 2, 1) := by decide +kernel
theorem dX0_allHave_28 : decode cX0_allHave 28 = .ok (.if_icmp .eq 5, 3) := by decide +kernel
theorem dX0_allHave_31 : decode cX0_allHave 31 = .ok (.iconst 0, 1) := by decide +kernel
theorem dX0_allHave_32 : decode cX0_allHave 32 = .ok (.ireturn, 1) := by decide +kernel
theorem dX0_allHave_33 : decode cX0_allHave 33 = .ok (.iinc 4 1, 3) := by decide +kernel
theorem dX0_allHave_36 : decode cX0_allHave 36 = .ok (.goto (-33), 3) := by decide +kernel
theorem dX0_allHave_39 : decode cX0_allHave 39 = .ok (.iconst 1, 1) := by decide +kernel
theorem dX0_allHave_40 : decode cX0_allHave 40 = .ok (.ireturn, 1) := by decide +kernel
theorem dX0_everAllHave_0 : decode cX0_everAllHave 0 = .ok (.iconst 0, 1) := by decide +kernel
theorem dX0_everAllHave_1 : decode cX0_everAllHave 1 = .ok (.istore_n 3, 1) := by decide +kernel
theorem dX0_everAllHave_2 : decode cX0_everAllHave 2 = .ok (.iload_n 3, 1) := by decide +kernel
theorem dX0_everAllHave_3 : decode cX0_everAllHave 3 = .ok (.sipush 840, 3) := by decide +kernel
theorem dX0_everAllHave_6 : decode cX0_everAllHave 6 = .ok (.if_icmp .ge 21, 3) := by decide +kernel
theorem dX0_everAllHave_9 : decode cX0_everAllHave 9 = .ok (.aload_n 0, 1) := by decide +kernel
theorem dX0_everAllHave_10 : decode cX0_everAllHave 10 = .ok (.iload_n 1, 1) := by decide +kernel
theorem dX0_everAllHave_11 : decode cX0_everAllHave 11 = .ok (.iload_n 2, 1) := by decide +kernel
theorem dX0_everAllHave_12 : decode cX0_everAllHave 12 = .ok (.iload_n 3, 1) := by decide +kernel
theorem dX0_everAllHave_13 : decode cX0_everAllHave 13 = .ok (.invokevirtual 60, 3) := by decide +kernel
theorem dX0_everAllHave_16 : decode cX0_everAllHave 16 = .ok (.ifCond .eq 5, 3) := by decide +kernel
theorem dX0_everAllHave_19 : decode cX0_everAllHave 19 = .ok (.iconst 1, 1) := by decide +kernel
theorem dX0_everAllHave_20 : decode cX0_everAllHave 20 = .ok (.ireturn, 1) := by decide +kernel
theorem dX0_everAllHave_21 : decode cX0_everAllHave 21 = .ok (.iinc 3 1, 3) := by decide +kernel
theorem dX0_everAllHave_24 : decode cX0_everAllHave 24 = .ok (.goto (-22), 3) := by decide +kernel
theorem dX0_everAllHave_27 : decode cX0_everAllHave 27 = .ok (.iconst 0, 1) := by decide +kernel
theorem dX0_everAllHave_28 : decode cX0_everAllHave 28 = .ok (.ireturn, 1) := by decide +kernel
theorem dX0_whyNever_0 : decode cX0_whyNever 0 = .ok (.iconst 0, 1) := by decide +kernel
theorem dX0_whyNever_1 : decode cX0_whyNever 1 = .ok (.istore_n 3, 1) := by decide +kernel
theorem dX0_whyNever_2 : decode cX0_whyNever 2 = .ok (.iload_n 3, 1) := by decide +kernel
theorem dX0_whyNever_3 : decode cX0_whyNever 3 = .ok (.bipush 6, 2) := by decide +kernel
theorem dX0_whyNever_5 : decode cX0_whyNever 5 = .ok (.if_icmp .ge 34, 3) := by decide +kernel
theorem dX0_whyNever_8 : decode cX0_whyNever 8 = .ok (.iload_n 1, 1) := by decide +kernel
theorem dX0_whyNever_9 : decode cX0_whyNever 9 = .ok (.iload_n 3, 1) := by decide +kernel
theorem dX0_whyNever_10 : decode cX0_whyNever 10 = .ok (.ishr, 1) := by decide +kernel
theorem dX0_whyNever_11 : decode cX0_whyNever 11 = .ok (.iconst 1, 1) := by decide +kernel
theorem dX0_whyNever_12 : decode cX0_whyNever 12 = .ok (.iand, 1) := by decide +kernel
theorem dX0_whyNever_13 : decode cX0_whyNever 13 = .ok (.iconst 1, 1) := by decide +kernel
theorem dX0_whyNever_14 : decode cX0_whyNever 14 = .ok (.if_icmp .ne 19, 3) := by decide +kernel
theorem dX0_whyNever_17 : decode cX0_whyNever 17 = .ok (.aload_n 0, 1) := by decide +kernel
theorem dX0_whyNever_18 : decode cX0_whyNever 18 = .ok (.iconst 1, 1) := by decide +kernel
theorem dX0_whyNever_19 : decode cX0_whyNever 19 = .ok (.iload_n 3, 1) := by decide +kernel
theorem dX0_whyNever_20 : decode cX0_whyNever 20 = .ok (.ishl, 1) := by decide +kernel
theorem dX0_whyNever_21 : decode cX0_whyNever 21 = .ok (.iload_n 2, 1) := by decide +kernel
theorem dX0_whyNever_22 : decode cX0_whyNever 22 = .ok (.invokevirtual 63, 3) := by decide +kernel
theorem dX0_whyNever_25 : decode cX0_whyNever 25 = .ok (.ifCond .ne 8, 3) := by decide +kernel
theorem dX0_whyNever_28 : decode cX0_whyNever 28 = .ok (.bipush 11, 2) := by decide +kernel
theorem dX0_whyNever_30 : decode cX0_whyNever 30 = .ok (.iload_n 3, 1) := by decide +kernel
theorem dX0_whyNever_31 : decode cX0_whyNever 31 = .ok (.imul, 1) := by decide +kernel
theorem dX0_whyNever_32 : decode cX0_whyNever 32 = .ok (.ireturn, 1) := by decide +kernel
theorem dX0_whyNever_33 : decode cX0_whyNever 33 = .ok (.iinc 3 1, 3) := by decide +kernel
theorem dX0_whyNever_36 : decode cX0_whyNever 36 = .ok (.goto (-34), 3) := by decide +kernel
theorem dX0_whyNever_39 : decode cX0_whyNever 39 = .ok (.iconst 0, 1) := by decide +kernel
theorem dX0_whyNever_40 : decode cX0_whyNever 40 = .ok (.istore_n 3, 1) := by decide +kernel
theorem dX0_whyNever_41 : decode cX0_whyNever 41 = .ok (.iload_n 3, 1) := by decide +kernel
theorem dX0_whyNever_42 : decode cX0_whyNever 42 = .ok (.bipush 6, 2) := by decide +kernel
theorem dX0_whyNever_44 : decode cX0_whyNever 44 = .ok (.if_icmp .ge 64, 3) := by decide +kernel
theorem dX0_whyNever_47 : decode cX0_whyNever 47 = .ok (.iload_n 3, 1) := by decide +kernel
theorem dX0_whyNever_48 : decode cX0_whyNever 48 = .ok (.iconst 1, 1) := by decide +kernel
theorem dX0_whyNever_49 : decode cX0_whyNever 49 = .ok (.iadd, 1) := by decide +kernel
theorem dX0_whyNever_50 : decode cX0_whyNever 50 = .ok (.istore 4, 2) := by decide +kernel
theorem dX0_whyNever_52 : decode cX0_whyNever 52 = .ok (.iload 4, 2) := by decide +kernel
theorem dX0_whyNever_54 : decode cX0_whyNever 54 = .ok (.bipush 6, 2) := by decide +kernel
theorem dX0_whyNever_56 : decode cX0_whyNever 56 = .ok (.if_icmp .ge 46, 3) := by decide +kernel
theorem dX0_whyNever_59 : decode cX0_whyNever 59 = .ok (.iconst 1, 1) := by decide +kernel
theorem dX0_whyNever_60 : decode cX0_whyNever 60 = .ok (.iload_n 3, 1) := by decide +kernel
theorem dX0_whyNever_61 : decode cX0_whyNever 61 = .ok (.ishl, 1) := by decide +kernel
theorem dX0_whyNever_62 : decode cX0_whyNever 62 = .ok (.iconst 1, 1) := by decide +kernel
theorem dX0_whyNever_63 : decode cX0_whyNever 63 = .ok (.iload 4, 2) := by decide +kernel
theorem dX0_whyNever_65 : decode cX0_whyNever 65 = .ok (.ishl, 1) := by decide +kernel
theorem dX0_whyNever_66 : decode cX0_whyNever 66 = .ok (.ior, 1) := by decide +kernel
theorem dX0_whyNever_67 : decode cX0_whyNever 67 = .ok (.istore 5, 2) := by decide +kernel
theorem dX0_whyNever_69 : decode cX0_whyNever 69 = .ok (.iload_n 1, 1) := by decide +kernel
theorem dX0_whyNever_70 : decode cX0_whyNever 70 = .ok (.iload 5, 2) := by decide +kernel
theorem dX0_whyNever_72 : decode cX0_whyNever 72 = .ok (.iand, 1) := by decide +kernel
theorem dX0_whyNever_73 : decode cX0_whyNever 73 = .ok (.iload 5, 2) := by decide +kernel
theorem dX0_whyNever_75 : decode cX0_whyNever 75 = .ok (.if_icmp .ne 21, 3) := by decide +kernel
theorem dX0_whyNever_78 : decode cX0_whyNever 78 = .ok (.aload_n 0, 1) := by decide +kernel
theorem dX0_whyNever_79 : decode cX0_whyNever 79 = .ok (.iload 5, 2) := by decide +kernel
theorem dX0_whyNever_81 : decode cX0_whyNever 81 = .ok (.iload_n 2, 1) := by decide +kernel
theorem dX0_whyNever_82 : decode cX0_whyNever 82 = .ok (.invokevirtual 63, 3) := by decide +kernel
theorem dX0_whyNever_85 : decode cX0_whyNever 85 = .ok (.ifCond .ne 11, 3) := by decide +kernel
theorem dX0_whyNever_88 : decode cX0_whyNever 88 = .ok (.bipush 10, 2) := by decide +kernel
theorem dX0_whyNever_90 : decode cX0_whyNever 90 = .ok (.iload_n 3, 1) := by decide +kernel
theorem dX0_whyNever_91 : decode cX0_whyNever 91 = .ok (.imul, 1) := by decide +kernel
theorem dX0_whyNever_92 : decode cX0_whyNever 92 = .ok (.iload 4, 2) := by decide +kernel
theorem dX0_whyNever_94 : decode cX0_whyNever 94 = .ok (.iadd, 1) := by decide +kernel
theorem dX0_whyNever_95 : decode cX0_whyNever 95 = .ok (.ireturn, 1) := by decide +kernel
theorem dX0_whyNever_96 : decode cX0_whyNever 96 = .ok (.iinc 4 1, 3) := by decide +kernel
theorem dX0_whyNever_99 : decode cX0_whyNever 99 = .ok (.goto (-47), 3) := by decide +kernel
theorem dX0_whyNever_102 : decode cX0_whyNever 102 = .ok (.iinc 3 1, 3) := by decide +kernel
theorem dX0_whyNever_105 : decode cX0_whyNever 105 = .ok (.goto (-64), 3) := by decide +kernel
theorem dX0_whyNever_108 : decode cX0_whyNever 108 = .ok (.bipush (-6), 2) := by decide +kernel
theorem dX0_whyNever_110 : decode cX0_whyNever 110 = .ok (.ireturn, 1) := by decide +kernel
theorem dX0_cost_0 : decode cX0_cost 0 = .ok (.bipush 28, 2) := by decide +kernel
theorem dX0_cost_2 : decode cX0_cost 2 = .ok (.aload_n 0, 1) := by decide +kernel
theorem dX0_cost_3 : decode cX0_cost 3 = .ok (.iload_n 1, 1) := by decide +kernel
theorem dX0_cost_4 : decode cX0_cost 4 = .ok (.iload_n 2, 1) := by decide +kernel
theorem dX0_cost_5 : decode cX0_cost 5 = .ok (.bipush 28, 2) := by decide +kernel
theorem dX0_cost_7 : decode cX0_cost 7 = .ok (.invokevirtual 66, 3) := by decide +kernel
theorem dX0_cost_10 : decode cX0_cost 10 = .ok (.isub, 1) := by decide +kernel
theorem dX0_cost_11 : decode cX0_cost 11 = .ok (.ireturn, 1) := by decide +kernel
theorem dX0_costOfAll_0 : decode cX0_costOfAll 0 = .ok (.iconst 0, 1) := by decide +kernel
theorem dX0_costOfAll_1 : decode cX0_costOfAll 1 = .ok (.istore_n 2, 1) := by decide +kernel
theorem dX0_costOfAll_2 : decode cX0_costOfAll 2 = .ok (.iconst 0, 1) := by decide +kernel
theorem dX0_costOfAll_3 : decode cX0_costOfAll 3 = .ok (.istore_n 3, 1) := by decide +kernel
theorem dX0_costOfAll_4 : decode cX0_costOfAll 4 = .ok (.iload_n 3, 1) := by decide +kernel
theorem dX0_costOfAll_5 : decode cX0_costOfAll 5 = .ok (.bipush 6, 2) := by decide +kernel
theorem dX0_costOfAll_7 : decode cX0_costOfAll 7 = .ok (.if_icmp .ge 26, 3) := by decide +kernel
theorem dX0_costOfAll_10 : decode cX0_costOfAll 10 = .ok (.aload_n 0, 1) := by decide +kernel
theorem dX0_costOfAll_11 : decode cX0_costOfAll 11 = .ok (.iload_n 3, 1) := by decide +kernel
theorem dX0_costOfAll_12 : decode cX0_costOfAll 12 = .ok (.invokevirtual 70, 3) := by decide +kernel
theorem dX0_costOfAll_15 : decode cX0_costOfAll 15 = .ok (.ifCond .eq 12, 3) := by decide +kernel
theorem dX0_costOfAll_18 : decode cX0_costOfAll 18 = .ok (.iload_n 2, 1) := by decide +kernel
theorem dX0_costOfAll_19 : decode cX0_costOfAll 19 = .ok (.aload_n 0, 1) := by decide +kernel
theorem dX0_costOfAll_20 : decode cX0_costOfAll 20 = .ok (.iload_n 3, 1) := by decide +kernel
theorem dX0_costOfAll_21 : decode cX0_costOfAll 21 = .ok (.iload_n 1, 1) := by decide +kernel
theorem dX0_costOfAll_22 : decode cX0_costOfAll 22 = .ok (.invokevirtual 74, 3) := by decide +kernel
theorem dX0_costOfAll_25 : decode cX0_costOfAll 25 = .ok (.iadd, 1) := by decide +kernel
theorem dX0_costOfAll_26 : decode cX0_costOfAll 26 = .ok (.istore_n 2, 1) := by decide +kernel
theorem dX0_costOfAll_27 : decode cX0_costOfAll 27 = .ok (.iinc 3 1, 3) := by decide +kernel
theorem dX0_costOfAll_30 : decode cX0_costOfAll 30 = .ok (.goto (-26), 3) := by decide +kernel
theorem dX0_costOfAll_33 : decode cX0_costOfAll 33 = .ok (.iload_n 2, 1) := by decide +kernel
theorem dX0_costOfAll_34 : decode cX0_costOfAll 34 = .ok (.ireturn, 1) := by decide +kernel
theorem dX0_datesApart_0 : decode cX0_datesApart 0 = .ok (.iconst 0, 1) := by decide +kernel
theorem dX0_datesApart_1 : decode cX0_datesApart 1 = .ok (.istore_n 1, 1) := by decide +kernel
theorem dX0_datesApart_2 : decode cX0_datesApart 2 = .ok (.iconst 0, 1) := by decide +kernel
theorem dX0_datesApart_3 : decode cX0_datesApart 3 = .ok (.istore_n 2, 1) := by decide +kernel
theorem dX0_datesApart_4 : decode cX0_datesApart 4 = .ok (.iload_n 2, 1) := by decide +kernel
theorem dX0_datesApart_5 : decode cX0_datesApart 5 = .ok (.bipush 28, 2) := by decide +kernel
theorem dX0_datesApart_7 : decode cX0_datesApart 7 = .ok (.if_icmp .ge 26, 3) := by decide +kernel
theorem dX0_datesApart_10 : decode cX0_datesApart 10 = .ok (.aload_n 0, 1) := by decide +kernel
theorem dX0_datesApart_11 : decode cX0_datesApart 11 = .ok (.aload_n 0, 1) := by decide +kernel
theorem dX0_datesApart_12 : decode cX0_datesApart 12 = .ok (.getfield 24, 3) := by decide +kernel
theorem dX0_datesApart_15 : decode cX0_datesApart 15 = .ok (.iload_n 2, 1) := by decide +kernel
theorem dX0_datesApart_16 : decode cX0_datesApart 16 = .ok (.invokevirtual 77, 3) := by decide +kernel
theorem dX0_datesApart_19 : decode cX0_datesApart 19 = .ok (.bipush (-6), 2) := by decide +kernel
theorem dX0_datesApart_21 : decode cX0_datesApart 21 = .ok (.if_icmp .ne 6, 3) := by decide +kernel
theorem dX0_datesApart_24 : decode cX0_datesApart 24 = .ok (.iinc 1 1, 3) := by decide +kernel
theorem dX0_datesApart_27 : decode cX0_datesApart 27 = .ok (.iinc 2 1, 3) := by decide +kernel
theorem dX0_datesApart_30 : decode cX0_datesApart 30 = .ok (.goto (-26), 3) := by decide +kernel
theorem dX0_datesApart_33 : decode cX0_datesApart 33 = .ok (.iload_n 1, 1) := by decide +kernel
theorem dX0_datesApart_34 : decode cX0_datesApart 34 = .ok (.ireturn, 1) := by decide +kernel
theorem dX0_fewestShared_0 : decode cX0_fewestShared 0 = .ok (.bipush 14, 2) := by decide +kernel
theorem dX0_fewestShared_2 : decode cX0_fewestShared 2 = .ok (.istore 4, 2) := by decide +kernel
theorem dX0_fewestShared_4 : decode cX0_fewestShared 4 = .ok (.iconst 0, 1) := by decide +kernel
theorem dX0_fewestShared_5 : decode cX0_fewestShared 5 = .ok (.istore 5, 2) := by decide +kernel
theorem dX0_fewestShared_7 : decode cX0_fewestShared 7 = .ok (.iload 5, 2) := by decide +kernel
theorem dX0_fewestShared_9 : decode cX0_fewestShared 9 = .ok (.bipush 6, 2) := by decide +kernel
theorem dX0_fewestShared_11 : decode cX0_fewestShared 11 = .ok (.if_icmp .ge 77, 3) := by decide +kernel
theorem dX0_fewestShared_14 : decode cX0_fewestShared 14 = .ok (.aload_n 0, 1) := by decide +kernel
theorem dX0_fewestShared_15 : decode cX0_fewestShared 15 = .ok (.iload 5, 2) := by decide +kernel
theorem dX0_fewestShared_17 : decode cX0_fewestShared 17 = .ok (.invokevirtual 70, 3) := by decide +kernel
theorem dX0_fewestShared_20 : decode cX0_fewestShared 20 = .ok (.ifCond .eq 62, 3) := by decide +kernel
theorem dX0_fewestShared_23 : decode cX0_fewestShared 23 = .ok (.iconst 0, 1) := by decide +kernel
theorem dX0_fewestShared_24 : decode cX0_fewestShared 24 = .ok (.istore 6, 2) := by decide +kernel
theorem dX0_fewestShared_26 : decode cX0_fewestShared 26 = .ok (.iload_n 3, 1) := by decide +kernel
theorem dX0_fewestShared_27 : decode cX0_fewestShared 27 = .ok (.istore 7, 2) := by decide +kernel
theorem dX0_fewestShared_29 : decode cX0_fewestShared 29 = .ok (.iload 7, 2) := by decide +kernel
theorem dX0_fewestShared_31 : decode cX0_fewestShared 31 = .ok (.iload_n 3, 1) := by decide +kernel
theorem dX0_fewestShared_32 : decode cX0_fewestShared 32 = .ok (.bipush 14, 2) := by decide +kernel
theorem dX0_fewestShared_34 : decode cX0_fewestShared 34 = .ok (.iadd, 1) := by decide +kernel
theorem dX0_fewestShared_35 : decode cX0_fewestShared 35 = .ok (.if_icmp .ge 38, 3) := by decide +kernel
theorem dX0_fewestShared_38 : decode cX0_fewestShared 38 = .ok (.iload 6, 2) := by decide +kernel
theorem dX0_fewestShared_40 : decode cX0_fewestShared 40 = .ok (.aload_n 0, 1) := by decide +kernel
theorem dX0_fewestShared_41 : decode cX0_fewestShared 41 = .ok (.iload 5, 2) := by decide +kernel
theorem dX0_fewestShared_43 : decode cX0_fewestShared 43 = .ok (.iload 7, 2) := by decide +kernel
theorem dX0_fewestShared_45 : decode cX0_fewestShared 45 = .ok (.invokevirtual 53, 3) := by decide +kernel
theorem dX0_fewestShared_48 : decode cX0_fewestShared 48 = .ok (.iload_n 1, 1) := by decide +kernel
theorem dX0_fewestShared_49 : decode cX0_fewestShared 49 = .ok (.iload_n 2, 1) := by decide +kernel
theorem dX0_fewestShared_50 : decode cX0_fewestShared 50 = .ok (.iload_n 3, 1) := by decide +kernel
theorem dX0_fewestShared_51 : decode cX0_fewestShared 51 = .ok (.iload 7, 2) := by decide +kernel
theorem dX0_fewestShared_53 : decode cX0_fewestShared 53 = .ok (.invokestatic 80, 3) := by decide +kernel
theorem dX0_fewestShared_56 : decode cX0_fewestShared 56 = .ok (.if_icmp .ne 7, 3) := by decide +kernel
theorem dX0_fewestShared_59 : decode cX0_fewestShared 59 = .ok (.iconst 1, 1) := by decide +kernel
theorem dX0_fewestShared_60 : decode cX0_fewestShared 60 = .ok (.goto 4, 3) := by decide +kernel
theorem dX0_fewestShared_63 : decode cX0_fewestShared 63 = .ok (.iconst 0, 1) := by decide +kernel
theorem dX0_fewestShared_64 : decode cX0_fewestShared 64 = .ok (.iadd, 1) := by decide +kernel
theorem dX0_fewestShared_65 : decode cX0_fewestShared 65 = .ok (.istore 6, 2) := by decide +kernel
theorem dX0_fewestShared_67 : decode cX0_fewestShared 67 = .ok (.iinc 7 1, 3) := by decide +kernel
theorem dX0_fewestShared_70 : decode cX0_fewestShared 70 = .ok (.goto (-41), 3) := by decide +kernel
theorem dX0_fewestShared_73 : decode cX0_fewestShared 73 = .ok (.iload 4, 2) := by decide +kernel
theorem dX0_fewestShared_75 : decode cX0_fewestShared 75 = .ok (.iload 6, 2) := by decide +kernel
theorem dX0_fewestShared_77 : decode cX0_fewestShared 77 = .ok (.invokestatic 84, 3) := by decide +kernel
theorem dX0_fewestShared_80 : decode cX0_fewestShared 80 = .ok (.istore 4, 2) := by decide +kernel
theorem dX0_fewestShared_82 : decode cX0_fewestShared 82 = .ok (.iinc 5 1, 3) := by decide +kernel
theorem dX0_fewestShared_85 : decode cX0_fewestShared 85 = .ok (.goto (-78), 3) := by decide +kernel
theorem dX0_fewestShared_88 : decode cX0_fewestShared 88 = .ok (.iload 4, 2) := by decide +kernel
theorem dX0_fewestShared_90 : decode cX0_fewestShared 90 = .ok (.ireturn, 1) := by decide +kernel
theorem dX0_feastOn_0 : decode cX0_feastOn 0 = .ok (.iconst 0, 1) := by decide +kernel
theorem dX0_feastOn_1 : decode cX0_feastOn 1 = .ok (.istore_n 2, 1) := by decide +kernel
theorem dX0_feastOn_2 : decode cX0_feastOn 2 = .ok (.iload_n 2, 1) := by decide +kernel
theorem dX0_feastOn_3 : decode cX0_feastOn 3 = .ok (.bipush 8, 2) := by decide +kernel
theorem dX0_feastOn_5 : decode cX0_feastOn 5 = .ok (.if_icmp .ge 16, 3) := by decide +kernel
theorem dX0_feastOn_8 : decode cX0_feastOn 8 = .ok (.aload_n 0, 1) := by decide +kernel
theorem dX0_feastOn_9 : decode cX0_feastOn 9 = .ok (.getfield 21, 3) := by decide +kernel
theorem dX0_feastOn_12 : decode cX0_feastOn 12 = .ok (.iload_n 2, 1) := by decide +kernel
theorem dX0_feastOn_13 : decode cX0_feastOn 13 = .ok (.iconst 0, 1) := by decide +kernel
theorem dX0_feastOn_14 : decode cX0_feastOn 14 = .ok (.iastore, 1) := by decide +kernel
theorem dX0_feastOn_15 : decode cX0_feastOn 15 = .ok (.iinc 2 1, 3) := by decide +kernel
theorem dX0_feastOn_18 : decode cX0_feastOn 18 = .ok (.goto (-16), 3) := by decide +kernel
theorem dX0_feastOn_21 : decode cX0_feastOn 21 = .ok (.iconst 0, 1) := by decide +kernel
theorem dX0_feastOn_22 : decode cX0_feastOn 22 = .ok (.istore_n 2, 1) := by decide +kernel
theorem dX0_feastOn_23 : decode cX0_feastOn 23 = .ok (.iload_n 2, 1) := by decide +kernel
theorem dX0_feastOn_24 : decode cX0_feastOn 24 = .ok (.bipush 6, 2) := by decide +kernel
theorem dX0_feastOn_26 : decode cX0_feastOn 26 = .ok (.if_icmp .ge 35, 3) := by decide +kernel
theorem dX0_feastOn_29 : decode cX0_feastOn 29 = .ok (.aload_n 0, 1) := by decide +kernel
theorem dX0_feastOn_30 : decode cX0_feastOn 30 = .ok (.iload_n 2, 1) := by decide +kernel
theorem dX0_feastOn_31 : decode cX0_feastOn 31 = .ok (.iload_n 1, 1) := by decide +kernel
theorem dX0_feastOn_32 : decode cX0_feastOn 32 = .ok (.invokevirtual 53, 3) := by decide +kernel
theorem dX0_feastOn_35 : decode cX0_feastOn 35 = .ok (.istore_n 3, 1) := by decide +kernel
theorem dX0_feastOn_36 : decode cX0_feastOn 36 = .ok (.iload_n 3, 1) := by decide +kernel
theorem dX0_feastOn_37 : decode cX0_feastOn 37 = .ok (.bipush 8, 2) := by decide +kernel
theorem dX0_feastOn_39 : decode cX0_feastOn 39 = .ok (.invokestatic 34, 3) := by decide +kernel
theorem dX0_feastOn_42 : decode cX0_feastOn 42 = .ok (.ifCond .eq 13, 3) := by decide +kernel
theorem dX0_feastOn_45 : decode cX0_feastOn 45 = .ok (.aload_n 0, 1) := by decide +kernel
theorem dX0_feastOn_46 : decode cX0_feastOn 46 = .ok (.getfield 21, 3) := by decide +kernel
theorem dX0_feastOn_49 : decode cX0_feastOn 49 = .ok (.iload_n 3, 1) := by decide +kernel
theorem dX0_feastOn_50 : decode cX0_feastOn 50 = .ok (.dup2, 1) := by decide +kernel
theorem dX0_feastOn_51 : decode cX0_feastOn 51 = .ok (.iaload, 1) := by decide +kernel
theorem dX0_feastOn_52 : decode cX0_feastOn 52 = .ok (.iconst 1, 1) := by decide +kernel
theorem dX0_feastOn_53 : decode cX0_feastOn 53 = .ok (.iadd, 1) := by decide +kernel
theorem dX0_feastOn_54 : decode cX0_feastOn 54 = .ok (.iastore, 1) := by decide +kernel
theorem dX0_feastOn_55 : decode cX0_feastOn 55 = .ok (.iinc 2 1, 3) := by decide +kernel
theorem dX0_feastOn_58 : decode cX0_feastOn 58 = .ok (.goto (-35), 3) := by decide +kernel
theorem dX0_feastOn_61 : decode cX0_feastOn 61 = .ok (.iconst 0, 1) := by decide +kernel
theorem dX0_feastOn_62 : decode cX0_feastOn 62 = .ok (.istore_n 2, 1) := by decide +kernel
theorem dX0_feastOn_63 : decode cX0_feastOn 63 = .ok (.bipush (-6), 2) := by decide +kernel
theorem dX0_feastOn_65 : decode cX0_feastOn 65 = .ok (.istore_n 3, 1) := by decide +kernel
theorem dX0_feastOn_66 : decode cX0_feastOn 66 = .ok (.iconst 0, 1) := by decide +kernel
theorem dX0_feastOn_67 : decode cX0_feastOn 67 = .ok (.istore 4, 2) := by decide +kernel
theorem dX0_feastOn_69 : decode cX0_feastOn 69 = .ok (.iload 4, 2) := by decide +kernel
theorem dX0_feastOn_71 : decode cX0_feastOn 71 = .ok (.bipush 8, 2) := by decide +kernel
theorem dX0_feastOn_73 : decode cX0_feastOn 73 = .ok (.if_icmp .ge 31, 3) := by decide +kernel
theorem dX0_feastOn_76 : decode cX0_feastOn 76 = .ok (.aload_n 0, 1) := by decide +kernel
theorem dX0_feastOn_77 : decode cX0_feastOn 77 = .ok (.getfield 21, 3) := by decide +kernel
theorem dX0_feastOn_80 : decode cX0_feastOn 80 = .ok (.iload 4, 2) := by decide +kernel
theorem dX0_feastOn_82 : decode cX0_feastOn 82 = .ok (.iaload, 1) := by decide +kernel
theorem dX0_feastOn_83 : decode cX0_feastOn 83 = .ok (.iload_n 2, 1) := by decide +kernel
theorem dX0_feastOn_84 : decode cX0_feastOn 84 = .ok (.if_icmp .le 14, 3) := by decide +kernel
theorem dX0_feastOn_87 : decode cX0_feastOn 87 = .ok (.aload_n 0, 1) := by decide +kernel
theorem dX0_feastOn_88 : decode cX0_feastOn 88 = .ok (.getfield 21, 3) := by decide +kernel
theorem dX0_feastOn_91 : decode cX0_feastOn 91 = .ok (.iload 4, 2) := by decide +kernel
theorem dX0_feastOn_93 : decode cX0_feastOn 93 = .ok (.iaload, 1) := by decide +kernel
theorem dX0_feastOn_94 : decode cX0_feastOn 94 = .ok (.istore_n 2, 1) := by decide +kernel
theorem dX0_feastOn_95 : decode cX0_feastOn 95 = .ok (.iload 4, 2) := by decide +kernel
theorem dX0_feastOn_97 : decode cX0_feastOn 97 = .ok (.istore_n 3, 1) := by decide +kernel
theorem dX0_feastOn_98 : decode cX0_feastOn 98 = .ok (.iinc 4 1, 3) := by decide +kernel
theorem dX0_feastOn_101 : decode cX0_feastOn 101 = .ok (.goto (-32), 3) := by decide +kernel
theorem dX0_feastOn_104 : decode cX0_feastOn 104 = .ok (.iload_n 3, 1) := by decide +kernel
theorem dX0_feastOn_105 : decode cX0_feastOn 105 = .ok (.ireturn, 1) := by decide +kernel
theorem dX0_areTwins_0 : decode cX0_areTwins 0 = .ok (.aload_n 0, 1) := by decide +kernel
theorem dX0_areTwins_1 : decode cX0_areTwins 1 = .ok (.iload_n 1, 1) := by decide +kernel
theorem dX0_areTwins_2 : decode cX0_areTwins 2 = .ok (.iload_n 2, 1) := by decide +kernel
theorem dX0_areTwins_3 : decode cX0_areTwins 3 = .ok (.iconst (-1), 1) := by decide +kernel
theorem dX0_areTwins_4 : decode cX0_areTwins 4 = .ok (.invokevirtual 87, 3) := by decide +kernel
theorem dX0_areTwins_7 : decode cX0_areTwins 7 = .ok (.ifCond .ne 13, 3) := by decide +kernel
theorem dX0_areTwins_10 : decode cX0_areTwins 10 = .ok (.aload_n 0, 1) := by decide +kernel
theorem dX0_areTwins_11 : decode cX0_areTwins 11 = .ok (.iload_n 1, 1) := by decide +kernel
theorem dX0_areTwins_12 : decode cX0_areTwins 12 = .ok (.iload_n 2, 1) := by decide +kernel
theorem dX0_areTwins_13 : decode cX0_areTwins 13 = .ok (.iconst 1, 1) := by decide +kernel
theorem dX0_areTwins_14 : decode cX0_areTwins 14 = .ok (.invokevirtual 87, 3) := by decide +kernel
theorem dX0_areTwins_17 : decode cX0_areTwins 17 = .ok (.ifCond .eq 7, 3) := by decide +kernel
theorem dX0_areTwins_20 : decode cX0_areTwins 20 = .ok (.iconst 1, 1) := by decide +kernel
theorem dX0_areTwins_21 : decode cX0_areTwins 21 = .ok (.goto 4, 3) := by decide +kernel
theorem dX0_areTwins_24 : decode cX0_areTwins 24 = .ok (.iconst 0, 1) := by decide +kernel
theorem dX0_areTwins_25 : decode cX0_areTwins 25 = .ok (.ireturn, 1) := by decide +kernel
theorem dX0_isDelayed_0 : decode cX0_isDelayed 0 = .ok (.iconst 0, 1) := by decide +kernel
theorem dX0_isDelayed_1 : decode cX0_isDelayed 1 = .ok (.istore 4, 2) := by decide +kernel
theorem dX0_isDelayed_3 : decode cX0_isDelayed 3 = .ok (.iload 4, 2) := by decide +kernel
theorem dX0_isDelayed_5 : decode cX0_isDelayed 5 = .ok (.sipush 840, 3) := by decide +kernel
theorem dX0_isDelayed_8 : decode cX0_isDelayed 8 = .ok (.if_icmp .ge 30, 3) := by decide +kernel
theorem dX0_isDelayed_11 : decode cX0_isDelayed 11 = .ok (.aload_n 0, 1) := by decide +kernel
theorem dX0_isDelayed_12 : decode cX0_isDelayed 12 = .ok (.iload_n 2, 1) := by decide +kernel
theorem dX0_isDelayed_13 : decode cX0_isDelayed 13 = .ok (.iload 4, 2) := by decide +kernel
theorem dX0_isDelayed_15 : decode cX0_isDelayed 15 = .ok (.invokevirtual 53, 3) := by decide +kernel
theorem dX0_isDelayed_18 : decode cX0_isDelayed 18 = .ok (.aload_n 0, 1) := by decide +kernel
theorem dX0_isDelayed_19 : decode cX0_isDelayed 19 = .ok (.iload_n 1, 1) := by decide +kernel
theorem dX0_isDelayed_20 : decode cX0_isDelayed 20 = .ok (.iload 4, 2) := by decide +kernel
theorem dX0_isDelayed_22 : decode cX0_isDelayed 22 = .ok (.iload_n 3, 1) := by decide +kernel
theorem dX0_isDelayed_23 : decode cX0_isDelayed 23 = .ok (.iadd, 1) := by decide +kernel
theorem dX0_isDelayed_24 : decode cX0_isDelayed 24 = .ok (.invokevirtual 53, 3) := by decide +kernel
theorem dX0_isDelayed_27 : decode cX0_isDelayed 27 = .ok (.if_icmp .eq 5, 3) := by decide +kernel
theorem dX0_isDelayed_30 : decode cX0_isDelayed 30 = .ok (.iconst 0, 1) := by decide +kernel
theorem dX0_isDelayed_31 : decode cX0_isDelayed 31 = .ok (.ireturn, 1) := by decide +kernel
theorem dX0_isDelayed_32 : decode cX0_isDelayed 32 = .ok (.iinc 4 1, 3) := by decide +kernel
theorem dX0_isDelayed_35 : decode cX0_isDelayed 35 = .ok (.goto (-32), 3) := by decide +kernel
theorem dX0_isDelayed_38 : decode cX0_isDelayed 38 = .ok (.iconst 1, 1) := by decide +kernel
theorem dX0_isDelayed_39 : decode cX0_isDelayed 39 = .ok (.ireturn, 1) := by decide +kernel
theorem dX1_init_0 : decode cX1_init 0 = .ok (.aload_n 0, 1) := by decide +kernel
theorem dX1_init_1 : decode cX1_init 1 = .ok (.invokespecial 1, 3) := by decide +kernel
theorem dX1_init_4 : decode cX1_init 4 = .ok (.aload_n 0, 1) := by decide +kernel
theorem dX1_init_5 : decode cX1_init 5 = .ok (.new 7, 3) := by decide +kernel
theorem dX1_init_8 : decode cX1_init 8 = .ok (.dup, 1) := by decide +kernel
theorem dX1_init_9 : decode cX1_init 9 = .ok (.invokespecial 9, 3) := by decide +kernel
theorem dX1_init_12 : decode cX1_init 12 = .ok (.putfield 10, 3) := by decide +kernel
theorem dX1_init_15 : decode cX1_init 15 = .ok (.aload_n 0, 1) := by decide +kernel
theorem dX1_init_16 : decode cX1_init 16 = .ok (.new 16, 3) := by decide +kernel
theorem dX1_init_19 : decode cX1_init 19 = .ok (.dup, 1) := by decide +kernel
theorem dX1_init_20 : decode cX1_init 20 = .ok (.invokespecial 18, 3) := by decide +kernel
theorem dX1_init_23 : decode cX1_init 23 = .ok (.putfield 19, 3) := by decide +kernel
theorem dX1_init_26 : decode cX1_init 26 = .ok (.aload_n 0, 1) := by decide +kernel
theorem dX1_init_27 : decode cX1_init 27 = .ok (.new 23, 3) := by decide +kernel
theorem dX1_init_30 : decode cX1_init 30 = .ok (.dup, 1) := by decide +kernel
theorem dX1_init_31 : decode cX1_init 31 = .ok (.invokespecial 25, 3) := by decide +kernel
theorem dX1_init_34 : decode cX1_init 34 = .ok (.putfield 26, 3) := by decide +kernel
theorem dX1_init_37 : decode cX1_init 37 = .ok (.return_, 1) := by decide +kernel
theorem dX1_become_0 : decode cX1_become 0 = .ok (.aload_n 1, 1) := by decide +kernel
theorem dX1_become_1 : decode cX1_become 1 = .ok (.ifnonnull 4, 3) := by decide +kernel
theorem dX1_become_4 : decode cX1_become 4 = .ok (.return_, 1) := by decide +kernel
theorem dX1_become_5 : decode cX1_become 5 = .ok (.aload_n 0, 1) := by decide +kernel
theorem dX1_become_6 : decode cX1_become 6 = .ok (.getfield 10, 3) := by decide +kernel
theorem dX1_become_9 : decode cX1_become 9 = .ok (.aload_n 1, 1) := by decide +kernel
theorem dX1_become_10 : decode cX1_become 10 = .ok (.getfield 10, 3) := by decide +kernel
theorem dX1_become_13 : decode cX1_become 13 = .ok (.invokevirtual 30, 3) := by decide +kernel
theorem dX1_become_16 : decode cX1_become 16 = .ok (.aload_n 0, 1) := by decide +kernel
theorem dX1_become_17 : decode cX1_become 17 = .ok (.getfield 19, 3) := by decide +kernel
theorem dX1_become_20 : decode cX1_become 20 = .ok (.aload_n 1, 1) := by decide +kernel
theorem dX1_become_21 : decode cX1_become 21 = .ok (.getfield 19, 3) := by decide +kernel
theorem dX1_become_24 : decode cX1_become 24 = .ok (.invokevirtual 34, 3) := by decide +kernel
theorem dX1_become_27 : decode cX1_become 27 = .ok (.aload_n 0, 1) := by decide +kernel
theorem dX1_become_28 : decode cX1_become 28 = .ok (.getfield 26, 3) := by decide +kernel
theorem dX1_become_31 : decode cX1_become 31 = .ok (.aload_n 1, 1) := by decide +kernel
theorem dX1_become_32 : decode cX1_become 32 = .ok (.getfield 26, 3) := by decide +kernel
theorem dX1_become_35 : decode cX1_become 35 = .ok (.invokevirtual 37, 3) := by decide +kernel
theorem dX1_become_38 : decode cX1_become 38 = .ok (.return_, 1) := by decide +kernel
theorem dX1_isDoable_0 : decode cX1_isDoable 0 = .ok (.aload_n 0, 1) := by decide +kernel
theorem dX1_isDoable_1 : decode cX1_isDoable 1 = .ok (.getfield 10, 3) := by decide +kernel
theorem dX1_isDoable_4 : decode cX1_isDoable 4 = .ok (.aload_n 0, 1) := by decide +kernel
theorem dX1_isDoable_5 : decode cX1_isDoable 5 = .ok (.getfield 19, 3) := by decide +kernel
theorem dX1_isDoable_8 : decode cX1_isDoable 8 = .ok (.iload_n 1, 1) := by decide +kernel
theorem dX1_isDoable_9 : decode cX1_isDoable 9 = .ok (.invokevirtual 40, 3) := by decide +kernel
theorem dX1_isDoable_12 : decode cX1_isDoable 12 = .ok (.aload_n 0, 1) := by decide +kernel
theorem dX1_isDoable_13 : decode cX1_isDoable 13 = .ok (.getfield 19, 3) := by decide +kernel
theorem dX1_isDoable_16 : decode cX1_isDoable 16 = .ok (.iload_n 1, 1) := by decide +kernel
theorem dX1_isDoable_17 : decode cX1_isDoable 17 = .ok (.invokevirtual 44, 3) := by decide +kernel
theorem dX1_isDoable_20 : decode cX1_isDoable 20 = .ok (.iload_n 2, 1) := by decide +kernel
theorem dX1_isDoable_21 : decode cX1_isDoable 21 = .ok (.invokevirtual 47, 3) := by decide +kernel
theorem dX1_isDoable_24 : decode cX1_isDoable 24 = .ok (.ireturn, 1) := by decide +kernel
theorem dX1_isBarred_0 : decode cX1_isBarred 0 = .ok (.aload_n 0, 1) := by decide +kernel
theorem dX1_isBarred_1 : decode cX1_isBarred 1 = .ok (.getfield 10, 3) := by decide +kernel
theorem dX1_isBarred_4 : decode cX1_isBarred 4 = .ok (.aload_n 0, 1) := by decide +kernel
theorem dX1_isBarred_5 : decode cX1_isBarred 5 = .ok (.getfield 19, 3) := by decide +kernel
theorem dX1_isBarred_8 : decode cX1_isBarred 8 = .ok (.iload_n 1, 1) := by decide +kernel
theorem dX1_isBarred_9 : decode cX1_isBarred 9 = .ok (.invokevirtual 40, 3) := by decide +kernel
theorem dX1_isBarred_12 : decode cX1_isBarred 12 = .ok (.aload_n 0, 1) := by decide +kernel
theorem dX1_isBarred_13 : decode cX1_isBarred 13 = .ok (.getfield 19, 3) := by decide +kernel
theorem dX1_isBarred_16 : decode cX1_isBarred 16 = .ok (.iload_n 1, 1) := by decide +kernel
theorem dX1_isBarred_17 : decode cX1_isBarred 17 = .ok (.invokevirtual 44, 3) := by decide +kernel
theorem dX1_isBarred_20 : decode cX1_isBarred 20 = .ok (.invokevirtual 51, 3) := by decide +kernel
theorem dX1_isBarred_23 : decode cX1_isBarred 23 = .ok (.ifCond .ne 7, 3) := by decide +kernel
theorem dX1_isBarred_26 : decode cX1_isBarred 26 = .ok (.iconst 1, 1) := by decide +kernel
theorem dX1_isBarred_27 : decode cX1_isBarred 27 = .ok (.goto 4, 3) := by decide +kernel
theorem dX1_isBarred_30 : decode cX1_isBarred 30 = .ok (.iconst 0, 1) := by decide +kernel
theorem dX1_isBarred_31 : decode cX1_isBarred 31 = .ok (.ireturn, 1) := by decide +kernel
theorem dX1_fitsSights_0 : decode cX1_fitsSights 0 = .ok (.aload_n 0, 1) := by decide +kernel
theorem dX1_fitsSights_1 : decode cX1_fitsSights 1 = .ok (.getfield 10, 3) := by decide +kernel
theorem dX1_fitsSights_4 : decode cX1_fitsSights 4 = .ok (.iload_n 1, 1) := by decide +kernel
theorem dX1_fitsSights_5 : decode cX1_fitsSights 5 = .ok (.invokevirtual 55, 3) := by decide +kernel
theorem dX1_fitsSights_8 : decode cX1_fitsSights 8 = .ok (.ifCond .ne 5, 3) := by decide +kernel
theorem dX1_fitsSights_11 : decode cX1_fitsSights 11 = .ok (.iconst 0, 1) := by decide +kernel
theorem dX1_fitsSights_12 : decode cX1_fitsSights 12 = .ok (.ireturn, 1) := by decide +kernel
theorem dX1_fitsSights_13 : decode cX1_fitsSights 13 = .ok (.iconst 0, 1) := by decide +kernel
theorem dX1_fitsSights_14 : decode cX1_fitsSights 14 = .ok (.istore_n 3, 1) := by decide +kernel
theorem dX1_fitsSights_15 : decode cX1_fitsSights 15 = .ok (.iload_n 3, 1) := by decide +kernel
theorem dX1_fitsSights_16 : decode cX1_fitsSights 16 = .ok (.aload_n 0, 1) := by decide +kernel
theorem dX1_fitsSights_17 : decode cX1_fitsSights 17 = .ok (.getfield 26, 3) := by decide +kernel
theorem dX1_fitsSights_20 : decode cX1_fitsSights 20 = .ok (.getfield 59, 3) := by decide +kernel
theorem dX1_fitsSights_23 : decode cX1_fitsSights 23 = .ok (.if_icmp .ge 47, 3) := by decide +kernel
theorem dX1_fitsSights_26 : decode cX1_fitsSights 26 = .ok (.aload_n 0, 1) := by decide +kernel
theorem dX1_fitsSights_27 : decode cX1_fitsSights 27 = .ok (.getfield 10, 3) := by decide +kernel
theorem dX1_fitsSights_30 : decode cX1_fitsSights 30 = .ok (.iload_n 1, 1) := by decide +kernel
theorem dX1_fitsSights_31 : decode cX1_fitsSights 31 = .ok (.aload_n 0, 1) := by decide +kernel
theorem dX1_fitsSights_32 : decode cX1_fitsSights 32 = .ok (.getfield 26, 3) := by decide +kernel
theorem dX1_fitsSights_35 : decode cX1_fitsSights 35 = .ok (.iload_n 3, 1) := by decide +kernel
theorem dX1_fitsSights_36 : decode cX1_fitsSights 36 = .ok (.invokevirtual 63, 3) := by decide +kernel
theorem dX1_fitsSights_39 : decode cX1_fitsSights 39 = .ok (.invokevirtual 66, 3) := by decide +kernel
theorem dX1_fitsSights_42 : decode cX1_fitsSights 42 = .ok (.iload_n 2, 1) := by decide +kernel
theorem dX1_fitsSights_43 : decode cX1_fitsSights 43 = .ok (.if_icmp .ne 7, 3) := by decide +kernel
theorem dX1_fitsSights_46 : decode cX1_fitsSights 46 = .ok (.iconst 1, 1) := by decide +kernel
theorem dX1_fitsSights_47 : decode cX1_fitsSights 47 = .ok (.goto 4, 3) := by decide +kernel
theorem dX1_fitsSights_50 : decode cX1_fitsSights 50 = .ok (.iconst 0, 1) := by decide +kernel
theorem dX1_fitsSights_51 : decode cX1_fitsSights 51 = .ok (.aload_n 0, 1) := by decide +kernel
theorem dX1_fitsSights_52 : decode cX1_fitsSights 52 = .ok (.getfield 26, 3) := by decide +kernel
theorem dX1_fitsSights_55 : decode cX1_fitsSights 55 = .ok (.iload_n 3, 1) := by decide +kernel
theorem dX1_fitsSights_56 : decode cX1_fitsSights 56 = .ok (.invokevirtual 70, 3) := by decide +kernel
theorem dX1_fitsSights_59 : decode cX1_fitsSights 59 = .ok (.if_icmp .eq 5, 3) := by decide +kernel
theorem dX1_fitsSights_62 : decode cX1_fitsSights 62 = .ok (.iconst 0, 1) := by decide +kernel
theorem dX1_fitsSights_63 : decode cX1_fitsSights 63 = .ok (.ireturn, 1) := by decide +kernel
theorem dX1_fitsSights_64 : decode cX1_fitsSights 64 = .ok (.iinc 3 1, 3) := by decide +kernel
theorem dX1_fitsSights_67 : decode cX1_fitsSights 67 = .ok (.goto (-52), 3) := by decide +kernel
theorem dX1_fitsSights_70 : decode cX1_fitsSights 70 = .ok (.iconst 1, 1) := by decide +kernel
theorem dX1_fitsSights_71 : decode cX1_fitsSights 71 = .ok (.ireturn, 1) := by decide +kernel
theorem dX2_init_0 : decode cX2_init 0 = .ok (.aload_n 0, 1) := by decide +kernel
theorem dX2_init_1 : decode cX2_init 1 = .ok (.invokespecial 3, 3) := by decide +kernel
theorem dX2_init_4 : decode cX2_init 4 = .ok (.aload_n 0, 1) := by decide +kernel
theorem dX2_init_5 : decode cX2_init 5 = .ok (.bipush 6, 2) := by decide +kernel
theorem dX2_init_7 : decode cX2_init 7 = .ok (.newarray .int, 2) := by decide +kernel
theorem dX2_init_9 : decode cX2_init 9 = .ok (.putfield 9, 3) := by decide +kernel
theorem dX2_init_12 : decode cX2_init 12 = .ok (.aload_n 0, 1) := by decide +kernel
theorem dX2_init_13 : decode cX2_init 13 = .ok (.bipush 6, 2) := by decide +kernel
theorem dX2_init_15 : decode cX2_init 15 = .ok (.newarray .int, 2) := by decide +kernel
theorem dX2_init_17 : decode cX2_init 17 = .ok (.putfield 15, 3) := by decide +kernel
theorem dX2_init_20 : decode cX2_init 20 = .ok (.aload_n 0, 1) := by decide +kernel
theorem dX2_init_21 : decode cX2_init 21 = .ok (.bipush 36, 2) := by decide +kernel
theorem dX2_init_23 : decode cX2_init 23 = .ok (.newarray .int, 2) := by decide +kernel
theorem dX2_init_25 : decode cX2_init 25 = .ok (.putfield 18, 3) := by decide +kernel
theorem dX2_init_28 : decode cX2_init 28 = .ok (.aload_n 0, 1) := by decide +kernel
theorem dX2_init_29 : decode cX2_init 29 = .ok (.bipush 6, 2) := by decide +kernel
theorem dX2_init_31 : decode cX2_init 31 = .ok (.newarray .int, 2) := by decide +kernel
theorem dX2_init_33 : decode cX2_init 33 = .ok (.putfield 21, 3) := by decide +kernel
theorem dX2_init_36 : decode cX2_init 36 = .ok (.aload_n 0, 1) := by decide +kernel
theorem dX2_init_37 : decode cX2_init 37 = .ok (.bipush 6, 2) := by decide +kernel
theorem dX2_init_39 : decode cX2_init 39 = .ok (.newarray .int, 2) := by decide +kernel
theorem dX2_init_41 : decode cX2_init 41 = .ok (.putfield 24, 3) := by decide +kernel
theorem dX2_init_44 : decode cX2_init 44 = .ok (.return_, 1) := by decide +kernel
theorem dX2_settle_0 : decode cX2_settle 0 = .ok (.aload_n 1, 1) := by decide +kernel
theorem dX2_settle_1 : decode cX2_settle 1 = .ok (.ifnonnull 4, 3) := by decide +kernel
theorem dX2_settle_4 : decode cX2_settle 4 = .ok (.return_, 1) := by decide +kernel
theorem dX2_settle_5 : decode cX2_settle 5 = .ok (.aload_n 0, 1) := by decide +kernel
theorem dX2_settle_6 : decode cX2_settle 6 = .ok (.aload_n 1, 1) := by decide +kernel
theorem dX2_settle_7 : decode cX2_settle 7 = .ok (.getfield 27, 3) := by decide +kernel
theorem dX2_settle_10 : decode cX2_settle 10 = .ok (.getfield 33, 3) := by decide +kernel
theorem dX2_settle_13 : decode cX2_settle 13 = .ok (.bipush 6, 2) := by decide +kernel
theorem dX2_settle_15 : decode cX2_settle 15 = .ok (.invokestatic 39, 3) := by decide +kernel
theorem dX2_settle_18 : decode cX2_settle 18 = .ok (.putfield 45, 3) := by decide +kernel
theorem dX2_settle_21 : decode cX2_settle 21 = .ok (.aload_n 0, 1) := by decide +kernel
theorem dX2_settle_22 : decode cX2_settle 22 = .ok (.iconst (-1), 1) := by decide +kernel
theorem dX2_settle_23 : decode cX2_settle 23 = .ok (.putfield 48, 3) := by decide +kernel
theorem dX2_settle_26 : decode cX2_settle 26 = .ok (.iconst 0, 1) := by decide +kernel
theorem dX2_settle_27 : decode cX2_settle 27 = .ok (.istore_n 3, 1) := by decide +kernel
theorem dX2_settle_28 : decode cX2_settle 28 = .ok (.iload_n 3, 1) := by decide +kernel
theorem dX2_settle_29 : decode cX2_settle 29 = .ok (.aload_n 0, 1) := by decide +kernel
theorem dX2_settle_30 : decode cX2_settle 30 = .ok (.getfield 45, 3) := by decide +kernel
theorem dX2_settle_33 : decode cX2_settle 33 = .ok (.if_icmp .ge 30, 3) := by decide +kernel
theorem dX2_settle_36 : decode cX2_settle 36 = .ok (.aload_n 0, 1) := by decide +kernel
theorem dX2_settle_37 : decode cX2_settle 37 = .ok (.getfield 9, 3) := by decide +kernel
theorem dX2_settle_40 : decode cX2_settle 40 = .ok (.iload_n 3, 1) := by decide +kernel
theorem dX2_settle_41 : decode cX2_settle 41 = .ok (.aload_n 1, 1) := by decide +kernel
theorem dX2_settle_42 : decode cX2_settle 42 = .ok (.getfield 27, 3) := by decide +kernel
theorem dX2_settle_45 : decode cX2_settle 45 = .ok (.iload_n 3, 1) := by decide +kernel
theorem dX2_settle_46 : decode cX2_settle 46 = .ok (.invokevirtual 51, 3) := by decide +kernel
theorem dX2_settle_49 : decode cX2_settle 49 = .ok (.iastore, 1) := by decide +kernel
theorem dX2_settle_50 : decode cX2_settle 50 = .ok (.aload_n 0, 1) := by decide +kernel
theorem dX2_settle_51 : decode cX2_settle 51 = .ok (.aload_n 1, 1) := by decide +kernel
theorem dX2_settle_52 : decode cX2_settle 52 = .ok (.iload_n 3, 1) := by decide +kernel
theorem dX2_settle_53 : decode cX2_settle 53 = .ok (.iload_n 2, 1) := by decide +kernel
theorem dX2_settle_54 : decode cX2_settle 54 = .ok (.invokevirtual 55, 3) := by decide +kernel
theorem dX2_settle_57 : decode cX2_settle 57 = .ok (.iinc 3 1, 3) := by decide +kernel
theorem dX2_settle_60 : decode cX2_settle 60 = .ok (.goto (-32), 3) := by decide +kernel
theorem dX2_settle_63 : decode cX2_settle 63 = .ok (.aload_n 0, 1) := by decide +kernel
theorem dX2_settle_64 : decode cX2_settle 64 = .ok (.iconst 0, 1) := by decide +kernel
theorem dX2_settle_65 : decode cX2_settle 65 = .ok (.iconst 0, 1) := by decide +kernel
theorem dX2_settle_66 : decode cX2_settle 66 = .ok (.invokestatic 59, 3) := by decide +kernel
theorem dX2_settle_69 : decode cX2_settle 69 = .ok (.return_, 1) := by decide +kernel
theorem dX2_dateOf_0 : decode cX2_dateOf 0 = .ok (.iload_n 1, 1) := by decide +kernel
theorem dX2_dateOf_1 : decode cX2_dateOf 1 = .ok (.aload_n 0, 1) := by decide +kernel
theorem dX2_dateOf_2 : decode cX2_dateOf 2 = .ok (.getfield 45, 3) := by decide +kernel
theorem dX2_dateOf_5 : decode cX2_dateOf 5 = .ok (.invokestatic 63, 3) := by decide +kernel
theorem dX2_dateOf_8 : decode cX2_dateOf 8 = .ok (.ifCond .eq 12, 3) := by decide +kernel
theorem dX2_dateOf_11 : decode cX2_dateOf 11 = .ok (.aload_n 0, 1) := by decide +kernel
theorem dX2_dateOf_12 : decode cX2_dateOf 12 = .ok (.getfield 24, 3) := by decide +kernel
theorem dX2_dateOf_15 : decode cX2_dateOf 15 = .ok (.iload_n 1, 1) := by decide +kernel
theorem dX2_dateOf_16 : decode cX2_dateOf 16 = .ok (.iaload, 1) := by decide +kernel
theorem dX2_dateOf_17 : decode cX2_dateOf 17 = .ok (.goto 5, 3) := by decide +kernel
theorem dX2_dateOf_20 : decode cX2_dateOf 20 = .ok (.bipush (-6), 2) := by decide +kernel
theorem dX2_dateOf_22 : decode cX2_dateOf 22 = .ok (.ireturn, 1) := by decide +kernel
theorem dX2_collect_0 : decode cX2_collect 0 = .ok (.iconst 0, 1) := by decide +kernel
theorem dX2_collect_1 : decode cX2_collect 1 = .ok (.istore 4, 2) := by decide +kernel
theorem dX2_collect_3 : decode cX2_collect 3 = .ok (.iload_n 3, 1) := by decide +kernel
theorem dX2_collect_4 : decode cX2_collect 4 = .ok (.istore 5, 2) := by decide +kernel
theorem dX2_collect_6 : decode cX2_collect 6 = .ok (.iload 5, 2) := by decide +kernel
theorem dX2_collect_8 : decode cX2_collect 8 = .ok (.iload_n 3, 1) := by decide +kernel
theorem dX2_collect_9 : decode cX2_collect 9 = .ok (.bipush 30, 2) := by decide +kernel
theorem dX2_collect_11 : decode cX2_collect 11 = .ok (.iadd, 1) := by decide +kernel
theorem dX2_collect_12 : decode cX2_collect 12 = .ok (.if_icmp .ge 43, 3) := by decide +kernel
theorem dX2_collect_15 : decode cX2_collect 15 = .ok (.iload 4, 2) := by decide +kernel
theorem dX2_collect_17 : decode cX2_collect 17 = .ok (.bipush 6, 2) := by decide +kernel
theorem dX2_collect_19 : decode cX2_collect 19 = .ok (.if_icmp .ge 36, 3) := by decide +kernel
theorem dX2_collect_22 : decode cX2_collect 22 = .ok (.aload_n 1, 1) := by decide +kernel
theorem dX2_collect_23 : decode cX2_collect 23 = .ok (.iload_n 2, 1) := by decide +kernel
theorem dX2_collect_24 : decode cX2_collect 24 = .ok (.iload 5, 2) := by decide +kernel
theorem dX2_collect_26 : decode cX2_collect 26 = .ok (.invokevirtual 67, 3) := by decide +kernel
theorem dX2_collect_29 : decode cX2_collect 29 = .ok (.ifCond .eq 20, 3) := by decide +kernel
theorem dX2_collect_32 : decode cX2_collect 32 = .ok (.aload_n 0, 1) := by decide +kernel
theorem dX2_collect_33 : decode cX2_collect 33 = .ok (.getfield 18, 3) := by decide +kernel
theorem dX2_collect_36 : decode cX2_collect 36 = .ok (.iload_n 2, 1) := by decide +kernel
theorem dX2_collect_37 : decode cX2_collect 37 = .ok (.bipush 6, 2) := by decide +kernel
theorem dX2_collect_39 : decode cX2_collect 39 = .ok (.imul, 1) := by decide +kernel
theorem dX2_collect_40 : decode cX2_collect 40 = .ok (.iload 4, 2) := by decide +kernel
theorem dX2_collect_42 : decode cX2_collect 42 = .ok (.iadd, 1) := by decide +kernel
theorem dX2_collect_43 : decode cX2_collect 43 = .ok (.iload 5, 2) := by decide +kernel
theorem dX2_collect_45 : decode cX2_collect 45 = .ok (.iastore, 1) := by decide +kernel
theorem dX2_collect_46 : decode cX2_collect 46 = .ok (.iinc 4 1, 3) := by decide +kernel
theorem dX2_collect_49 : decode cX2_collect 49 = .ok (.iinc 5 1, 3) := by decide +kernel
theorem dX2_collect_52 : decode cX2_collect 52 = .ok (.goto (-46), 3) := by decide +kernel
theorem dX2_collect_55 : decode cX2_collect 55 = .ok (.aload_n 0, 1) := by decide +kernel
theorem dX2_collect_56 : decode cX2_collect 56 = .ok (.getfield 15, 3) := by decide +kernel
theorem dX2_collect_59 : decode cX2_collect 59 = .ok (.iload_n 2, 1) := by decide +kernel
theorem dX2_collect_60 : decode cX2_collect 60 = .ok (.iload 4, 2) := by decide +kernel
theorem dX2_collect_62 : decode cX2_collect 62 = .ok (.iastore, 1) := by decide +kernel
theorem dX2_collect_63 : decode cX2_collect 63 = .ok (.return_, 1) := by decide +kernel
theorem dX2_search_0 : decode cX2_search 0 = .ok (.aload_n 0, 1) := by decide +kernel
theorem dX2_search_1 : decode cX2_search 1 = .ok (.ifnull 18, 3) := by decide +kernel
theorem dX2_search_4 : decode cX2_search 4 = .ok (.iload_n 2, 1) := by decide +kernel
theorem dX2_search_5 : decode cX2_search 5 = .ok (.aload_n 0, 1) := by decide +kernel
theorem dX2_search_6 : decode cX2_search 6 = .ok (.getfield 45, 3) := by decide +kernel
theorem dX2_search_9 : decode cX2_search 9 = .ok (.iadd, 1) := by decide +kernel
theorem dX2_search_10 : decode cX2_search 10 = .ok (.iload_n 1, 1) := by decide +kernel
theorem dX2_search_11 : decode cX2_search 11 = .ok (.isub, 1) := by decide +kernel
theorem dX2_search_12 : decode cX2_search 12 = .ok (.aload_n 0, 1) := by decide +kernel
theorem dX2_search_13 : decode cX2_search 13 = .ok (.getfield 48, 3) := by decide +kernel
theorem dX2_search_16 : decode cX2_search 16 = .ok (.if_icmp .gt 4, 3) := by decide +kernel
theorem dX2_search_19 : decode cX2_search 19 = .ok (.return_, 1) := by decide +kernel
theorem dX2_search_20 : decode cX2_search 20 = .ok (.iload_n 1, 1) := by decide +kernel
theorem dX2_search_21 : decode cX2_search 21 = .ok (.aload_n 0, 1) := by decide +kernel
theorem dX2_search_22 : decode cX2_search 22 = .ok (.getfield 45, 3) := by decide +kernel
theorem dX2_search_25 : decode cX2_search 25 = .ok (.invokestatic 63, 3) := by decide +kernel
theorem dX2_search_28 : decode cX2_search 28 = .ok (.ifCond .ne 9, 3) := by decide +kernel
theorem dX2_search_31 : decode cX2_search 31 = .ok (.aload_n 0, 1) := by decide +kernel
theorem dX2_search_32 : decode cX2_search 32 = .ok (.iload_n 2, 1) := by decide +kernel
theorem dX2_search_33 : decode cX2_search 33 = .ok (.invokevirtual 70, 3) := by decide +kernel
theorem dX2_search_36 : decode cX2_search 36 = .ok (.return_, 1) := by decide +kernel
theorem dX2_search_37 : decode cX2_search 37 = .ok (.iconst 0, 1) := by decide +kernel
theorem dX2_search_38 : decode cX2_search 38 = .ok (.istore_n 3, 1) := by decide +kernel
theorem dX2_search_39 : decode cX2_search 39 = .ok (.iload_n 3, 1) := by decide +kernel
theorem dX2_search_40 : decode cX2_search 40 = .ok (.aload_n 0, 1) := by decide +kernel
theorem dX2_search_41 : decode cX2_search 41 = .ok (.getfield 15, 3) := by decide +kernel
theorem dX2_search_44 : decode cX2_search 44 = .ok (.iload_n 1, 1) := by decide +kernel
theorem dX2_search_45 : decode cX2_search 45 = .ok (.iaload, 1) := by decide +kernel
theorem dX2_search_46 : decode cX2_search 46 = .ok (.if_icmp .ge 50, 3) := by decide +kernel
theorem dX2_search_49 : decode cX2_search 49 = .ok (.aload_n 0, 1) := by decide +kernel
theorem dX2_search_50 : decode cX2_search 50 = .ok (.getfield 18, 3) := by decide +kernel
theorem dX2_search_53 : decode cX2_search 53 = .ok (.iload_n 1, 1) := by decide +kernel
theorem dX2_search_54 : decode cX2_search 54 = .ok (.bipush 6, 2) := by decide +kernel
theorem dX2_search_56 : decode cX2_search 56 = .ok (.imul, 1) := by decide +kernel
theorem dX2_search_57 : decode cX2_search 57 = .ok (.iload_n 3, 1) := by decide +kernel
theorem dX2_search_58 : decode cX2_search 58 = .ok (.iadd, 1) := by decide +kernel
theorem dX2_search_59 : decode cX2_search 59 = .ok (.iaload, 1) := by decide +kernel
theorem dX2_search_60 : decode cX2_search 60 = .ok (.istore 4, 2) := by decide +kernel
theorem dX2_search_62 : decode cX2_search 62 = .ok (.aload_n 0, 1) := by decide +kernel
theorem dX2_search_63 : decode cX2_search 63 = .ok (.iload_n 1, 1) := by decide +kernel
theorem dX2_search_64 : decode cX2_search 64 = .ok (.iload 4, 2) := by decide +kernel
theorem dX2_search_66 : decode cX2_search 66 = .ok (.invokevirtual 74, 3) := by decide +kernel
theorem dX2_search_69 : decode cX2_search 69 = .ok (.ifCond .eq 21, 3) := by decide +kernel
theorem dX2_search_72 : decode cX2_search 72 = .ok (.aload_n 0, 1) := by decide +kernel
theorem dX2_search_73 : decode cX2_search 73 = .ok (.getfield 21, 3) := by decide +kernel
theorem dX2_search_76 : decode cX2_search 76 = .ok (.iload_n 1, 1) := by decide +kernel
theorem dX2_search_77 : decode cX2_search 77 = .ok (.iload 4, 2) := by decide +kernel
theorem dX2_search_79 : decode cX2_search 79 = .ok (.iastore, 1) := by decide +kernel
theorem dX2_search_80 : decode cX2_search 80 = .ok (.aload_n 0, 1) := by decide +kernel
theorem dX2_search_81 : decode cX2_search 81 = .ok (.iload_n 1, 1) := by decide +kernel
theorem dX2_search_82 : decode cX2_search 82 = .ok (.iconst 1, 1) := by decide +kernel
theorem dX2_search_83 : decode cX2_search 83 = .ok (.iadd, 1) := by decide +kernel
theorem dX2_search_84 : decode cX2_search 84 = .ok (.iload_n 2, 1) := by decide +kernel
theorem dX2_search_85 : decode cX2_search 85 = .ok (.iconst 1, 1) := by decide +kernel
theorem dX2_search_86 : decode cX2_search 86 = .ok (.iadd, 1) := by decide +kernel
theorem dX2_search_87 : decode cX2_search 87 = .ok (.invokestatic 59, 3) := by decide +kernel
theorem dX2_search_90 : decode cX2_search 90 = .ok (.iinc 3 1, 3) := by decide +kernel
theorem dX2_search_93 : decode cX2_search 93 = .ok (.goto (-54), 3) := by decide +kernel
theorem dX2_search_96 : decode cX2_search 96 = .ok (.aload_n 0, 1) := by decide +kernel
theorem dX2_search_97 : decode cX2_search 97 = .ok (.getfield 21, 3) := by decide +kernel
theorem dX2_search_100 : decode cX2_search 100 = .ok (.iload_n 1, 1) := by decide +kernel
theorem dX2_search_101 : decode cX2_search 101 = .ok (.bipush (-6), 2) := by decide +kernel
theorem dX2_search_103 : decode cX2_search 103 = .ok (.iastore, 1) := by decide +kernel
theorem dX2_search_104 : decode cX2_search 104 = .ok (.aload_n 0, 1) := by decide +kernel
theorem dX2_search_105 : decode cX2_search 105 = .ok (.iload_n 1, 1) := by decide +kernel
theorem dX2_search_106 : decode cX2_search 106 = .ok (.iconst 1, 1) := by decide +kernel
theorem dX2_search_107 : decode cX2_search 107 = .ok (.iadd, 1) := by decide +kernel
theorem dX2_search_108 : decode cX2_search 108 = .ok (.iload_n 2, 1) := by decide +kernel
theorem dX2_search_109 : decode cX2_search 109 = .ok (.invokestatic 59, 3) := by decide +kernel
theorem dX2_search_112 : decode cX2_search 112 = .ok (.return_, 1) := by decide +kernel
theorem dX2_keep_0 : decode cX2_keep 0 = .ok (.aload_n 0, 1) := by decide +kernel
theorem dX2_keep_1 : decode cX2_keep 1 = .ok (.iload_n 1, 1) := by decide +kernel
theorem dX2_keep_2 : decode cX2_keep 2 = .ok (.putfield 48, 3) := by decide +kernel
theorem dX2_keep_5 : decode cX2_keep 5 = .ok (.aload_n 0, 1) := by decide +kernel
theorem dX2_keep_6 : decode cX2_keep 6 = .ok (.getfield 21, 3) := by decide +kernel
theorem dX2_keep_9 : decode cX2_keep 9 = .ok (.iconst 0, 1) := by decide +kernel
theorem dX2_keep_10 : decode cX2_keep 10 = .ok (.aload_n 0, 1) := by decide +kernel
theorem dX2_keep_11 : decode cX2_keep 11 = .ok (.getfield 24, 3) := by decide +kernel
theorem dX2_keep_14 : decode cX2_keep 14 = .ok (.iconst 0, 1) := by decide +kernel
theorem dX2_keep_15 : decode cX2_keep 15 = .ok (.bipush 6, 2) := by decide +kernel
theorem dX2_keep_17 : decode cX2_keep 17 = .ok (.invokestatic 77, 3) := by decide +kernel
theorem dX2_keep_20 : decode cX2_keep 20 = .ok (.return_, 1) := by decide +kernel
theorem dX2_isFree_0 : decode cX2_isFree 0 = .ok (.iconst 0, 1) := by decide +kernel
theorem dX2_isFree_1 : decode cX2_isFree 1 = .ok (.istore_n 3, 1) := by decide +kernel
theorem dX2_isFree_2 : decode cX2_isFree 2 = .ok (.iload_n 3, 1) := by decide +kernel
theorem dX2_isFree_3 : decode cX2_isFree 3 = .ok (.iload_n 1, 1) := by decide +kernel
theorem dX2_isFree_4 : decode cX2_isFree 4 = .ok (.if_icmp .ge 37, 3) := by decide +kernel
theorem dX2_isFree_7 : decode cX2_isFree 7 = .ok (.aload_n 0, 1) := by decide +kernel
theorem dX2_isFree_8 : decode cX2_isFree 8 = .ok (.getfield 21, 3) := by decide +kernel
theorem dX2_isFree_11 : decode cX2_isFree 11 = .ok (.iload_n 3, 1) := by decide +kernel
theorem dX2_isFree_12 : decode cX2_isFree 12 = .ok (.iaload, 1) := by decide +kernel
theorem dX2_isFree_13 : decode cX2_isFree 13 = .ok (.iload_n 2, 1) := by decide +kernel
theorem dX2_isFree_14 : decode cX2_isFree 14 = .ok (.if_icmp .ne 21, 3) := by decide +kernel
theorem dX2_isFree_17 : decode cX2_isFree 17 = .ok (.aload_n 0, 1) := by decide +kernel
theorem dX2_isFree_18 : decode cX2_isFree 18 = .ok (.getfield 9, 3) := by decide +kernel
theorem dX2_isFree_21 : decode cX2_isFree 21 = .ok (.iload_n 3, 1) := by decide +kernel
theorem dX2_isFree_22 : decode cX2_isFree 22 = .ok (.iaload, 1) := by decide +kernel
theorem dX2_isFree_23 : decode cX2_isFree 23 = .ok (.aload_n 0, 1) := by decide +kernel
theorem dX2_isFree_24 : decode cX2_isFree 24 = .ok (.getfield 9, 3) := by decide +kernel
theorem dX2_isFree_27 : decode cX2_isFree 27 = .ok (.iload_n 1, 1) := by decide +kernel
theorem dX2_isFree_28 : decode cX2_isFree 28 = .ok (.iaload, 1) := by decide +kernel
theorem dX2_isFree_29 : decode cX2_isFree 29 = .ok (.iand, 1) := by decide +kernel
theorem dX2_isFree_30 : decode cX2_isFree 30 = .ok (.ifCond .eq 5, 3) := by decide +kernel
theorem dX2_isFree_33 : decode cX2_isFree 33 = .ok (.iconst 0, 1) := by decide +kernel
theorem dX2_isFree_34 : decode cX2_isFree 34 = .ok (.ireturn, 1) := by decide +kernel
theorem dX2_isFree_35 : decode cX2_isFree 35 = .ok (.iinc 3 1, 3) := by decide +kernel
theorem dX2_isFree_38 : decode cX2_isFree 38 = .ok (.goto (-36), 3) := by decide +kernel
theorem dX2_isFree_41 : decode cX2_isFree 41 = .ok (.iconst 1, 1) := by decide +kernel
theorem dX2_isFree_42 : decode cX2_isFree 42 = .ok (.ireturn, 1) := by decide +kernel
theorem dX3_init_0 : decode cX3_init 0 = .ok (.aload_n 0, 1) := by decide +kernel
theorem dX3_init_1 : decode cX3_init 1 = .ok (.invokespecial 3, 3) := by decide +kernel
theorem dX3_init_4 : decode cX3_init 4 = .ok (.aload_n 0, 1) := by decide +kernel
theorem dX3_init_5 : decode cX3_init 5 = .ok (.bipush 60, 2) := by decide +kernel
theorem dX3_init_7 : decode cX3_init 7 = .ok (.newarray .int, 2) := by decide +kernel
theorem dX3_init_9 : decode cX3_init 9 = .ok (.putfield 9, 3) := by decide +kernel
theorem dX3_init_12 : decode cX3_init 12 = .ok (.return_, 1) := by decide +kernel
theorem dX3_add_0 : decode cX3_add 0 = .ok (.aload_n 0, 1) := by decide +kernel
theorem dX3_add_1 : decode cX3_add 1 = .ok (.getfield 15, 3) := by decide +kernel
theorem dX3_add_4 : decode cX3_add 4 = .ok (.bipush 60, 2) := by decide +kernel
theorem dX3_add_6 : decode cX3_add 6 = .ok (.invokestatic 19, 3) := by decide +kernel
theorem dX3_add_9 : decode cX3_add 9 = .ok (.ifCond .ne 5, 3) := by decide +kernel
theorem dX3_add_12 : decode cX3_add 12 = .ok (.iconst 0, 1) := by decide +kernel
theorem dX3_add_13 : decode cX3_add 13 = .ok (.ireturn, 1) := by decide +kernel
theorem dX3_add_14 : decode cX3_add 14 = .ok (.aload_n 0, 1) := by decide +kernel
theorem dX3_add_15 : decode cX3_add 15 = .ok (.getfield 9, 3) := by decide +kernel
theorem dX3_add_18 : decode cX3_add 18 = .ok (.aload_n 0, 1) := by decide +kernel
theorem dX3_add_19 : decode cX3_add 19 = .ok (.getfield 15, 3) := by decide +kernel
theorem dX3_add_22 : decode cX3_add 22 = .ok (.iload_n 1, 1) := by decide +kernel
theorem dX3_add_23 : decode cX3_add 23 = .ok (.iastore, 1) := by decide +kernel
theorem dX3_add_24 : decode cX3_add 24 = .ok (.aload_n 0, 1) := by decide +kernel
theorem dX3_add_25 : decode cX3_add 25 = .ok (.dup, 1) := by decide +kernel
theorem dX3_add_26 : decode cX3_add 26 = .ok (.getfield 15, 3) := by decide +kernel
theorem dX3_add_29 : decode cX3_add 29 = .ok (.iconst 1, 1) := by decide +kernel
theorem dX3_add_30 : decode cX3_add 30 = .ok (.iadd, 1) := by decide +kernel
theorem dX3_add_31 : decode cX3_add 31 = .ok (.putfield 15, 3) := by decide +kernel
theorem dX3_add_34 : decode cX3_add 34 = .ok (.iconst 1, 1) := by decide +kernel
theorem dX3_add_35 : decode cX3_add 35 = .ok (.ireturn, 1) := by decide +kernel
theorem dX3_signAt_0 : decode cX3_signAt 0 = .ok (.iload_n 1, 1) := by decide +kernel
theorem dX3_signAt_1 : decode cX3_signAt 1 = .ok (.bipush 60, 2) := by decide +kernel
theorem dX3_signAt_3 : decode cX3_signAt 3 = .ok (.invokestatic 19, 3) := by decide +kernel
theorem dX3_signAt_6 : decode cX3_signAt 6 = .ok (.ifCond .eq 12, 3) := by decide +kernel
theorem dX3_signAt_9 : decode cX3_signAt 9 = .ok (.aload_n 0, 1) := by decide +kernel
theorem dX3_signAt_10 : decode cX3_signAt 10 = .ok (.getfield 9, 3) := by decide +kernel
theorem dX3_signAt_13 : decode cX3_signAt 13 = .ok (.iload_n 1, 1) := by decide +kernel
theorem dX3_signAt_14 : decode cX3_signAt 14 = .ok (.iaload, 1) := by decide +kernel
theorem dX3_signAt_15 : decode cX3_signAt 15 = .ok (.goto 4, 3) := by decide +kernel
theorem dX3_signAt_18 : decode cX3_signAt 18 = .ok (.iconst 0, 1) := by decide +kernel
theorem dX3_signAt_19 : decode cX3_signAt 19 = .ok (.ireturn, 1) := by decide +kernel
theorem dX3_orderFault_0 : decode cX3_orderFault 0 = .ok (.iconst 0, 1) := by decide +kernel
theorem dX3_orderFault_1 : decode cX3_orderFault 1 = .ok (.istore_n 1, 1) := by decide +kernel
theorem dX3_orderFault_2 : decode cX3_orderFault 2 = .ok (.iconst 0, 1) := by decide +kernel
theorem dX3_orderFault_3 : decode cX3_orderFault 3 = .ok (.istore_n 2, 1) := by decide +kernel
theorem dX3_orderFault_4 : decode cX3_orderFault 4 = .ok (.iload_n 2, 1) := by decide +kernel
theorem dX3_orderFault_5 : decode cX3_orderFault 5 = .ok (.aload_n 0, 1) := by decide +kernel
theorem dX3_orderFault_6 : decode cX3_orderFault 6 = .ok (.getfield 15, 3) := by decide +kernel
theorem dX3_orderFault_9 : decode cX3_orderFault 9 = .ok (.if_icmp .ge 44, 3) := by decide +kernel
theorem dX3_orderFault_12 : decode cX3_orderFault 12 = .ok (.aload_n 0, 1) := by decide +kernel
theorem dX3_orderFault_13 : decode cX3_orderFault 13 = .ok (.iload_n 2, 1) := by decide +kernel
theorem dX3_orderFault_14 : decode cX3_orderFault 14 = .ok (.invokevirtual 23, 3) := by decide +kernel
theorem dX3_orderFault_17 : decode cX3_orderFault 17 = .ok (.bipush 97, 2) := by decide +kernel
theorem dX3_orderFault_19 : decode cX3_orderFault 19 = .ok (.isub, 1) := by decide +kernel
theorem dX3_orderFault_20 : decode cX3_orderFault 20 = .ok (.istore_n 3, 1) := by decide +kernel
theorem dX3_orderFault_21 : decode cX3_orderFault 21 = .ok (.iload_n 3, 1) := by decide +kernel
theorem dX3_orderFault_22 : decode cX3_orderFault 22 = .ok (.bipush 8, 2) := by decide +kernel
theorem dX3_orderFault_24 : decode cX3_orderFault 24 = .ok (.invokestatic 19, 3) := by decide +kernel
theorem dX3_orderFault_27 : decode cX3_orderFault 27 = .ok (.ifCond .eq 12, 3) := by decide +kernel
theorem dX3_orderFault_30 : decode cX3_orderFault 30 = .ok (.iload_n 1, 1) := by decide +kernel
theorem dX3_orderFault_31 : decode cX3_orderFault 31 = .ok (.iload_n 3, 1) := by decide +kernel
theorem dX3_orderFault_32 : decode cX3_orderFault 32 = .ok (.ishr, 1) := by decide +kernel
theorem dX3_orderFault_33 : decode cX3_orderFault 33 = .ok (.iconst 1, 1) := by decide +kernel
theorem dX3_orderFault_34 : decode cX3_orderFault 34 = .ok (.iand, 1) := by decide +kernel
theorem dX3_orderFault_35 : decode cX3_orderFault 35 = .ok (.iconst 1, 1) := by decide +kernel
theorem dX3_orderFault_36 : decode cX3_orderFault 36 = .ok (.if_icmp .ne 5, 3) := by decide +kernel
theorem dX3_orderFault_39 : decode cX3_orderFault 39 = .ok (.iload_n 2, 1) := by decide +kernel
theorem dX3_orderFault_40 : decode cX3_orderFault 40 = .ok (.ireturn, 1) := by decide +kernel
theorem dX3_orderFault_41 : decode cX3_orderFault 41 = .ok (.iload_n 1, 1) := by decide +kernel
theorem dX3_orderFault_42 : decode cX3_orderFault 42 = .ok (.iconst 1, 1) := by decide +kernel
theorem dX3_orderFault_43 : decode cX3_orderFault 43 = .ok (.iload_n 3, 1) := by decide +kernel
theorem dX3_orderFault_44 : decode cX3_orderFault 44 = .ok (.ishl, 1) := by decide +kernel
theorem dX3_orderFault_45 : decode cX3_orderFault 45 = .ok (.ior, 1) := by decide +kernel
theorem dX3_orderFault_46 : decode cX3_orderFault 46 = .ok (.istore_n 1, 1) := by decide +kernel
theorem dX3_orderFault_47 : decode cX3_orderFault 47 = .ok (.iinc 2 1, 3) := by decide +kernel
theorem dX3_orderFault_50 : decode cX3_orderFault 50 = .ok (.goto (-46), 3) := by decide +kernel
theorem dX3_orderFault_53 : decode cX3_orderFault 53 = .ok (.aload_n 0, 1) := by decide +kernel
theorem dX3_orderFault_54 : decode cX3_orderFault 54 = .ok (.getfield 15, 3) := by decide +kernel
theorem dX3_orderFault_57 : decode cX3_orderFault 57 = .ok (.iconst 5, 1) := by decide +kernel
theorem dX3_orderFault_58 : decode cX3_orderFault 58 = .ok (.if_icmp .ge 10, 3) := by decide +kernel
theorem dX3_orderFault_61 : decode cX3_orderFault 61 = .ok (.aload_n 0, 1) := by decide +kernel
theorem dX3_orderFault_62 : decode cX3_orderFault 62 = .ok (.getfield 15, 3) := by decide +kernel
theorem dX3_orderFault_65 : decode cX3_orderFault 65 = .ok (.goto 5, 3) := by decide +kernel
theorem dX3_orderFault_68 : decode cX3_orderFault 68 = .ok (.bipush (-6), 2) := by decide +kernel
theorem dX3_orderFault_70 : decode cX3_orderFault 70 = .ok (.ireturn, 1) := by decide +kernel
theorem dX3_planFault_0 : decode cX3_planFault 0 = .ok (.iconst 0, 1) := by decide +kernel
theorem dX3_planFault_1 : decode cX3_planFault 1 = .ok (.istore_n 1, 1) := by decide +kernel
theorem dX3_planFault_2 : decode cX3_planFault 2 = .ok (.iconst 0, 1) := by decide +kernel
theorem dX3_planFault_3 : decode cX3_planFault 3 = .ok (.istore_n 2, 1) := by decide +kernel
theorem dX3_planFault_4 : decode cX3_planFault 4 = .ok (.iconst (-1), 1) := by decide +kernel
theorem dX3_planFault_5 : decode cX3_planFault 5 = .ok (.istore_n 3, 1) := by decide +kernel
theorem dX3_planFault_6 : decode cX3_planFault 6 = .ok (.iconst 0, 1) := by decide +kernel
theorem dX3_planFault_7 : decode cX3_planFault 7 = .ok (.istore 4, 2) := by decide +kernel
theorem dX3_planFault_9 : decode cX3_planFault 9 = .ok (.iload 4, 2) := by decide +kernel
theorem dX3_planFault_11 : decode cX3_planFault 11 = .ok (.aload_n 0, 1) := by decide +kernel
theorem dX3_planFault_12 : decode cX3_planFault 12 = .ok (.getfield 15, 3) := by decide +kernel
theorem dX3_planFault_15 : decode cX3_planFault 15 = .ok (.if_icmp .ge 95, 3) := by decide +kernel
theorem dX3_planFault_18 : decode cX3_planFault 18 = .ok (.aload_n 0, 1) := by decide +kernel
theorem dX3_planFault_19 : decode cX3_planFault 19 = .ok (.iload 4, 2) := by decide +kernel
theorem dX3_planFault_21 : decode cX3_planFault 21 = .ok (.invokevirtual 23, 3) := by decide +kernel
theorem dX3_planFault_24 : decode cX3_planFault 24 = .ok (.istore 5, 2) := by decide +kernel
theorem dX3_planFault_26 : decode cX3_planFault 26 = .ok (.iload_n 2, 1) := by decide +kernel
theorem dX3_planFault_27 : decode cX3_planFault 27 = .ok (.ifCond .ne 35, 3) := by decide +kernel
theorem dX3_planFault_30 : decode cX3_planFault 30 = .ok (.iload 5, 2) := by decide +kernel
theorem dX3_planFault_32 : decode cX3_planFault 32 = .ok (.bipush 97, 2) := by decide +kernel
theorem dX3_planFault_34 : decode cX3_planFault 34 = .ok (.isub, 1) := by decide +kernel
theorem dX3_planFault_35 : decode cX3_planFault 35 = .ok (.bipush 8, 2) := by decide +kernel
theorem dX3_planFault_37 : decode cX3_planFault 37 = .ok (.invokestatic 19, 3) := by decide +kernel
theorem dX3_planFault_40 : decode cX3_planFault 40 = .ok (.ifCond .eq 9, 3) := by decide +kernel
theorem dX3_planFault_43 : decode cX3_planFault 43 = .ok (.iload_n 1, 1) := by decide +kernel
theorem dX3_planFault_44 : decode cX3_planFault 44 = .ok (.bipush 6, 2) := by decide +kernel
theorem dX3_planFault_46 : decode cX3_planFault 46 = .ok (.if_icmp .ne 6, 3) := by decide +kernel
theorem dX3_planFault_49 : decode cX3_planFault 49 = .ok (.iload 4, 2) := by decide +kernel
theorem dX3_planFault_51 : decode cX3_planFault 51 = .ok (.ireturn, 1) := by decide +kernel
theorem dX3_planFault_52 : decode cX3_planFault 52 = .ok (.iinc 1 1, 3) := by decide +kernel
theorem dX3_planFault_55 : decode cX3_planFault 55 = .ok (.iconst 1, 1) := by decide +kernel
theorem dX3_planFault_56 : decode cX3_planFault 56 = .ok (.istore_n 2, 1) := by decide +kernel
theorem dX3_planFault_57 : decode cX3_planFault 57 = .ok (.iconst (-1), 1) := by decide +kernel
theorem dX3_planFault_58 : decode cX3_planFault 58 = .ok (.istore_n 3, 1) := by decide +kernel
theorem dX3_planFault_59 : decode cX3_planFault 59 = .ok (.goto 45, 3) := by decide +kernel
theorem dX3_planFault_62 : decode cX3_planFault 62 = .ok (.iload 5, 2) := by decide +kernel
theorem dX3_planFault_64 : decode cX3_planFault 64 = .ok (.bipush 59, 2) := by decide +kernel
theorem dX3_planFault_66 : decode cX3_planFault 66 = .ok (.if_icmp .ne 12, 3) := by decide +kernel
theorem dX3_planFault_69 : decode cX3_planFault 69 = .ok (.iload_n 3, 1) := by decide +kernel
theorem dX3_planFault_70 : decode cX3_planFault 70 = .ok (.ifCond .lt 8, 3) := by decide +kernel
theorem dX3_planFault_73 : decode cX3_planFault 73 = .ok (.iconst 0, 1) := by decide +kernel
theorem dX3_planFault_74 : decode cX3_planFault 74 = .ok (.istore_n 2, 1) := by decide +kernel
theorem dX3_planFault_75 : decode cX3_planFault 75 = .ok (.goto 29, 3) := by decide +kernel
theorem dX3_planFault_78 : decode cX3_planFault 78 = .ok (.iload 5, 2) := by decide +kernel
theorem dX3_planFault_80 : decode cX3_planFault 80 = .ok (.bipush 48, 2) := by decide +kernel
theorem dX3_planFault_82 : decode cX3_planFault 82 = .ok (.isub, 1) := by decide +kernel
theorem dX3_planFault_83 : decode cX3_planFault 83 = .ok (.istore 6, 2) := by decide +kernel
theorem dX3_planFault_85 : decode cX3_planFault 85 = .ok (.iload 6, 2) := by decide +kernel
theorem dX3_planFault_87 : decode cX3_planFault 87 = .ok (.iload_n 3, 1) := by decide +kernel
theorem dX3_planFault_88 : decode cX3_planFault 88 = .ok (.if_icmp .le 10, 3) := by decide +kernel
theorem dX3_planFault_91 : decode cX3_planFault 91 = .ok (.iload 6, 2) := by decide +kernel
theorem dX3_planFault_93 : decode cX3_planFault 93 = .ok (.bipush 6, 2) := by decide +kernel
theorem dX3_planFault_95 : decode cX3_planFault 95 = .ok (.if_icmp .lt 6, 3) := by decide +kernel
theorem dX3_planFault_98 : decode cX3_planFault 98 = .ok (.iload 4, 2) := by decide +kernel
theorem dX3_planFault_100 : decode cX3_planFault 100 = .ok (.ireturn, 1) := by decide +kernel
theorem dX3_planFault_101 : decode cX3_planFault 101 = .ok (.iload 6, 2) := by decide +kernel
theorem dX3_planFault_103 : decode cX3_planFault 103 = .ok (.istore_n 3, 1) := by decide +kernel
theorem dX3_planFault_104 : decode cX3_planFault 104 = .ok (.iinc 4 1, 3) := by decide +kernel
theorem dX3_planFault_107 : decode cX3_planFault 107 = .ok (.goto (-98), 3) := by decide +kernel
theorem dX3_planFault_110 : decode cX3_planFault 110 = .ok (.iload_n 2, 1) := by decide +kernel
theorem dX3_planFault_111 : decode cX3_planFault 111 = .ok (.ifCond .eq 10, 3) := by decide +kernel
theorem dX3_planFault_114 : decode cX3_planFault 114 = .ok (.aload_n 0, 1) := by decide +kernel
theorem dX3_planFault_115 : decode cX3_planFault 115 = .ok (.getfield 15, 3) := by decide +kernel
theorem dX3_planFault_118 : decode cX3_planFault 118 = .ok (.goto 5, 3) := by decide +kernel
theorem dX3_planFault_121 : decode cX3_planFault 121 = .ok (.bipush (-6), 2) := by decide +kernel
theorem dX3_planFault_123 : decode cX3_planFault 123 = .ok (.ireturn, 1) := by decide +kernel
theorem dX4_init_0 : decode cX4_init 0 = .ok (.aload_n 0, 1) := by decide +kernel
theorem dX4_init_1 : decode cX4_init 1 = .ok (.invokespecial 3, 3) := by decide +kernel
theorem dX4_init_4 : decode cX4_init 4 = .ok (.aload_n 0, 1) := by decide +kernel
theorem dX4_init_5 : decode cX4_init 5 = .ok (.bipush 6, 2) := by decide +kernel
theorem dX4_init_7 : decode cX4_init 7 = .ok (.newarray .int, 2) := by decide +kernel
theorem dX4_init_9 : decode cX4_init 9 = .ok (.putfield 9, 3) := by decide +kernel
theorem dX4_init_12 : decode cX4_init 12 = .ok (.aload_n 0, 1) := by decide +kernel
theorem dX4_init_13 : decode cX4_init 13 = .ok (.bipush 6, 2) := by decide +kernel
theorem dX4_init_15 : decode cX4_init 15 = .ok (.newarray .int, 2) := by decide +kernel
theorem dX4_init_17 : decode cX4_init 17 = .ok (.putfield 15, 3) := by decide +kernel
theorem dX4_init_20 : decode cX4_init 20 = .ok (.return_, 1) := by decide +kernel
theorem dX4_become_0 : decode cX4_become 0 = .ok (.aload_n 1, 1) := by decide +kernel
theorem dX4_become_1 : decode cX4_become 1 = .ok (.ifnonnull 4, 3) := by decide +kernel
theorem dX4_become_4 : decode cX4_become 4 = .ok (.return_, 1) := by decide +kernel
theorem dX4_become_5 : decode cX4_become 5 = .ok (.aload_n 0, 1) := by decide +kernel
theorem dX4_become_6 : decode cX4_become 6 = .ok (.aload_n 1, 1) := by decide +kernel
theorem dX4_become_7 : decode cX4_become 7 = .ok (.getfield 18, 3) := by decide +kernel
theorem dX4_become_10 : decode cX4_become 10 = .ok (.putfield 18, 3) := by decide +kernel
theorem dX4_become_13 : decode cX4_become 13 = .ok (.aload_n 1, 1) := by decide +kernel
end
section
theorem dX4_become_14 : decode cX4_become 14 = .ok (.getfield 9, 3) := by decide +kernel
theorem dX4_become_17 : decode cX4_become 17 = .ok (.iconst 0, 1) := by decide +kernel
theorem dX4_become_18 : decode cX4_become 18 = .ok (.aload_n 0, 1) := by decide +kernel
theorem dX4_become_19 : decode cX4_become 19 = .ok (.getfield 9, 3) := by decide +kernel
theorem dX4_become_22 : decode cX4_become 22 = .ok (.iconst 0, 1) := by decide +kernel
theorem dX4_become_23 : decode cX4_become 23 = .ok (.bipush 6, 2) := by decide +kernel
theorem dX4_become_25 : decode cX4_become 25 = .ok (.invokestatic 22, 3) := by decide +kernel
theorem dX4_become_28 : decode cX4_become 28 = .ok (.aload_n 1, 1) := by decide +kernel
theorem dX4_become_29 : decode cX4_become 29 = .ok (.getfield 15, 3) := by decide +kernel
theorem dX4_become_32 : decode cX4_become 32 = .ok (.iconst 0, 1) := by decide +kernel
theorem dX4_become_33 : decode cX4_become 33 = .ok (.aload_n 0, 1) := by decide +kernel
theorem dX4_become_34 : decode cX4_become 34 = .ok (.getfield 15, 3) := by decide +kernel
theorem dX4_become_37 : decode cX4_become 37 = .ok (.iconst 0, 1) := by decide +kernel
theorem dX4_become_38 : decode cX4_become 38 = .ok (.bipush 6, 2) := by decide +kernel
theorem dX4_become_40 : decode cX4_become 40 = .ok (.invokestatic 22, 3) := by decide +kernel
theorem dX4_become_43 : decode cX4_become 43 = .ok (.return_, 1) := by decide +kernel
theorem dX4_read_0 : decode cX4_read 0 = .ok (.aload_n 1, 1) := by decide +kernel
theorem dX4_read_1 : decode cX4_read 1 = .ok (.ifnonnull 4, 3) := by decide +kernel
theorem dX4_read_4 : decode cX4_read 4 = .ok (.return_, 1) := by decide +kernel
theorem dX4_read_5 : decode cX4_read 5 = .ok (.aload_n 0, 1) := by decide +kernel
theorem dX4_read_6 : decode cX4_read 6 = .ok (.iconst 0, 1) := by decide +kernel
theorem dX4_read_7 : decode cX4_read 7 = .ok (.putfield 18, 3) := by decide +kernel
theorem dX4_read_10 : decode cX4_read 10 = .ok (.iconst 0, 1) := by decide +kernel
theorem dX4_read_11 : decode cX4_read 11 = .ok (.istore_n 2, 1) := by decide +kernel
theorem dX4_read_12 : decode cX4_read 12 = .ok (.iload_n 2, 1) := by decide +kernel
theorem dX4_read_13 : decode cX4_read 13 = .ok (.aload_n 1, 1) := by decide +kernel
theorem dX4_read_14 : decode cX4_read 14 = .ok (.getfield 28, 3) := by decide +kernel
theorem dX4_read_17 : decode cX4_read 17 = .ok (.if_icmp .ge 121, 3) := by decide +kernel
theorem dX4_read_20 : decode cX4_read 20 = .ok (.aload_n 1, 1) := by decide +kernel
theorem dX4_read_21 : decode cX4_read 21 = .ok (.iload_n 2, 1) := by decide +kernel
theorem dX4_read_22 : decode cX4_read 22 = .ok (.invokevirtual 31, 3) := by decide +kernel
theorem dX4_read_25 : decode cX4_read 25 = .ok (.istore_n 3, 1) := by decide +kernel
theorem dX4_read_26 : decode cX4_read 26 = .ok (.aload_n 0, 1) := by decide +kernel
theorem dX4_read_27 : decode cX4_read 27 = .ok (.getfield 18, 3) := by decide +kernel
theorem dX4_read_30 : decode cX4_read 30 = .ok (.iconst 1, 1) := by decide +kernel
theorem dX4_read_31 : decode cX4_read 31 = .ok (.isub, 1) := by decide +kernel
theorem dX4_read_32 : decode cX4_read 32 = .ok (.istore 4, 2) := by decide +kernel
theorem dX4_read_34 : decode cX4_read 34 = .ok (.iload_n 3, 1) := by decide +kernel
theorem dX4_read_35 : decode cX4_read 35 = .ok (.bipush 97, 2) := by decide +kernel
theorem dX4_read_37 : decode cX4_read 37 = .ok (.isub, 1) := by decide +kernel
theorem dX4_read_38 : decode cX4_read 38 = .ok (.bipush 8, 2) := by decide +kernel
theorem dX4_read_40 : decode cX4_read 40 = .ok (.invokestatic 35, 3) := by decide +kernel
theorem dX4_read_43 : decode cX4_read 43 = .ok (.ifCond .eq 51, 3) := by decide +kernel
theorem dX4_read_46 : decode cX4_read 46 = .ok (.aload_n 0, 1) := by decide +kernel
theorem dX4_read_47 : decode cX4_read 47 = .ok (.getfield 18, 3) := by decide +kernel
theorem dX4_read_50 : decode cX4_read 50 = .ok (.bipush 6, 2) := by decide +kernel
theorem dX4_read_52 : decode cX4_read 52 = .ok (.invokestatic 35, 3) := by decide +kernel
theorem dX4_read_55 : decode cX4_read 55 = .ok (.ifCond .eq 39, 3) := by decide +kernel
theorem dX4_read_58 : decode cX4_read 58 = .ok (.aload_n 0, 1) := by decide +kernel
theorem dX4_read_59 : decode cX4_read 59 = .ok (.getfield 9, 3) := by decide +kernel
theorem dX4_read_62 : decode cX4_read 62 = .ok (.aload_n 0, 1) := by decide +kernel
theorem dX4_read_63 : decode cX4_read 63 = .ok (.getfield 18, 3) := by decide +kernel
theorem dX4_read_66 : decode cX4_read 66 = .ok (.iload_n 3, 1) := by decide +kernel
theorem dX4_read_67 : decode cX4_read 67 = .ok (.bipush 97, 2) := by decide +kernel
theorem dX4_read_69 : decode cX4_read 69 = .ok (.isub, 1) := by decide +kernel
theorem dX4_read_70 : decode cX4_read 70 = .ok (.iastore, 1) := by decide +kernel
theorem dX4_read_71 : decode cX4_read 71 = .ok (.aload_n 0, 1) := by decide +kernel
theorem dX4_read_72 : decode cX4_read 72 = .ok (.getfield 15, 3) := by decide +kernel
theorem dX4_read_75 : decode cX4_read 75 = .ok (.aload_n 0, 1) := by decide +kernel
theorem dX4_read_76 : decode cX4_read 76 = .ok (.getfield 18, 3) := by decide +kernel
theorem dX4_read_79 : decode cX4_read 79 = .ok (.iconst 0, 1) := by decide +kernel
theorem dX4_read_80 : decode cX4_read 80 = .ok (.iastore, 1) := by decide +kernel
theorem dX4_read_81 : decode cX4_read 81 = .ok (.aload_n 0, 1) := by decide +kernel
theorem dX4_read_82 : decode cX4_read 82 = .ok (.dup, 1) := by decide +kernel
theorem dX4_read_83 : decode cX4_read 83 = .ok (.getfield 18, 3) := by decide +kernel
theorem dX4_read_86 : decode cX4_read 86 = .ok (.iconst 1, 1) := by decide +kernel
theorem dX4_read_87 : decode cX4_read 87 = .ok (.iadd, 1) := by decide +kernel
theorem dX4_read_88 : decode cX4_read 88 = .ok (.putfield 18, 3) := by decide +kernel
theorem dX4_read_91 : decode cX4_read 91 = .ok (.goto 41, 3) := by decide +kernel
theorem dX4_read_94 : decode cX4_read 94 = .ok (.iload_n 3, 1) := by decide +kernel
theorem dX4_read_95 : decode cX4_read 95 = .ok (.bipush 48, 2) := by decide +kernel
theorem dX4_read_97 : decode cX4_read 97 = .ok (.isub, 1) := by decide +kernel
theorem dX4_read_98 : decode cX4_read 98 = .ok (.bipush 6, 2) := by decide +kernel
theorem dX4_read_100 : decode cX4_read 100 = .ok (.invokestatic 35, 3) := by decide +kernel
theorem dX4_read_103 : decode cX4_read 103 = .ok (.ifCond .eq 29, 3) := by decide +kernel
theorem dX4_read_106 : decode cX4_read 106 = .ok (.iload 4, 2) := by decide +kernel
theorem dX4_read_108 : decode cX4_read 108 = .ok (.bipush 6, 2) := by decide +kernel
theorem dX4_read_110 : decode cX4_read 110 = .ok (.invokestatic 35, 3) := by decide +kernel
theorem dX4_read_113 : decode cX4_read 113 = .ok (.ifCond .eq 19, 3) := by decide +kernel
theorem dX4_read_116 : decode cX4_read 116 = .ok (.aload_n 0, 1) := by decide +kernel
theorem dX4_read_117 : decode cX4_read 117 = .ok (.getfield 15, 3) := by decide +kernel
theorem dX4_read_120 : decode cX4_read 120 = .ok (.iload 4, 2) := by decide +kernel
theorem dX4_read_122 : decode cX4_read 122 = .ok (.dup2, 1) := by decide +kernel
theorem dX4_read_123 : decode cX4_read 123 = .ok (.iaload, 1) := by decide +kernel
theorem dX4_read_124 : decode cX4_read 124 = .ok (.iconst 1, 1) := by decide +kernel
theorem dX4_read_125 : decode cX4_read 125 = .ok (.iload_n 3, 1) := by decide +kernel
theorem dX4_read_126 : decode cX4_read 126 = .ok (.bipush 48, 2) := by decide +kernel
theorem dX4_read_128 : decode cX4_read 128 = .ok (.isub, 1) := by decide +kernel
theorem dX4_read_129 : decode cX4_read 129 = .ok (.ishl, 1) := by decide +kernel
theorem dX4_read_130 : decode cX4_read 130 = .ok (.ior, 1) := by decide +kernel
theorem dX4_read_131 : decode cX4_read 131 = .ok (.iastore, 1) := by decide +kernel
theorem dX4_read_132 : decode cX4_read 132 = .ok (.iinc 2 1, 3) := by decide +kernel
theorem dX4_read_135 : decode cX4_read 135 = .ok (.goto (-123), 3) := by decide +kernel
theorem dX4_read_138 : decode cX4_read 138 = .ok (.return_, 1) := by decide +kernel
theorem dX4_dayOf_0 : decode cX4_dayOf 0 = .ok (.iload_n 1, 1) := by decide +kernel
theorem dX4_dayOf_1 : decode cX4_dayOf 1 = .ok (.bipush 6, 2) := by decide +kernel
theorem dX4_dayOf_3 : decode cX4_dayOf 3 = .ok (.invokestatic 35, 3) := by decide +kernel
theorem dX4_dayOf_6 : decode cX4_dayOf 6 = .ok (.ifCond .eq 12, 3) := by decide +kernel
theorem dX4_dayOf_9 : decode cX4_dayOf 9 = .ok (.aload_n 0, 1) := by decide +kernel
theorem dX4_dayOf_10 : decode cX4_dayOf 10 = .ok (.getfield 9, 3) := by decide +kernel
theorem dX4_dayOf_13 : decode cX4_dayOf 13 = .ok (.iload_n 1, 1) := by decide +kernel
theorem dX4_dayOf_14 : decode cX4_dayOf 14 = .ok (.iaload, 1) := by decide +kernel
theorem dX4_dayOf_15 : decode cX4_dayOf 15 = .ok (.goto 5, 3) := by decide +kernel
theorem dX4_dayOf_18 : decode cX4_dayOf 18 = .ok (.bipush (-6), 2) := by decide +kernel
theorem dX4_dayOf_20 : decode cX4_dayOf 20 = .ok (.ireturn, 1) := by decide +kernel
theorem dX4_peopleOf_0 : decode cX4_peopleOf 0 = .ok (.iload_n 1, 1) := by decide +kernel
theorem dX4_peopleOf_1 : decode cX4_peopleOf 1 = .ok (.bipush 6, 2) := by decide +kernel
theorem dX4_peopleOf_3 : decode cX4_peopleOf 3 = .ok (.invokestatic 35, 3) := by decide +kernel
theorem dX4_peopleOf_6 : decode cX4_peopleOf 6 = .ok (.ifCond .eq 12, 3) := by decide +kernel
theorem dX4_peopleOf_9 : decode cX4_peopleOf 9 = .ok (.aload_n 0, 1) := by decide +kernel
theorem dX4_peopleOf_10 : decode cX4_peopleOf 10 = .ok (.getfield 15, 3) := by decide +kernel
theorem dX4_peopleOf_13 : decode cX4_peopleOf 13 = .ok (.iload_n 1, 1) := by decide +kernel
theorem dX4_peopleOf_14 : decode cX4_peopleOf 14 = .ok (.iaload, 1) := by decide +kernel
theorem dX4_peopleOf_15 : decode cX4_peopleOf 15 = .ok (.goto 4, 3) := by decide +kernel
theorem dX4_peopleOf_18 : decode cX4_peopleOf 18 = .ok (.iconst 0, 1) := by decide +kernel
theorem dX4_peopleOf_19 : decode cX4_peopleOf 19 = .ok (.ireturn, 1) := by decide +kernel
theorem dX5_init_0 : decode cX5_init 0 = .ok (.aload_n 0, 1) := by decide +kernel
theorem dX5_init_1 : decode cX5_init 1 = .ok (.invokespecial 3, 3) := by decide +kernel
theorem dX5_init_4 : decode cX5_init 4 = .ok (.aload_n 0, 1) := by decide +kernel
theorem dX5_init_5 : decode cX5_init 5 = .ok (.bipush 6, 2) := by decide +kernel
theorem dX5_init_7 : decode cX5_init 7 = .ok (.newarray .int, 2) := by decide +kernel
theorem dX5_init_9 : decode cX5_init 9 = .ok (.putfield 9, 3) := by decide +kernel
theorem dX5_init_12 : decode cX5_init 12 = .ok (.aload_n 0, 1) := by decide +kernel
theorem dX5_init_13 : decode cX5_init 13 = .ok (.bipush 6, 2) := by decide +kernel
theorem dX5_init_15 : decode cX5_init 15 = .ok (.newarray .int, 2) := by decide +kernel
theorem dX5_init_17 : decode cX5_init 17 = .ok (.putfield 15, 3) := by decide +kernel
theorem dX5_init_20 : decode cX5_init 20 = .ok (.return_, 1) := by decide +kernel
theorem dX5_become_0 : decode cX5_become 0 = .ok (.aload_n 1, 1) := by decide +kernel
theorem dX5_become_1 : decode cX5_become 1 = .ok (.ifnonnull 4, 3) := by decide +kernel
theorem dX5_become_4 : decode cX5_become 4 = .ok (.return_, 1) := by decide +kernel
theorem dX5_become_5 : decode cX5_become 5 = .ok (.aload_n 0, 1) := by decide +kernel
theorem dX5_become_6 : decode cX5_become 6 = .ok (.aload_n 1, 1) := by decide +kernel
theorem dX5_become_7 : decode cX5_become 7 = .ok (.getfield 18, 3) := by decide +kernel
theorem dX5_become_10 : decode cX5_become 10 = .ok (.putfield 18, 3) := by decide +kernel
theorem dX5_become_13 : decode cX5_become 13 = .ok (.aload_n 1, 1) := by decide +kernel
theorem dX5_become_14 : decode cX5_become 14 = .ok (.getfield 9, 3) := by decide +kernel
theorem dX5_become_17 : decode cX5_become 17 = .ok (.iconst 0, 1) := by decide +kernel
theorem dX5_become_18 : decode cX5_become 18 = .ok (.aload_n 0, 1) := by decide +kernel
theorem dX5_become_19 : decode cX5_become 19 = .ok (.getfield 9, 3) := by decide +kernel
theorem dX5_become_22 : decode cX5_become 22 = .ok (.iconst 0, 1) := by decide +kernel
theorem dX5_become_23 : decode cX5_become 23 = .ok (.bipush 6, 2) := by decide +kernel
theorem dX5_become_25 : decode cX5_become 25 = .ok (.invokestatic 22, 3) := by decide +kernel
theorem dX5_become_28 : decode cX5_become 28 = .ok (.aload_n 1, 1) := by decide +kernel
theorem dX5_become_29 : decode cX5_become 29 = .ok (.getfield 15, 3) := by decide +kernel
theorem dX5_become_32 : decode cX5_become 32 = .ok (.iconst 0, 1) := by decide +kernel
theorem dX5_become_33 : decode cX5_become 33 = .ok (.aload_n 0, 1) := by decide +kernel
theorem dX5_become_34 : decode cX5_become 34 = .ok (.getfield 15, 3) := by decide +kernel
theorem dX5_become_37 : decode cX5_become 37 = .ok (.iconst 0, 1) := by decide +kernel
theorem dX5_become_38 : decode cX5_become 38 = .ok (.bipush 6, 2) := by decide +kernel
theorem dX5_become_40 : decode cX5_become 40 = .ok (.invokestatic 22, 3) := by decide +kernel
theorem dX5_become_43 : decode cX5_become 43 = .ok (.return_, 1) := by decide +kernel
theorem dX5_add_0 : decode cX5_add 0 = .ok (.aload_n 0, 1) := by decide +kernel
theorem dX5_add_1 : decode cX5_add 1 = .ok (.getfield 18, 3) := by decide +kernel
theorem dX5_add_4 : decode cX5_add 4 = .ok (.bipush 6, 2) := by decide +kernel
theorem dX5_add_6 : decode cX5_add 6 = .ok (.invokestatic 28, 3) := by decide +kernel
theorem dX5_add_9 : decode cX5_add 9 = .ok (.ifCond .ne 5, 3) := by decide +kernel
theorem dX5_add_12 : decode cX5_add 12 = .ok (.iconst 0, 1) := by decide +kernel
theorem dX5_add_13 : decode cX5_add 13 = .ok (.ireturn, 1) := by decide +kernel
theorem dX5_add_14 : decode cX5_add 14 = .ok (.aload_n 0, 1) := by decide +kernel
theorem dX5_add_15 : decode cX5_add 15 = .ok (.getfield 9, 3) := by decide +kernel
theorem dX5_add_18 : decode cX5_add 18 = .ok (.aload_n 0, 1) := by decide +kernel
theorem dX5_add_19 : decode cX5_add 19 = .ok (.getfield 18, 3) := by decide +kernel
theorem dX5_add_22 : decode cX5_add 22 = .ok (.iload_n 1, 1) := by decide +kernel
theorem dX5_add_23 : decode cX5_add 23 = .ok (.iastore, 1) := by decide +kernel
theorem dX5_add_24 : decode cX5_add 24 = .ok (.aload_n 0, 1) := by decide +kernel
theorem dX5_add_25 : decode cX5_add 25 = .ok (.getfield 15, 3) := by decide +kernel
theorem dX5_add_28 : decode cX5_add 28 = .ok (.aload_n 0, 1) := by decide +kernel
theorem dX5_add_29 : decode cX5_add 29 = .ok (.getfield 18, 3) := by decide +kernel
theorem dX5_add_32 : decode cX5_add 32 = .ok (.iload_n 2, 1) := by decide +kernel
theorem dX5_add_33 : decode cX5_add 33 = .ok (.iastore, 1) := by decide +kernel
theorem dX5_add_34 : decode cX5_add 34 = .ok (.aload_n 0, 1) := by decide +kernel
theorem dX5_add_35 : decode cX5_add 35 = .ok (.dup, 1) := by decide +kernel
theorem dX5_add_36 : decode cX5_add 36 = .ok (.getfield 18, 3) := by decide +kernel
theorem dX5_add_39 : decode cX5_add 39 = .ok (.iconst 1, 1) := by decide +kernel
theorem dX5_add_40 : decode cX5_add 40 = .ok (.iadd, 1) := by decide +kernel
theorem dX5_add_41 : decode cX5_add 41 = .ok (.putfield 18, 3) := by decide +kernel
theorem dX5_add_44 : decode cX5_add 44 = .ok (.iconst 1, 1) := by decide +kernel
theorem dX5_add_45 : decode cX5_add 45 = .ok (.ireturn, 1) := by decide +kernel
theorem dX5_dateOf_0 : decode cX5_dateOf 0 = .ok (.iload_n 1, 1) := by decide +kernel
theorem dX5_dateOf_1 : decode cX5_dateOf 1 = .ok (.bipush 6, 2) := by decide +kernel
theorem dX5_dateOf_3 : decode cX5_dateOf 3 = .ok (.invokestatic 28, 3) := by decide +kernel
theorem dX5_dateOf_6 : decode cX5_dateOf 6 = .ok (.ifCond .eq 12, 3) := by decide +kernel
theorem dX5_dateOf_9 : decode cX5_dateOf 9 = .ok (.aload_n 0, 1) := by decide +kernel
theorem dX5_dateOf_10 : decode cX5_dateOf 10 = .ok (.getfield 9, 3) := by decide +kernel
theorem dX5_dateOf_13 : decode cX5_dateOf 13 = .ok (.iload_n 1, 1) := by decide +kernel
theorem dX5_dateOf_14 : decode cX5_dateOf 14 = .ok (.iaload, 1) := by decide +kernel
theorem dX5_dateOf_15 : decode cX5_dateOf 15 = .ok (.goto 4, 3) := by decide +kernel
theorem dX5_dateOf_18 : decode cX5_dateOf 18 = .ok (.iconst 0, 1) := by decide +kernel
theorem dX5_dateOf_19 : decode cX5_dateOf 19 = .ok (.ireturn, 1) := by decide +kernel
theorem dX5_wasShut_0 : decode cX5_wasShut 0 = .ok (.iload_n 1, 1) := by decide +kernel
theorem dX5_wasShut_1 : decode cX5_wasShut 1 = .ok (.bipush 6, 2) := by decide +kernel
theorem dX5_wasShut_3 : decode cX5_wasShut 3 = .ok (.invokestatic 28, 3) := by decide +kernel
theorem dX5_wasShut_6 : decode cX5_wasShut 6 = .ok (.ifCond .eq 17, 3) := by decide +kernel
theorem dX5_wasShut_9 : decode cX5_wasShut 9 = .ok (.aload_n 0, 1) := by decide +kernel
theorem dX5_wasShut_10 : decode cX5_wasShut 10 = .ok (.getfield 15, 3) := by decide +kernel
theorem dX5_wasShut_13 : decode cX5_wasShut 13 = .ok (.iload_n 1, 1) := by decide +kernel
theorem dX5_wasShut_14 : decode cX5_wasShut 14 = .ok (.iaload, 1) := by decide +kernel
theorem dX5_wasShut_15 : decode cX5_wasShut 15 = .ok (.iconst 1, 1) := by decide +kernel
theorem dX5_wasShut_16 : decode cX5_wasShut 16 = .ok (.if_icmp .ne 7, 3) := by decide +kernel
theorem dX5_wasShut_19 : decode cX5_wasShut 19 = .ok (.iconst 1, 1) := by decide +kernel
theorem dX5_wasShut_20 : decode cX5_wasShut 20 = .ok (.goto 4, 3) := by decide +kernel
theorem dX5_wasShut_23 : decode cX5_wasShut 23 = .ok (.iconst 0, 1) := by decide +kernel
theorem dX5_wasShut_24 : decode cX5_wasShut 24 = .ok (.ireturn, 1) := by decide +kernel
theorem dX6_init_0 : decode cX6_init 0 = .ok (.aload_n 0, 1) := by decide +kernel
theorem dX6_init_1 : decode cX6_init 1 = .ok (.invokespecial 1, 3) := by decide +kernel
theorem dX6_init_4 : decode cX6_init 4 = .ok (.aload_n 0, 1) := by decide +kernel
theorem dX6_init_5 : decode cX6_init 5 = .ok (.new 7, 3) := by decide +kernel
theorem dX6_init_8 : decode cX6_init 8 = .ok (.dup, 1) := by decide +kernel
theorem dX6_init_9 : decode cX6_init 9 = .ok (.invokespecial 9, 3) := by decide +kernel
theorem dX6_init_12 : decode cX6_init 12 = .ok (.putfield 10, 3) := by decide +kernel
theorem dX6_init_15 : decode cX6_init 15 = .ok (.aload_n 0, 1) := by decide +kernel
theorem dX6_init_16 : decode cX6_init 16 = .ok (.new 16, 3) := by decide +kernel
theorem dX6_init_19 : decode cX6_init 19 = .ok (.dup, 1) := by decide +kernel
theorem dX6_init_20 : decode cX6_init 20 = .ok (.invokespecial 18, 3) := by decide +kernel
theorem dX6_init_23 : decode cX6_init 23 = .ok (.putfield 19, 3) := by decide +kernel
theorem dX6_init_26 : decode cX6_init 26 = .ok (.aload_n 0, 1) := by decide +kernel
theorem dX6_init_27 : decode cX6_init 27 = .ok (.iconst 2, 1) := by decide +kernel
theorem dX6_init_28 : decode cX6_init 28 = .ok (.anewarray 16, 3) := by decide +kernel
theorem dX6_init_31 : decode cX6_init 31 = .ok (.putfield 23, 3) := by decide +kernel
theorem dX6_init_34 : decode cX6_init 34 = .ok (.aload_n 0, 1) := by decide +kernel
theorem dX6_init_35 : decode cX6_init 35 = .ok (.new 27, 3) := by decide +kernel
theorem dX6_init_38 : decode cX6_init 38 = .ok (.dup, 1) := by decide +kernel
theorem dX6_init_39 : decode cX6_init 39 = .ok (.invokespecial 29, 3) := by decide +kernel
theorem dX6_init_42 : decode cX6_init 42 = .ok (.putfield 30, 3) := by decide +kernel
theorem dX6_init_45 : decode cX6_init 45 = .ok (.return_, 1) := by decide +kernel
theorem dX6_say_0 : decode cX6_say 0 = .ok (.iload_n 1, 1) := by decide +kernel
theorem dX6_say_1 : decode cX6_say 1 = .ok (.bipush 33, 2) := by decide +kernel
theorem dX6_say_3 : decode cX6_say 3 = .ok (.if_icmp .lt 9, 3) := by decide +kernel
theorem dX6_say_6 : decode cX6_say 6 = .ok (.iload_n 1, 1) := by decide +kernel
theorem dX6_say_7 : decode cX6_say 7 = .ok (.bipush 126, 2) := by decide +kernel
theorem dX6_say_9 : decode cX6_say 9 = .ok (.if_icmp .le 6, 3) := by decide +kernel
theorem dX6_say_12 : decode cX6_say 12 = .ok (.bipush (-2), 2) := by decide +kernel
theorem dX6_say_14 : decode cX6_say 14 = .ok (.ireturn, 1) := by decide +kernel
theorem dX6_say_15 : decode cX6_say 15 = .ok (.aload_n 0, 1) := by decide +kernel
theorem dX6_say_16 : decode cX6_say 16 = .ok (.getfield 10, 3) := by decide +kernel
theorem dX6_say_19 : decode cX6_say 19 = .ok (.iload_n 1, 1) := by decide +kernel
theorem dX6_say_20 : decode cX6_say 20 = .ok (.invokevirtual 34, 3) := by decide +kernel
theorem dX6_say_23 : decode cX6_say 23 = .ok (.ifCond .eq 13, 3) := by decide +kernel
theorem dX6_say_26 : decode cX6_say 26 = .ok (.aload_n 0, 1) := by decide +kernel
theorem dX6_say_27 : decode cX6_say 27 = .ok (.getfield 10, 3) := by decide +kernel
theorem dX6_say_30 : decode cX6_say 30 = .ok (.getfield 38, 3) := by decide +kernel
theorem dX6_say_33 : decode cX6_say 33 = .ok (.goto 5, 3) := by decide +kernel
theorem dX6_say_36 : decode cX6_say 36 = .ok (.bipush (-4), 2) := by decide +kernel
theorem dX6_say_38 : decode cX6_say 38 = .ok (.ireturn, 1) := by decide +kernel
theorem dX6_wipe_0 : decode cX6_wipe 0 = .ok (.aload_n 0, 1) := by decide +kernel
theorem dX6_wipe_1 : decode cX6_wipe 1 = .ok (.getfield 10, 3) := by decide +kernel
theorem dX6_wipe_4 : decode cX6_wipe 4 = .ok (.getfield 38, 3) := by decide +kernel
theorem dX6_wipe_7 : decode cX6_wipe 7 = .ok (.istore_n 1, 1) := by decide +kernel
theorem dX6_wipe_8 : decode cX6_wipe 8 = .ok (.aload_n 0, 1) := by decide +kernel
theorem dX6_wipe_9 : decode cX6_wipe 9 = .ok (.getfield 10, 3) := by decide +kernel
theorem dX6_wipe_12 : decode cX6_wipe 12 = .ok (.iconst 0, 1) := by decide +kernel
theorem dX6_wipe_13 : decode cX6_wipe 13 = .ok (.putfield 38, 3) := by decide +kernel
theorem dX6_wipe_16 : decode cX6_wipe 16 = .ok (.iload_n 1, 1) := by decide +kernel
theorem dX6_wipe_17 : decode cX6_wipe 17 = .ok (.ireturn, 1) := by decide +kernel
theorem dX6_fault_0 : decode cX6_fault 0 = .ok (.iload_n 1, 1) := by decide +kernel
theorem dX6_fault_1 : decode cX6_fault 1 = .ok (.iconst 2, 1) := by decide +kernel
theorem dX6_fault_2 : decode cX6_fault 2 = .ok (.invokestatic 42, 3) := by decide +kernel
theorem dX6_fault_5 : decode cX6_fault 5 = .ok (.ifCond .ne 6, 3) := by decide +kernel
theorem dX6_fault_8 : decode cX6_fault 8 = .ok (.bipush (-2), 2) := by decide +kernel
theorem dX6_fault_10 : decode cX6_fault 10 = .ok (.ireturn, 1) := by decide +kernel
theorem dX6_fault_11 : decode cX6_fault 11 = .ok (.iload_n 1, 1) := by decide +kernel
theorem dX6_fault_12 : decode cX6_fault 12 = .ok (.ifCond .ne 13, 3) := by decide +kernel
theorem dX6_fault_15 : decode cX6_fault 15 = .ok (.aload_n 0, 1) := by decide +kernel
theorem dX6_fault_16 : decode cX6_fault 16 = .ok (.getfield 10, 3) := by decide +kernel
theorem dX6_fault_19 : decode cX6_fault 19 = .ok (.invokevirtual 46, 3) := by decide +kernel
theorem dX6_fault_22 : decode cX6_fault 22 = .ok (.goto 10, 3) := by decide +kernel
theorem dX6_fault_25 : decode cX6_fault 25 = .ok (.aload_n 0, 1) := by decide +kernel
theorem dX6_fault_26 : decode cX6_fault 26 = .ok (.getfield 10, 3) := by decide +kernel
theorem dX6_fault_29 : decode cX6_fault 29 = .ok (.invokevirtual 50, 3) := by decide +kernel
theorem dX6_fault_32 : decode cX6_fault 32 = .ok (.ireturn, 1) := by decide +kernel
theorem dX6_born_0 : decode cX6_born 0 = .ok (.iload_n 1, 1) := by decide +kernel
theorem dX6_born_1 : decode cX6_born 1 = .ok (.bipush 6, 2) := by decide +kernel
theorem dX6_born_3 : decode cX6_born 3 = .ok (.invokestatic 42, 3) := by decide +kernel
theorem dX6_born_6 : decode cX6_born 6 = .ok (.ifCond .ne 5, 3) := by decide +kernel
theorem dX6_born_9 : decode cX6_born 9 = .ok (.iconst (-1), 1) := by decide +kernel
theorem dX6_born_10 : decode cX6_born 10 = .ok (.ireturn, 1) := by decide +kernel
theorem dX6_born_11 : decode cX6_born 11 = .ok (.iload_n 2, 1) := by decide +kernel
theorem dX6_born_12 : decode cX6_born 12 = .ok (.invokestatic 53, 3) := by decide +kernel
theorem dX6_born_15 : decode cX6_born 15 = .ok (.ifCond .ne 6, 3) := by decide +kernel
theorem dX6_born_18 : decode cX6_born 18 = .ok (.bipush (-2), 2) := by decide +kernel
theorem dX6_born_20 : decode cX6_born 20 = .ok (.ireturn, 1) := by decide +kernel
theorem dX6_born_21 : decode cX6_born 21 = .ok (.aload_n 0, 1) := by decide +kernel
theorem dX6_born_22 : decode cX6_born 22 = .ok (.getfield 10, 3) := by decide +kernel
theorem dX6_born_25 : decode cX6_born 25 = .ok (.invokevirtual 46, 3) := by decide +kernel
theorem dX6_born_28 : decode cX6_born 28 = .ok (.bipush (-6), 2) := by decide +kernel
theorem dX6_born_30 : decode cX6_born 30 = .ok (.if_icmp .eq 6, 3) := by decide +kernel
theorem dX6_born_33 : decode cX6_born 33 = .ok (.bipush (-5), 2) := by decide +kernel
theorem dX6_born_35 : decode cX6_born 35 = .ok (.ireturn, 1) := by decide +kernel
theorem dX6_born_36 : decode cX6_born 36 = .ok (.aload_n 0, 1) := by decide +kernel
theorem dX6_born_37 : decode cX6_born 37 = .ok (.getfield 19, 3) := by decide +kernel
theorem dX6_born_40 : decode cX6_born 40 = .ok (.getfield 56, 3) := by decide +kernel
theorem dX6_born_43 : decode cX6_born 43 = .ok (.iload_n 1, 1) := by decide +kernel
theorem dX6_born_44 : decode cX6_born 44 = .ok (.iload_n 2, 1) := by decide +kernel
theorem dX6_born_45 : decode cX6_born 45 = .ok (.aload_n 0, 1) := by decide +kernel
theorem dX6_born_46 : decode cX6_born 46 = .ok (.getfield 10, 3) := by decide +kernel
theorem dX6_born_49 : decode cX6_born 49 = .ok (.invokevirtual 60, 3) := by decide +kernel
theorem dX6_born_52 : decode cX6_born 52 = .ok (.aload_n 0, 1) := by decide +kernel
theorem dX6_born_53 : decode cX6_born 53 = .ok (.invokevirtual 66, 3) := by decide +kernel
theorem dX6_born_56 : decode cX6_born 56 = .ok (.ireturn, 1) := by decide +kernel
theorem dX6_exile_0 : decode cX6_exile 0 = .ok (.aload_n 0, 1) := by decide +kernel
theorem dX6_exile_1 : decode cX6_exile 1 = .ok (.iload_n 1, 1) := by decide +kernel
theorem dX6_exile_2 : decode cX6_exile 2 = .ok (.invokevirtual 69, 3) := by decide +kernel
theorem dX6_exile_5 : decode cX6_exile 5 = .ok (.ifCond .ne 5, 3) := by decide +kernel
theorem dX6_exile_8 : decode cX6_exile 8 = .ok (.iconst (-1), 1) := by decide +kernel
theorem dX6_exile_9 : decode cX6_exile 9 = .ok (.ireturn, 1) := by decide +kernel
theorem dX6_exile_10 : decode cX6_exile 10 = .ok (.aload_n 0, 1) := by decide +kernel
theorem dX6_exile_11 : decode cX6_exile 11 = .ok (.getfield 19, 3) := by decide +kernel
theorem dX6_exile_14 : decode cX6_exile 14 = .ok (.getfield 56, 3) := by decide +kernel
theorem dX6_exile_17 : decode cX6_exile 17 = .ok (.dup, 1) := by decide +kernel
theorem dX6_exile_18 : decode cX6_exile 18 = .ok (.getfield 72, 3) := by decide +kernel
theorem dX6_exile_21 : decode cX6_exile 21 = .ok (.iconst 1, 1) := by decide +kernel
theorem dX6_exile_22 : decode cX6_exile 22 = .ok (.iload_n 1, 1) := by decide +kernel
theorem dX6_exile_23 : decode cX6_exile 23 = .ok (.ishl, 1) := by decide +kernel
theorem dX6_exile_24 : decode cX6_exile 24 = .ok (.iconst (-1), 1) := by decide +kernel
theorem dX6_exile_25 : decode cX6_exile 25 = .ok (.ixor, 1) := by decide +kernel
theorem dX6_exile_26 : decode cX6_exile 26 = .ok (.iand, 1) := by decide +kernel
theorem dX6_exile_27 : decode cX6_exile 27 = .ok (.putfield 72, 3) := by decide +kernel
theorem dX6_exile_30 : decode cX6_exile 30 = .ok (.aload_n 0, 1) := by decide +kernel
theorem dX6_exile_31 : decode cX6_exile 31 = .ok (.getfield 19, 3) := by decide +kernel
theorem dX6_exile_34 : decode cX6_exile 34 = .ok (.getfield 56, 3) := by decide +kernel
theorem dX6_exile_37 : decode cX6_exile 37 = .ok (.getfield 72, 3) := by decide +kernel
theorem dX6_exile_40 : decode cX6_exile 40 = .ok (.invokestatic 75, 3) := by decide +kernel
theorem dX6_exile_43 : decode cX6_exile 43 = .ok (.ireturn, 1) := by decide +kernel
theorem dX6_plan_0 : decode cX6_plan 0 = .ok (.aload_n 0, 1) := by decide +kernel
theorem dX6_plan_1 : decode cX6_plan 1 = .ok (.getfield 10, 3) := by decide +kernel
theorem dX6_plan_4 : decode cX6_plan 4 = .ok (.invokevirtual 50, 3) := by decide +kernel
theorem dX6_plan_7 : decode cX6_plan 7 = .ok (.bipush (-6), 2) := by decide +kernel
theorem dX6_plan_9 : decode cX6_plan 9 = .ok (.if_icmp .eq 6, 3) := by decide +kernel
theorem dX6_plan_12 : decode cX6_plan 12 = .ok (.bipush (-5), 2) := by decide +kernel
theorem dX6_plan_14 : decode cX6_plan 14 = .ok (.ireturn, 1) := by decide +kernel
theorem dX6_plan_15 : decode cX6_plan 15 = .ok (.aload_n 0, 1) := by decide +kernel
theorem dX6_plan_16 : decode cX6_plan 16 = .ok (.getfield 19, 3) := by decide +kernel
theorem dX6_plan_19 : decode cX6_plan 19 = .ok (.getfield 81, 3) := by decide +kernel
theorem dX6_plan_22 : decode cX6_plan 22 = .ok (.aload_n 0, 1) := by decide +kernel
theorem dX6_plan_23 : decode cX6_plan 23 = .ok (.getfield 10, 3) := by decide +kernel
theorem dX6_plan_26 : decode cX6_plan 26 = .ok (.invokevirtual 85, 3) := by decide +kernel
theorem dX6_plan_29 : decode cX6_plan 29 = .ok (.aload_n 0, 1) := by decide +kernel
theorem dX6_plan_30 : decode cX6_plan 30 = .ok (.invokevirtual 66, 3) := by decide +kernel
theorem dX6_plan_33 : decode cX6_plan 33 = .ok (.pop, 1) := by decide +kernel
theorem dX6_plan_34 : decode cX6_plan 34 = .ok (.aload_n 0, 1) := by decide +kernel
theorem dX6_plan_35 : decode cX6_plan 35 = .ok (.getfield 19, 3) := by decide +kernel
theorem dX6_plan_38 : decode cX6_plan 38 = .ok (.getfield 81, 3) := by decide +kernel
theorem dX6_plan_41 : decode cX6_plan 41 = .ok (.getfield 91, 3) := by decide +kernel
theorem dX6_plan_44 : decode cX6_plan 44 = .ok (.ireturn, 1) := by decide +kernel
theorem dX6_today_0 : decode cX6_today 0 = .ok (.aload_n 0, 1) := by decide +kernel
theorem dX6_today_1 : decode cX6_today 1 = .ok (.iload_n 1, 1) := by decide +kernel
theorem dX6_today_2 : decode cX6_today 2 = .ok (.invokevirtual 69, 3) := by decide +kernel
theorem dX6_today_5 : decode cX6_today 5 = .ok (.ifCond .ne 5, 3) := by decide +kernel
theorem dX6_today_8 : decode cX6_today 8 = .ok (.iconst (-1), 1) := by decide +kernel
theorem dX6_today_9 : decode cX6_today 9 = .ok (.ireturn, 1) := by decide +kernel
theorem dX6_today_10 : decode cX6_today 10 = .ok (.iload_n 2, 1) := by decide +kernel
theorem dX6_today_11 : decode cX6_today 11 = .ok (.invokestatic 92, 3) := by decide +kernel
theorem dX6_today_14 : decode cX6_today 14 = .ok (.ifCond .eq 18, 3) := by decide +kernel
theorem dX6_today_17 : decode cX6_today 17 = .ok (.aload_n 0, 1) := by decide +kernel
theorem dX6_today_18 : decode cX6_today 18 = .ok (.getfield 19, 3) := by decide +kernel
theorem dX6_today_21 : decode cX6_today 21 = .ok (.getfield 56, 3) := by decide +kernel
theorem dX6_today_24 : decode cX6_today 24 = .ok (.iload_n 1, 1) := by decide +kernel
theorem dX6_today_25 : decode cX6_today 25 = .ok (.iload_n 2, 1) := by decide +kernel
theorem dX6_today_26 : decode cX6_today 26 = .ok (.invokevirtual 95, 3) := by decide +kernel
theorem dX6_today_29 : decode cX6_today 29 = .ok (.goto 5, 3) := by decide +kernel
theorem dX6_today_32 : decode cX6_today 32 = .ok (.bipush (-2), 2) := by decide +kernel
theorem dX6_today_34 : decode cX6_today 34 = .ok (.ireturn, 1) := by decide +kernel
theorem dX6_same_0 : decode cX6_same 0 = .ok (.iload_n 1, 1) := by decide +kernel
theorem dX6_same_1 : decode cX6_same 1 = .ok (.bipush 8, 2) := by decide +kernel
theorem dX6_same_3 : decode cX6_same 3 = .ok (.invokestatic 42, 3) := by decide +kernel
theorem dX6_same_6 : decode cX6_same 6 = .ok (.ifCond .ne 5, 3) := by decide +kernel
theorem dX6_same_9 : decode cX6_same 9 = .ok (.iconst (-1), 1) := by decide +kernel
theorem dX6_same_10 : decode cX6_same 10 = .ok (.ireturn, 1) := by decide +kernel
theorem dX6_same_11 : decode cX6_same 11 = .ok (.iload_n 2, 1) := by decide +kernel
theorem dX6_same_12 : decode cX6_same 12 = .ok (.invokestatic 92, 3) := by decide +kernel
theorem dX6_same_15 : decode cX6_same 15 = .ok (.ifCond .eq 18, 3) := by decide +kernel
theorem dX6_same_18 : decode cX6_same 18 = .ok (.aload_n 0, 1) := by decide +kernel
theorem dX6_same_19 : decode cX6_same 19 = .ok (.getfield 19, 3) := by decide +kernel
theorem dX6_same_22 : decode cX6_same 22 = .ok (.getfield 56, 3) := by decide +kernel
theorem dX6_same_25 : decode cX6_same 25 = .ok (.iload_n 1, 1) := by decide +kernel
theorem dX6_same_26 : decode cX6_same 26 = .ok (.iload_n 2, 1) := by decide +kernel
theorem dX6_same_27 : decode cX6_same 27 = .ok (.invokevirtual 99, 3) := by decide +kernel
theorem dX6_same_30 : decode cX6_same 30 = .ok (.goto 5, 3) := by decide +kernel
theorem dX6_same_33 : decode cX6_same 33 = .ok (.bipush (-2), 2) := by decide +kernel
theorem dX6_same_35 : decode cX6_same 35 = .ok (.ireturn, 1) := by decide +kernel
theorem dX6_next_0 : decode cX6_next 0 = .ok (.aload_n 0, 1) := by decide +kernel
theorem dX6_next_1 : decode cX6_next 1 = .ok (.iload_n 1, 1) := by decide +kernel
theorem dX6_next_2 : decode cX6_next 2 = .ok (.invokevirtual 69, 3) := by decide +kernel
theorem dX6_next_5 : decode cX6_next 5 = .ok (.ifCond .eq 12, 3) := by decide +kernel
theorem dX6_next_8 : decode cX6_next 8 = .ok (.iload_n 2, 1) := by decide +kernel
theorem dX6_next_9 : decode cX6_next 9 = .ok (.bipush 8, 2) := by decide +kernel
theorem dX6_next_11 : decode cX6_next 11 = .ok (.invokestatic 42, 3) := by decide +kernel
theorem dX6_next_14 : decode cX6_next 14 = .ok (.ifCond .ne 5, 3) := by decide +kernel
theorem dX6_next_17 : decode cX6_next 17 = .ok (.iconst (-1), 1) := by decide +kernel
theorem dX6_next_18 : decode cX6_next 18 = .ok (.ireturn, 1) := by decide +kernel
theorem dX6_next_19 : decode cX6_next 19 = .ok (.iload_n 3, 1) := by decide +kernel
theorem dX6_next_20 : decode cX6_next 20 = .ok (.invokestatic 92, 3) := by decide +kernel
theorem dX6_next_23 : decode cX6_next 23 = .ok (.ifCond .ne 6, 3) := by decide +kernel
theorem dX6_next_26 : decode cX6_next 26 = .ok (.bipush (-2), 2) := by decide +kernel
theorem dX6_next_28 : decode cX6_next 28 = .ok (.ireturn, 1) := by decide +kernel
theorem dX6_next_29 : decode cX6_next 29 = .ok (.iload_n 3, 1) := by decide +kernel
theorem dX6_next_30 : decode cX6_next 30 = .ok (.istore 4, 2) := by decide +kernel
theorem dX6_next_32 : decode cX6_next 32 = .ok (.iload 4, 2) := by decide +kernel
theorem dX6_next_34 : decode cX6_next 34 = .ok (.sipush 9999, 3) := by decide +kernel
theorem dX6_next_37 : decode cX6_next 37 = .ok (.if_icmp .gt 38, 3) := by decide +kernel
theorem dX6_next_40 : decode cX6_next 40 = .ok (.iload 4, 2) := by decide +kernel
theorem dX6_next_42 : decode cX6_next 42 = .ok (.iload_n 3, 1) := by decide +kernel
theorem dX6_next_43 : decode cX6_next 43 = .ok (.bipush 8, 2) := by decide +kernel
theorem dX6_next_45 : decode cX6_next 45 = .ok (.iadd, 1) := by decide +kernel
theorem dX6_next_46 : decode cX6_next 46 = .ok (.if_icmp .ge 29, 3) := by decide +kernel
theorem dX6_next_49 : decode cX6_next 49 = .ok (.aload_n 0, 1) := by decide +kernel
theorem dX6_next_50 : decode cX6_next 50 = .ok (.getfield 19, 3) := by decide +kernel
theorem dX6_next_53 : decode cX6_next 53 = .ok (.getfield 56, 3) := by decide +kernel
theorem dX6_next_56 : decode cX6_next 56 = .ok (.iload_n 1, 1) := by decide +kernel
theorem dX6_next_57 : decode cX6_next 57 = .ok (.iload 4, 2) := by decide +kernel
theorem dX6_next_59 : decode cX6_next 59 = .ok (.invokevirtual 95, 3) := by decide +kernel
theorem dX6_next_62 : decode cX6_next 62 = .ok (.iload_n 2, 1) := by decide +kernel
theorem dX6_next_63 : decode cX6_next 63 = .ok (.if_icmp .ne 6, 3) := by decide +kernel
theorem dX6_next_66 : decode cX6_next 66 = .ok (.iload 4, 2) := by decide +kernel
theorem dX6_next_68 : decode cX6_next 68 = .ok (.ireturn, 1) := by decide +kernel
theorem dX6_next_69 : decode cX6_next 69 = .ok (.iinc 4 1, 3) := by decide +kernel
theorem dX6_next_72 : decode cX6_next 72 = .ok (.goto (-40), 3) := by decide +kernel
theorem dX6_next_75 : decode cX6_next 75 = .ok (.bipush (-6), 2) := by decide +kernel
theorem dX6_next_77 : decode cX6_next 77 = .ok (.ireturn, 1) := by decide +kernel
theorem dX6_meet_0 : decode cX6_meet 0 = .ok (.aload_n 0, 1) := by decide +kernel
theorem dX6_meet_1 : decode cX6_meet 1 = .ok (.iload_n 1, 1) := by decide +kernel
theorem dX6_meet_2 : decode cX6_meet 2 = .ok (.invokevirtual 102, 3) := by decide +kernel
theorem dX6_meet_5 : decode cX6_meet 5 = .ok (.ifCond .eq 18, 3) := by decide +kernel
theorem dX6_meet_8 : decode cX6_meet 8 = .ok (.iload_n 2, 1) := by decide +kernel
theorem dX6_meet_9 : decode cX6_meet 9 = .ok (.invokestatic 92, 3) := by decide +kernel
theorem dX6_meet_12 : decode cX6_meet 12 = .ok (.ifCond .eq 11, 3) := by decide +kernel
theorem dX6_meet_15 : decode cX6_meet 15 = .ok (.iload_n 3, 1) := by decide +kernel
theorem dX6_meet_16 : decode cX6_meet 16 = .ok (.iconst 2, 1) := by decide +kernel
theorem dX6_meet_17 : decode cX6_meet 17 = .ok (.invokestatic 42, 3) := by decide +kernel
theorem dX6_meet_20 : decode cX6_meet 20 = .ok (.ifCond .ne 6, 3) := by decide +kernel
theorem dX6_meet_23 : decode cX6_meet 23 = .ok (.bipush (-2), 2) := by decide +kernel
theorem dX6_meet_25 : decode cX6_meet 25 = .ok (.ireturn, 1) := by decide +kernel
theorem dX6_meet_26 : decode cX6_meet 26 = .ok (.iload_n 2, 1) := by decide +kernel
theorem dX6_meet_27 : decode cX6_meet 27 = .ok (.istore 4, 2) := by decide +kernel
theorem dX6_meet_29 : decode cX6_meet 29 = .ok (.iload 4, 2) := by decide +kernel
theorem dX6_meet_31 : decode cX6_meet 31 = .ok (.iload_n 2, 1) := by decide +kernel
theorem dX6_meet_32 : decode cX6_meet 32 = .ok (.sipush 840, 3) := by decide +kernel
theorem dX6_meet_35 : decode cX6_meet 35 = .ok (.iadd, 1) := by decide +kernel
theorem dX6_meet_36 : decode cX6_meet 36 = .ok (.if_icmp .ge 43, 3) := by decide +kernel
theorem dX6_meet_39 : decode cX6_meet 39 = .ok (.aload_n 0, 1) := by decide +kernel
theorem dX6_meet_40 : decode cX6_meet 40 = .ok (.getfield 19, 3) := by decide +kernel
theorem dX6_meet_43 : decode cX6_meet 43 = .ok (.getfield 56, 3) := by decide +kernel
theorem dX6_meet_46 : decode cX6_meet 46 = .ok (.iload_n 1, 1) := by decide +kernel
theorem dX6_meet_47 : decode cX6_meet 47 = .ok (.iload 4, 2) := by decide +kernel
theorem dX6_meet_49 : decode cX6_meet 49 = .ok (.invokevirtual 105, 3) := by decide +kernel
theorem dX6_meet_52 : decode cX6_meet 52 = .ok (.istore 5, 2) := by decide +kernel
theorem dX6_meet_54 : decode cX6_meet 54 = .ok (.iload 5, 2) := by decide +kernel
theorem dX6_meet_56 : decode cX6_meet 56 = .ok (.bipush (-6), 2) := by decide +kernel
theorem dX6_meet_58 : decode cX6_meet 58 = .ok (.if_icmp .eq 15, 3) := by decide +kernel
theorem dX6_meet_61 : decode cX6_meet 61 = .ok (.iload_n 3, 1) := by decide +kernel
theorem dX6_meet_62 : decode cX6_meet 62 = .ok (.ifCond .ne 8, 3) := by decide +kernel
theorem dX6_meet_65 : decode cX6_meet 65 = .ok (.iload 4, 2) := by decide +kernel
theorem dX6_meet_67 : decode cX6_meet 67 = .ok (.goto 5, 3) := by decide +kernel
theorem dX6_meet_70 : decode cX6_meet 70 = .ok (.iload 5, 2) := by decide +kernel
theorem dX6_meet_72 : decode cX6_meet 72 = .ok (.ireturn, 1) := by decide +kernel
theorem dX6_meet_73 : decode cX6_meet 73 = .ok (.iinc 4 1, 3) := by decide +kernel
theorem dX6_meet_76 : decode cX6_meet 76 = .ok (.goto (-47), 3) := by decide +kernel
theorem dX6_meet_79 : decode cX6_meet 79 = .ok (.bipush (-6), 2) := by decide +kernel
theorem dX6_meet_81 : decode cX6_meet 81 = .ok (.ireturn, 1) := by decide +kernel
theorem dX6_shared_0 : decode cX6_shared 0 = .ok (.aload_n 0, 1) := by decide +kernel
theorem dX6_shared_1 : decode cX6_shared 1 = .ok (.iload_n 1, 1) := by decide +kernel
theorem dX6_shared_2 : decode cX6_shared 2 = .ok (.iload_n 2, 1) := by decide +kernel
theorem dX6_shared_3 : decode cX6_shared 3 = .ok (.invokevirtual 108, 3) := by decide +kernel
theorem dX6_shared_6 : decode cX6_shared 6 = .ok (.ifCond .ne 5, 3) := by decide +kernel
theorem dX6_shared_9 : decode cX6_shared 9 = .ok (.iconst (-1), 1) := by decide +kernel
theorem dX6_shared_10 : decode cX6_shared 10 = .ok (.ireturn, 1) := by decide +kernel
theorem dX6_shared_11 : decode cX6_shared 11 = .ok (.aload_n 0, 1) := by decide +kernel
theorem dX6_shared_12 : decode cX6_shared 12 = .ok (.getfield 19, 3) := by decide +kernel
theorem dX6_shared_15 : decode cX6_shared 15 = .ok (.getfield 56, 3) := by decide +kernel
theorem dX6_shared_18 : decode cX6_shared 18 = .ok (.iload_n 1, 1) := by decide +kernel
theorem dX6_shared_19 : decode cX6_shared 19 = .ok (.iload_n 2, 1) := by decide +kernel
theorem dX6_shared_20 : decode cX6_shared 20 = .ok (.sipush 840, 3) := by decide +kernel
theorem dX6_shared_23 : decode cX6_shared 23 = .ok (.invokevirtual 111, 3) := by decide +kernel
theorem dX6_shared_26 : decode cX6_shared 26 = .ok (.ireturn, 1) := by decide +kernel
theorem dX6_never_0 : decode cX6_never 0 = .ok (.aload_n 0, 1) := by decide +kernel
theorem dX6_never_1 : decode cX6_never 1 = .ok (.iconst 0, 1) := by decide +kernel
theorem dX6_never_2 : decode cX6_never 2 = .ok (.iload_n 1, 1) := by decide +kernel
theorem dX6_never_3 : decode cX6_never 3 = .ok (.invokevirtual 115, 3) := by decide +kernel
theorem dX6_never_6 : decode cX6_never 6 = .ok (.ireturn, 1) := by decide +kernel
theorem dX6_market_0 : decode cX6_market 0 = .ok (.iload_n 1, 1) := by decide +kernel
theorem dX6_market_1 : decode cX6_market 1 = .ok (.bipush 8, 2) := by decide +kernel
theorem dX6_market_3 : decode cX6_market 3 = .ok (.invokestatic 42, 3) := by decide +kernel
theorem dX6_market_6 : decode cX6_market 6 = .ok (.ifCond .ne 5, 3) := by decide +kernel
theorem dX6_market_9 : decode cX6_market 9 = .ok (.iconst (-1), 1) := by decide +kernel
theorem dX6_market_10 : decode cX6_market 10 = .ok (.ireturn, 1) := by decide +kernel
theorem dX6_market_11 : decode cX6_market 11 = .ok (.iload_n 2, 1) := by decide +kernel
theorem dX6_market_12 : decode cX6_market 12 = .ok (.iconst 1, 1) := by decide +kernel
theorem dX6_market_13 : decode cX6_market 13 = .ok (.if_icmp .lt 17, 3) := by decide +kernel
theorem dX6_market_16 : decode cX6_market 16 = .ok (.iload_n 2, 1) := by decide +kernel
theorem dX6_market_17 : decode cX6_market 17 = .ok (.bipush 6, 2) := by decide +kernel
theorem dX6_market_19 : decode cX6_market 19 = .ok (.if_icmp .gt 11, 3) := by decide +kernel
theorem dX6_market_22 : decode cX6_market 22 = .ok (.iload_n 3, 1) := by decide +kernel
theorem dX6_market_23 : decode cX6_market 23 = .ok (.iconst 3, 1) := by decide +kernel
theorem dX6_market_24 : decode cX6_market 24 = .ok (.invokestatic 42, 3) := by decide +kernel
theorem dX6_market_27 : decode cX6_market 27 = .ok (.ifCond .ne 6, 3) := by decide +kernel
theorem dX6_market_30 : decode cX6_market 30 = .ok (.bipush (-2), 2) := by decide +kernel
theorem dX6_market_32 : decode cX6_market 32 = .ok (.ireturn, 1) := by decide +kernel
theorem dX6_market_33 : decode cX6_market 33 = .ok (.iload_n 3, 1) := by decide +kernel
theorem dX6_market_34 : decode cX6_market 34 = .ok (.ifCond .ne 10, 3) := by decide +kernel
theorem dX6_market_37 : decode cX6_market 37 = .ok (.aload_n 0, 1) := by decide +kernel
theorem dX6_market_38 : decode cX6_market 38 = .ok (.iload_n 1, 1) := by decide +kernel
theorem dX6_market_39 : decode cX6_market 39 = .ok (.iload_n 2, 1) := by decide +kernel
theorem dX6_market_40 : decode cX6_market 40 = .ok (.invokevirtual 119, 3) := by decide +kernel
theorem dX6_market_43 : decode cX6_market 43 = .ok (.ireturn, 1) := by decide +kernel
theorem dX6_market_44 : decode cX6_market 44 = .ok (.iload_n 3, 1) := by decide +kernel
theorem dX6_market_45 : decode cX6_market 45 = .ok (.iconst 1, 1) := by decide +kernel
theorem dX6_market_46 : decode cX6_market 46 = .ok (.if_icmp .ne 12, 3) := by decide +kernel
theorem dX6_market_49 : decode cX6_market 49 = .ok (.aload_n 0, 1) := by decide +kernel
theorem dX6_market_50 : decode cX6_market 50 = .ok (.iload_n 1, 1) := by decide +kernel
theorem dX6_market_51 : decode cX6_market 51 = .ok (.iload_n 2, 1) := by decide +kernel
theorem dX6_market_52 : decode cX6_market 52 = .ok (.invokevirtual 122, 3) := by decide +kernel
theorem dX6_market_55 : decode cX6_market 55 = .ok (.goto 9, 3) := by decide +kernel
theorem dX6_market_58 : decode cX6_market 58 = .ok (.aload_n 0, 1) := by decide +kernel
theorem dX6_market_59 : decode cX6_market 59 = .ok (.iload_n 1, 1) := by decide +kernel
theorem dX6_market_60 : decode cX6_market 60 = .ok (.iload_n 2, 1) := by decide +kernel
theorem dX6_market_61 : decode cX6_market 61 = .ok (.invokevirtual 125, 3) := by decide +kernel
theorem dX6_market_64 : decode cX6_market 64 = .ok (.ireturn, 1) := by decide +kernel
theorem dX6_isMarket_0 : decode cX6_isMarket 0 = .ok (.aload_n 0, 1) := by decide +kernel
theorem dX6_isMarket_1 : decode cX6_isMarket 1 = .ok (.getfield 19, 3) := by decide +kernel
theorem dX6_isMarket_4 : decode cX6_isMarket 4 = .ok (.getfield 56, 3) := by decide +kernel
theorem dX6_isMarket_7 : decode cX6_isMarket 7 = .ok (.iload_n 1, 1) := by decide +kernel
theorem dX6_isMarket_8 : decode cX6_isMarket 8 = .ok (.iload_n 3, 1) := by decide +kernel
theorem dX6_isMarket_9 : decode cX6_isMarket 9 = .ok (.invokevirtual 99, 3) := by decide +kernel
theorem dX6_isMarket_12 : decode cX6_isMarket 12 = .ok (.invokestatic 75, 3) := by decide +kernel
theorem dX6_isMarket_15 : decode cX6_isMarket 15 = .ok (.iload_n 2, 1) := by decide +kernel
theorem dX6_isMarket_16 : decode cX6_isMarket 16 = .ok (.if_icmp .lt 7, 3) := by decide +kernel
theorem dX6_isMarket_19 : decode cX6_isMarket 19 = .ok (.iconst 1, 1) := by decide +kernel
theorem dX6_isMarket_20 : decode cX6_isMarket 20 = .ok (.goto 4, 3) := by decide +kernel
theorem dX6_isMarket_23 : decode cX6_isMarket 23 = .ok (.iconst 0, 1) := by decide +kernel
theorem dX6_isMarket_24 : decode cX6_isMarket 24 = .ok (.ireturn, 1) := by decide +kernel
theorem dX6_countMarkets_0 : decode cX6_countMarkets 0 = .ok (.iconst 0, 1) := by decide +kernel
theorem dX6_countMarkets_1 : decode cX6_countMarkets 1 = .ok (.istore_n 3, 1) := by decide +kernel
theorem dX6_countMarkets_2 : decode cX6_countMarkets 2 = .ok (.iconst 0, 1) := by decide +kernel
theorem dX6_countMarkets_3 : decode cX6_countMarkets 3 = .ok (.istore 4, 2) := by decide +kernel
theorem dX6_countMarkets_5 : decode cX6_countMarkets 5 = .ok (.iload 4, 2) := by decide +kernel
theorem dX6_countMarkets_7 : decode cX6_countMarkets 7 = .ok (.sipush 840, 3) := by decide +kernel
theorem dX6_countMarkets_10 : decode cX6_countMarkets 10 = .ok (.if_icmp .ge 23, 3) := by decide +kernel
theorem dX6_countMarkets_13 : decode cX6_countMarkets 13 = .ok (.aload_n 0, 1) := by decide +kernel
theorem dX6_countMarkets_14 : decode cX6_countMarkets 14 = .ok (.iload_n 1, 1) := by decide +kernel
theorem dX6_countMarkets_15 : decode cX6_countMarkets 15 = .ok (.iload_n 2, 1) := by decide +kernel
theorem dX6_countMarkets_16 : decode cX6_countMarkets 16 = .ok (.iload 4, 2) := by decide +kernel
theorem dX6_countMarkets_18 : decode cX6_countMarkets 18 = .ok (.invokevirtual 128, 3) := by decide +kernel
theorem dX6_countMarkets_21 : decode cX6_countMarkets 21 = .ok (.ifCond .eq 6, 3) := by decide +kernel
theorem dX6_countMarkets_24 : decode cX6_countMarkets 24 = .ok (.iinc 3 1, 3) := by decide +kernel
theorem dX6_countMarkets_27 : decode cX6_countMarkets 27 = .ok (.iinc 4 1, 3) := by decide +kernel
theorem dX6_countMarkets_30 : decode cX6_countMarkets 30 = .ok (.goto (-25), 3) := by decide +kernel
theorem dX6_countMarkets_33 : decode cX6_countMarkets 33 = .ok (.iload_n 3, 1) := by decide +kernel
theorem dX6_countMarkets_34 : decode cX6_countMarkets 34 = .ok (.ireturn, 1) := by decide +kernel
theorem dX6_firstMarket_0 : decode cX6_firstMarket 0 = .ok (.iconst 0, 1) := by decide +kernel
theorem dX6_firstMarket_1 : decode cX6_firstMarket 1 = .ok (.istore_n 3, 1) := by decide +kernel
theorem dX6_firstMarket_2 : decode cX6_firstMarket 2 = .ok (.iload_n 3, 1) := by decide +kernel
theorem dX6_firstMarket_3 : decode cX6_firstMarket 3 = .ok (.sipush 840, 3) := by decide +kernel
theorem dX6_firstMarket_6 : decode cX6_firstMarket 6 = .ok (.if_icmp .ge 21, 3) := by decide +kernel
theorem dX6_firstMarket_9 : decode cX6_firstMarket 9 = .ok (.aload_n 0, 1) := by decide +kernel
theorem dX6_firstMarket_10 : decode cX6_firstMarket 10 = .ok (.iload_n 1, 1) := by decide +kernel
theorem dX6_firstMarket_11 : decode cX6_firstMarket 11 = .ok (.iload_n 2, 1) := by decide +kernel
theorem dX6_firstMarket_12 : decode cX6_firstMarket 12 = .ok (.iload_n 3, 1) := by decide +kernel
theorem dX6_firstMarket_13 : decode cX6_firstMarket 13 = .ok (.invokevirtual 128, 3) := by decide +kernel
theorem dX6_firstMarket_16 : decode cX6_firstMarket 16 = .ok (.ifCond .eq 5, 3) := by decide +kernel
theorem dX6_firstMarket_19 : decode cX6_firstMarket 19 = .ok (.iload_n 3, 1) := by decide +kernel
theorem dX6_firstMarket_20 : decode cX6_firstMarket 20 = .ok (.ireturn, 1) := by decide +kernel
theorem dX6_firstMarket_21 : decode cX6_firstMarket 21 = .ok (.iinc 3 1, 3) := by decide +kernel
theorem dX6_firstMarket_24 : decode cX6_firstMarket 24 = .ok (.goto (-22), 3) := by decide +kernel
theorem dX6_firstMarket_27 : decode cX6_firstMarket 27 = .ok (.bipush (-6), 2) := by decide +kernel
theorem dX6_firstMarket_29 : decode cX6_firstMarket 29 = .ok (.ireturn, 1) := by decide +kernel
theorem dX6_longestWithoutMarket_0 : decode cX6_longestWithoutMarket 0 = .ok (.aload_n 0, 1) := by decide +kernel
theorem dX6_longestWithoutMarket_1 : decode cX6_longestWithoutMarket 1 = .ok (.iload_n 1, 1) := by decide +kernel
theorem dX6_longestWithoutMarket_2 : decode cX6_longestWithoutMarket 2 = .ok (.iload_n 2, 1) := by decide +kernel
theorem dX6_longestWithoutMarket_3 : decode cX6_longestWithoutMarket 3 = .ok (.invokevirtual 122, 3) := by decide +kernel
theorem dX6_longestWithoutMarket_6 : decode cX6_longestWithoutMarket 6 = .ok (.istore_n 3, 1) := by decide +kernel
theorem dX6_longestWithoutMarket_7 : decode cX6_longestWithoutMarket 7 = .ok (.iload_n 3, 1) := by decide +kernel
theorem dX6_longestWithoutMarket_8 : decode cX6_longestWithoutMarket 8 = .ok (.bipush (-6), 2) := by decide +kernel
theorem dX6_longestWithoutMarket_10 : decode cX6_longestWithoutMarket 10 = .ok (.if_icmp .ne 7, 3) := by decide +kernel
theorem dX6_longestWithoutMarket_13 : decode cX6_longestWithoutMarket 13 = .ok (.sipush 840, 3) := by decide +kernel
theorem dX6_longestWithoutMarket_16 : decode cX6_longestWithoutMarket 16 = .ok (.ireturn, 1) := by decide +kernel
theorem dX6_longestWithoutMarket_17 : decode cX6_longestWithoutMarket 17 = .ok (.iconst 0, 1) := by decide +kernel
theorem dX6_longestWithoutMarket_18 : decode cX6_longestWithoutMarket 18 = .ok (.istore 4, 2) := by decide +kernel
theorem dX6_longestWithoutMarket_20 : decode cX6_longestWithoutMarket 20 = .ok (.iconst 0, 1) := by decide +kernel
theorem dX6_longestWithoutMarket_21 : decode cX6_longestWithoutMarket 21 = .ok (.istore 5, 2) := by decide +kernel
theorem dX6_longestWithoutMarket_23 : decode cX6_longestWithoutMarket 23 = .ok (.iload_n 3, 1) := by decide +kernel
theorem dX6_longestWithoutMarket_24 : decode cX6_longestWithoutMarket 24 = .ok (.istore 6, 2) := by decide +kernel
theorem dX6_longestWithoutMarket_26 : decode cX6_longestWithoutMarket 26 = .ok (.iload 6, 2) := by decide +kernel
theorem dX6_longestWithoutMarket_28 : decode cX6_longestWithoutMarket 28 = .ok (.iload_n 3, 1) := by decide +kernel
theorem dX6_longestWithoutMarket_29 : decode cX6_longestWithoutMarket 29 = .ok (.sipush 840, 3) := by decide +kernel
theorem dX6_longestWithoutMarket_32 : decode cX6_longestWithoutMarket 32 = .ok (.iadd, 1) := by decide +kernel
theorem dX6_longestWithoutMarket_33 : decode cX6_longestWithoutMarket 33 = .ok (.if_icmp .gt 39, 3) := by decide +kernel
theorem dX6_longestWithoutMarket_36 : decode cX6_longestWithoutMarket 36 = .ok (.aload_n 0, 1) := by decide +kernel
theorem dX6_longestWithoutMarket_37 : decode cX6_longestWithoutMarket 37 = .ok (.iload_n 1, 1) := by decide +kernel
theorem dX6_longestWithoutMarket_38 : decode cX6_longestWithoutMarket 38 = .ok (.iload_n 2, 1) := by decide +kernel
theorem dX6_longestWithoutMarket_39 : decode cX6_longestWithoutMarket 39 = .ok (.iload 6, 2) := by decide +kernel
theorem dX6_longestWithoutMarket_41 : decode cX6_longestWithoutMarket 41 = .ok (.invokevirtual 128, 3) := by decide +kernel
theorem dX6_longestWithoutMarket_44 : decode cX6_longestWithoutMarket 44 = .ok (.ifCond .eq 7, 3) := by decide +kernel
theorem dX6_longestWithoutMarket_47 : decode cX6_longestWithoutMarket 47 = .ok (.iconst 0, 1) := by decide +kernel
theorem dX6_longestWithoutMarket_48 : decode cX6_longestWithoutMarket 48 = .ok (.goto 7, 3) := by decide +kernel
theorem dX6_longestWithoutMarket_51 : decode cX6_longestWithoutMarket 51 = .ok (.iload 5, 2) := by decide +kernel
theorem dX6_longestWithoutMarket_53 : decode cX6_longestWithoutMarket 53 = .ok (.iconst 1, 1) := by decide +kernel
theorem dX6_longestWithoutMarket_54 : decode cX6_longestWithoutMarket 54 = .ok (.iadd, 1) := by decide +kernel
theorem dX6_longestWithoutMarket_55 : decode cX6_longestWithoutMarket 55 = .ok (.istore 5, 2) := by decide +kernel
theorem dX6_longestWithoutMarket_57 : decode cX6_longestWithoutMarket 57 = .ok (.iload 4, 2) := by decide +kernel
theorem dX6_longestWithoutMarket_59 : decode cX6_longestWithoutMarket 59 = .ok (.iload 5, 2) := by decide +kernel
theorem dX6_longestWithoutMarket_61 : decode cX6_longestWithoutMarket 61 = .ok (.invokestatic 132, 3) := by decide +kernel
theorem dX6_longestWithoutMarket_64 : decode cX6_longestWithoutMarket 64 = .ok (.istore 4, 2) := by decide +kernel
theorem dX6_longestWithoutMarket_66 : decode cX6_longestWithoutMarket 66 = .ok (.iinc 6 1, 3) := by decide +kernel
theorem dX6_longestWithoutMarket_69 : decode cX6_longestWithoutMarket 69 = .ok (.goto (-43), 3) := by decide +kernel
theorem dX6_longestWithoutMarket_72 : decode cX6_longestWithoutMarket 72 = .ok (.iload 4, 2) := by decide +kernel
theorem dX6_longestWithoutMarket_74 : decode cX6_longestWithoutMarket 74 = .ok (.ireturn, 1) := by decide +kernel
theorem dX6_can_0 : decode cX6_can 0 = .ok (.iload_n 1, 1) := by decide +kernel
theorem dX6_can_1 : decode cX6_can 1 = .ok (.aload_n 0, 1) := by decide +kernel
theorem dX6_can_2 : decode cX6_can 2 = .ok (.getfield 19, 3) := by decide +kernel
theorem dX6_can_5 : decode cX6_can 5 = .ok (.getfield 81, 3) := by decide +kernel
theorem dX6_can_8 : decode cX6_can 8 = .ok (.getfield 91, 3) := by decide +kernel
theorem dX6_can_11 : decode cX6_can 11 = .ok (.invokestatic 42, 3) := by decide +kernel
theorem dX6_can_14 : decode cX6_can 14 = .ok (.ifCond .ne 5, 3) := by decide +kernel
theorem dX6_can_17 : decode cX6_can 17 = .ok (.iconst (-1), 1) := by decide +kernel
theorem dX6_can_18 : decode cX6_can 18 = .ok (.ireturn, 1) := by decide +kernel
theorem dX6_can_19 : decode cX6_can 19 = .ok (.iload_n 2, 1) := by decide +kernel
theorem dX6_can_20 : decode cX6_can 20 = .ok (.invokestatic 92, 3) := by decide +kernel
theorem dX6_can_23 : decode cX6_can 23 = .ok (.ifCond .ne 6, 3) := by decide +kernel
theorem dX6_can_26 : decode cX6_can 26 = .ok (.bipush (-2), 2) := by decide +kernel
theorem dX6_can_28 : decode cX6_can 28 = .ok (.ireturn, 1) := by decide +kernel
theorem dX6_can_29 : decode cX6_can 29 = .ok (.aload_n 0, 1) := by decide +kernel
theorem dX6_can_30 : decode cX6_can 30 = .ok (.getfield 19, 3) := by decide +kernel
theorem dX6_can_33 : decode cX6_can 33 = .ok (.iload_n 1, 1) := by decide +kernel
theorem dX6_can_34 : decode cX6_can 34 = .ok (.iload_n 2, 1) := by decide +kernel
theorem dX6_can_35 : decode cX6_can 35 = .ok (.invokevirtual 137, 3) := by decide +kernel
theorem dX6_can_38 : decode cX6_can 38 = .ok (.ifCond .eq 7, 3) := by decide +kernel
theorem dX6_can_41 : decode cX6_can 41 = .ok (.iconst 1, 1) := by decide +kernel
theorem dX6_can_42 : decode cX6_can 42 = .ok (.goto 4, 3) := by decide +kernel
theorem dX6_can_45 : decode cX6_can 45 = .ok (.iconst 0, 1) := by decide +kernel
theorem dX6_can_46 : decode cX6_can 46 = .ok (.ireturn, 1) := by decide +kernel
theorem dX6_month_0 : decode cX6_month 0 = .ok (.iload_n 2, 1) := by decide +kernel
theorem dX6_month_1 : decode cX6_month 1 = .ok (.iconst (-1), 1) := by decide +kernel
theorem dX6_month_2 : decode cX6_month 2 = .ok (.if_icmp .eq 22, 3) := by decide +kernel
theorem dX6_month_5 : decode cX6_month 5 = .ok (.iload_n 2, 1) := by decide +kernel
theorem dX6_month_6 : decode cX6_month 6 = .ok (.aload_n 0, 1) := by decide +kernel
theorem dX6_month_7 : decode cX6_month 7 = .ok (.getfield 19, 3) := by decide +kernel
theorem dX6_month_10 : decode cX6_month 10 = .ok (.getfield 81, 3) := by decide +kernel
theorem dX6_month_13 : decode cX6_month 13 = .ok (.getfield 91, 3) := by decide +kernel
theorem dX6_month_16 : decode cX6_month 16 = .ok (.invokestatic 42, 3) := by decide +kernel
theorem dX6_month_19 : decode cX6_month 19 = .ok (.ifCond .ne 5, 3) := by decide +kernel
theorem dX6_month_22 : decode cX6_month 22 = .ok (.iconst (-1), 1) := by decide +kernel
theorem dX6_month_23 : decode cX6_month 23 = .ok (.ireturn, 1) := by decide +kernel
theorem dX6_month_24 : decode cX6_month 24 = .ok (.iload_n 1, 1) := by decide +kernel
theorem dX6_month_25 : decode cX6_month 25 = .ok (.ifCond .lt 10, 3) := by decide +kernel
theorem dX6_month_28 : decode cX6_month 28 = .ok (.iload_n 1, 1) := by decide +kernel
theorem dX6_month_29 : decode cX6_month 29 = .ok (.sipush 9970, 3) := by decide +kernel
theorem dX6_month_32 : decode cX6_month 32 = .ok (.if_icmp .le 6, 3) := by decide +kernel
theorem dX6_month_35 : decode cX6_month 35 = .ok (.bipush (-2), 2) := by decide +kernel
theorem dX6_month_37 : decode cX6_month 37 = .ok (.ireturn, 1) := by decide +kernel
theorem dX6_month_38 : decode cX6_month 38 = .ok (.aload_n 0, 1) := by decide +kernel
theorem dX6_month_39 : decode cX6_month 39 = .ok (.getfield 30, 3) := by decide +kernel
theorem dX6_month_42 : decode cX6_month 42 = .ok (.aload_n 0, 1) := by decide +kernel
theorem dX6_month_43 : decode cX6_month 43 = .ok (.getfield 19, 3) := by decide +kernel
theorem dX6_month_46 : decode cX6_month 46 = .ok (.iload_n 1, 1) := by decide +kernel
theorem dX6_month_47 : decode cX6_month 47 = .ok (.invokevirtual 140, 3) := by decide +kernel
theorem dX6_month_50 : decode cX6_month 50 = .ok (.iload_n 2, 1) := by decide +kernel
theorem dX6_month_51 : decode cX6_month 51 = .ok (.iconst (-1), 1) := by decide +kernel
theorem dX6_month_52 : decode cX6_month 52 = .ok (.if_icmp .ne 13, 3) := by decide +kernel
theorem dX6_month_55 : decode cX6_month 55 = .ok (.aload_n 0, 1) := by decide +kernel
theorem dX6_month_56 : decode cX6_month 56 = .ok (.getfield 30, 3) := by decide +kernel
theorem dX6_month_59 : decode cX6_month 59 = .ok (.getfield 143, 3) := by decide +kernel
theorem dX6_month_62 : decode cX6_month 62 = .ok (.goto 11, 3) := by decide +kernel
theorem dX6_month_65 : decode cX6_month 65 = .ok (.aload_n 0, 1) := by decide +kernel
theorem dX6_month_66 : decode cX6_month 66 = .ok (.getfield 30, 3) := by decide +kernel
theorem dX6_month_69 : decode cX6_month 69 = .ok (.iload_n 2, 1) := by decide +kernel
theorem dX6_month_70 : decode cX6_month 70 = .ok (.invokevirtual 146, 3) := by decide +kernel
theorem dX6_month_73 : decode cX6_month 73 = .ok (.ireturn, 1) := by decide +kernel
theorem dX6_barred_0 : decode cX6_barred 0 = .ok (.iconst 0, 1) := by decide +kernel
theorem dX6_barred_1 : decode cX6_barred 1 = .ok (.istore_n 1, 1) := by decide +kernel
theorem dX6_barred_2 : decode cX6_barred 2 = .ok (.iconst 0, 1) := by decide +kernel
theorem dX6_barred_3 : decode cX6_barred 3 = .ok (.istore_n 2, 1) := by decide +kernel
theorem dX6_barred_4 : decode cX6_barred 4 = .ok (.iload_n 2, 1) := by decide +kernel
theorem dX6_barred_5 : decode cX6_barred 5 = .ok (.aload_n 0, 1) := by decide +kernel
theorem dX6_barred_6 : decode cX6_barred 6 = .ok (.getfield 19, 3) := by decide +kernel
theorem dX6_barred_9 : decode cX6_barred 9 = .ok (.getfield 81, 3) := by decide +kernel
theorem dX6_barred_12 : decode cX6_barred 12 = .ok (.getfield 91, 3) := by decide +kernel
theorem dX6_barred_15 : decode cX6_barred 15 = .ok (.if_icmp .ge 26, 3) := by decide +kernel
theorem dX6_barred_18 : decode cX6_barred 18 = .ok (.aload_n 0, 1) := by decide +kernel
theorem dX6_barred_19 : decode cX6_barred 19 = .ok (.getfield 19, 3) := by decide +kernel
theorem dX6_barred_22 : decode cX6_barred 22 = .ok (.iload_n 2, 1) := by decide +kernel
theorem dX6_barred_23 : decode cX6_barred 23 = .ok (.invokevirtual 149, 3) := by decide +kernel
theorem dX6_barred_26 : decode cX6_barred 26 = .ok (.ifCond .eq 9, 3) := by decide +kernel
theorem dX6_barred_29 : decode cX6_barred 29 = .ok (.iload_n 1, 1) := by decide +kernel
theorem dX6_barred_30 : decode cX6_barred 30 = .ok (.iconst 1, 1) := by decide +kernel
theorem dX6_barred_31 : decode cX6_barred 31 = .ok (.iload_n 2, 1) := by decide +kernel
theorem dX6_barred_32 : decode cX6_barred 32 = .ok (.ishl, 1) := by decide +kernel
theorem dX6_barred_33 : decode cX6_barred 33 = .ok (.ior, 1) := by decide +kernel
theorem dX6_barred_34 : decode cX6_barred 34 = .ok (.istore_n 1, 1) := by decide +kernel
theorem dX6_barred_35 : decode cX6_barred 35 = .ok (.iinc 2 1, 3) := by decide +kernel
theorem dX6_barred_38 : decode cX6_barred 38 = .ok (.goto (-34), 3) := by decide +kernel
theorem dX6_barred_41 : decode cX6_barred 41 = .ok (.iload_n 1, 1) := by decide +kernel
theorem dX6_barred_42 : decode cX6_barred 42 = .ok (.ireturn, 1) := by decide +kernel
theorem dX6_why_0 : decode cX6_why 0 = .ok (.iload_n 1, 1) := by decide +kernel
theorem dX6_why_1 : decode cX6_why 1 = .ok (.aload_n 0, 1) := by decide +kernel
theorem dX6_why_2 : decode cX6_why 2 = .ok (.getfield 19, 3) := by decide +kernel
theorem dX6_why_5 : decode cX6_why 5 = .ok (.getfield 81, 3) := by decide +kernel
theorem dX6_why_8 : decode cX6_why 8 = .ok (.getfield 91, 3) := by decide +kernel
theorem dX6_why_11 : decode cX6_why 11 = .ok (.invokestatic 42, 3) := by decide +kernel
theorem dX6_why_14 : decode cX6_why 14 = .ok (.ifCond .ne 5, 3) := by decide +kernel
theorem dX6_why_17 : decode cX6_why 17 = .ok (.iconst (-1), 1) := by decide +kernel
theorem dX6_why_18 : decode cX6_why 18 = .ok (.ireturn, 1) := by decide +kernel
theorem dX6_why_19 : decode cX6_why 19 = .ok (.aload_n 0, 1) := by decide +kernel
theorem dX6_why_20 : decode cX6_why 20 = .ok (.getfield 19, 3) := by decide +kernel
theorem dX6_why_23 : decode cX6_why 23 = .ok (.iload_n 1, 1) := by decide +kernel
theorem dX6_why_24 : decode cX6_why 24 = .ok (.invokevirtual 149, 3) := by decide +kernel
theorem dX6_why_27 : decode cX6_why 27 = .ok (.ifCond .ne 6, 3) := by decide +kernel
theorem dX6_why_30 : decode cX6_why 30 = .ok (.bipush (-5), 2) := by decide +kernel
theorem dX6_why_32 : decode cX6_why 32 = .ok (.ireturn, 1) := by decide +kernel
theorem dX6_why_33 : decode cX6_why 33 = .ok (.aload_n 0, 1) := by decide +kernel
theorem dX6_why_34 : decode cX6_why 34 = .ok (.getfield 19, 3) := by decide +kernel
theorem dX6_why_37 : decode cX6_why 37 = .ok (.getfield 81, 3) := by decide +kernel
theorem dX6_why_40 : decode cX6_why 40 = .ok (.iload_n 1, 1) := by decide +kernel
theorem dX6_why_41 : decode cX6_why 41 = .ok (.invokevirtual 152, 3) := by decide +kernel
theorem dX6_why_44 : decode cX6_why 44 = .ok (.istore_n 2, 1) := by decide +kernel
theorem dX6_why_45 : decode cX6_why 45 = .ok (.iload_n 2, 1) := by decide +kernel
theorem dX6_why_46 : decode cX6_why 46 = .ok (.aload_n 0, 1) := by decide +kernel
theorem dX6_why_47 : decode cX6_why 47 = .ok (.getfield 19, 3) := by decide +kernel
theorem dX6_why_50 : decode cX6_why 50 = .ok (.getfield 56, 3) := by decide +kernel
theorem dX6_why_53 : decode cX6_why 53 = .ok (.getfield 72, 3) := by decide +kernel
theorem dX6_why_56 : decode cX6_why 56 = .ok (.iconst (-1), 1) := by decide +kernel
theorem dX6_why_57 : decode cX6_why 57 = .ok (.ixor, 1) := by decide +kernel
theorem dX6_why_58 : decode cX6_why 58 = .ok (.iand, 1) := by decide +kernel
theorem dX6_why_59 : decode cX6_why 59 = .ok (.ifCond .eq 6, 3) := by decide +kernel
theorem dX6_why_62 : decode cX6_why 62 = .ok (.bipush (-3), 2) := by decide +kernel
theorem dX6_why_64 : decode cX6_why 64 = .ok (.ireturn, 1) := by decide +kernel
theorem dX6_why_65 : decode cX6_why 65 = .ok (.aload_n 0, 1) := by decide +kernel
theorem dX6_why_66 : decode cX6_why 66 = .ok (.getfield 19, 3) := by decide +kernel
theorem dX6_why_69 : decode cX6_why 69 = .ok (.getfield 56, 3) := by decide +kernel
theorem dX6_why_72 : decode cX6_why 72 = .ok (.iload_n 2, 1) := by decide +kernel
theorem dX6_why_73 : decode cX6_why 73 = .ok (.aload_n 0, 1) := by decide +kernel
theorem dX6_why_74 : decode cX6_why 74 = .ok (.getfield 19, 3) := by decide +kernel
theorem dX6_why_77 : decode cX6_why 77 = .ok (.getfield 81, 3) := by decide +kernel
theorem dX6_why_80 : decode cX6_why 80 = .ok (.iload_n 1, 1) := by decide +kernel
theorem dX6_why_81 : decode cX6_why 81 = .ok (.invokevirtual 155, 3) := by decide +kernel
theorem dX6_why_84 : decode cX6_why 84 = .ok (.invokevirtual 158, 3) := by decide +kernel
theorem dX6_why_87 : decode cX6_why 87 = .ok (.ireturn, 1) := by decide +kernel
theorem dX6_common_0 : decode cX6_common 0 = .ok (.aload_n 0, 1) := by decide +kernel
theorem dX6_common_1 : decode cX6_common 1 = .ok (.iload_n 1, 1) := by decide +kernel
theorem dX6_common_2 : decode cX6_common 2 = .ok (.invokevirtual 102, 3) := by decide +kernel
theorem dX6_common_5 : decode cX6_common 5 = .ok (.ifCond .eq 22, 3) := by decide +kernel
theorem dX6_common_8 : decode cX6_common 8 = .ok (.iload_n 2, 1) := by decide +kernel
theorem dX6_common_9 : decode cX6_common 9 = .ok (.ifCond .lt 18, 3) := by decide +kernel
theorem dX6_common_12 : decode cX6_common 12 = .ok (.iload_n 2, 1) := by decide +kernel
theorem dX6_common_13 : decode cX6_common 13 = .ok (.sipush 9990, 3) := by decide +kernel
theorem dX6_common_16 : decode cX6_common 16 = .ok (.if_icmp .gt 11, 3) := by decide +kernel
theorem dX6_common_19 : decode cX6_common 19 = .ok (.iload_n 3, 1) := by decide +kernel
theorem dX6_common_20 : decode cX6_common 20 = .ok (.iconst 2, 1) := by decide +kernel
theorem dX6_common_21 : decode cX6_common 21 = .ok (.invokestatic 42, 3) := by decide +kernel
theorem dX6_common_24 : decode cX6_common 24 = .ok (.ifCond .ne 6, 3) := by decide +kernel
theorem dX6_common_27 : decode cX6_common 27 = .ok (.bipush (-2), 2) := by decide +kernel
theorem dX6_common_29 : decode cX6_common 29 = .ok (.ireturn, 1) := by decide +kernel
theorem dX6_common_30 : decode cX6_common 30 = .ok (.bipush 7, 2) := by decide +kernel
theorem dX6_common_32 : decode cX6_common 32 = .ok (.istore 4, 2) := by decide +kernel
theorem dX6_common_34 : decode cX6_common 34 = .ok (.bipush (-6), 2) := by decide +kernel
theorem dX6_common_36 : decode cX6_common 36 = .ok (.istore 5, 2) := by decide +kernel
theorem dX6_common_38 : decode cX6_common 38 = .ok (.iconst 0, 1) := by decide +kernel
theorem dX6_common_39 : decode cX6_common 39 = .ok (.istore 6, 2) := by decide +kernel
theorem dX6_common_41 : decode cX6_common 41 = .ok (.iload 6, 2) := by decide +kernel
theorem dX6_common_43 : decode cX6_common 43 = .ok (.bipush 7, 2) := by decide +kernel
theorem dX6_common_45 : decode cX6_common 45 = .ok (.if_icmp .ge 80, 3) := by decide +kernel
theorem dX6_common_48 : decode cX6_common 48 = .ok (.iconst 0, 1) := by decide +kernel
theorem dX6_common_49 : decode cX6_common 49 = .ok (.istore 7, 2) := by decide +kernel
theorem dX6_common_51 : decode cX6_common 51 = .ok (.iload 7, 2) := by decide +kernel
theorem dX6_common_53 : decode cX6_common 53 = .ok (.bipush 8, 2) := by decide +kernel
theorem dX6_common_55 : decode cX6_common 55 = .ok (.if_icmp .ge 64, 3) := by decide +kernel
theorem dX6_common_58 : decode cX6_common 58 = .ok (.aload_n 0, 1) := by decide +kernel
theorem dX6_common_59 : decode cX6_common 59 = .ok (.getfield 19, 3) := by decide +kernel
theorem dX6_common_62 : decode cX6_common 62 = .ok (.getfield 56, 3) := by decide +kernel
theorem dX6_common_65 : decode cX6_common 65 = .ok (.iload 7, 2) := by decide +kernel
theorem dX6_common_67 : decode cX6_common 67 = .ok (.iload_n 2, 1) := by decide +kernel
theorem dX6_common_68 : decode cX6_common 68 = .ok (.iload 6, 2) := by decide +kernel
theorem dX6_common_70 : decode cX6_common 70 = .ok (.iadd, 1) := by decide +kernel
theorem dX6_common_71 : decode cX6_common 71 = .ok (.invokevirtual 99, 3) := by decide +kernel
theorem dX6_common_74 : decode cX6_common 74 = .ok (.istore 8, 2) := by decide +kernel
theorem dX6_common_76 : decode cX6_common 76 = .ok (.iload_n 1, 1) := by decide +kernel
theorem dX6_common_77 : decode cX6_common 77 = .ok (.iload 8, 2) := by decide +kernel
theorem dX6_common_79 : decode cX6_common 79 = .ok (.iconst (-1), 1) := by decide +kernel
theorem dX6_common_80 : decode cX6_common 80 = .ok (.ixor, 1) := by decide +kernel
theorem dX6_common_81 : decode cX6_common 81 = .ok (.iand, 1) := by decide +kernel
theorem dX6_common_82 : decode cX6_common 82 = .ok (.invokestatic 75, 3) := by decide +kernel
theorem dX6_common_85 : decode cX6_common 85 = .ok (.istore 9, 2) := by decide +kernel
theorem dX6_common_87 : decode cX6_common 87 = .ok (.iload 8, 2) := by decide +kernel
theorem dX6_common_89 : decode cX6_common 89 = .ok (.ifCond .eq 24, 3) := by decide +kernel
theorem dX6_common_92 : decode cX6_common 92 = .ok (.iload 9, 2) := by decide +kernel
theorem dX6_common_94 : decode cX6_common 94 = .ok (.iload 4, 2) := by decide +kernel
theorem dX6_common_96 : decode cX6_common 96 = .ok (.if_icmp .ge 17, 3) := by decide +kernel
theorem dX6_common_99 : decode cX6_common 99 = .ok (.iload 9, 2) := by decide +kernel
theorem dX6_common_101 : decode cX6_common 101 = .ok (.istore 4, 2) := by decide +kernel
theorem dX6_common_103 : decode cX6_common 103 = .ok (.bipush 100, 2) := by decide +kernel
theorem dX6_common_105 : decode cX6_common 105 = .ok (.iload 6, 2) := by decide +kernel
theorem dX6_common_107 : decode cX6_common 107 = .ok (.imul, 1) := by decide +kernel
theorem dX6_common_108 : decode cX6_common 108 = .ok (.iload 7, 2) := by decide +kernel
theorem dX6_common_110 : decode cX6_common 110 = .ok (.iadd, 1) := by decide +kernel
theorem dX6_common_111 : decode cX6_common 111 = .ok (.istore 5, 2) := by decide +kernel
theorem dX6_common_113 : decode cX6_common 113 = .ok (.iinc 7 1, 3) := by decide +kernel
theorem dX6_common_116 : decode cX6_common 116 = .ok (.goto (-65), 3) := by decide +kernel
theorem dX6_common_119 : decode cX6_common 119 = .ok (.iinc 6 1, 3) := by decide +kernel
theorem dX6_common_122 : decode cX6_common 122 = .ok (.goto (-81), 3) := by decide +kernel
theorem dX6_common_125 : decode cX6_common 125 = .ok (.iload_n 3, 1) := by decide +kernel
theorem dX6_common_126 : decode cX6_common 126 = .ok (.ifCond .ne 8, 3) := by decide +kernel
theorem dX6_common_129 : decode cX6_common 129 = .ok (.iload 4, 2) := by decide +kernel
theorem dX6_common_131 : decode cX6_common 131 = .ok (.goto 5, 3) := by decide +kernel
theorem dX6_common_134 : decode cX6_common 134 = .ok (.iload 5, 2) := by decide +kernel
theorem dX6_common_136 : decode cX6_common 136 = .ok (.ireturn, 1) := by decide +kernel
theorem dX6_wedding_0 : decode cX6_wedding 0 = .ok (.aload_n 0, 1) := by decide +kernel
theorem dX6_wedding_1 : decode cX6_wedding 1 = .ok (.iload_n 1, 1) := by decide +kernel
theorem dX6_wedding_2 : decode cX6_wedding 2 = .ok (.iload_n 2, 1) := by decide +kernel
theorem dX6_wedding_3 : decode cX6_wedding 3 = .ok (.invokevirtual 108, 3) := by decide +kernel
theorem dX6_wedding_6 : decode cX6_wedding 6 = .ok (.ifCond .ne 5, 3) := by decide +kernel
theorem dX6_wedding_9 : decode cX6_wedding 9 = .ok (.iconst (-1), 1) := by decide +kernel
theorem dX6_wedding_10 : decode cX6_wedding 10 = .ok (.ireturn, 1) := by decide +kernel
theorem dX6_wedding_11 : decode cX6_wedding 11 = .ok (.iload_n 3, 1) := by decide +kernel
theorem dX6_wedding_12 : decode cX6_wedding 12 = .ok (.iconst 2, 1) := by decide +kernel
theorem dX6_wedding_13 : decode cX6_wedding 13 = .ok (.invokestatic 42, 3) := by decide +kernel
theorem dX6_wedding_16 : decode cX6_wedding 16 = .ok (.ifCond .ne 6, 3) := by decide +kernel
theorem dX6_wedding_19 : decode cX6_wedding 19 = .ok (.bipush (-2), 2) := by decide +kernel
theorem dX6_wedding_21 : decode cX6_wedding 21 = .ok (.ireturn, 1) := by decide +kernel
theorem dX6_wedding_22 : decode cX6_wedding 22 = .ok (.bipush (-6), 2) := by decide +kernel
theorem dX6_wedding_24 : decode cX6_wedding 24 = .ok (.istore 4, 2) := by decide +kernel
theorem dX6_wedding_26 : decode cX6_wedding 26 = .ok (.bipush (-6), 2) := by decide +kernel
theorem dX6_wedding_28 : decode cX6_wedding 28 = .ok (.istore 5, 2) := by decide +kernel
theorem dX6_wedding_30 : decode cX6_wedding 30 = .ok (.iconst 0, 1) := by decide +kernel
theorem dX6_wedding_31 : decode cX6_wedding 31 = .ok (.istore 6, 2) := by decide +kernel
theorem dX6_wedding_33 : decode cX6_wedding 33 = .ok (.iload 6, 2) := by decide +kernel
theorem dX6_wedding_35 : decode cX6_wedding 35 = .ok (.bipush 16, 2) := by decide +kernel
theorem dX6_wedding_37 : decode cX6_wedding 37 = .ok (.if_icmp .ge 48, 3) := by decide +kernel
theorem dX6_wedding_40 : decode cX6_wedding 40 = .ok (.aload_n 0, 1) := by decide +kernel
theorem dX6_wedding_41 : decode cX6_wedding 41 = .ok (.iload_n 1, 1) := by decide +kernel
theorem dX6_wedding_42 : decode cX6_wedding 42 = .ok (.iload_n 2, 1) := by decide +kernel
theorem dX6_wedding_43 : decode cX6_wedding 43 = .ok (.iload 6, 2) := by decide +kernel
theorem dX6_wedding_45 : decode cX6_wedding 45 = .ok (.invokevirtual 161, 3) := by decide +kernel
theorem dX6_wedding_48 : decode cX6_wedding 48 = .ok (.istore 7, 2) := by decide +kernel
theorem dX6_wedding_50 : decode cX6_wedding 50 = .ok (.iload 7, 2) := by decide +kernel
theorem dX6_wedding_52 : decode cX6_wedding 52 = .ok (.bipush (-6), 2) := by decide +kernel
theorem dX6_wedding_54 : decode cX6_wedding 54 = .ok (.if_icmp .eq 25, 3) := by decide +kernel
theorem dX6_wedding_57 : decode cX6_wedding 57 = .ok (.iload 4, 2) := by decide +kernel
theorem dX6_wedding_59 : decode cX6_wedding 59 = .ok (.bipush (-6), 2) := by decide +kernel
theorem dX6_wedding_61 : decode cX6_wedding 61 = .ok (.if_icmp .eq 10, 3) := by decide +kernel
theorem dX6_wedding_64 : decode cX6_wedding 64 = .ok (.iload 7, 2) := by decide +kernel
theorem dX6_wedding_66 : decode cX6_wedding 66 = .ok (.iload 4, 2) := by decide +kernel
theorem dX6_wedding_68 : decode cX6_wedding 68 = .ok (.if_icmp .ge 11, 3) := by decide +kernel
theorem dX6_wedding_71 : decode cX6_wedding 71 = .ok (.iload 7, 2) := by decide +kernel
theorem dX6_wedding_73 : decode cX6_wedding 73 = .ok (.istore 4, 2) := by decide +kernel
theorem dX6_wedding_75 : decode cX6_wedding 75 = .ok (.iload 6, 2) := by decide +kernel
theorem dX6_wedding_77 : decode cX6_wedding 77 = .ok (.istore 5, 2) := by decide +kernel
theorem dX6_wedding_79 : decode cX6_wedding 79 = .ok (.iinc 6 1, 3) := by decide +kernel
theorem dX6_wedding_82 : decode cX6_wedding 82 = .ok (.goto (-49), 3) := by decide +kernel
theorem dX6_wedding_85 : decode cX6_wedding 85 = .ok (.iload_n 3, 1) := by decide +kernel
theorem dX6_wedding_86 : decode cX6_wedding 86 = .ok (.ifCond .ne 8, 3) := by decide +kernel
theorem dX6_wedding_89 : decode cX6_wedding 89 = .ok (.iload 4, 2) := by decide +kernel
theorem dX6_wedding_91 : decode cX6_wedding 91 = .ok (.goto 5, 3) := by decide +kernel
theorem dX6_wedding_94 : decode cX6_wedding 94 = .ok (.iload 5, 2) := by decide +kernel
theorem dX6_wedding_96 : decode cX6_wedding 96 = .ok (.ireturn, 1) := by decide +kernel
theorem dX6_weddingCost_0 : decode cX6_weddingCost 0 = .ok (.aload_n 0, 1) := by decide +kernel
theorem dX6_weddingCost_1 : decode cX6_weddingCost 1 = .ok (.getfield 19, 3) := by decide +kernel
theorem dX6_weddingCost_4 : decode cX6_weddingCost 4 = .ok (.getfield 56, 3) := by decide +kernel
theorem dX6_weddingCost_7 : decode cX6_weddingCost 7 = .ok (.astore 4, 2) := by decide +kernel
theorem dX6_weddingCost_9 : decode cX6_weddingCost 9 = .ok (.iload_n 3, 1) := by decide +kernel
theorem dX6_weddingCost_10 : decode cX6_weddingCost 10 = .ok (.ifCond .ne 23, 3) := by decide +kernel
theorem dX6_weddingCost_13 : decode cX6_weddingCost 13 = .ok (.aload 4, 2) := by decide +kernel
theorem dX6_weddingCost_15 : decode cX6_weddingCost 15 = .ok (.iload_n 1, 1) := by decide +kernel
theorem dX6_weddingCost_16 : decode cX6_weddingCost 16 = .ok (.iload_n 2, 1) := by decide +kernel
theorem dX6_weddingCost_17 : decode cX6_weddingCost 17 = .ok (.bipush 28, 2) := by decide +kernel
theorem dX6_weddingCost_19 : decode cX6_weddingCost 19 = .ok (.invokevirtual 111, 3) := by decide +kernel
theorem dX6_weddingCost_22 : decode cX6_weddingCost 22 = .ok (.iconst 4, 1) := by decide +kernel
theorem dX6_weddingCost_23 : decode cX6_weddingCost 23 = .ok (.if_icmp .lt 7, 3) := by decide +kernel
theorem dX6_weddingCost_26 : decode cX6_weddingCost 26 = .ok (.iconst 0, 1) := by decide +kernel
theorem dX6_weddingCost_27 : decode cX6_weddingCost 27 = .ok (.goto 5, 3) := by decide +kernel
theorem dX6_weddingCost_30 : decode cX6_weddingCost 30 = .ok (.bipush (-6), 2) := by decide +kernel
theorem dX6_weddingCost_32 : decode cX6_weddingCost 32 = .ok (.ireturn, 1) := by decide +kernel
theorem dX6_weddingCost_33 : decode cX6_weddingCost 33 = .ok (.iload_n 3, 1) := by decide +kernel
theorem dX6_weddingCost_34 : decode cX6_weddingCost 34 = .ok (.iconst 1, 1) := by decide +kernel
theorem dX6_weddingCost_35 : decode cX6_weddingCost 35 = .ok (.if_icmp .ne 11, 3) := by decide +kernel
theorem dX6_weddingCost_38 : decode cX6_weddingCost 38 = .ok (.aload 4, 2) := by decide +kernel
theorem dX6_weddingCost_40 : decode cX6_weddingCost 40 = .ok (.iload_n 1, 1) := by decide +kernel
theorem dX6_weddingCost_41 : decode cX6_weddingCost 41 = .ok (.iload_n 2, 1) := by decide +kernel
theorem dX6_weddingCost_42 : decode cX6_weddingCost 42 = .ok (.invokevirtual 164, 3) := by decide +kernel
theorem dX6_weddingCost_45 : decode cX6_weddingCost 45 = .ok (.ireturn, 1) := by decide +kernel
theorem dX6_weddingCost_46 : decode cX6_weddingCost 46 = .ok (.iload_n 3, 1) := by decide +kernel
theorem dX6_weddingCost_47 : decode cX6_weddingCost 47 = .ok (.iconst 2, 1) := by decide +kernel
theorem dX6_weddingCost_48 : decode cX6_weddingCost 48 = .ok (.if_icmp .ne 11, 3) := by decide +kernel
theorem dX6_weddingCost_51 : decode cX6_weddingCost 51 = .ok (.aload 4, 2) := by decide +kernel
theorem dX6_weddingCost_53 : decode cX6_weddingCost 53 = .ok (.iload_n 2, 1) := by decide +kernel
theorem dX6_weddingCost_54 : decode cX6_weddingCost 54 = .ok (.iload_n 1, 1) := by decide +kernel
theorem dX6_weddingCost_55 : decode cX6_weddingCost 55 = .ok (.invokevirtual 164, 3) := by decide +kernel
theorem dX6_weddingCost_58 : decode cX6_weddingCost 58 = .ok (.ireturn, 1) := by decide +kernel
theorem dX6_weddingCost_59 : decode cX6_weddingCost 59 = .ok (.iload_n 3, 1) := by decide +kernel
theorem dX6_weddingCost_60 : decode cX6_weddingCost 60 = .ok (.bipush 10, 2) := by decide +kernel
theorem dX6_weddingCost_62 : decode cX6_weddingCost 62 = .ok (.isub, 1) := by decide +kernel
theorem dX6_weddingCost_63 : decode cX6_weddingCost 63 = .ok (.istore 5, 2) := by decide +kernel
theorem dX6_weddingCost_65 : decode cX6_weddingCost 65 = .ok (.aload_n 0, 1) := by decide +kernel
theorem dX6_weddingCost_66 : decode cX6_weddingCost 66 = .ok (.iload 5, 2) := by decide +kernel
theorem dX6_weddingCost_68 : decode cX6_weddingCost 68 = .ok (.invokevirtual 69, 3) := by decide +kernel
theorem dX6_weddingCost_71 : decode cX6_weddingCost 71 = .ok (.ifCond .eq 15, 3) := by decide +kernel
theorem dX6_weddingCost_74 : decode cX6_weddingCost 74 = .ok (.iload 5, 2) := by decide +kernel
theorem dX6_weddingCost_76 : decode cX6_weddingCost 76 = .ok (.iload_n 1, 1) := by decide +kernel
theorem dX6_weddingCost_77 : decode cX6_weddingCost 77 = .ok (.if_icmp .eq 9, 3) := by decide +kernel
theorem dX6_weddingCost_80 : decode cX6_weddingCost 80 = .ok (.iload 5, 2) := by decide +kernel
theorem dX6_weddingCost_82 : decode cX6_weddingCost 82 = .ok (.iload_n 2, 1) := by decide +kernel
theorem dX6_weddingCost_83 : decode cX6_weddingCost 83 = .ok (.if_icmp .ne 6, 3) := by decide +kernel
theorem dX6_weddingCost_86 : decode cX6_weddingCost 86 = .ok (.bipush (-6), 2) := by decide +kernel
theorem dX6_weddingCost_88 : decode cX6_weddingCost 88 = .ok (.ireturn, 1) := by decide +kernel
theorem dX6_weddingCost_89 : decode cX6_weddingCost 89 = .ok (.aload 4, 2) := by decide +kernel
theorem dX6_weddingCost_91 : decode cX6_weddingCost 91 = .ok (.iload_n 1, 1) := by decide +kernel
theorem dX6_weddingCost_92 : decode cX6_weddingCost 92 = .ok (.iload 5, 2) := by decide +kernel
theorem dX6_weddingCost_94 : decode cX6_weddingCost 94 = .ok (.invokevirtual 164, 3) := by decide +kernel
theorem dX6_weddingCost_97 : decode cX6_weddingCost 97 = .ok (.aload 4, 2) := by decide +kernel
theorem dX6_weddingCost_99 : decode cX6_weddingCost 99 = .ok (.iload_n 2, 1) := by decide +kernel
theorem dX6_weddingCost_100 : decode cX6_weddingCost 100 = .ok (.iload 5, 2) := by decide +kernel
theorem dX6_weddingCost_102 : decode cX6_weddingCost 102 = .ok (.invokevirtual 164, 3) := by decide +kernel
theorem dX6_weddingCost_105 : decode cX6_weddingCost 105 = .ok (.iadd, 1) := by decide +kernel
theorem dX6_weddingCost_106 : decode cX6_weddingCost 106 = .ok (.ireturn, 1) := by decide +kernel
theorem dX6_best_0 : decode cX6_best 0 = .ok (.iload_n 1, 1) := by decide +kernel
theorem dX6_best_1 : decode cX6_best 1 = .ok (.invokestatic 53, 3) := by decide +kernel
theorem dX6_best_4 : decode cX6_best 4 = .ok (.ifCond .eq 11, 3) := by decide +kernel
theorem dX6_best_7 : decode cX6_best 7 = .ok (.iload_n 2, 1) := by decide +kernel
theorem dX6_best_8 : decode cX6_best 8 = .ok (.iconst 2, 1) := by decide +kernel
theorem dX6_best_9 : decode cX6_best 9 = .ok (.invokestatic 42, 3) := by decide +kernel
theorem dX6_best_12 : decode cX6_best 12 = .ok (.ifCond .ne 6, 3) := by decide +kernel
theorem dX6_best_15 : decode cX6_best 15 = .ok (.bipush (-2), 2) := by decide +kernel
theorem dX6_best_17 : decode cX6_best 17 = .ok (.ireturn, 1) := by decide +kernel
theorem dX6_best_18 : decode cX6_best 18 = .ok (.iconst (-1), 1) := by decide +kernel
theorem dX6_best_19 : decode cX6_best 19 = .ok (.istore_n 3, 1) := by decide +kernel
theorem dX6_best_20 : decode cX6_best 20 = .ok (.bipush (-6), 2) := by decide +kernel
theorem dX6_best_22 : decode cX6_best 22 = .ok (.istore 4, 2) := by decide +kernel
theorem dX6_best_24 : decode cX6_best 24 = .ok (.iconst 0, 1) := by decide +kernel
theorem dX6_best_25 : decode cX6_best 25 = .ok (.istore 5, 2) := by decide +kernel
theorem dX6_best_27 : decode cX6_best 27 = .ok (.iload 5, 2) := by decide +kernel
theorem dX6_best_29 : decode cX6_best 29 = .ok (.iconst 2, 1) := by decide +kernel
theorem dX6_best_30 : decode cX6_best 30 = .ok (.if_icmp .ge 61, 3) := by decide +kernel
theorem dX6_best_33 : decode cX6_best 33 = .ok (.iconst 0, 1) := by decide +kernel
theorem dX6_best_34 : decode cX6_best 34 = .ok (.istore 6, 2) := by decide +kernel
theorem dX6_best_36 : decode cX6_best 36 = .ok (.iload 6, 2) := by decide +kernel
theorem dX6_best_38 : decode cX6_best 38 = .ok (.bipush 7, 2) := by decide +kernel
theorem dX6_best_40 : decode cX6_best 40 = .ok (.if_icmp .ge 45, 3) := by decide +kernel
theorem dX6_best_43 : decode cX6_best 43 = .ok (.aload_n 0, 1) := by decide +kernel
theorem dX6_best_44 : decode cX6_best 44 = .ok (.getfield 19, 3) := by decide +kernel
theorem dX6_best_47 : decode cX6_best 47 = .ok (.getfield 56, 3) := by decide +kernel
theorem dX6_best_50 : decode cX6_best 50 = .ok (.iload 6, 2) := by decide +kernel
theorem dX6_best_52 : decode cX6_best 52 = .ok (.iload 5, 2) := by decide +kernel
theorem dX6_best_54 : decode cX6_best 54 = .ok (.iload_n 1, 1) := by decide +kernel
theorem dX6_best_55 : decode cX6_best 55 = .ok (.invokevirtual 167, 3) := by decide +kernel
theorem dX6_best_58 : decode cX6_best 58 = .ok (.istore 7, 2) := by decide +kernel
theorem dX6_best_60 : decode cX6_best 60 = .ok (.iload 7, 2) := by decide +kernel
theorem dX6_best_62 : decode cX6_best 62 = .ok (.iload_n 3, 1) := by decide +kernel
theorem dX6_best_63 : decode cX6_best 63 = .ok (.if_icmp .le 16, 3) := by decide +kernel
theorem dX6_best_66 : decode cX6_best 66 = .ok (.iload 7, 2) := by decide +kernel
theorem dX6_best_68 : decode cX6_best 68 = .ok (.istore_n 3, 1) := by decide +kernel
theorem dX6_best_69 : decode cX6_best 69 = .ok (.bipush 10, 2) := by decide +kernel
theorem dX6_best_71 : decode cX6_best 71 = .ok (.iload 5, 2) := by decide +kernel
theorem dX6_best_73 : decode cX6_best 73 = .ok (.imul, 1) := by decide +kernel
theorem dX6_best_74 : decode cX6_best 74 = .ok (.iload 6, 2) := by decide +kernel
theorem dX6_best_76 : decode cX6_best 76 = .ok (.iadd, 1) := by decide +kernel
theorem dX6_best_77 : decode cX6_best 77 = .ok (.istore 4, 2) := by decide +kernel
theorem dX6_best_79 : decode cX6_best 79 = .ok (.iinc 6 1, 3) := by decide +kernel
theorem dX6_best_82 : decode cX6_best 82 = .ok (.goto (-46), 3) := by decide +kernel
theorem dX6_best_85 : decode cX6_best 85 = .ok (.iinc 5 1, 3) := by decide +kernel
theorem dX6_best_88 : decode cX6_best 88 = .ok (.goto (-61), 3) := by decide +kernel
theorem dX6_best_91 : decode cX6_best 91 = .ok (.iload_n 2, 1) := by decide +kernel
theorem dX6_best_92 : decode cX6_best 92 = .ok (.ifCond .ne 7, 3) := by decide +kernel
theorem dX6_best_95 : decode cX6_best 95 = .ok (.iload_n 3, 1) := by decide +kernel
theorem dX6_best_96 : decode cX6_best 96 = .ok (.goto 5, 3) := by decide +kernel
theorem dX6_best_99 : decode cX6_best 99 = .ok (.iload 4, 2) := by decide +kernel
theorem dX6_best_101 : decode cX6_best 101 = .ok (.ireturn, 1) := by decide +kernel
theorem dX6_feast_0 : decode cX6_feast 0 = .ok (.iload_n 1, 1) := by decide +kernel
theorem dX6_feast_1 : decode cX6_feast 1 = .ok (.invokestatic 92, 3) := by decide +kernel
theorem dX6_feast_4 : decode cX6_feast 4 = .ok (.ifCond .eq 17, 3) := by decide +kernel
theorem dX6_feast_7 : decode cX6_feast 7 = .ok (.aload_n 0, 1) := by decide +kernel
theorem dX6_feast_8 : decode cX6_feast 8 = .ok (.getfield 19, 3) := by decide +kernel
theorem dX6_feast_11 : decode cX6_feast 11 = .ok (.getfield 56, 3) := by decide +kernel
theorem dX6_feast_14 : decode cX6_feast 14 = .ok (.iload_n 1, 1) := by decide +kernel
theorem dX6_feast_15 : decode cX6_feast 15 = .ok (.invokevirtual 170, 3) := by decide +kernel
theorem dX6_feast_18 : decode cX6_feast 18 = .ok (.goto 5, 3) := by decide +kernel
theorem dX6_feast_21 : decode cX6_feast 21 = .ok (.bipush (-2), 2) := by decide +kernel
theorem dX6_feast_23 : decode cX6_feast 23 = .ok (.ireturn, 1) := by decide +kernel
theorem dX6_feasts_0 : decode cX6_feasts 0 = .ok (.iload_n 1, 1) := by decide +kernel
theorem dX6_feasts_1 : decode cX6_feasts 1 = .ok (.bipush 8, 2) := by decide +kernel
theorem dX6_feasts_3 : decode cX6_feasts 3 = .ok (.invokestatic 42, 3) := by decide +kernel
theorem dX6_feasts_6 : decode cX6_feasts 6 = .ok (.ifCond .ne 5, 3) := by decide +kernel
theorem dX6_feasts_9 : decode cX6_feasts 9 = .ok (.iconst (-1), 1) := by decide +kernel
theorem dX6_feasts_10 : decode cX6_feasts 10 = .ok (.ireturn, 1) := by decide +kernel
theorem dX6_feasts_11 : decode cX6_feasts 11 = .ok (.iconst 0, 1) := by decide +kernel
theorem dX6_feasts_12 : decode cX6_feasts 12 = .ok (.istore_n 2, 1) := by decide +kernel
theorem dX6_feasts_13 : decode cX6_feasts 13 = .ok (.iconst 0, 1) := by decide +kernel
theorem dX6_feasts_14 : decode cX6_feasts 14 = .ok (.istore_n 3, 1) := by decide +kernel
theorem dX6_feasts_15 : decode cX6_feasts 15 = .ok (.iload_n 3, 1) := by decide +kernel
theorem dX6_feasts_16 : decode cX6_feasts 16 = .ok (.sipush 840, 3) := by decide +kernel
theorem dX6_feasts_19 : decode cX6_feasts 19 = .ok (.if_icmp .ge 27, 3) := by decide +kernel
theorem dX6_feasts_22 : decode cX6_feasts 22 = .ok (.aload_n 0, 1) := by decide +kernel
theorem dX6_feasts_23 : decode cX6_feasts 23 = .ok (.getfield 19, 3) := by decide +kernel
theorem dX6_feasts_26 : decode cX6_feasts 26 = .ok (.getfield 56, 3) := by decide +kernel
theorem dX6_feasts_29 : decode cX6_feasts 29 = .ok (.iload_n 3, 1) := by decide +kernel
theorem dX6_feasts_30 : decode cX6_feasts 30 = .ok (.invokevirtual 170, 3) := by decide +kernel
theorem dX6_feasts_33 : decode cX6_feasts 33 = .ok (.iload_n 1, 1) := by decide +kernel
theorem dX6_feasts_34 : decode cX6_feasts 34 = .ok (.if_icmp .ne 6, 3) := by decide +kernel
theorem dX6_feasts_37 : decode cX6_feasts 37 = .ok (.iinc 2 1, 3) := by decide +kernel
theorem dX6_feasts_40 : decode cX6_feasts 40 = .ok (.iinc 3 1, 3) := by decide +kernel
theorem dX6_feasts_43 : decode cX6_feasts 43 = .ok (.goto (-28), 3) := by decide +kernel
theorem dX6_feasts_46 : decode cX6_feasts 46 = .ok (.iload_n 2, 1) := by decide +kernel
theorem dX6_feasts_47 : decode cX6_feasts 47 = .ok (.ireturn, 1) := by decide +kernel
theorem dX6_poor_0 : decode cX6_poor 0 = .ok (.aload_n 0, 1) := by decide +kernel
theorem dX6_poor_1 : decode cX6_poor 1 = .ok (.getfield 19, 3) := by decide +kernel
theorem dX6_poor_4 : decode cX6_poor 4 = .ok (.getfield 56, 3) := by decide +kernel
theorem dX6_poor_7 : decode cX6_poor 7 = .ok (.getfield 72, 3) := by decide +kernel
theorem dX6_poor_10 : decode cX6_poor 10 = .ok (.istore_n 1, 1) := by decide +kernel
theorem dX6_poor_11 : decode cX6_poor 11 = .ok (.iconst 0, 1) := by decide +kernel
theorem dX6_poor_12 : decode cX6_poor 12 = .ok (.istore_n 2, 1) := by decide +kernel
theorem dX6_poor_13 : decode cX6_poor 13 = .ok (.iload_n 2, 1) := by decide +kernel
theorem dX6_poor_14 : decode cX6_poor 14 = .ok (.sipush 840, 3) := by decide +kernel
theorem dX6_poor_17 : decode cX6_poor 17 = .ok (.if_icmp .ge 40, 3) := by decide +kernel
theorem dX6_poor_20 : decode cX6_poor 20 = .ok (.iload_n 1, 1) := by decide +kernel
theorem dX6_poor_21 : decode cX6_poor 21 = .ok (.ifCond .eq 36, 3) := by decide +kernel
theorem dX6_poor_24 : decode cX6_poor 24 = .ok (.iload_n 1, 1) := by decide +kernel
theorem dX6_poor_25 : decode cX6_poor 25 = .ok (.aload_n 0, 1) := by decide +kernel
theorem dX6_poor_26 : decode cX6_poor 26 = .ok (.getfield 19, 3) := by decide +kernel
theorem dX6_poor_29 : decode cX6_poor 29 = .ok (.getfield 56, 3) := by decide +kernel
theorem dX6_poor_32 : decode cX6_poor 32 = .ok (.aload_n 0, 1) := by decide +kernel
theorem dX6_poor_33 : decode cX6_poor 33 = .ok (.getfield 19, 3) := by decide +kernel
theorem dX6_poor_36 : decode cX6_poor 36 = .ok (.getfield 56, 3) := by decide +kernel
theorem dX6_poor_39 : decode cX6_poor 39 = .ok (.iload_n 2, 1) := by decide +kernel
theorem dX6_poor_40 : decode cX6_poor 40 = .ok (.invokevirtual 170, 3) := by decide +kernel
theorem dX6_poor_43 : decode cX6_poor 43 = .ok (.iload_n 2, 1) := by decide +kernel
theorem dX6_poor_44 : decode cX6_poor 44 = .ok (.invokevirtual 99, 3) := by decide +kernel
theorem dX6_poor_47 : decode cX6_poor 47 = .ok (.iconst (-1), 1) := by decide +kernel
theorem dX6_poor_48 : decode cX6_poor 48 = .ok (.ixor, 1) := by decide +kernel
theorem dX6_poor_49 : decode cX6_poor 49 = .ok (.iand, 1) := by decide +kernel
theorem dX6_poor_50 : decode cX6_poor 50 = .ok (.istore_n 1, 1) := by decide +kernel
theorem dX6_poor_51 : decode cX6_poor 51 = .ok (.iinc 2 1, 3) := by decide +kernel
theorem dX6_poor_54 : decode cX6_poor 54 = .ok (.goto (-41), 3) := by decide +kernel
theorem dX6_poor_57 : decode cX6_poor 57 = .ok (.iload_n 1, 1) := by decide +kernel
theorem dX6_poor_58 : decode cX6_poor 58 = .ok (.ireturn, 1) := by decide +kernel
theorem dX6_twins_0 : decode cX6_twins 0 = .ok (.aload_n 0, 1) := by decide +kernel
theorem dX6_twins_1 : decode cX6_twins 1 = .ok (.iconst 1, 1) := by decide +kernel
theorem dX6_twins_2 : decode cX6_twins 2 = .ok (.iload_n 1, 1) := by decide +kernel
theorem dX6_twins_3 : decode cX6_twins 3 = .ok (.invokevirtual 115, 3) := by decide +kernel
theorem dX6_twins_6 : decode cX6_twins 6 = .ok (.ireturn, 1) := by decide +kernel
theorem dX6_oneOrder_0 : decode cX6_oneOrder 0 = .ok (.aload_n 0, 1) := by decide +kernel
theorem dX6_oneOrder_1 : decode cX6_oneOrder 1 = .ok (.iload_n 1, 1) := by decide +kernel
theorem dX6_oneOrder_2 : decode cX6_oneOrder 2 = .ok (.invokevirtual 69, 3) := by decide +kernel
theorem dX6_oneOrder_5 : decode cX6_oneOrder 5 = .ok (.ifCond .ne 5, 3) := by decide +kernel
theorem dX6_oneOrder_8 : decode cX6_oneOrder 8 = .ok (.iconst (-1), 1) := by decide +kernel
theorem dX6_oneOrder_9 : decode cX6_oneOrder 9 = .ok (.ireturn, 1) := by decide +kernel
theorem dX6_oneOrder_10 : decode cX6_oneOrder 10 = .ok (.iload_n 2, 1) := by decide +kernel
theorem dX6_oneOrder_11 : decode cX6_oneOrder 11 = .ok (.iconst 2, 1) := by decide +kernel
theorem dX6_oneOrder_12 : decode cX6_oneOrder 12 = .ok (.invokestatic 42, 3) := by decide +kernel
theorem dX6_oneOrder_15 : decode cX6_oneOrder 15 = .ok (.ifCond .ne 6, 3) := by decide +kernel
theorem dX6_oneOrder_18 : decode cX6_oneOrder 18 = .ok (.bipush (-2), 2) := by decide +kernel
theorem dX6_oneOrder_20 : decode cX6_oneOrder 20 = .ok (.ireturn, 1) := by decide +kernel
theorem dX6_oneOrder_21 : decode cX6_oneOrder 21 = .ok (.iload_n 2, 1) := by decide +kernel
theorem dX6_oneOrder_22 : decode cX6_oneOrder 22 = .ok (.ifCond .ne 16, 3) := by decide +kernel
theorem dX6_oneOrder_25 : decode cX6_oneOrder 25 = .ok (.aload_n 0, 1) := by decide +kernel
theorem dX6_oneOrder_26 : decode cX6_oneOrder 26 = .ok (.getfield 19, 3) := by decide +kernel
theorem dX6_oneOrder_29 : decode cX6_oneOrder 29 = .ok (.getfield 56, 3) := by decide +kernel
theorem dX6_oneOrder_32 : decode cX6_oneOrder 32 = .ok (.invokevirtual 173, 3) := by decide +kernel
theorem dX6_oneOrder_35 : decode cX6_oneOrder 35 = .ok (.goto 14, 3) := by decide +kernel
theorem dX6_oneOrder_38 : decode cX6_oneOrder 38 = .ok (.aload_n 0, 1) := by decide +kernel
theorem dX6_oneOrder_39 : decode cX6_oneOrder 39 = .ok (.getfield 19, 3) := by decide +kernel
theorem dX6_oneOrder_42 : decode cX6_oneOrder 42 = .ok (.getfield 56, 3) := by decide +kernel
theorem dX6_oneOrder_45 : decode cX6_oneOrder 45 = .ok (.iload_n 1, 1) := by decide +kernel
theorem dX6_oneOrder_46 : decode cX6_oneOrder 46 = .ok (.invokevirtual 176, 3) := by decide +kernel
theorem dX6_oneOrder_49 : decode cX6_oneOrder 49 = .ok (.ireturn, 1) := by decide +kernel
theorem dX6_seen_0 : decode cX6_seen 0 = .ok (.iload_n 1, 1) := by decide +kernel
theorem dX6_seen_1 : decode cX6_seen 1 = .ok (.invokestatic 92, 3) := by decide +kernel
theorem dX6_seen_4 : decode cX6_seen 4 = .ok (.ifCond .eq 11, 3) := by decide +kernel
theorem dX6_seen_7 : decode cX6_seen 7 = .ok (.iload_n 2, 1) := by decide +kernel
theorem dX6_seen_8 : decode cX6_seen 8 = .ok (.iconst 2, 1) := by decide +kernel
theorem dX6_seen_9 : decode cX6_seen 9 = .ok (.invokestatic 42, 3) := by decide +kernel
theorem dX6_seen_12 : decode cX6_seen 12 = .ok (.ifCond .ne 6, 3) := by decide +kernel
theorem dX6_seen_15 : decode cX6_seen 15 = .ok (.bipush (-2), 2) := by decide +kernel
theorem dX6_seen_17 : decode cX6_seen 17 = .ok (.ireturn, 1) := by decide +kernel
theorem dX6_seen_18 : decode cX6_seen 18 = .ok (.aload_n 0, 1) := by decide +kernel
theorem dX6_seen_19 : decode cX6_seen 19 = .ok (.getfield 19, 3) := by decide +kernel
theorem dX6_seen_22 : decode cX6_seen 22 = .ok (.getfield 179, 3) := by decide +kernel
theorem dX6_seen_25 : decode cX6_seen 25 = .ok (.iload_n 1, 1) := by decide +kernel
theorem dX6_seen_26 : decode cX6_seen 26 = .ok (.iload_n 2, 1) := by decide +kernel
theorem dX6_seen_27 : decode cX6_seen 27 = .ok (.invokevirtual 183, 3) := by decide +kernel
theorem dX6_seen_30 : decode cX6_seen 30 = .ok (.ifCond .eq 16, 3) := by decide +kernel
theorem dX6_seen_33 : decode cX6_seen 33 = .ok (.aload_n 0, 1) := by decide +kernel
theorem dX6_seen_34 : decode cX6_seen 34 = .ok (.getfield 19, 3) := by decide +kernel
theorem dX6_seen_37 : decode cX6_seen 37 = .ok (.getfield 179, 3) := by decide +kernel
theorem dX6_seen_40 : decode cX6_seen 40 = .ok (.getfield 187, 3) := by decide +kernel
theorem dX6_seen_43 : decode cX6_seen 43 = .ok (.goto 5, 3) := by decide +kernel
theorem dX6_seen_46 : decode cX6_seen 46 = .ok (.bipush (-4), 2) := by decide +kernel
theorem dX6_seen_48 : decode cX6_seen 48 = .ok (.ireturn, 1) := by decide +kernel
theorem dX6_forget_0 : decode cX6_forget 0 = .ok (.aload_n 0, 1) := by decide +kernel
theorem dX6_forget_1 : decode cX6_forget 1 = .ok (.getfield 19, 3) := by decide +kernel
theorem dX6_forget_4 : decode cX6_forget 4 = .ok (.getfield 179, 3) := by decide +kernel
theorem dX6_forget_7 : decode cX6_forget 7 = .ok (.getfield 187, 3) := by decide +kernel
theorem dX6_forget_10 : decode cX6_forget 10 = .ok (.istore_n 1, 1) := by decide +kernel
theorem dX6_forget_11 : decode cX6_forget 11 = .ok (.aload_n 0, 1) := by decide +kernel
theorem dX6_forget_12 : decode cX6_forget 12 = .ok (.getfield 19, 3) := by decide +kernel
theorem dX6_forget_15 : decode cX6_forget 15 = .ok (.getfield 179, 3) := by decide +kernel
theorem dX6_forget_18 : decode cX6_forget 18 = .ok (.iconst 0, 1) := by decide +kernel
theorem dX6_forget_19 : decode cX6_forget 19 = .ok (.putfield 187, 3) := by decide +kernel
theorem dX6_forget_22 : decode cX6_forget 22 = .ok (.iload_n 1, 1) := by decide +kernel
theorem dX6_forget_23 : decode cX6_forget 23 = .ok (.ireturn, 1) := by decide +kernel
theorem dX6_whose_0 : decode cX6_whose 0 = .ok (.iconst 0, 1) := by decide +kernel
theorem dX6_whose_1 : decode cX6_whose 1 = .ok (.istore_n 2, 1) := by decide +kernel
theorem dX6_whose_2 : decode cX6_whose 2 = .ok (.iconst 0, 1) := by decide +kernel
theorem dX6_whose_3 : decode cX6_whose 3 = .ok (.istore_n 3, 1) := by decide +kernel
end
section
theorem dX6_whose_4 : decode cX6_whose 4 = .ok (.iload_n 3, 1) := by decide +kernel
theorem dX6_whose_5 : decode cX6_whose 5 = .ok (.bipush 6, 2) := by decide +kernel
theorem dX6_whose_7 : decode cX6_whose 7 = .ok (.if_icmp .ge 54, 3) := by decide +kernel
theorem dX6_whose_10 : decode cX6_whose 10 = .ok (.iconst 0, 1) := by decide +kernel
theorem dX6_whose_11 : decode cX6_whose 11 = .ok (.istore 4, 2) := by decide +kernel
theorem dX6_whose_13 : decode cX6_whose 13 = .ok (.iload 4, 2) := by decide +kernel
theorem dX6_whose_15 : decode cX6_whose 15 = .ok (.bipush 8, 2) := by decide +kernel
theorem dX6_whose_17 : decode cX6_whose 17 = .ok (.if_icmp .ge 38, 3) := by decide +kernel
theorem dX6_whose_20 : decode cX6_whose 20 = .ok (.aload_n 0, 1) := by decide +kernel
theorem dX6_whose_21 : decode cX6_whose 21 = .ok (.getfield 19, 3) := by decide +kernel
theorem dX6_whose_24 : decode cX6_whose 24 = .ok (.iload_n 3, 1) := by decide +kernel
theorem dX6_whose_25 : decode cX6_whose 25 = .ok (.iload 4, 2) := by decide +kernel
theorem dX6_whose_27 : decode cX6_whose 27 = .ok (.invokevirtual 188, 3) := by decide +kernel
theorem dX6_whose_30 : decode cX6_whose 30 = .ok (.ifCond .eq 19, 3) := by decide +kernel
theorem dX6_whose_33 : decode cX6_whose 33 = .ok (.iload_n 2, 1) := by decide +kernel
theorem dX6_whose_34 : decode cX6_whose 34 = .ok (.iload_n 1, 1) := by decide +kernel
theorem dX6_whose_35 : decode cX6_whose 35 = .ok (.if_icmp .ne 11, 3) := by decide +kernel
theorem dX6_whose_38 : decode cX6_whose 38 = .ok (.bipush 10, 2) := by decide +kernel
theorem dX6_whose_40 : decode cX6_whose 40 = .ok (.iload_n 3, 1) := by decide +kernel
theorem dX6_whose_41 : decode cX6_whose 41 = .ok (.imul, 1) := by decide +kernel
theorem dX6_whose_42 : decode cX6_whose 42 = .ok (.iload 4, 2) := by decide +kernel
theorem dX6_whose_44 : decode cX6_whose 44 = .ok (.iadd, 1) := by decide +kernel
theorem dX6_whose_45 : decode cX6_whose 45 = .ok (.ireturn, 1) := by decide +kernel
theorem dX6_whose_46 : decode cX6_whose 46 = .ok (.iinc 2 1, 3) := by decide +kernel
theorem dX6_whose_49 : decode cX6_whose 49 = .ok (.iinc 4 1, 3) := by decide +kernel
theorem dX6_whose_52 : decode cX6_whose 52 = .ok (.goto (-39), 3) := by decide +kernel
theorem dX6_whose_55 : decode cX6_whose 55 = .ok (.iinc 3 1, 3) := by decide +kernel
theorem dX6_whose_58 : decode cX6_whose 58 = .ok (.goto (-54), 3) := by decide +kernel
theorem dX6_whose_61 : decode cX6_whose 61 = .ok (.iload_n 1, 1) := by decide +kernel
theorem dX6_whose_62 : decode cX6_whose 62 = .ok (.iconst (-1), 1) := by decide +kernel
theorem dX6_whose_63 : decode cX6_whose 63 = .ok (.if_icmp .ne 7, 3) := by decide +kernel
theorem dX6_whose_66 : decode cX6_whose 66 = .ok (.iload_n 2, 1) := by decide +kernel
theorem dX6_whose_67 : decode cX6_whose 67 = .ok (.goto 5, 3) := by decide +kernel
theorem dX6_whose_70 : decode cX6_whose 70 = .ok (.bipush (-6), 2) := by decide +kernel
theorem dX6_whose_72 : decode cX6_whose 72 = .ok (.ireturn, 1) := by decide +kernel
theorem dX6_sure_0 : decode cX6_sure 0 = .ok (.iload_n 1, 1) := by decide +kernel
theorem dX6_sure_1 : decode cX6_sure 1 = .ok (.invokestatic 92, 3) := by decide +kernel
theorem dX6_sure_4 : decode cX6_sure 4 = .ok (.ifCond .ne 6, 3) := by decide +kernel
theorem dX6_sure_7 : decode cX6_sure 7 = .ok (.bipush (-2), 2) := by decide +kernel
theorem dX6_sure_9 : decode cX6_sure 9 = .ok (.ireturn, 1) := by decide +kernel
theorem dX6_sure_10 : decode cX6_sure 10 = .ok (.iconst 0, 1) := by decide +kernel
theorem dX6_sure_11 : decode cX6_sure 11 = .ok (.istore_n 2, 1) := by decide +kernel
theorem dX6_sure_12 : decode cX6_sure 12 = .ok (.iconst 0, 1) := by decide +kernel
theorem dX6_sure_13 : decode cX6_sure 13 = .ok (.istore_n 3, 1) := by decide +kernel
theorem dX6_sure_14 : decode cX6_sure 14 = .ok (.iconst 0, 1) := by decide +kernel
theorem dX6_sure_15 : decode cX6_sure 15 = .ok (.istore 4, 2) := by decide +kernel
theorem dX6_sure_17 : decode cX6_sure 17 = .ok (.iload 4, 2) := by decide +kernel
theorem dX6_sure_19 : decode cX6_sure 19 = .ok (.bipush 6, 2) := by decide +kernel
theorem dX6_sure_21 : decode cX6_sure 21 = .ok (.if_icmp .ge 68, 3) := by decide +kernel
theorem dX6_sure_24 : decode cX6_sure 24 = .ok (.iconst 0, 1) := by decide +kernel
theorem dX6_sure_25 : decode cX6_sure 25 = .ok (.istore 5, 2) := by decide +kernel
theorem dX6_sure_27 : decode cX6_sure 27 = .ok (.iload 5, 2) := by decide +kernel
theorem dX6_sure_29 : decode cX6_sure 29 = .ok (.bipush 8, 2) := by decide +kernel
theorem dX6_sure_31 : decode cX6_sure 31 = .ok (.if_icmp .ge 52, 3) := by decide +kernel
theorem dX6_sure_34 : decode cX6_sure 34 = .ok (.aload_n 0, 1) := by decide +kernel
theorem dX6_sure_35 : decode cX6_sure 35 = .ok (.getfield 19, 3) := by decide +kernel
theorem dX6_sure_38 : decode cX6_sure 38 = .ok (.iload 4, 2) := by decide +kernel
theorem dX6_sure_40 : decode cX6_sure 40 = .ok (.iload 5, 2) := by decide +kernel
theorem dX6_sure_42 : decode cX6_sure 42 = .ok (.invokevirtual 188, 3) := by decide +kernel
theorem dX6_sure_45 : decode cX6_sure 45 = .ok (.ifCond .eq 32, 3) := by decide +kernel
theorem dX6_sure_48 : decode cX6_sure 48 = .ok (.iinc 2 1, 3) := by decide +kernel
theorem dX6_sure_51 : decode cX6_sure 51 = .ok (.iload_n 3, 1) := by decide +kernel
theorem dX6_sure_52 : decode cX6_sure 52 = .ok (.aload_n 0, 1) := by decide +kernel
theorem dX6_sure_53 : decode cX6_sure 53 = .ok (.getfield 19, 3) := by decide +kernel
theorem dX6_sure_56 : decode cX6_sure 56 = .ok (.getfield 56, 3) := by decide +kernel
theorem dX6_sure_59 : decode cX6_sure 59 = .ok (.iload 4, 2) := by decide +kernel
theorem dX6_sure_61 : decode cX6_sure 61 = .ok (.iload_n 1, 1) := by decide +kernel
theorem dX6_sure_62 : decode cX6_sure 62 = .ok (.invokevirtual 95, 3) := by decide +kernel
theorem dX6_sure_65 : decode cX6_sure 65 = .ok (.iload 5, 2) := by decide +kernel
theorem dX6_sure_67 : decode cX6_sure 67 = .ok (.if_icmp .ne 7, 3) := by decide +kernel
theorem dX6_sure_70 : decode cX6_sure 70 = .ok (.iconst 1, 1) := by decide +kernel
theorem dX6_sure_71 : decode cX6_sure 71 = .ok (.goto 4, 3) := by decide +kernel
theorem dX6_sure_74 : decode cX6_sure 74 = .ok (.iconst 0, 1) := by decide +kernel
theorem dX6_sure_75 : decode cX6_sure 75 = .ok (.iadd, 1) := by decide +kernel
theorem dX6_sure_76 : decode cX6_sure 76 = .ok (.istore_n 3, 1) := by decide +kernel
theorem dX6_sure_77 : decode cX6_sure 77 = .ok (.iinc 5 1, 3) := by decide +kernel
theorem dX6_sure_80 : decode cX6_sure 80 = .ok (.goto (-53), 3) := by decide +kernel
theorem dX6_sure_83 : decode cX6_sure 83 = .ok (.iinc 4 1, 3) := by decide +kernel
theorem dX6_sure_86 : decode cX6_sure 86 = .ok (.goto (-69), 3) := by decide +kernel
theorem dX6_sure_89 : decode cX6_sure 89 = .ok (.iload_n 2, 1) := by decide +kernel
theorem dX6_sure_90 : decode cX6_sure 90 = .ok (.ifCond .ne 6, 3) := by decide +kernel
theorem dX6_sure_93 : decode cX6_sure 93 = .ok (.bipush (-6), 2) := by decide +kernel
theorem dX6_sure_95 : decode cX6_sure 95 = .ok (.ireturn, 1) := by decide +kernel
theorem dX6_sure_96 : decode cX6_sure 96 = .ok (.iload_n 3, 1) := by decide +kernel
theorem dX6_sure_97 : decode cX6_sure 97 = .ok (.ifCond .ne 5, 3) := by decide +kernel
theorem dX6_sure_100 : decode cX6_sure 100 = .ok (.iconst 0, 1) := by decide +kernel
theorem dX6_sure_101 : decode cX6_sure 101 = .ok (.ireturn, 1) := by decide +kernel
theorem dX6_sure_102 : decode cX6_sure 102 = .ok (.iload_n 3, 1) := by decide +kernel
theorem dX6_sure_103 : decode cX6_sure 103 = .ok (.iload_n 2, 1) := by decide +kernel
theorem dX6_sure_104 : decode cX6_sure 104 = .ok (.if_icmp .ne 7, 3) := by decide +kernel
theorem dX6_sure_107 : decode cX6_sure 107 = .ok (.iconst 1, 1) := by decide +kernel
theorem dX6_sure_108 : decode cX6_sure 108 = .ok (.goto 4, 3) := by decide +kernel
theorem dX6_sure_111 : decode cX6_sure 111 = .ok (.iconst 2, 1) := by decide +kernel
theorem dX6_sure_112 : decode cX6_sure 112 = .ok (.ireturn, 1) := by decide +kernel
theorem dX6_chance_0 : decode cX6_chance 0 = .ok (.iload_n 1, 1) := by decide +kernel
theorem dX6_chance_1 : decode cX6_chance 1 = .ok (.bipush 8, 2) := by decide +kernel
theorem dX6_chance_3 : decode cX6_chance 3 = .ok (.invokestatic 42, 3) := by decide +kernel
theorem dX6_chance_6 : decode cX6_chance 6 = .ok (.ifCond .ne 7, 3) := by decide +kernel
theorem dX6_chance_9 : decode cX6_chance 9 = .ok (.ldc2_w 191, 3) := by decide +kernel
theorem dX6_chance_12 : decode cX6_chance 12 = .ok (.lreturn, 1) := by decide +kernel
theorem dX6_chance_13 : decode cX6_chance 13 = .ok (.iload_n 2, 1) := by decide +kernel
theorem dX6_chance_14 : decode cX6_chance 14 = .ok (.invokestatic 92, 3) := by decide +kernel
theorem dX6_chance_17 : decode cX6_chance 17 = .ok (.ifCond .eq 11, 3) := by decide +kernel
theorem dX6_chance_20 : decode cX6_chance 20 = .ok (.iload_n 3, 1) := by decide +kernel
theorem dX6_chance_21 : decode cX6_chance 21 = .ok (.iconst 2, 1) := by decide +kernel
theorem dX6_chance_22 : decode cX6_chance 22 = .ok (.invokestatic 42, 3) := by decide +kernel
theorem dX6_chance_25 : decode cX6_chance 25 = .ok (.ifCond .ne 7, 3) := by decide +kernel
theorem dX6_chance_28 : decode cX6_chance 28 = .ok (.ldc2_w 193, 3) := by decide +kernel
theorem dX6_chance_31 : decode cX6_chance 31 = .ok (.lreturn, 1) := by decide +kernel
theorem dX6_chance_32 : decode cX6_chance 32 = .ok (.iload_n 1, 1) := by decide +kernel
theorem dX6_chance_33 : decode cX6_chance 33 = .ok (.iload_n 2, 1) := by decide +kernel
theorem dX6_chance_34 : decode cX6_chance 34 = .ok (.iload_n 3, 1) := by decide +kernel
theorem dX6_chance_35 : decode cX6_chance 35 = .ok (.invokestatic 195, 3) := by decide +kernel
theorem dX6_chance_38 : decode cX6_chance 38 = .ok (.lreturn, 1) := by decide +kernel
theorem dX6_shares_0 : decode cX6_shares 0 = .ok (.aload_n 0, 1) := by decide +kernel
theorem dX6_shares_1 : decode cX6_shares 1 = .ok (.iload_n 1, 1) := by decide +kernel
theorem dX6_shares_2 : decode cX6_shares 2 = .ok (.invokevirtual 69, 3) := by decide +kernel
theorem dX6_shares_5 : decode cX6_shares 5 = .ok (.ifCond .ne 7, 3) := by decide +kernel
theorem dX6_shares_8 : decode cX6_shares 8 = .ok (.ldc2_w 191, 3) := by decide +kernel
theorem dX6_shares_11 : decode cX6_shares 11 = .ok (.lreturn, 1) := by decide +kernel
theorem dX6_shares_12 : decode cX6_shares 12 = .ok (.iload_n 2, 1) := by decide +kernel
theorem dX6_shares_13 : decode cX6_shares 13 = .ok (.invokestatic 92, 3) := by decide +kernel
theorem dX6_shares_16 : decode cX6_shares 16 = .ok (.ifCond .eq 11, 3) := by decide +kernel
theorem dX6_shares_19 : decode cX6_shares 19 = .ok (.iload_n 3, 1) := by decide +kernel
theorem dX6_shares_20 : decode cX6_shares 20 = .ok (.iconst 2, 1) := by decide +kernel
theorem dX6_shares_21 : decode cX6_shares 21 = .ok (.invokestatic 42, 3) := by decide +kernel
theorem dX6_shares_24 : decode cX6_shares 24 = .ok (.ifCond .ne 7, 3) := by decide +kernel
theorem dX6_shares_27 : decode cX6_shares 27 = .ok (.ldc2_w 193, 3) := by decide +kernel
theorem dX6_shares_30 : decode cX6_shares 30 = .ok (.lreturn, 1) := by decide +kernel
theorem dX6_shares_31 : decode cX6_shares 31 = .ok (.aload_n 0, 1) := by decide +kernel
theorem dX6_shares_32 : decode cX6_shares 32 = .ok (.getfield 19, 3) := by decide +kernel
theorem dX6_shares_35 : decode cX6_shares 35 = .ok (.getfield 56, 3) := by decide +kernel
theorem dX6_shares_38 : decode cX6_shares 38 = .ok (.iload_n 1, 1) := by decide +kernel
theorem dX6_shares_39 : decode cX6_shares 39 = .ok (.iload_n 2, 1) := by decide +kernel
theorem dX6_shares_40 : decode cX6_shares 40 = .ok (.invokevirtual 95, 3) := by decide +kernel
theorem dX6_shares_43 : decode cX6_shares 43 = .ok (.iload_n 2, 1) := by decide +kernel
theorem dX6_shares_44 : decode cX6_shares 44 = .ok (.iload_n 3, 1) := by decide +kernel
theorem dX6_shares_45 : decode cX6_shares 45 = .ok (.invokestatic 195, 3) := by decide +kernel
theorem dX6_shares_48 : decode cX6_shares 48 = .ok (.lreturn, 1) := by decide +kernel
theorem dX6_year_0 : decode cX6_year 0 = .ok (.iload_n 1, 1) := by decide +kernel
theorem dX6_year_1 : decode cX6_year 1 = .ok (.sipush 10000, 3) := by decide +kernel
theorem dX6_year_4 : decode cX6_year 4 = .ok (.invokestatic 42, 3) := by decide +kernel
theorem dX6_year_7 : decode cX6_year 7 = .ok (.ifCond .eq 23, 3) := by decide +kernel
theorem dX6_year_10 : decode cX6_year 10 = .ok (.iload_n 2, 1) := by decide +kernel
theorem dX6_year_11 : decode cX6_year 11 = .ok (.iconst 1, 1) := by decide +kernel
theorem dX6_year_12 : decode cX6_year 12 = .ok (.if_icmp .lt 18, 3) := by decide +kernel
theorem dX6_year_15 : decode cX6_year 15 = .ok (.iload_n 2, 1) := by decide +kernel
theorem dX6_year_16 : decode cX6_year 16 = .ok (.sipush 999, 3) := by decide +kernel
theorem dX6_year_19 : decode cX6_year 19 = .ok (.if_icmp .gt 11, 3) := by decide +kernel
theorem dX6_year_22 : decode cX6_year 22 = .ok (.iload_n 3, 1) := by decide +kernel
theorem dX6_year_23 : decode cX6_year 23 = .ok (.iconst 3, 1) := by decide +kernel
theorem dX6_year_24 : decode cX6_year 24 = .ok (.invokestatic 42, 3) := by decide +kernel
theorem dX6_year_27 : decode cX6_year 27 = .ok (.ifCond .ne 6, 3) := by decide +kernel
theorem dX6_year_30 : decode cX6_year 30 = .ok (.bipush (-2), 2) := by decide +kernel
theorem dX6_year_32 : decode cX6_year 32 = .ok (.ireturn, 1) := by decide +kernel
theorem dX6_year_33 : decode cX6_year 33 = .ok (.iload_n 1, 1) := by decide +kernel
theorem dX6_year_34 : decode cX6_year 34 = .ok (.istore 4, 2) := by decide +kernel
theorem dX6_year_36 : decode cX6_year 36 = .ok (.iconst 0, 1) := by decide +kernel
theorem dX6_year_37 : decode cX6_year 37 = .ok (.istore 5, 2) := by decide +kernel
theorem dX6_year_39 : decode cX6_year 39 = .ok (.iconst 0, 1) := by decide +kernel
theorem dX6_year_40 : decode cX6_year 40 = .ok (.istore 6, 2) := by decide +kernel
theorem dX6_year_42 : decode cX6_year 42 = .ok (.iconst 0, 1) := by decide +kernel
theorem dX6_year_43 : decode cX6_year 43 = .ok (.istore 7, 2) := by decide +kernel
theorem dX6_year_45 : decode cX6_year 45 = .ok (.iconst 0, 1) := by decide +kernel
theorem dX6_year_46 : decode cX6_year 46 = .ok (.istore 8, 2) := by decide +kernel
theorem dX6_year_48 : decode cX6_year 48 = .ok (.iconst 0, 1) := by decide +kernel
theorem dX6_year_49 : decode cX6_year 49 = .ok (.istore 9, 2) := by decide +kernel
theorem dX6_year_51 : decode cX6_year 51 = .ok (.iload 9, 2) := by decide +kernel
theorem dX6_year_53 : decode cX6_year 53 = .ok (.iload_n 2, 1) := by decide +kernel
theorem dX6_year_54 : decode cX6_year 54 = .ok (.if_icmp .ge 118, 3) := by decide +kernel
theorem dX6_year_57 : decode cX6_year 57 = .ok (.bipush 75, 2) := by decide +kernel
theorem dX6_year_59 : decode cX6_year 59 = .ok (.iload 4, 2) := by decide +kernel
theorem dX6_year_61 : decode cX6_year 61 = .ok (.imul, 1) := by decide +kernel
theorem dX6_year_62 : decode cX6_year 62 = .ok (.bipush 74, 2) := by decide +kernel
theorem dX6_year_64 : decode cX6_year 64 = .ok (.iadd, 1) := by decide +kernel
theorem dX6_year_65 : decode cX6_year 65 = .ok (.ldc 199, 2) := by decide +kernel
theorem dX6_year_67 : decode cX6_year 67 = .ok (.irem, 1) := by decide +kernel
theorem dX6_year_68 : decode cX6_year 68 = .ok (.istore 4, 2) := by decide +kernel
theorem dX6_year_70 : decode cX6_year 70 = .ok (.iload 4, 2) := by decide +kernel
theorem dX6_year_72 : decode cX6_year 72 = .ok (.bipush 6, 2) := by decide +kernel
theorem dX6_year_74 : decode cX6_year 74 = .ok (.irem, 1) := by decide +kernel
theorem dX6_year_75 : decode cX6_year 75 = .ok (.istore 10, 2) := by decide +kernel
theorem dX6_year_77 : decode cX6_year 77 = .ok (.iload 4, 2) := by decide +kernel
theorem dX6_year_79 : decode cX6_year 79 = .ok (.bipush 6, 2) := by decide +kernel
theorem dX6_year_81 : decode cX6_year 81 = .ok (.idiv, 1) := by decide +kernel
theorem dX6_year_82 : decode cX6_year 82 = .ok (.bipush 6, 2) := by decide +kernel
theorem dX6_year_84 : decode cX6_year 84 = .ok (.irem, 1) := by decide +kernel
theorem dX6_year_85 : decode cX6_year 85 = .ok (.istore 11, 2) := by decide +kernel
theorem dX6_year_87 : decode cX6_year 87 = .ok (.aload_n 0, 1) := by decide +kernel
theorem dX6_year_88 : decode cX6_year 88 = .ok (.iload 10, 2) := by decide +kernel
theorem dX6_year_90 : decode cX6_year 90 = .ok (.iload 11, 2) := by decide +kernel
theorem dX6_year_92 : decode cX6_year 92 = .ok (.invokevirtual 108, 3) := by decide +kernel
theorem dX6_year_95 : decode cX6_year 95 = .ok (.ifCond .eq 71, 3) := by decide +kernel
theorem dX6_year_98 : decode cX6_year 98 = .ok (.aload_n 0, 1) := by decide +kernel
theorem dX6_year_99 : decode cX6_year 99 = .ok (.getfield 19, 3) := by decide +kernel
theorem dX6_year_102 : decode cX6_year 102 = .ok (.getfield 56, 3) := by decide +kernel
theorem dX6_year_105 : decode cX6_year 105 = .ok (.iload 10, 2) := by decide +kernel
theorem dX6_year_107 : decode cX6_year 107 = .ok (.iload 11, 2) := by decide +kernel
theorem dX6_year_109 : decode cX6_year 109 = .ok (.iload 9, 2) := by decide +kernel
theorem dX6_year_111 : decode cX6_year 111 = .ok (.invokevirtual 200, 3) := by decide +kernel
theorem dX6_year_114 : decode cX6_year 114 = .ok (.ifCond .eq 52, 3) := by decide +kernel
theorem dX6_year_117 : decode cX6_year 117 = .ok (.iload 5, 2) := by decide +kernel
theorem dX6_year_119 : decode cX6_year 119 = .ok (.ifCond .ne 7, 3) := by decide +kernel
theorem dX6_year_122 : decode cX6_year 122 = .ok (.iconst 0, 1) := by decide +kernel
theorem dX6_year_123 : decode cX6_year 123 = .ok (.goto 13, 3) := by decide +kernel
theorem dX6_year_126 : decode cX6_year 126 = .ok (.iload 8, 2) := by decide +kernel
theorem dX6_year_128 : decode cX6_year 128 = .ok (.iload 9, 2) := by decide +kernel
theorem dX6_year_130 : decode cX6_year 130 = .ok (.iload 7, 2) := by decide +kernel
theorem dX6_year_132 : decode cX6_year 132 = .ok (.isub, 1) := by decide +kernel
theorem dX6_year_133 : decode cX6_year 133 = .ok (.invokestatic 132, 3) := by decide +kernel
theorem dX6_year_136 : decode cX6_year 136 = .ok (.istore 8, 2) := by decide +kernel
theorem dX6_year_138 : decode cX6_year 138 = .ok (.iload 9, 2) := by decide +kernel
theorem dX6_year_140 : decode cX6_year 140 = .ok (.istore 7, 2) := by decide +kernel
theorem dX6_year_142 : decode cX6_year 142 = .ok (.iinc 5 1, 3) := by decide +kernel
theorem dX6_year_145 : decode cX6_year 145 = .ok (.iload 6, 2) := by decide +kernel
theorem dX6_year_147 : decode cX6_year 147 = .ok (.iconst 1, 1) := by decide +kernel
theorem dX6_year_148 : decode cX6_year 148 = .ok (.aload_n 0, 1) := by decide +kernel
theorem dX6_year_149 : decode cX6_year 149 = .ok (.getfield 19, 3) := by decide +kernel
theorem dX6_year_152 : decode cX6_year 152 = .ok (.getfield 56, 3) := by decide +kernel
theorem dX6_year_155 : decode cX6_year 155 = .ok (.iload 10, 2) := by decide +kernel
theorem dX6_year_157 : decode cX6_year 157 = .ok (.iload 9, 2) := by decide +kernel
theorem dX6_year_159 : decode cX6_year 159 = .ok (.invokevirtual 95, 3) := by decide +kernel
theorem dX6_year_162 : decode cX6_year 162 = .ok (.ishl, 1) := by decide +kernel
theorem dX6_year_163 : decode cX6_year 163 = .ok (.ior, 1) := by decide +kernel
theorem dX6_year_164 : decode cX6_year 164 = .ok (.istore 6, 2) := by decide +kernel
theorem dX6_year_166 : decode cX6_year 166 = .ok (.iinc 9 1, 3) := by decide +kernel
theorem dX6_year_169 : decode cX6_year 169 = .ok (.goto (-118), 3) := by decide +kernel
theorem dX6_year_172 : decode cX6_year 172 = .ok (.iload_n 3, 1) := by decide +kernel
theorem dX6_year_173 : decode cX6_year 173 = .ok (.ifCond .ne 6, 3) := by decide +kernel
theorem dX6_year_176 : decode cX6_year 176 = .ok (.iload 5, 2) := by decide +kernel
theorem dX6_year_178 : decode cX6_year 178 = .ok (.ireturn, 1) := by decide +kernel
theorem dX6_year_179 : decode cX6_year 179 = .ok (.iload_n 3, 1) := by decide +kernel
theorem dX6_year_180 : decode cX6_year 180 = .ok (.iconst 1, 1) := by decide +kernel
theorem dX6_year_181 : decode cX6_year 181 = .ok (.if_icmp .ne 11, 3) := by decide +kernel
theorem dX6_year_184 : decode cX6_year 184 = .ok (.iload 6, 2) := by decide +kernel
theorem dX6_year_186 : decode cX6_year 186 = .ok (.invokestatic 75, 3) := by decide +kernel
theorem dX6_year_189 : decode cX6_year 189 = .ok (.goto 5, 3) := by decide +kernel
theorem dX6_year_192 : decode cX6_year 192 = .ok (.iload 8, 2) := by decide +kernel
theorem dX6_year_194 : decode cX6_year 194 = .ok (.ireturn, 1) := by decide +kernel
theorem dX6_image_0 : decode cX6_image 0 = .ok (.iload_n 1, 1) := by decide +kernel
theorem dX6_image_1 : decode cX6_image 1 = .ok (.iconst 2, 1) := by decide +kernel
theorem dX6_image_2 : decode cX6_image 2 = .ok (.invokestatic 42, 3) := by decide +kernel
theorem dX6_image_5 : decode cX6_image 5 = .ok (.ifCond .ne 6, 3) := by decide +kernel
theorem dX6_image_8 : decode cX6_image 8 = .ok (.bipush (-2), 2) := by decide +kernel
theorem dX6_image_10 : decode cX6_image 10 = .ok (.ireturn, 1) := by decide +kernel
theorem dX6_image_11 : decode cX6_image 11 = .ok (.aload_n 0, 1) := by decide +kernel
theorem dX6_image_12 : decode cX6_image 12 = .ok (.getfield 23, 3) := by decide +kernel
theorem dX6_image_15 : decode cX6_image 15 = .ok (.iload_n 1, 1) := by decide +kernel
theorem dX6_image_16 : decode cX6_image 16 = .ok (.aaload, 1) := by decide +kernel
theorem dX6_image_17 : decode cX6_image 17 = .ok (.astore_n 2, 1) := by decide +kernel
theorem dX6_image_18 : decode cX6_image 18 = .ok (.aload_n 2, 1) := by decide +kernel
theorem dX6_image_19 : decode cX6_image 19 = .ok (.ifnonnull 18, 3) := by decide +kernel
theorem dX6_image_22 : decode cX6_image 22 = .ok (.new 16, 3) := by decide +kernel
theorem dX6_image_25 : decode cX6_image 25 = .ok (.dup, 1) := by decide +kernel
theorem dX6_image_26 : decode cX6_image 26 = .ok (.invokespecial 18, 3) := by decide +kernel
theorem dX6_image_29 : decode cX6_image 29 = .ok (.astore_n 2, 1) := by decide +kernel
theorem dX6_image_30 : decode cX6_image 30 = .ok (.aload_n 0, 1) := by decide +kernel
theorem dX6_image_31 : decode cX6_image 31 = .ok (.getfield 23, 3) := by decide +kernel
theorem dX6_image_34 : decode cX6_image 34 = .ok (.iload_n 1, 1) := by decide +kernel
theorem dX6_image_35 : decode cX6_image 35 = .ok (.aload_n 2, 1) := by decide +kernel
theorem dX6_image_36 : decode cX6_image 36 = .ok (.aastore, 1) := by decide +kernel
theorem dX6_image_37 : decode cX6_image 37 = .ok (.aload_n 2, 1) := by decide +kernel
theorem dX6_image_38 : decode cX6_image 38 = .ok (.aload_n 0, 1) := by decide +kernel
theorem dX6_image_39 : decode cX6_image 39 = .ok (.getfield 19, 3) := by decide +kernel
theorem dX6_image_42 : decode cX6_image 42 = .ok (.invokevirtual 203, 3) := by decide +kernel
theorem dX6_image_45 : decode cX6_image 45 = .ok (.iconst 1, 1) := by decide +kernel
theorem dX6_image_46 : decode cX6_image 46 = .ok (.ireturn, 1) := by decide +kernel
theorem dX6_restore_0 : decode cX6_restore 0 = .ok (.iload_n 1, 1) := by decide +kernel
theorem dX6_restore_1 : decode cX6_restore 1 = .ok (.iconst 2, 1) := by decide +kernel
theorem dX6_restore_2 : decode cX6_restore 2 = .ok (.invokestatic 42, 3) := by decide +kernel
theorem dX6_restore_5 : decode cX6_restore 5 = .ok (.ifCond .ne 6, 3) := by decide +kernel
theorem dX6_restore_8 : decode cX6_restore 8 = .ok (.bipush (-2), 2) := by decide +kernel
theorem dX6_restore_10 : decode cX6_restore 10 = .ok (.ireturn, 1) := by decide +kernel
theorem dX6_restore_11 : decode cX6_restore 11 = .ok (.aload_n 0, 1) := by decide +kernel
theorem dX6_restore_12 : decode cX6_restore 12 = .ok (.getfield 23, 3) := by decide +kernel
theorem dX6_restore_15 : decode cX6_restore 15 = .ok (.iload_n 1, 1) := by decide +kernel
theorem dX6_restore_16 : decode cX6_restore 16 = .ok (.aaload, 1) := by decide +kernel
theorem dX6_restore_17 : decode cX6_restore 17 = .ok (.astore_n 2, 1) := by decide +kernel
theorem dX6_restore_18 : decode cX6_restore 18 = .ok (.aload_n 2, 1) := by decide +kernel
theorem dX6_restore_19 : decode cX6_restore 19 = .ok (.ifnonnull 6, 3) := by decide +kernel
theorem dX6_restore_22 : decode cX6_restore 22 = .ok (.bipush (-3), 2) := by decide +kernel
theorem dX6_restore_24 : decode cX6_restore 24 = .ok (.ireturn, 1) := by decide +kernel
theorem dX6_restore_25 : decode cX6_restore 25 = .ok (.aload_n 0, 1) := by decide +kernel
theorem dX6_restore_26 : decode cX6_restore 26 = .ok (.getfield 19, 3) := by decide +kernel
theorem dX6_restore_29 : decode cX6_restore 29 = .ok (.aload_n 2, 1) := by decide +kernel
theorem dX6_restore_30 : decode cX6_restore 30 = .ok (.invokevirtual 203, 3) := by decide +kernel
theorem dX6_restore_33 : decode cX6_restore 33 = .ok (.iconst 1, 1) := by decide +kernel
theorem dX6_restore_34 : decode cX6_restore 34 = .ok (.ireturn, 1) := by decide +kernel
theorem dX6_told_0 : decode cX6_told 0 = .ok (.iload_n 1, 1) := by decide +kernel
theorem dX6_told_1 : decode cX6_told 1 = .ok (.tableswitch 72 0 3 #[31, 39, 50, 61], 31) := by decide +kernel
theorem dX6_told_32 : decode cX6_told 32 = .ok (.aload_n 0, 1) := by decide +kernel
theorem dX6_told_33 : decode cX6_told 33 = .ok (.getfield 10, 3) := by decide +kernel
theorem dX6_told_36 : decode cX6_told 36 = .ok (.getfield 38, 3) := by decide +kernel
theorem dX6_told_39 : decode cX6_told 39 = .ok (.ireturn, 1) := by decide +kernel
theorem dX6_told_40 : decode cX6_told 40 = .ok (.aload_n 0, 1) := by decide +kernel
theorem dX6_told_41 : decode cX6_told 41 = .ok (.getfield 19, 3) := by decide +kernel
theorem dX6_told_44 : decode cX6_told 44 = .ok (.getfield 56, 3) := by decide +kernel
theorem dX6_told_47 : decode cX6_told 47 = .ok (.getfield 72, 3) := by decide +kernel
theorem dX6_told_50 : decode cX6_told 50 = .ok (.ireturn, 1) := by decide +kernel
theorem dX6_told_51 : decode cX6_told 51 = .ok (.aload_n 0, 1) := by decide +kernel
theorem dX6_told_52 : decode cX6_told 52 = .ok (.getfield 19, 3) := by decide +kernel
theorem dX6_told_55 : decode cX6_told 55 = .ok (.getfield 81, 3) := by decide +kernel
theorem dX6_told_58 : decode cX6_told 58 = .ok (.getfield 91, 3) := by decide +kernel
theorem dX6_told_61 : decode cX6_told 61 = .ok (.ireturn, 1) := by decide +kernel
theorem dX6_told_62 : decode cX6_told 62 = .ok (.aload_n 0, 1) := by decide +kernel
theorem dX6_told_63 : decode cX6_told 63 = .ok (.getfield 19, 3) := by decide +kernel
theorem dX6_told_66 : decode cX6_told 66 = .ok (.getfield 179, 3) := by decide +kernel
theorem dX6_told_69 : decode cX6_told 69 = .ok (.getfield 187, 3) := by decide +kernel
theorem dX6_told_72 : decode cX6_told 72 = .ok (.ireturn, 1) := by decide +kernel
theorem dX6_told_73 : decode cX6_told 73 = .ok (.iload_n 1, 1) := by decide +kernel
theorem dX6_told_74 : decode cX6_told 74 = .ok (.sipush 1000, 3) := by decide +kernel
theorem dX6_told_77 : decode cX6_told 77 = .ok (.if_icmp .ge 11, 3) := by decide +kernel
theorem dX6_told_80 : decode cX6_told 80 = .ok (.aload_n 0, 1) := by decide +kernel
theorem dX6_told_81 : decode cX6_told 81 = .ok (.iload_n 1, 1) := by decide +kernel
theorem dX6_told_82 : decode cX6_told 82 = .ok (.invokevirtual 207, 3) := by decide +kernel
theorem dX6_told_85 : decode cX6_told 85 = .ok (.goto 8, 3) := by decide +kernel
theorem dX6_told_88 : decode cX6_told 88 = .ok (.aload_n 0, 1) := by decide +kernel
theorem dX6_told_89 : decode cX6_told 89 = .ok (.iload_n 1, 1) := by decide +kernel
theorem dX6_told_90 : decode cX6_told 90 = .ok (.invokevirtual 210, 3) := by decide +kernel
theorem dX6_told_93 : decode cX6_told 93 = .ok (.ireturn, 1) := by decide +kernel
theorem dX6_toldOfPerson_0 : decode cX6_toldOfPerson 0 = .ok (.aload_n 0, 1) := by decide +kernel
theorem dX6_toldOfPerson_1 : decode cX6_toldOfPerson 1 = .ok (.getfield 19, 3) := by decide +kernel
theorem dX6_toldOfPerson_4 : decode cX6_toldOfPerson 4 = .ok (.getfield 56, 3) := by decide +kernel
theorem dX6_toldOfPerson_7 : decode cX6_toldOfPerson 7 = .ok (.astore_n 2, 1) := by decide +kernel
theorem dX6_toldOfPerson_8 : decode cX6_toldOfPerson 8 = .ok (.aload_n 0, 1) := by decide +kernel
theorem dX6_toldOfPerson_9 : decode cX6_toldOfPerson 9 = .ok (.iload_n 1, 1) := by decide +kernel
theorem dX6_toldOfPerson_10 : decode cX6_toldOfPerson 10 = .ok (.bipush 10, 2) := by decide +kernel
theorem dX6_toldOfPerson_12 : decode cX6_toldOfPerson 12 = .ok (.isub, 1) := by decide +kernel
theorem dX6_toldOfPerson_13 : decode cX6_toldOfPerson 13 = .ok (.invokevirtual 69, 3) := by decide +kernel
theorem dX6_toldOfPerson_16 : decode cX6_toldOfPerson 16 = .ok (.ifCond .eq 12, 3) := by decide +kernel
theorem dX6_toldOfPerson_19 : decode cX6_toldOfPerson 19 = .ok (.aload_n 2, 1) := by decide +kernel
theorem dX6_toldOfPerson_20 : decode cX6_toldOfPerson 20 = .ok (.iload_n 1, 1) := by decide +kernel
theorem dX6_toldOfPerson_21 : decode cX6_toldOfPerson 21 = .ok (.bipush 10, 2) := by decide +kernel
theorem dX6_toldOfPerson_23 : decode cX6_toldOfPerson 23 = .ok (.isub, 1) := by decide +kernel
theorem dX6_toldOfPerson_24 : decode cX6_toldOfPerson 24 = .ok (.invokevirtual 213, 3) := by decide +kernel
theorem dX6_toldOfPerson_27 : decode cX6_toldOfPerson 27 = .ok (.ireturn, 1) := by decide +kernel
theorem dX6_toldOfPerson_28 : decode cX6_toldOfPerson 28 = .ok (.aload_n 0, 1) := by decide +kernel
theorem dX6_toldOfPerson_29 : decode cX6_toldOfPerson 29 = .ok (.iload_n 1, 1) := by decide +kernel
theorem dX6_toldOfPerson_30 : decode cX6_toldOfPerson 30 = .ok (.bipush 20, 2) := by decide +kernel
theorem dX6_toldOfPerson_32 : decode cX6_toldOfPerson 32 = .ok (.isub, 1) := by decide +kernel
theorem dX6_toldOfPerson_33 : decode cX6_toldOfPerson 33 = .ok (.invokevirtual 69, 3) := by decide +kernel
theorem dX6_toldOfPerson_36 : decode cX6_toldOfPerson 36 = .ok (.ifCond .eq 12, 3) := by decide +kernel
theorem dX6_toldOfPerson_39 : decode cX6_toldOfPerson 39 = .ok (.aload_n 2, 1) := by decide +kernel
theorem dX6_toldOfPerson_40 : decode cX6_toldOfPerson 40 = .ok (.iload_n 1, 1) := by decide +kernel
theorem dX6_toldOfPerson_41 : decode cX6_toldOfPerson 41 = .ok (.bipush 20, 2) := by decide +kernel
theorem dX6_toldOfPerson_43 : decode cX6_toldOfPerson 43 = .ok (.isub, 1) := by decide +kernel
theorem dX6_toldOfPerson_44 : decode cX6_toldOfPerson 44 = .ok (.invokevirtual 216, 3) := by decide +kernel
theorem dX6_toldOfPerson_47 : decode cX6_toldOfPerson 47 = .ok (.ireturn, 1) := by decide +kernel
theorem dX6_toldOfPerson_48 : decode cX6_toldOfPerson 48 = .ok (.iload_n 1, 1) := by decide +kernel
theorem dX6_toldOfPerson_49 : decode cX6_toldOfPerson 49 = .ok (.bipush 100, 2) := by decide +kernel
theorem dX6_toldOfPerson_51 : decode cX6_toldOfPerson 51 = .ok (.idiv, 1) := by decide +kernel
theorem dX6_toldOfPerson_52 : decode cX6_toldOfPerson 52 = .ok (.iconst 1, 1) := by decide +kernel
theorem dX6_toldOfPerson_53 : decode cX6_toldOfPerson 53 = .ok (.isub, 1) := by decide +kernel
theorem dX6_toldOfPerson_54 : decode cX6_toldOfPerson 54 = .ok (.istore_n 3, 1) := by decide +kernel
theorem dX6_toldOfPerson_55 : decode cX6_toldOfPerson 55 = .ok (.iload_n 1, 1) := by decide +kernel
theorem dX6_toldOfPerson_56 : decode cX6_toldOfPerson 56 = .ok (.bipush 100, 2) := by decide +kernel
theorem dX6_toldOfPerson_58 : decode cX6_toldOfPerson 58 = .ok (.irem, 1) := by decide +kernel
theorem dX6_toldOfPerson_59 : decode cX6_toldOfPerson 59 = .ok (.istore 4, 2) := by decide +kernel
theorem dX6_toldOfPerson_61 : decode cX6_toldOfPerson 61 = .ok (.aload_n 0, 1) := by decide +kernel
theorem dX6_toldOfPerson_62 : decode cX6_toldOfPerson 62 = .ok (.iload_n 3, 1) := by decide +kernel
theorem dX6_toldOfPerson_63 : decode cX6_toldOfPerson 63 = .ok (.invokevirtual 69, 3) := by decide +kernel
theorem dX6_toldOfPerson_66 : decode cX6_toldOfPerson 66 = .ok (.ifCond .eq 16, 3) := by decide +kernel
theorem dX6_toldOfPerson_69 : decode cX6_toldOfPerson 69 = .ok (.iload 4, 2) := by decide +kernel
theorem dX6_toldOfPerson_71 : decode cX6_toldOfPerson 71 = .ok (.aload_n 2, 1) := by decide +kernel
theorem dX6_toldOfPerson_72 : decode cX6_toldOfPerson 72 = .ok (.iload_n 3, 1) := by decide +kernel
theorem dX6_toldOfPerson_73 : decode cX6_toldOfPerson 73 = .ok (.invokevirtual 216, 3) := by decide +kernel
theorem dX6_toldOfPerson_76 : decode cX6_toldOfPerson 76 = .ok (.invokestatic 42, 3) := by decide +kernel
theorem dX6_toldOfPerson_79 : decode cX6_toldOfPerson 79 = .ok (.ifCond .ne 6, 3) := by decide +kernel
theorem dX6_toldOfPerson_82 : decode cX6_toldOfPerson 82 = .ok (.bipush (-2), 2) := by decide +kernel
theorem dX6_toldOfPerson_84 : decode cX6_toldOfPerson 84 = .ok (.ireturn, 1) := by decide +kernel
theorem dX6_toldOfPerson_85 : decode cX6_toldOfPerson 85 = .ok (.aload_n 2, 1) := by decide +kernel
theorem dX6_toldOfPerson_86 : decode cX6_toldOfPerson 86 = .ok (.iload_n 3, 1) := by decide +kernel
theorem dX6_toldOfPerson_87 : decode cX6_toldOfPerson 87 = .ok (.iload 4, 2) := by decide +kernel
theorem dX6_toldOfPerson_89 : decode cX6_toldOfPerson 89 = .ok (.invokevirtual 219, 3) := by decide +kernel
theorem dX6_toldOfPerson_92 : decode cX6_toldOfPerson 92 = .ok (.ireturn, 1) := by decide +kernel
theorem dX6_toldOfWork_0 : decode cX6_toldOfWork 0 = .ok (.iload_n 1, 1) := by decide +kernel
theorem dX6_toldOfWork_1 : decode cX6_toldOfWork 1 = .ok (.sipush 1000, 3) := by decide +kernel
theorem dX6_toldOfWork_4 : decode cX6_toldOfWork 4 = .ok (.idiv, 1) := by decide +kernel
theorem dX6_toldOfWork_5 : decode cX6_toldOfWork 5 = .ok (.iconst 1, 1) := by decide +kernel
theorem dX6_toldOfWork_6 : decode cX6_toldOfWork 6 = .ok (.isub, 1) := by decide +kernel
theorem dX6_toldOfWork_7 : decode cX6_toldOfWork 7 = .ok (.istore_n 2, 1) := by decide +kernel
theorem dX6_toldOfWork_8 : decode cX6_toldOfWork 8 = .ok (.iload_n 1, 1) := by decide +kernel
theorem dX6_toldOfWork_9 : decode cX6_toldOfWork 9 = .ok (.sipush 1000, 3) := by decide +kernel
theorem dX6_toldOfWork_12 : decode cX6_toldOfWork 12 = .ok (.irem, 1) := by decide +kernel
theorem dX6_toldOfWork_13 : decode cX6_toldOfWork 13 = .ok (.istore_n 3, 1) := by decide +kernel
theorem dX6_toldOfWork_14 : decode cX6_toldOfWork 14 = .ok (.iload_n 2, 1) := by decide +kernel
theorem dX6_toldOfWork_15 : decode cX6_toldOfWork 15 = .ok (.aload_n 0, 1) := by decide +kernel
theorem dX6_toldOfWork_16 : decode cX6_toldOfWork 16 = .ok (.getfield 19, 3) := by decide +kernel
theorem dX6_toldOfWork_19 : decode cX6_toldOfWork 19 = .ok (.getfield 81, 3) := by decide +kernel
theorem dX6_toldOfWork_22 : decode cX6_toldOfWork 22 = .ok (.getfield 91, 3) := by decide +kernel
theorem dX6_toldOfWork_25 : decode cX6_toldOfWork 25 = .ok (.invokestatic 42, 3) := by decide +kernel
theorem dX6_toldOfWork_28 : decode cX6_toldOfWork 28 = .ok (.ifCond .eq 11, 3) := by decide +kernel
theorem dX6_toldOfWork_31 : decode cX6_toldOfWork 31 = .ok (.iload_n 3, 1) := by decide +kernel
theorem dX6_toldOfWork_32 : decode cX6_toldOfWork 32 = .ok (.iconst 2, 1) := by decide +kernel
theorem dX6_toldOfWork_33 : decode cX6_toldOfWork 33 = .ok (.invokestatic 42, 3) := by decide +kernel
theorem dX6_toldOfWork_36 : decode cX6_toldOfWork 36 = .ok (.ifCond .ne 6, 3) := by decide +kernel
theorem dX6_toldOfWork_39 : decode cX6_toldOfWork 39 = .ok (.bipush (-2), 2) := by decide +kernel
theorem dX6_toldOfWork_41 : decode cX6_toldOfWork 41 = .ok (.ireturn, 1) := by decide +kernel
theorem dX6_toldOfWork_42 : decode cX6_toldOfWork 42 = .ok (.iload_n 3, 1) := by decide +kernel
theorem dX6_toldOfWork_43 : decode cX6_toldOfWork 43 = .ok (.ifCond .ne 17, 3) := by decide +kernel
theorem dX6_toldOfWork_46 : decode cX6_toldOfWork 46 = .ok (.aload_n 0, 1) := by decide +kernel
theorem dX6_toldOfWork_47 : decode cX6_toldOfWork 47 = .ok (.getfield 19, 3) := by decide +kernel
theorem dX6_toldOfWork_50 : decode cX6_toldOfWork 50 = .ok (.getfield 81, 3) := by decide +kernel
theorem dX6_toldOfWork_53 : decode cX6_toldOfWork 53 = .ok (.iload_n 2, 1) := by decide +kernel
theorem dX6_toldOfWork_54 : decode cX6_toldOfWork 54 = .ok (.invokevirtual 155, 3) := by decide +kernel
theorem dX6_toldOfWork_57 : decode cX6_toldOfWork 57 = .ok (.goto 14, 3) := by decide +kernel
theorem dX6_toldOfWork_60 : decode cX6_toldOfWork 60 = .ok (.aload_n 0, 1) := by decide +kernel
theorem dX6_toldOfWork_61 : decode cX6_toldOfWork 61 = .ok (.getfield 19, 3) := by decide +kernel
theorem dX6_toldOfWork_64 : decode cX6_toldOfWork 64 = .ok (.getfield 81, 3) := by decide +kernel
theorem dX6_toldOfWork_67 : decode cX6_toldOfWork 67 = .ok (.iload_n 2, 1) := by decide +kernel
theorem dX6_toldOfWork_68 : decode cX6_toldOfWork 68 = .ok (.invokevirtual 152, 3) := by decide +kernel
theorem dX6_toldOfWork_71 : decode cX6_toldOfWork 71 = .ok (.ireturn, 1) := by decide +kernel
theorem dX6_pairs_0 : decode cX6_pairs 0 = .ok (.iconst 0, 1) := by decide +kernel
theorem dX6_pairs_1 : decode cX6_pairs 1 = .ok (.istore_n 3, 1) := by decide +kernel
theorem dX6_pairs_2 : decode cX6_pairs 2 = .ok (.iconst 0, 1) := by decide +kernel
theorem dX6_pairs_3 : decode cX6_pairs 3 = .ok (.istore 4, 2) := by decide +kernel
theorem dX6_pairs_5 : decode cX6_pairs 5 = .ok (.iload 4, 2) := by decide +kernel
theorem dX6_pairs_7 : decode cX6_pairs 7 = .ok (.bipush 6, 2) := by decide +kernel
theorem dX6_pairs_9 : decode cX6_pairs 9 = .ok (.if_icmp .ge 57, 3) := by decide +kernel
theorem dX6_pairs_12 : decode cX6_pairs 12 = .ok (.iload 4, 2) := by decide +kernel
theorem dX6_pairs_14 : decode cX6_pairs 14 = .ok (.iconst 1, 1) := by decide +kernel
theorem dX6_pairs_15 : decode cX6_pairs 15 = .ok (.iadd, 1) := by decide +kernel
theorem dX6_pairs_16 : decode cX6_pairs 16 = .ok (.istore 5, 2) := by decide +kernel
theorem dX6_pairs_18 : decode cX6_pairs 18 = .ok (.iload 5, 2) := by decide +kernel
theorem dX6_pairs_20 : decode cX6_pairs 20 = .ok (.bipush 6, 2) := by decide +kernel
theorem dX6_pairs_22 : decode cX6_pairs 22 = .ok (.if_icmp .ge 38, 3) := by decide +kernel
theorem dX6_pairs_25 : decode cX6_pairs 25 = .ok (.aload_n 0, 1) := by decide +kernel
theorem dX6_pairs_26 : decode cX6_pairs 26 = .ok (.iload_n 1, 1) := by decide +kernel
theorem dX6_pairs_27 : decode cX6_pairs 27 = .ok (.iload 4, 2) := by decide +kernel
theorem dX6_pairs_29 : decode cX6_pairs 29 = .ok (.iload 5, 2) := by decide +kernel
theorem dX6_pairs_31 : decode cX6_pairs 31 = .ok (.invokevirtual 222, 3) := by decide +kernel
theorem dX6_pairs_34 : decode cX6_pairs 34 = .ok (.ifCond .eq 20, 3) := by decide +kernel
theorem dX6_pairs_37 : decode cX6_pairs 37 = .ok (.iload_n 3, 1) := by decide +kernel
theorem dX6_pairs_38 : decode cX6_pairs 38 = .ok (.iload_n 2, 1) := by decide +kernel
theorem dX6_pairs_39 : decode cX6_pairs 39 = .ok (.if_icmp .ne 12, 3) := by decide +kernel
theorem dX6_pairs_42 : decode cX6_pairs 42 = .ok (.bipush 10, 2) := by decide +kernel
theorem dX6_pairs_44 : decode cX6_pairs 44 = .ok (.iload 4, 2) := by decide +kernel
theorem dX6_pairs_46 : decode cX6_pairs 46 = .ok (.imul, 1) := by decide +kernel
theorem dX6_pairs_47 : decode cX6_pairs 47 = .ok (.iload 5, 2) := by decide +kernel
theorem dX6_pairs_49 : decode cX6_pairs 49 = .ok (.iadd, 1) := by decide +kernel
theorem dX6_pairs_50 : decode cX6_pairs 50 = .ok (.ireturn, 1) := by decide +kernel
theorem dX6_pairs_51 : decode cX6_pairs 51 = .ok (.iinc 3 1, 3) := by decide +kernel
theorem dX6_pairs_54 : decode cX6_pairs 54 = .ok (.iinc 5 1, 3) := by decide +kernel
theorem dX6_pairs_57 : decode cX6_pairs 57 = .ok (.goto (-39), 3) := by decide +kernel
theorem dX6_pairs_60 : decode cX6_pairs 60 = .ok (.iinc 4 1, 3) := by decide +kernel
theorem dX6_pairs_63 : decode cX6_pairs 63 = .ok (.goto (-58), 3) := by decide +kernel
theorem dX6_pairs_66 : decode cX6_pairs 66 = .ok (.iload_n 2, 1) := by decide +kernel
theorem dX6_pairs_67 : decode cX6_pairs 67 = .ok (.iconst (-1), 1) := by decide +kernel
theorem dX6_pairs_68 : decode cX6_pairs 68 = .ok (.if_icmp .ne 7, 3) := by decide +kernel
theorem dX6_pairs_71 : decode cX6_pairs 71 = .ok (.iload_n 3, 1) := by decide +kernel
theorem dX6_pairs_72 : decode cX6_pairs 72 = .ok (.goto 5, 3) := by decide +kernel
theorem dX6_pairs_75 : decode cX6_pairs 75 = .ok (.bipush (-6), 2) := by decide +kernel
theorem dX6_pairs_77 : decode cX6_pairs 77 = .ok (.ireturn, 1) := by decide +kernel
theorem dX6_isPair_0 : decode cX6_isPair 0 = .ok (.aload_n 0, 1) := by decide +kernel
theorem dX6_isPair_1 : decode cX6_isPair 1 = .ok (.iload_n 2, 1) := by decide +kernel
theorem dX6_isPair_2 : decode cX6_isPair 2 = .ok (.iload_n 3, 1) := by decide +kernel
theorem dX6_isPair_3 : decode cX6_isPair 3 = .ok (.invokevirtual 108, 3) := by decide +kernel
theorem dX6_isPair_6 : decode cX6_isPair 6 = .ok (.ifCond .ne 5, 3) := by decide +kernel
theorem dX6_isPair_9 : decode cX6_isPair 9 = .ok (.iconst 0, 1) := by decide +kernel
theorem dX6_isPair_10 : decode cX6_isPair 10 = .ok (.ireturn, 1) := by decide +kernel
theorem dX6_isPair_11 : decode cX6_isPair 11 = .ok (.iload_n 1, 1) := by decide +kernel
theorem dX6_isPair_12 : decode cX6_isPair 12 = .ok (.ifCond .eq 18, 3) := by decide +kernel
theorem dX6_isPair_15 : decode cX6_isPair 15 = .ok (.aload_n 0, 1) := by decide +kernel
theorem dX6_isPair_16 : decode cX6_isPair 16 = .ok (.getfield 19, 3) := by decide +kernel
theorem dX6_isPair_19 : decode cX6_isPair 19 = .ok (.getfield 56, 3) := by decide +kernel
theorem dX6_isPair_22 : decode cX6_isPair 22 = .ok (.iload_n 2, 1) := by decide +kernel
theorem dX6_isPair_23 : decode cX6_isPair 23 = .ok (.iload_n 3, 1) := by decide +kernel
theorem dX6_isPair_24 : decode cX6_isPair 24 = .ok (.invokevirtual 226, 3) := by decide +kernel
theorem dX6_isPair_27 : decode cX6_isPair 27 = .ok (.goto 23, 3) := by decide +kernel
theorem dX6_isPair_30 : decode cX6_isPair 30 = .ok (.aload_n 0, 1) := by decide +kernel
theorem dX6_isPair_31 : decode cX6_isPair 31 = .ok (.getfield 19, 3) := by decide +kernel
theorem dX6_isPair_34 : decode cX6_isPair 34 = .ok (.getfield 56, 3) := by decide +kernel
theorem dX6_isPair_37 : decode cX6_isPair 37 = .ok (.iload_n 2, 1) := by decide +kernel
theorem dX6_isPair_38 : decode cX6_isPair 38 = .ok (.iload_n 3, 1) := by decide +kernel
theorem dX6_isPair_39 : decode cX6_isPair 39 = .ok (.invokevirtual 229, 3) := by decide +kernel
theorem dX6_isPair_42 : decode cX6_isPair 42 = .ok (.ifCond .ne 7, 3) := by decide +kernel
theorem dX6_isPair_45 : decode cX6_isPair 45 = .ok (.iconst 1, 1) := by decide +kernel
theorem dX6_isPair_46 : decode cX6_isPair 46 = .ok (.goto 4, 3) := by decide +kernel
theorem dX6_isPair_49 : decode cX6_isPair 49 = .ok (.iconst 0, 1) := by decide +kernel
theorem dX6_isPair_50 : decode cX6_isPair 50 = .ok (.ireturn, 1) := by decide +kernel
theorem dX6_isOneOf_0 : decode cX6_isOneOf 0 = .ok (.iload_n 0, 1) := by decide +kernel
theorem dX6_isOneOf_1 : decode cX6_isOneOf 1 = .ok (.ifCond .lt 12, 3) := by decide +kernel
theorem dX6_isOneOf_4 : decode cX6_isOneOf 4 = .ok (.iload_n 0, 1) := by decide +kernel
theorem dX6_isOneOf_5 : decode cX6_isOneOf 5 = .ok (.iload_n 1, 1) := by decide +kernel
theorem dX6_isOneOf_6 : decode cX6_isOneOf 6 = .ok (.if_icmp .ge 7, 3) := by decide +kernel
theorem dX6_isOneOf_9 : decode cX6_isOneOf 9 = .ok (.iconst 1, 1) := by decide +kernel
theorem dX6_isOneOf_10 : decode cX6_isOneOf 10 = .ok (.goto 4, 3) := by decide +kernel
theorem dX6_isOneOf_13 : decode cX6_isOneOf 13 = .ok (.iconst 0, 1) := by decide +kernel
theorem dX6_isOneOf_14 : decode cX6_isOneOf 14 = .ok (.ireturn, 1) := by decide +kernel
theorem dX6_isDate_0 : decode cX6_isDate 0 = .ok (.iload_n 0, 1) := by decide +kernel
theorem dX6_isDate_1 : decode cX6_isDate 1 = .ok (.ifCond .lt 14, 3) := by decide +kernel
theorem dX6_isDate_4 : decode cX6_isDate 4 = .ok (.iload_n 0, 1) := by decide +kernel
theorem dX6_isDate_5 : decode cX6_isDate 5 = .ok (.sipush 9999, 3) := by decide +kernel
theorem dX6_isDate_8 : decode cX6_isDate 8 = .ok (.if_icmp .gt 7, 3) := by decide +kernel
theorem dX6_isDate_11 : decode cX6_isDate 11 = .ok (.iconst 1, 1) := by decide +kernel
theorem dX6_isDate_12 : decode cX6_isDate 12 = .ok (.goto 4, 3) := by decide +kernel
theorem dX6_isDate_15 : decode cX6_isDate 15 = .ok (.iconst 0, 1) := by decide +kernel
theorem dX6_isDate_16 : decode cX6_isDate 16 = .ok (.ireturn, 1) := by decide +kernel
theorem dX6_isBirth_0 : decode cX6_isBirth 0 = .ok (.iload_n 0, 1) := by decide +kernel
theorem dX6_isBirth_1 : decode cX6_isBirth 1 = .ok (.ifCond .lt 13, 3) := by decide +kernel
theorem dX6_isBirth_4 : decode cX6_isBirth 4 = .ok (.iload_n 0, 1) := by decide +kernel
theorem dX6_isBirth_5 : decode cX6_isBirth 5 = .ok (.bipush 99, 2) := by decide +kernel
theorem dX6_isBirth_7 : decode cX6_isBirth 7 = .ok (.if_icmp .gt 7, 3) := by decide +kernel
theorem dX6_isBirth_10 : decode cX6_isBirth 10 = .ok (.iconst 1, 1) := by decide +kernel
theorem dX6_isBirth_11 : decode cX6_isBirth 11 = .ok (.goto 4, 3) := by decide +kernel
theorem dX6_isBirth_14 : decode cX6_isBirth 14 = .ok (.iconst 0, 1) := by decide +kernel
theorem dX6_isBirth_15 : decode cX6_isBirth 15 = .ok (.ireturn, 1) := by decide +kernel
theorem dX6_isThere_0 : decode cX6_isThere 0 = .ok (.aload_n 0, 1) := by decide +kernel
theorem dX6_isThere_1 : decode cX6_isThere 1 = .ok (.getfield 19, 3) := by decide +kernel
theorem dX6_isThere_4 : decode cX6_isThere 4 = .ok (.getfield 56, 3) := by decide +kernel
theorem dX6_isThere_7 : decode cX6_isThere 7 = .ok (.iload_n 1, 1) := by decide +kernel
theorem dX6_isThere_8 : decode cX6_isThere 8 = .ok (.invokevirtual 232, 3) := by decide +kernel
theorem dX6_isThere_11 : decode cX6_isThere 11 = .ok (.ireturn, 1) := by decide +kernel
theorem dX6_areTwoThere_0 : decode cX6_areTwoThere 0 = .ok (.iload_n 1, 1) := by decide +kernel
theorem dX6_areTwoThere_1 : decode cX6_areTwoThere 1 = .ok (.iload_n 2, 1) := by decide +kernel
theorem dX6_areTwoThere_2 : decode cX6_areTwoThere 2 = .ok (.if_icmp .eq 23, 3) := by decide +kernel
theorem dX6_areTwoThere_5 : decode cX6_areTwoThere 5 = .ok (.aload_n 0, 1) := by decide +kernel
theorem dX6_areTwoThere_6 : decode cX6_areTwoThere 6 = .ok (.iload_n 1, 1) := by decide +kernel
theorem dX6_areTwoThere_7 : decode cX6_areTwoThere 7 = .ok (.invokevirtual 69, 3) := by decide +kernel
theorem dX6_areTwoThere_10 : decode cX6_areTwoThere 10 = .ok (.ifCond .eq 15, 3) := by decide +kernel
theorem dX6_areTwoThere_13 : decode cX6_areTwoThere 13 = .ok (.aload_n 0, 1) := by decide +kernel
theorem dX6_areTwoThere_14 : decode cX6_areTwoThere 14 = .ok (.iload_n 2, 1) := by decide +kernel
theorem dX6_areTwoThere_15 : decode cX6_areTwoThere 15 = .ok (.invokevirtual 69, 3) := by decide +kernel
theorem dX6_areTwoThere_18 : decode cX6_areTwoThere 18 = .ok (.ifCond .eq 7, 3) := by decide +kernel
theorem dX6_areTwoThere_21 : decode cX6_areTwoThere 21 = .ok (.iconst 1, 1) := by decide +kernel
theorem dX6_areTwoThere_22 : decode cX6_areTwoThere 22 = .ok (.goto 4, 3) := by decide +kernel
theorem dX6_areTwoThere_25 : decode cX6_areTwoThere 25 = .ok (.iconst 0, 1) := by decide +kernel
theorem dX6_areTwoThere_26 : decode cX6_areTwoThere 26 = .ok (.ireturn, 1) := by decide +kernel
theorem dX6_isSetOfThere_0 : decode cX6_isSetOfThere 0 = .ok (.iload_n 1, 1) := by decide +kernel
theorem dX6_isSetOfThere_1 : decode cX6_isSetOfThere 1 = .ok (.ifCond .eq 24, 3) := by decide +kernel
theorem dX6_isSetOfThere_4 : decode cX6_isSetOfThere 4 = .ok (.iload_n 1, 1) := by decide +kernel
theorem dX6_isSetOfThere_5 : decode cX6_isSetOfThere 5 = .ok (.aload_n 0, 1) := by decide +kernel
theorem dX6_isSetOfThere_6 : decode cX6_isSetOfThere 6 = .ok (.getfield 19, 3) := by decide +kernel
theorem dX6_isSetOfThere_9 : decode cX6_isSetOfThere 9 = .ok (.getfield 56, 3) := by decide +kernel
theorem dX6_isSetOfThere_12 : decode cX6_isSetOfThere 12 = .ok (.getfield 72, 3) := by decide +kernel
theorem dX6_isSetOfThere_15 : decode cX6_isSetOfThere 15 = .ok (.iconst (-1), 1) := by decide +kernel
theorem dX6_isSetOfThere_16 : decode cX6_isSetOfThere 16 = .ok (.ixor, 1) := by decide +kernel
theorem dX6_isSetOfThere_17 : decode cX6_isSetOfThere 17 = .ok (.iand, 1) := by decide +kernel
theorem dX6_isSetOfThere_18 : decode cX6_isSetOfThere 18 = .ok (.ifCond .ne 7, 3) := by decide +kernel
theorem dX6_isSetOfThere_21 : decode cX6_isSetOfThere 21 = .ok (.iconst 1, 1) := by decide +kernel
theorem dX6_isSetOfThere_22 : decode cX6_isSetOfThere 22 = .ok (.goto 4, 3) := by decide +kernel
theorem dX6_isSetOfThere_25 : decode cX6_isSetOfThere 25 = .ok (.iconst 0, 1) := by decide +kernel
theorem dX6_isSetOfThere_26 : decode cX6_isSetOfThere 26 = .ok (.ireturn, 1) := by decide +kernel
theorem dX6_bornDay_0 : decode cX6_bornDay 0 = .ok (.iload_n 3, 1) := by decide +kernel
theorem dX6_bornDay_1 : decode cX6_bornDay 1 = .ok (.iload_n 2, 1) := by decide +kernel
theorem dX6_bornDay_2 : decode cX6_bornDay 2 = .ok (.isub, 1) := by decide +kernel
theorem dX6_bornDay_3 : decode cX6_bornDay 3 = .ok (.istore 4, 2) := by decide +kernel
theorem dX6_bornDay_5 : decode cX6_bornDay 5 = .ok (.iload_n 1, 1) := by decide +kernel
theorem dX6_bornDay_6 : decode cX6_bornDay 6 = .ok (.ifCond .ne 10, 3) := by decide +kernel
theorem dX6_bornDay_9 : decode cX6_bornDay 9 = .ok (.iload_n 0, 1) := by decide +kernel
theorem dX6_bornDay_10 : decode cX6_bornDay 10 = .ok (.iload 4, 2) := by decide +kernel
theorem dX6_bornDay_12 : decode cX6_bornDay 12 = .ok (.iadd, 1) := by decide +kernel
theorem dX6_bornDay_13 : decode cX6_bornDay 13 = .ok (.goto 7, 3) := by decide +kernel
theorem dX6_bornDay_16 : decode cX6_bornDay 16 = .ok (.iload_n 0, 1) := by decide +kernel
theorem dX6_bornDay_17 : decode cX6_bornDay 17 = .ok (.iload 4, 2) := by decide +kernel
theorem dX6_bornDay_19 : decode cX6_bornDay 19 = .ok (.isub, 1) := by decide +kernel
theorem dX6_bornDay_20 : decode cX6_bornDay 20 = .ok (.bipush 7, 2) := by decide +kernel
theorem dX6_bornDay_22 : decode cX6_bornDay 22 = .ok (.invokestatic 233, 3) := by decide +kernel
theorem dX6_bornDay_25 : decode cX6_bornDay 25 = .ok (.ireturn, 1) := by decide +kernel
theorem dX6_chanceOfDay_0 : decode cX6_chanceOfDay 0 = .ok (.iconst 0, 1) := by decide +kernel
theorem dX6_chanceOfDay_1 : decode cX6_chanceOfDay 1 = .ok (.istore_n 3, 1) := by decide +kernel
theorem dX6_chanceOfDay_2 : decode cX6_chanceOfDay 2 = .ok (.iconst 0, 1) := by decide +kernel
theorem dX6_chanceOfDay_3 : decode cX6_chanceOfDay 3 = .ok (.istore 4, 2) := by decide +kernel
theorem dX6_chanceOfDay_5 : decode cX6_chanceOfDay 5 = .ok (.iconst 0, 1) := by decide +kernel
theorem dX6_chanceOfDay_6 : decode cX6_chanceOfDay 6 = .ok (.istore 5, 2) := by decide +kernel
theorem dX6_chanceOfDay_8 : decode cX6_chanceOfDay 8 = .ok (.iload 5, 2) := by decide +kernel
theorem dX6_chanceOfDay_10 : decode cX6_chanceOfDay 10 = .ok (.iconst 2, 1) := by decide +kernel
theorem dX6_chanceOfDay_11 : decode cX6_chanceOfDay 11 = .ok (.if_icmp .ge 66, 3) := by decide +kernel
theorem dX6_chanceOfDay_14 : decode cX6_chanceOfDay 14 = .ok (.iconst 0, 1) := by decide +kernel
theorem dX6_chanceOfDay_15 : decode cX6_chanceOfDay 15 = .ok (.istore 6, 2) := by decide +kernel
theorem dX6_chanceOfDay_17 : decode cX6_chanceOfDay 17 = .ok (.iload 6, 2) := by decide +kernel
theorem dX6_chanceOfDay_19 : decode cX6_chanceOfDay 19 = .ok (.bipush 7, 2) := by decide +kernel
theorem dX6_chanceOfDay_21 : decode cX6_chanceOfDay 21 = .ok (.if_icmp .ge 50, 3) := by decide +kernel
theorem dX6_chanceOfDay_24 : decode cX6_chanceOfDay 24 = .ok (.iconst 0, 1) := by decide +kernel
theorem dX6_chanceOfDay_25 : decode cX6_chanceOfDay 25 = .ok (.istore 7, 2) := by decide +kernel
theorem dX6_chanceOfDay_27 : decode cX6_chanceOfDay 27 = .ok (.iload 7, 2) := by decide +kernel
theorem dX6_chanceOfDay_29 : decode cX6_chanceOfDay 29 = .ok (.bipush 7, 2) := by decide +kernel
theorem dX6_chanceOfDay_31 : decode cX6_chanceOfDay 31 = .ok (.if_icmp .ge 34, 3) := by decide +kernel
theorem dX6_chanceOfDay_34 : decode cX6_chanceOfDay 34 = .ok (.iinc 4 1, 3) := by decide +kernel
theorem dX6_chanceOfDay_37 : decode cX6_chanceOfDay 37 = .ok (.iload_n 3, 1) := by decide +kernel
theorem dX6_chanceOfDay_38 : decode cX6_chanceOfDay 38 = .ok (.iload 6, 2) := by decide +kernel
theorem dX6_chanceOfDay_40 : decode cX6_chanceOfDay 40 = .ok (.iload 5, 2) := by decide +kernel
theorem dX6_chanceOfDay_42 : decode cX6_chanceOfDay 42 = .ok (.iload 7, 2) := by decide +kernel
theorem dX6_chanceOfDay_44 : decode cX6_chanceOfDay 44 = .ok (.iload_n 1, 1) := by decide +kernel
theorem dX6_chanceOfDay_45 : decode cX6_chanceOfDay 45 = .ok (.invokestatic 236, 3) := by decide +kernel
theorem dX6_chanceOfDay_48 : decode cX6_chanceOfDay 48 = .ok (.iload_n 0, 1) := by decide +kernel
theorem dX6_chanceOfDay_49 : decode cX6_chanceOfDay 49 = .ok (.if_icmp .ne 7, 3) := by decide +kernel
theorem dX6_chanceOfDay_52 : decode cX6_chanceOfDay 52 = .ok (.iconst 1, 1) := by decide +kernel
theorem dX6_chanceOfDay_53 : decode cX6_chanceOfDay 53 = .ok (.goto 4, 3) := by decide +kernel
theorem dX6_chanceOfDay_56 : decode cX6_chanceOfDay 56 = .ok (.iconst 0, 1) := by decide +kernel
theorem dX6_chanceOfDay_57 : decode cX6_chanceOfDay 57 = .ok (.iadd, 1) := by decide +kernel
theorem dX6_chanceOfDay_58 : decode cX6_chanceOfDay 58 = .ok (.istore_n 3, 1) := by decide +kernel
theorem dX6_chanceOfDay_59 : decode cX6_chanceOfDay 59 = .ok (.iinc 7 1, 3) := by decide +kernel
theorem dX6_chanceOfDay_62 : decode cX6_chanceOfDay 62 = .ok (.goto (-35), 3) := by decide +kernel
theorem dX6_chanceOfDay_65 : decode cX6_chanceOfDay 65 = .ok (.iinc 6 1, 3) := by decide +kernel
theorem dX6_chanceOfDay_68 : decode cX6_chanceOfDay 68 = .ok (.goto (-51), 3) := by decide +kernel
theorem dX6_chanceOfDay_71 : decode cX6_chanceOfDay 71 = .ok (.iinc 5 1, 3) := by decide +kernel
theorem dX6_chanceOfDay_74 : decode cX6_chanceOfDay 74 = .ok (.goto (-66), 3) := by decide +kernel
theorem dX6_chanceOfDay_77 : decode cX6_chanceOfDay 77 = .ok (.iload_n 2, 1) := by decide +kernel
theorem dX6_chanceOfDay_78 : decode cX6_chanceOfDay 78 = .ok (.ifCond .ne 7, 3) := by decide +kernel
theorem dX6_chanceOfDay_81 : decode cX6_chanceOfDay 81 = .ok (.iload_n 3, 1) := by decide +kernel
theorem dX6_chanceOfDay_82 : decode cX6_chanceOfDay 82 = .ok (.goto 5, 3) := by decide +kernel
theorem dX6_chanceOfDay_85 : decode cX6_chanceOfDay 85 = .ok (.iload 4, 2) := by decide +kernel
theorem dX6_chanceOfDay_87 : decode cX6_chanceOfDay 87 = .ok (.iload_n 3, 1) := by decide +kernel
theorem dX6_chanceOfDay_88 : decode cX6_chanceOfDay 88 = .ok (.iload 4, 2) := by decide +kernel
theorem dX6_chanceOfDay_90 : decode cX6_chanceOfDay 90 = .ok (.invokestatic 240, 3) := by decide +kernel
theorem dX6_chanceOfDay_93 : decode cX6_chanceOfDay 93 = .ok (.idiv, 1) := by decide +kernel
theorem dX6_chanceOfDay_94 : decode cX6_chanceOfDay 94 = .ok (.i2l, 1) := by decide +kernel
theorem dX6_chanceOfDay_95 : decode cX6_chanceOfDay 95 = .ok (.lreturn, 1) := by decide +kernel
theorem dX6_greatestFactor_0 : decode cX6_greatestFactor 0 = .ok (.iload_n 1, 1) := by decide +kernel
theorem dX6_greatestFactor_1 : decode cX6_greatestFactor 1 = .ok (.istore_n 2, 1) := by decide +kernel
theorem dX6_greatestFactor_2 : decode cX6_greatestFactor 2 = .ok (.iload_n 2, 1) := by decide +kernel
theorem dX6_greatestFactor_3 : decode cX6_greatestFactor 3 = .ok (.iconst 1, 1) := by decide +kernel
theorem dX6_greatestFactor_4 : decode cX6_greatestFactor 4 = .ok (.if_icmp .le 23, 3) := by decide +kernel
theorem dX6_greatestFactor_7 : decode cX6_greatestFactor 7 = .ok (.iload_n 0, 1) := by decide +kernel
theorem dX6_greatestFactor_8 : decode cX6_greatestFactor 8 = .ok (.iload_n 2, 1) := by decide +kernel
theorem dX6_greatestFactor_9 : decode cX6_greatestFactor 9 = .ok (.irem, 1) := by decide +kernel
theorem dX6_greatestFactor_10 : decode cX6_greatestFactor 10 = .ok (.ifCond .ne 11, 3) := by decide +kernel
theorem dX6_greatestFactor_13 : decode cX6_greatestFactor 13 = .ok (.iload_n 1, 1) := by decide +kernel
theorem dX6_greatestFactor_14 : decode cX6_greatestFactor 14 = .ok (.iload_n 2, 1) := by decide +kernel
theorem dX6_greatestFactor_15 : decode cX6_greatestFactor 15 = .ok (.irem, 1) := by decide +kernel
theorem dX6_greatestFactor_16 : decode cX6_greatestFactor 16 = .ok (.ifCond .ne 5, 3) := by decide +kernel
theorem dX6_greatestFactor_19 : decode cX6_greatestFactor 19 = .ok (.iload_n 2, 1) := by decide +kernel
theorem dX6_greatestFactor_20 : decode cX6_greatestFactor 20 = .ok (.ireturn, 1) := by decide +kernel
theorem dX6_greatestFactor_21 : decode cX6_greatestFactor 21 = .ok (.iinc 2 (-1), 3) := by decide +kernel
theorem dX6_greatestFactor_24 : decode cX6_greatestFactor 24 = .ok (.goto (-22), 3) := by decide +kernel
theorem dX6_greatestFactor_27 : decode cX6_greatestFactor 27 = .ok (.iconst 1, 1) := by decide +kernel
theorem dX6_greatestFactor_28 : decode cX6_greatestFactor 28 = .ok (.ireturn, 1) := by decide +kernel
theorem dX7_init_0 : decode cX7_init 0 = .ok (.aload_n 0, 1) := by decide +kernel
theorem dX7_init_1 : decode cX7_init 1 = .ok (.invokespecial 1, 3) := by decide +kernel
theorem dX7_init_4 : decode cX7_init 4 = .ok (.aload_n 0, 1) := by decide +kernel
theorem dX7_init_5 : decode cX7_init 5 = .ok (.bipush 48, 2) := by decide +kernel
theorem dX7_init_7 : decode cX7_init 7 = .ok (.newarray .int, 2) := by decide +kernel
theorem dX7_init_9 : decode cX7_init 9 = .ok (.putfield 7, 3) := by decide +kernel
theorem dX7_init_12 : decode cX7_init 12 = .ok (.aload_n 0, 1) := by decide +kernel
theorem dX7_init_13 : decode cX7_init 13 = .ok (.bipush 6, 2) := by decide +kernel
theorem dX7_init_15 : decode cX7_init 15 = .ok (.newarray .int, 2) := by decide +kernel
theorem dX7_init_17 : decode cX7_init 17 = .ok (.putfield 13, 3) := by decide +kernel
theorem dX7_init_20 : decode cX7_init 20 = .ok (.aload_n 0, 1) := by decide +kernel
theorem dX7_init_21 : decode cX7_init 21 = .ok (.bipush 6, 2) := by decide +kernel
theorem dX7_init_23 : decode cX7_init 23 = .ok (.newarray .int, 2) := by decide +kernel
theorem dX7_init_25 : decode cX7_init 25 = .ok (.putfield 16, 3) := by decide +kernel
theorem dX7_init_28 : decode cX7_init 28 = .ok (.aload_n 0, 1) := by decide +kernel
theorem dX7_init_29 : decode cX7_init 29 = .ok (.bipush 6, 2) := by decide +kernel
theorem dX7_init_31 : decode cX7_init 31 = .ok (.newarray .int, 2) := by decide +kernel
theorem dX7_init_33 : decode cX7_init 33 = .ok (.putfield 19, 3) := by decide +kernel
theorem dX7_init_36 : decode cX7_init 36 = .ok (.aload_n 0, 1) := by decide +kernel
theorem dX7_init_37 : decode cX7_init 37 = .ok (.bipush 6, 2) := by decide +kernel
theorem dX7_init_39 : decode cX7_init 39 = .ok (.newarray .int, 2) := by decide +kernel
theorem dX7_init_41 : decode cX7_init 41 = .ok (.putfield 22, 3) := by decide +kernel
theorem dX7_init_44 : decode cX7_init 44 = .ok (.aload_n 0, 1) := by decide +kernel
theorem dX7_init_45 : decode cX7_init 45 = .ok (.bipush 12, 2) := by decide +kernel
theorem dX7_init_47 : decode cX7_init 47 = .ok (.newarray .int, 2) := by decide +kernel
theorem dX7_init_49 : decode cX7_init 49 = .ok (.putfield 25, 3) := by decide +kernel
theorem dX7_init_52 : decode cX7_init 52 = .ok (.aload_n 0, 1) := by decide +kernel
theorem dX7_init_53 : decode cX7_init 53 = .ok (.bipush 60, 2) := by decide +kernel
theorem dX7_init_55 : decode cX7_init 55 = .ok (.newarray .int, 2) := by decide +kernel
theorem dX7_init_57 : decode cX7_init 57 = .ok (.putfield 28, 3) := by decide +kernel
theorem dX7_init_60 : decode cX7_init 60 = .ok (.aload_n 0, 1) := by decide +kernel
theorem dX7_init_61 : decode cX7_init 61 = .ok (.bipush 7, 2) := by decide +kernel
theorem dX7_init_63 : decode cX7_init 63 = .ok (.newarray .int, 2) := by decide +kernel
theorem dX7_init_65 : decode cX7_init 65 = .ok (.putfield 31, 3) := by decide +kernel
theorem dX7_init_68 : decode cX7_init 68 = .ok (.aload_n 0, 1) := by decide +kernel
theorem dX7_init_69 : decode cX7_init 69 = .ok (.sipush 200, 3) := by decide +kernel
theorem dX7_init_72 : decode cX7_init 72 = .ok (.newarray .int, 2) := by decide +kernel
theorem dX7_init_74 : decode cX7_init 74 = .ok (.putfield 34, 3) := by decide +kernel
theorem dX7_init_77 : decode cX7_init 77 = .ok (.aload_n 0, 1) := by decide +kernel
theorem dX7_init_78 : decode cX7_init 78 = .ok (.iconst 2, 1) := by decide +kernel
theorem dX7_init_79 : decode cX7_init 79 = .ok (.newarray .boolean, 2) := by decide +kernel
theorem dX7_init_81 : decode cX7_init 81 = .ok (.putfield 37, 3) := by decide +kernel
theorem dX7_init_84 : decode cX7_init 84 = .ok (.aload_n 0, 1) := by decide +kernel
theorem dX7_init_85 : decode cX7_init 85 = .ok (.iconst 0, 1) := by decide +kernel
theorem dX7_init_86 : decode cX7_init 86 = .ok (.putfield 41, 3) := by decide +kernel
theorem dX7_init_89 : decode cX7_init 89 = .ok (.return_, 1) := by decide +kernel
theorem dX7_in_0 : decode cX7_in 0 = .ok (.iload_n 0, 1) := by decide +kernel
theorem dX7_in_1 : decode cX7_in 1 = .ok (.iload_n 1, 1) := by decide +kernel
theorem dX7_in_2 : decode cX7_in 2 = .ok (.if_icmp .lt 12, 3) := by decide +kernel
theorem dX7_in_5 : decode cX7_in 5 = .ok (.iload_n 0, 1) := by decide +kernel
theorem dX7_in_6 : decode cX7_in 6 = .ok (.iload_n 2, 1) := by decide +kernel
theorem dX7_in_7 : decode cX7_in 7 = .ok (.if_icmp .gt 7, 3) := by decide +kernel
theorem dX7_in_10 : decode cX7_in 10 = .ok (.iconst 1, 1) := by decide +kernel
theorem dX7_in_11 : decode cX7_in 11 = .ok (.goto 4, 3) := by decide +kernel
theorem dX7_in_14 : decode cX7_in 14 = .ok (.iconst 0, 1) := by decide +kernel
theorem dX7_in_15 : decode cX7_in 15 = .ok (.ireturn, 1) := by decide +kernel
theorem dX7_has_0 : decode cX7_has 0 = .ok (.iload_n 0, 1) := by decide +kernel
theorem dX7_has_1 : decode cX7_has 1 = .ok (.iload_n 1, 1) := by decide +kernel
theorem dX7_has_2 : decode cX7_has 2 = .ok (.ishr, 1) := by decide +kernel
theorem dX7_has_3 : decode cX7_has 3 = .ok (.iconst 1, 1) := by decide +kernel
theorem dX7_has_4 : decode cX7_has 4 = .ok (.iand, 1) := by decide +kernel
theorem dX7_has_5 : decode cX7_has 5 = .ok (.iconst 1, 1) := by decide +kernel
theorem dX7_has_6 : decode cX7_has 6 = .ok (.if_icmp .ne 7, 3) := by decide +kernel
theorem dX7_has_9 : decode cX7_has 9 = .ok (.iconst 1, 1) := by decide +kernel
theorem dX7_has_10 : decode cX7_has 10 = .ok (.goto 4, 3) := by decide +kernel
theorem dX7_has_13 : decode cX7_has 13 = .ok (.iconst 0, 1) := by decide +kernel
theorem dX7_has_14 : decode cX7_has 14 = .ok (.ireturn, 1) := by decide +kernel
theorem dX7_bits_0 : decode cX7_bits 0 = .ok (.iconst 0, 1) := by decide +kernel
theorem dX7_bits_1 : decode cX7_bits 1 = .ok (.istore_n 1, 1) := by decide +kernel
theorem dX7_bits_2 : decode cX7_bits 2 = .ok (.iconst 0, 1) := by decide +kernel
theorem dX7_bits_3 : decode cX7_bits 3 = .ok (.istore_n 2, 1) := by decide +kernel
theorem dX7_bits_4 : decode cX7_bits 4 = .ok (.iload_n 2, 1) := by decide +kernel
theorem dX7_bits_5 : decode cX7_bits 5 = .ok (.bipush 8, 2) := by decide +kernel
theorem dX7_bits_7 : decode cX7_bits 7 = .ok (.if_icmp .ge 17, 3) := by decide +kernel
theorem dX7_bits_10 : decode cX7_bits 10 = .ok (.iload_n 1, 1) := by decide +kernel
theorem dX7_bits_11 : decode cX7_bits 11 = .ok (.iload_n 0, 1) := by decide +kernel
theorem dX7_bits_12 : decode cX7_bits 12 = .ok (.iload_n 2, 1) := by decide +kernel
theorem dX7_bits_13 : decode cX7_bits 13 = .ok (.ishr, 1) := by decide +kernel
theorem dX7_bits_14 : decode cX7_bits 14 = .ok (.iconst 1, 1) := by decide +kernel
theorem dX7_bits_15 : decode cX7_bits 15 = .ok (.iand, 1) := by decide +kernel
theorem dX7_bits_16 : decode cX7_bits 16 = .ok (.iadd, 1) := by decide +kernel
theorem dX7_bits_17 : decode cX7_bits 17 = .ok (.istore_n 1, 1) := by decide +kernel
theorem dX7_bits_18 : decode cX7_bits 18 = .ok (.iinc 2 1, 3) := by decide +kernel
theorem dX7_bits_21 : decode cX7_bits 21 = .ok (.goto (-17), 3) := by decide +kernel
theorem dX7_bits_24 : decode cX7_bits 24 = .ok (.iload_n 1, 1) := by decide +kernel
theorem dX7_bits_25 : decode cX7_bits 25 = .ok (.ireturn, 1) := by decide +kernel
theorem dX7_isThere_0 : decode cX7_isThere 0 = .ok (.iload_n 1, 1) := by decide +kernel
theorem dX7_isThere_1 : decode cX7_isThere 1 = .ok (.iconst 0, 1) := by decide +kernel
theorem dX7_isThere_2 : decode cX7_isThere 2 = .ok (.iconst 5, 1) := by decide +kernel
theorem dX7_isThere_3 : decode cX7_isThere 3 = .ok (.invokestatic 45, 3) := by decide +kernel
theorem dX7_isThere_6 : decode cX7_isThere 6 = .ok (.ifCond .eq 18, 3) := by decide +kernel
theorem dX7_isThere_9 : decode cX7_isThere 9 = .ok (.aload_n 0, 1) := by decide +kernel
theorem dX7_isThere_10 : decode cX7_isThere 10 = .ok (.getfield 41, 3) := by decide +kernel
theorem dX7_isThere_13 : decode cX7_isThere 13 = .ok (.iload_n 1, 1) := by decide +kernel
theorem dX7_isThere_14 : decode cX7_isThere 14 = .ok (.invokestatic 49, 3) := by decide +kernel
theorem dX7_isThere_17 : decode cX7_isThere 17 = .ok (.ifCond .eq 7, 3) := by decide +kernel
theorem dX7_isThere_20 : decode cX7_isThere 20 = .ok (.iconst 1, 1) := by decide +kernel
theorem dX7_isThere_21 : decode cX7_isThere 21 = .ok (.goto 4, 3) := by decide +kernel
theorem dX7_isThere_24 : decode cX7_isThere 24 = .ok (.iconst 0, 1) := by decide +kernel
theorem dX7_isThere_25 : decode cX7_isThere 25 = .ok (.ireturn, 1) := by decide +kernel
theorem dX7_isDay_0 : decode cX7_isDay 0 = .ok (.iload_n 0, 1) := by decide +kernel
theorem dX7_isDay_1 : decode cX7_isDay 1 = .ok (.iconst 0, 1) := by decide +kernel
theorem dX7_isDay_2 : decode cX7_isDay 2 = .ok (.bipush 7, 2) := by decide +kernel
theorem dX7_isDay_4 : decode cX7_isDay 4 = .ok (.invokestatic 45, 3) := by decide +kernel
theorem dX7_isDay_7 : decode cX7_isDay 7 = .ok (.ireturn, 1) := by decide +kernel
theorem dX7_isDate_0 : decode cX7_isDate 0 = .ok (.iload_n 0, 1) := by decide +kernel
theorem dX7_isDate_1 : decode cX7_isDate 1 = .ok (.iconst 0, 1) := by decide +kernel
theorem dX7_isDate_2 : decode cX7_isDate 2 = .ok (.sipush 9999, 3) := by decide +kernel
theorem dX7_isDate_5 : decode cX7_isDate 5 = .ok (.invokestatic 45, 3) := by decide +kernel
theorem dX7_isDate_8 : decode cX7_isDate 8 = .ok (.ireturn, 1) := by decide +kernel
theorem dX7_say_0 : decode cX7_say 0 = .ok (.iload_n 1, 1) := by decide +kernel
theorem dX7_say_1 : decode cX7_say 1 = .ok (.bipush 33, 2) := by decide +kernel
theorem dX7_say_3 : decode cX7_say 3 = .ok (.bipush 126, 2) := by decide +kernel
theorem dX7_say_5 : decode cX7_say 5 = .ok (.invokestatic 45, 3) := by decide +kernel
theorem dX7_say_8 : decode cX7_say 8 = .ok (.ifCond .ne 6, 3) := by decide +kernel
theorem dX7_say_11 : decode cX7_say 11 = .ok (.bipush (-2), 2) := by decide +kernel
theorem dX7_say_13 : decode cX7_say 13 = .ok (.ireturn, 1) := by decide +kernel
theorem dX7_say_14 : decode cX7_say 14 = .ok (.aload_n 0, 1) := by decide +kernel
theorem dX7_say_15 : decode cX7_say 15 = .ok (.getfield 53, 3) := by decide +kernel
theorem dX7_say_18 : decode cX7_say 18 = .ok (.bipush 60, 2) := by decide +kernel
theorem dX7_say_20 : decode cX7_say 20 = .ok (.if_icmp .ne 6, 3) := by decide +kernel
theorem dX7_say_23 : decode cX7_say 23 = .ok (.bipush (-4), 2) := by decide +kernel
theorem dX7_say_25 : decode cX7_say 25 = .ok (.ireturn, 1) := by decide +kernel
theorem dX7_say_26 : decode cX7_say 26 = .ok (.aload_n 0, 1) := by decide +kernel
theorem dX7_say_27 : decode cX7_say 27 = .ok (.getfield 28, 3) := by decide +kernel
theorem dX7_say_30 : decode cX7_say 30 = .ok (.aload_n 0, 1) := by decide +kernel
theorem dX7_say_31 : decode cX7_say 31 = .ok (.getfield 53, 3) := by decide +kernel
theorem dX7_say_34 : decode cX7_say 34 = .ok (.iload_n 1, 1) := by decide +kernel
theorem dX7_say_35 : decode cX7_say 35 = .ok (.iastore, 1) := by decide +kernel
theorem dX7_say_36 : decode cX7_say 36 = .ok (.aload_n 0, 1) := by decide +kernel
theorem dX7_say_37 : decode cX7_say 37 = .ok (.dup, 1) := by decide +kernel
theorem dX7_say_38 : decode cX7_say 38 = .ok (.getfield 53, 3) := by decide +kernel
theorem dX7_say_41 : decode cX7_say 41 = .ok (.iconst 1, 1) := by decide +kernel
theorem dX7_say_42 : decode cX7_say 42 = .ok (.iadd, 1) := by decide +kernel
theorem dX7_say_43 : decode cX7_say 43 = .ok (.putfield 53, 3) := by decide +kernel
theorem dX7_say_46 : decode cX7_say 46 = .ok (.aload_n 0, 1) := by decide +kernel
theorem dX7_say_47 : decode cX7_say 47 = .ok (.getfield 53, 3) := by decide +kernel
theorem dX7_say_50 : decode cX7_say 50 = .ok (.ireturn, 1) := by decide +kernel
theorem dX7_wipe_0 : decode cX7_wipe 0 = .ok (.aload_n 0, 1) := by decide +kernel
theorem dX7_wipe_1 : decode cX7_wipe 1 = .ok (.getfield 53, 3) := by decide +kernel
theorem dX7_wipe_4 : decode cX7_wipe 4 = .ok (.istore_n 1, 1) := by decide +kernel
theorem dX7_wipe_5 : decode cX7_wipe 5 = .ok (.aload_n 0, 1) := by decide +kernel
theorem dX7_wipe_6 : decode cX7_wipe 6 = .ok (.iconst 0, 1) := by decide +kernel
theorem dX7_wipe_7 : decode cX7_wipe 7 = .ok (.putfield 53, 3) := by decide +kernel
theorem dX7_wipe_10 : decode cX7_wipe 10 = .ok (.iload_n 1, 1) := by decide +kernel
theorem dX7_wipe_11 : decode cX7_wipe 11 = .ok (.ireturn, 1) := by decide +kernel
theorem dX7_orderFault_0 : decode cX7_orderFault 0 = .ok (.iconst 0, 1) := by decide +kernel
theorem dX7_orderFault_1 : decode cX7_orderFault 1 = .ok (.istore_n 1, 1) := by decide +kernel
theorem dX7_orderFault_2 : decode cX7_orderFault 2 = .ok (.iconst 0, 1) := by decide +kernel
theorem dX7_orderFault_3 : decode cX7_orderFault 3 = .ok (.istore_n 2, 1) := by decide +kernel
theorem dX7_orderFault_4 : decode cX7_orderFault 4 = .ok (.iload_n 2, 1) := by decide +kernel
theorem dX7_orderFault_5 : decode cX7_orderFault 5 = .ok (.aload_n 0, 1) := by decide +kernel
theorem dX7_orderFault_6 : decode cX7_orderFault 6 = .ok (.getfield 53, 3) := by decide +kernel
theorem dX7_orderFault_9 : decode cX7_orderFault 9 = .ok (.if_icmp .ge 48, 3) := by decide +kernel
theorem dX7_orderFault_12 : decode cX7_orderFault 12 = .ok (.aload_n 0, 1) := by decide +kernel
theorem dX7_orderFault_13 : decode cX7_orderFault 13 = .ok (.getfield 28, 3) := by decide +kernel
theorem dX7_orderFault_16 : decode cX7_orderFault 16 = .ok (.iload_n 2, 1) := by decide +kernel
theorem dX7_orderFault_17 : decode cX7_orderFault 17 = .ok (.iaload, 1) := by decide +kernel
theorem dX7_orderFault_18 : decode cX7_orderFault 18 = .ok (.bipush 97, 2) := by decide +kernel
theorem dX7_orderFault_20 : decode cX7_orderFault 20 = .ok (.isub, 1) := by decide +kernel
theorem dX7_orderFault_21 : decode cX7_orderFault 21 = .ok (.istore_n 3, 1) := by decide +kernel
theorem dX7_orderFault_22 : decode cX7_orderFault 22 = .ok (.iload_n 2, 1) := by decide +kernel
theorem dX7_orderFault_23 : decode cX7_orderFault 23 = .ok (.bipush 8, 2) := by decide +kernel
theorem dX7_orderFault_25 : decode cX7_orderFault 25 = .ok (.if_icmp .eq 18, 3) := by decide +kernel
theorem dX7_orderFault_28 : decode cX7_orderFault 28 = .ok (.iload_n 3, 1) := by decide +kernel
theorem dX7_orderFault_29 : decode cX7_orderFault 29 = .ok (.invokestatic 56, 3) := by decide +kernel
theorem dX7_orderFault_32 : decode cX7_orderFault 32 = .ok (.ifCond .eq 11, 3) := by decide +kernel
theorem dX7_orderFault_35 : decode cX7_orderFault 35 = .ok (.iload_n 1, 1) := by decide +kernel
theorem dX7_orderFault_36 : decode cX7_orderFault 36 = .ok (.iload_n 3, 1) := by decide +kernel
theorem dX7_orderFault_37 : decode cX7_orderFault 37 = .ok (.invokestatic 49, 3) := by decide +kernel
theorem dX7_orderFault_40 : decode cX7_orderFault 40 = .ok (.ifCond .eq 5, 3) := by decide +kernel
theorem dX7_orderFault_43 : decode cX7_orderFault 43 = .ok (.iload_n 2, 1) := by decide +kernel
theorem dX7_orderFault_44 : decode cX7_orderFault 44 = .ok (.ireturn, 1) := by decide +kernel
theorem dX7_orderFault_45 : decode cX7_orderFault 45 = .ok (.iload_n 1, 1) := by decide +kernel
theorem dX7_orderFault_46 : decode cX7_orderFault 46 = .ok (.iconst 1, 1) := by decide +kernel
theorem dX7_orderFault_47 : decode cX7_orderFault 47 = .ok (.iload_n 3, 1) := by decide +kernel
theorem dX7_orderFault_48 : decode cX7_orderFault 48 = .ok (.ishl, 1) := by decide +kernel
theorem dX7_orderFault_49 : decode cX7_orderFault 49 = .ok (.ior, 1) := by decide +kernel
theorem dX7_orderFault_50 : decode cX7_orderFault 50 = .ok (.istore_n 1, 1) := by decide +kernel
theorem dX7_orderFault_51 : decode cX7_orderFault 51 = .ok (.iinc 2 1, 3) := by decide +kernel
theorem dX7_orderFault_54 : decode cX7_orderFault 54 = .ok (.goto (-50), 3) := by decide +kernel
theorem dX7_orderFault_57 : decode cX7_orderFault 57 = .ok (.aload_n 0, 1) := by decide +kernel
theorem dX7_orderFault_58 : decode cX7_orderFault 58 = .ok (.getfield 53, 3) := by decide +kernel
theorem dX7_orderFault_61 : decode cX7_orderFault 61 = .ok (.iconst 5, 1) := by decide +kernel
theorem dX7_orderFault_62 : decode cX7_orderFault 62 = .ok (.if_icmp .ge 10, 3) := by decide +kernel
theorem dX7_orderFault_65 : decode cX7_orderFault 65 = .ok (.aload_n 0, 1) := by decide +kernel
theorem dX7_orderFault_66 : decode cX7_orderFault 66 = .ok (.getfield 53, 3) := by decide +kernel
theorem dX7_orderFault_69 : decode cX7_orderFault 69 = .ok (.goto 5, 3) := by decide +kernel
theorem dX7_orderFault_72 : decode cX7_orderFault 72 = .ok (.bipush (-6), 2) := by decide +kernel
theorem dX7_orderFault_74 : decode cX7_orderFault 74 = .ok (.ireturn, 1) := by decide +kernel
theorem dX7_planFault_0 : decode cX7_planFault 0 = .ok (.iconst 0, 1) := by decide +kernel
theorem dX7_planFault_1 : decode cX7_planFault 1 = .ok (.istore_n 1, 1) := by decide +kernel
theorem dX7_planFault_2 : decode cX7_planFault 2 = .ok (.bipush (-2), 2) := by decide +kernel
theorem dX7_planFault_4 : decode cX7_planFault 4 = .ok (.istore_n 2, 1) := by decide +kernel
theorem dX7_planFault_5 : decode cX7_planFault 5 = .ok (.iconst 0, 1) := by decide +kernel
theorem dX7_planFault_6 : decode cX7_planFault 6 = .ok (.istore_n 3, 1) := by decide +kernel
theorem dX7_planFault_7 : decode cX7_planFault 7 = .ok (.iload_n 3, 1) := by decide +kernel
theorem dX7_planFault_8 : decode cX7_planFault 8 = .ok (.aload_n 0, 1) := by decide +kernel
theorem dX7_planFault_9 : decode cX7_planFault 9 = .ok (.getfield 53, 3) := by decide +kernel
theorem dX7_planFault_12 : decode cX7_planFault 12 = .ok (.if_icmp .ge 116, 3) := by decide +kernel
theorem dX7_planFault_15 : decode cX7_planFault 15 = .ok (.aload_n 0, 1) := by decide +kernel
theorem dX7_planFault_16 : decode cX7_planFault 16 = .ok (.getfield 28, 3) := by decide +kernel
theorem dX7_planFault_19 : decode cX7_planFault 19 = .ok (.iload_n 3, 1) := by decide +kernel
theorem dX7_planFault_20 : decode cX7_planFault 20 = .ok (.iaload, 1) := by decide +kernel
theorem dX7_planFault_21 : decode cX7_planFault 21 = .ok (.istore 4, 2) := by decide +kernel
theorem dX7_planFault_23 : decode cX7_planFault 23 = .ok (.iload_n 2, 1) := by decide +kernel
theorem dX7_planFault_24 : decode cX7_planFault 24 = .ok (.bipush (-2), 2) := by decide +kernel
theorem dX7_planFault_26 : decode cX7_planFault 26 = .ok (.if_icmp .ne 35, 3) := by decide +kernel
theorem dX7_planFault_29 : decode cX7_planFault 29 = .ok (.iload 4, 2) := by decide +kernel
theorem dX7_planFault_31 : decode cX7_planFault 31 = .ok (.bipush 97, 2) := by decide +kernel
theorem dX7_planFault_33 : decode cX7_planFault 33 = .ok (.isub, 1) := by decide +kernel
theorem dX7_planFault_34 : decode cX7_planFault 34 = .ok (.invokestatic 56, 3) := by decide +kernel
theorem dX7_planFault_37 : decode cX7_planFault 37 = .ok (.ifCond .eq 13, 3) := by decide +kernel
theorem dX7_planFault_40 : decode cX7_planFault 40 = .ok (.iload_n 1, 1) := by decide +kernel
theorem dX7_planFault_41 : decode cX7_planFault 41 = .ok (.bipush 6, 2) := by decide +kernel
theorem dX7_planFault_43 : decode cX7_planFault 43 = .ok (.if_icmp .ge 7, 3) := by decide +kernel
theorem dX7_planFault_46 : decode cX7_planFault 46 = .ok (.iconst 1, 1) := by decide +kernel
theorem dX7_planFault_47 : decode cX7_planFault 47 = .ok (.goto 4, 3) := by decide +kernel
theorem dX7_planFault_50 : decode cX7_planFault 50 = .ok (.iconst 0, 1) := by decide +kernel
theorem dX7_planFault_51 : decode cX7_planFault 51 = .ok (.istore 5, 2) := by decide +kernel
theorem dX7_planFault_53 : decode cX7_planFault 53 = .ok (.iconst (-1), 1) := by decide +kernel
theorem dX7_planFault_54 : decode cX7_planFault 54 = .ok (.istore_n 2, 1) := by decide +kernel
theorem dX7_planFault_55 : decode cX7_planFault 55 = .ok (.iinc 1 1, 3) := by decide +kernel
theorem dX7_planFault_58 : decode cX7_planFault 58 = .ok (.goto 57, 3) := by decide +kernel
theorem dX7_planFault_61 : decode cX7_planFault 61 = .ok (.iload 4, 2) := by decide +kernel
theorem dX7_planFault_63 : decode cX7_planFault 63 = .ok (.bipush 59, 2) := by decide +kernel
theorem dX7_planFault_65 : decode cX7_planFault 65 = .ok (.if_icmp .ne 16, 3) := by decide +kernel
theorem dX7_planFault_68 : decode cX7_planFault 68 = .ok (.iload_n 2, 1) := by decide +kernel
theorem dX7_planFault_69 : decode cX7_planFault 69 = .ok (.ifCond .lt 12, 3) := by decide +kernel
theorem dX7_planFault_72 : decode cX7_planFault 72 = .ok (.iconst 1, 1) := by decide +kernel
theorem dX7_planFault_73 : decode cX7_planFault 73 = .ok (.istore 5, 2) := by decide +kernel
theorem dX7_planFault_75 : decode cX7_planFault 75 = .ok (.bipush (-2), 2) := by decide +kernel
theorem dX7_planFault_77 : decode cX7_planFault 77 = .ok (.istore_n 2, 1) := by decide +kernel
theorem dX7_planFault_78 : decode cX7_planFault 78 = .ok (.goto 37, 3) := by decide +kernel
theorem dX7_planFault_81 : decode cX7_planFault 81 = .ok (.iload 4, 2) := by decide +kernel
theorem dX7_planFault_83 : decode cX7_planFault 83 = .ok (.bipush 48, 2) := by decide +kernel
theorem dX7_planFault_85 : decode cX7_planFault 85 = .ok (.bipush 53, 2) := by decide +kernel
theorem dX7_planFault_87 : decode cX7_planFault 87 = .ok (.invokestatic 45, 3) := by decide +kernel
theorem dX7_planFault_90 : decode cX7_planFault 90 = .ok (.ifCond .eq 16, 3) := by decide +kernel
theorem dX7_planFault_93 : decode cX7_planFault 93 = .ok (.iload 4, 2) := by decide +kernel
theorem dX7_planFault_95 : decode cX7_planFault 95 = .ok (.bipush 48, 2) := by decide +kernel
theorem dX7_planFault_97 : decode cX7_planFault 97 = .ok (.isub, 1) := by decide +kernel
theorem dX7_planFault_98 : decode cX7_planFault 98 = .ok (.iload_n 2, 1) := by decide +kernel
theorem dX7_planFault_99 : decode cX7_planFault 99 = .ok (.if_icmp .le 7, 3) := by decide +kernel
theorem dX7_planFault_102 : decode cX7_planFault 102 = .ok (.iconst 1, 1) := by decide +kernel
theorem dX7_planFault_103 : decode cX7_planFault 103 = .ok (.goto 4, 3) := by decide +kernel
theorem dX7_planFault_106 : decode cX7_planFault 106 = .ok (.iconst 0, 1) := by decide +kernel
theorem dX7_planFault_107 : decode cX7_planFault 107 = .ok (.istore 5, 2) := by decide +kernel
theorem dX7_planFault_109 : decode cX7_planFault 109 = .ok (.iload 4, 2) := by decide +kernel
theorem dX7_planFault_111 : decode cX7_planFault 111 = .ok (.bipush 48, 2) := by decide +kernel
theorem dX7_planFault_113 : decode cX7_planFault 113 = .ok (.isub, 1) := by decide +kernel
theorem dX7_planFault_114 : decode cX7_planFault 114 = .ok (.istore_n 2, 1) := by decide +kernel
theorem dX7_planFault_115 : decode cX7_planFault 115 = .ok (.iload 5, 2) := by decide +kernel
theorem dX7_planFault_117 : decode cX7_planFault 117 = .ok (.ifCond .ne 5, 3) := by decide +kernel
theorem dX7_planFault_120 : decode cX7_planFault 120 = .ok (.iload_n 3, 1) := by decide +kernel
theorem dX7_planFault_121 : decode cX7_planFault 121 = .ok (.ireturn, 1) := by decide +kernel
theorem dX7_planFault_122 : decode cX7_planFault 122 = .ok (.iinc 3 1, 3) := by decide +kernel
theorem dX7_planFault_125 : decode cX7_planFault 125 = .ok (.goto (-118), 3) := by decide +kernel
theorem dX7_planFault_128 : decode cX7_planFault 128 = .ok (.iload_n 2, 1) := by decide +kernel
theorem dX7_planFault_129 : decode cX7_planFault 129 = .ok (.bipush (-2), 2) := by decide +kernel
theorem dX7_planFault_131 : decode cX7_planFault 131 = .ok (.if_icmp .ne 8, 3) := by decide +kernel
theorem dX7_planFault_134 : decode cX7_planFault 134 = .ok (.bipush (-6), 2) := by decide +kernel
theorem dX7_planFault_136 : decode cX7_planFault 136 = .ok (.goto 7, 3) := by decide +kernel
theorem dX7_planFault_139 : decode cX7_planFault 139 = .ok (.aload_n 0, 1) := by decide +kernel
theorem dX7_planFault_140 : decode cX7_planFault 140 = .ok (.getfield 53, 3) := by decide +kernel
theorem dX7_planFault_143 : decode cX7_planFault 143 = .ok (.ireturn, 1) := by decide +kernel
theorem dX7_fault_0 : decode cX7_fault 0 = .ok (.iload_n 1, 1) := by decide +kernel
theorem dX7_fault_1 : decode cX7_fault 1 = .ok (.ifCond .ne 10, 3) := by decide +kernel
theorem dX7_fault_4 : decode cX7_fault 4 = .ok (.aload_n 0, 1) := by decide +kernel
theorem dX7_fault_5 : decode cX7_fault 5 = .ok (.invokevirtual 60, 3) := by decide +kernel
theorem dX7_fault_8 : decode cX7_fault 8 = .ok (.goto 17, 3) := by decide +kernel
theorem dX7_fault_11 : decode cX7_fault 11 = .ok (.iload_n 1, 1) := by decide +kernel
theorem dX7_fault_12 : decode cX7_fault 12 = .ok (.iconst 1, 1) := by decide +kernel
theorem dX7_fault_13 : decode cX7_fault 13 = .ok (.if_icmp .ne 10, 3) := by decide +kernel
theorem dX7_fault_16 : decode cX7_fault 16 = .ok (.aload_n 0, 1) := by decide +kernel
theorem dX7_fault_17 : decode cX7_fault 17 = .ok (.invokevirtual 64, 3) := by decide +kernel
theorem dX7_fault_20 : decode cX7_fault 20 = .ok (.goto 5, 3) := by decide +kernel
theorem dX7_fault_23 : decode cX7_fault 23 = .ok (.bipush (-2), 2) := by decide +kernel
theorem dX7_fault_25 : decode cX7_fault 25 = .ok (.ireturn, 1) := by decide +kernel
theorem dX7_born_0 : decode cX7_born 0 = .ok (.iload_n 1, 1) := by decide +kernel
theorem dX7_born_1 : decode cX7_born 1 = .ok (.iconst 0, 1) := by decide +kernel
theorem dX7_born_2 : decode cX7_born 2 = .ok (.iconst 5, 1) := by decide +kernel
theorem dX7_born_3 : decode cX7_born 3 = .ok (.invokestatic 45, 3) := by decide +kernel
theorem dX7_born_6 : decode cX7_born 6 = .ok (.ifCond .ne 5, 3) := by decide +kernel
theorem dX7_born_9 : decode cX7_born 9 = .ok (.iconst (-1), 1) := by decide +kernel
theorem dX7_born_10 : decode cX7_born 10 = .ok (.ireturn, 1) := by decide +kernel
theorem dX7_born_11 : decode cX7_born 11 = .ok (.iload_n 2, 1) := by decide +kernel
theorem dX7_born_12 : decode cX7_born 12 = .ok (.iconst 0, 1) := by decide +kernel
theorem dX7_born_13 : decode cX7_born 13 = .ok (.bipush 99, 2) := by decide +kernel
theorem dX7_born_15 : decode cX7_born 15 = .ok (.invokestatic 45, 3) := by decide +kernel
theorem dX7_born_18 : decode cX7_born 18 = .ok (.ifCond .ne 6, 3) := by decide +kernel
theorem dX7_born_21 : decode cX7_born 21 = .ok (.bipush (-2), 2) := by decide +kernel
theorem dX7_born_23 : decode cX7_born 23 = .ok (.ireturn, 1) := by decide +kernel
theorem dX7_born_24 : decode cX7_born 24 = .ok (.aload_n 0, 1) := by decide +kernel
theorem dX7_born_25 : decode cX7_born 25 = .ok (.invokevirtual 60, 3) := by decide +kernel
theorem dX7_born_28 : decode cX7_born 28 = .ok (.ifCond .lt 6, 3) := by decide +kernel
theorem dX7_born_31 : decode cX7_born 31 = .ok (.bipush (-5), 2) := by decide +kernel
theorem dX7_born_33 : decode cX7_born 33 = .ok (.ireturn, 1) := by decide +kernel
theorem dX7_born_34 : decode cX7_born 34 = .ok (.iconst 0, 1) := by decide +kernel
theorem dX7_born_35 : decode cX7_born 35 = .ok (.istore_n 3, 1) := by decide +kernel
theorem dX7_born_36 : decode cX7_born 36 = .ok (.iload_n 3, 1) := by decide +kernel
theorem dX7_born_37 : decode cX7_born 37 = .ok (.aload_n 0, 1) := by decide +kernel
theorem dX7_born_38 : decode cX7_born 38 = .ok (.getfield 53, 3) := by decide +kernel
theorem dX7_born_41 : decode cX7_born 41 = .ok (.if_icmp .ge 29, 3) := by decide +kernel
theorem dX7_born_44 : decode cX7_born 44 = .ok (.aload_n 0, 1) := by decide +kernel
theorem dX7_born_45 : decode cX7_born 45 = .ok (.getfield 7, 3) := by decide +kernel
theorem dX7_born_48 : decode cX7_born 48 = .ok (.bipush 8, 2) := by decide +kernel
theorem dX7_born_50 : decode cX7_born 50 = .ok (.iload_n 1, 1) := by decide +kernel
theorem dX7_born_51 : decode cX7_born 51 = .ok (.imul, 1) := by decide +kernel
theorem dX7_born_52 : decode cX7_born 52 = .ok (.iload_n 3, 1) := by decide +kernel
theorem dX7_born_53 : decode cX7_born 53 = .ok (.iadd, 1) := by decide +kernel
theorem dX7_born_54 : decode cX7_born 54 = .ok (.aload_n 0, 1) := by decide +kernel
theorem dX7_born_55 : decode cX7_born 55 = .ok (.getfield 28, 3) := by decide +kernel
theorem dX7_born_58 : decode cX7_born 58 = .ok (.iload_n 3, 1) := by decide +kernel
theorem dX7_born_59 : decode cX7_born 59 = .ok (.iaload, 1) := by decide +kernel
theorem dX7_born_60 : decode cX7_born 60 = .ok (.bipush 97, 2) := by decide +kernel
theorem dX7_born_62 : decode cX7_born 62 = .ok (.isub, 1) := by decide +kernel
theorem dX7_born_63 : decode cX7_born 63 = .ok (.iastore, 1) := by decide +kernel
theorem dX7_born_64 : decode cX7_born 64 = .ok (.iinc 3 1, 3) := by decide +kernel
theorem dX7_born_67 : decode cX7_born 67 = .ok (.goto (-31), 3) := by decide +kernel
theorem dX7_born_70 : decode cX7_born 70 = .ok (.aload_n 0, 1) := by decide +kernel
theorem dX7_born_71 : decode cX7_born 71 = .ok (.getfield 13, 3) := by decide +kernel
theorem dX7_born_74 : decode cX7_born 74 = .ok (.iload_n 1, 1) := by decide +kernel
theorem dX7_born_75 : decode cX7_born 75 = .ok (.aload_n 0, 1) := by decide +kernel
theorem dX7_born_76 : decode cX7_born 76 = .ok (.getfield 53, 3) := by decide +kernel
theorem dX7_born_79 : decode cX7_born 79 = .ok (.iastore, 1) := by decide +kernel
theorem dX7_born_80 : decode cX7_born 80 = .ok (.aload_n 0, 1) := by decide +kernel
theorem dX7_born_81 : decode cX7_born 81 = .ok (.getfield 16, 3) := by decide +kernel
theorem dX7_born_84 : decode cX7_born 84 = .ok (.iload_n 1, 1) := by decide +kernel
theorem dX7_born_85 : decode cX7_born 85 = .ok (.iload_n 2, 1) := by decide +kernel
theorem dX7_born_86 : decode cX7_born 86 = .ok (.iastore, 1) := by decide +kernel
theorem dX7_born_87 : decode cX7_born 87 = .ok (.aload_n 0, 1) := by decide +kernel
theorem dX7_born_88 : decode cX7_born 88 = .ok (.dup, 1) := by decide +kernel
theorem dX7_born_89 : decode cX7_born 89 = .ok (.getfield 41, 3) := by decide +kernel
theorem dX7_born_92 : decode cX7_born 92 = .ok (.iconst 1, 1) := by decide +kernel
theorem dX7_born_93 : decode cX7_born 93 = .ok (.iload_n 1, 1) := by decide +kernel
theorem dX7_born_94 : decode cX7_born 94 = .ok (.ishl, 1) := by decide +kernel
theorem dX7_born_95 : decode cX7_born 95 = .ok (.ior, 1) := by decide +kernel
theorem dX7_born_96 : decode cX7_born 96 = .ok (.putfield 41, 3) := by decide +kernel
theorem dX7_born_99 : decode cX7_born 99 = .ok (.aload_n 0, 1) := by decide +kernel
theorem dX7_born_100 : decode cX7_born 100 = .ok (.iconst 0, 1) := by decide +kernel
theorem dX7_born_101 : decode cX7_born 101 = .ok (.putfield 53, 3) := by decide +kernel
theorem dX7_born_104 : decode cX7_born 104 = .ok (.aload_n 0, 1) := by decide +kernel
theorem dX7_born_105 : decode cX7_born 105 = .ok (.getfield 13, 3) := by decide +kernel
theorem dX7_born_108 : decode cX7_born 108 = .ok (.iload_n 1, 1) := by decide +kernel
theorem dX7_born_109 : decode cX7_born 109 = .ok (.iaload, 1) := by decide +kernel
theorem dX7_born_110 : decode cX7_born 110 = .ok (.ireturn, 1) := by decide +kernel
theorem dX7_exile_0 : decode cX7_exile 0 = .ok (.aload_n 0, 1) := by decide +kernel
theorem dX7_exile_1 : decode cX7_exile 1 = .ok (.iload_n 1, 1) := by decide +kernel
theorem dX7_exile_2 : decode cX7_exile 2 = .ok (.invokevirtual 67, 3) := by decide +kernel
theorem dX7_exile_5 : decode cX7_exile 5 = .ok (.ifCond .ne 5, 3) := by decide +kernel
theorem dX7_exile_8 : decode cX7_exile 8 = .ok (.iconst (-1), 1) := by decide +kernel
theorem dX7_exile_9 : decode cX7_exile 9 = .ok (.ireturn, 1) := by decide +kernel
theorem dX7_exile_10 : decode cX7_exile 10 = .ok (.aload_n 0, 1) := by decide +kernel
theorem dX7_exile_11 : decode cX7_exile 11 = .ok (.dup, 1) := by decide +kernel
theorem dX7_exile_12 : decode cX7_exile 12 = .ok (.getfield 41, 3) := by decide +kernel
theorem dX7_exile_15 : decode cX7_exile 15 = .ok (.iconst 1, 1) := by decide +kernel
theorem dX7_exile_16 : decode cX7_exile 16 = .ok (.iload_n 1, 1) := by decide +kernel
theorem dX7_exile_17 : decode cX7_exile 17 = .ok (.ishl, 1) := by decide +kernel
theorem dX7_exile_18 : decode cX7_exile 18 = .ok (.iconst (-1), 1) := by decide +kernel
theorem dX7_exile_19 : decode cX7_exile 19 = .ok (.ixor, 1) := by decide +kernel
theorem dX7_exile_20 : decode cX7_exile 20 = .ok (.iand, 1) := by decide +kernel
theorem dX7_exile_21 : decode cX7_exile 21 = .ok (.putfield 41, 3) := by decide +kernel
theorem dX7_exile_24 : decode cX7_exile 24 = .ok (.aload_n 0, 1) := by decide +kernel
theorem dX7_exile_25 : decode cX7_exile 25 = .ok (.getfield 41, 3) := by decide +kernel
theorem dX7_exile_28 : decode cX7_exile 28 = .ok (.invokestatic 70, 3) := by decide +kernel
theorem dX7_exile_31 : decode cX7_exile 31 = .ok (.ireturn, 1) := by decide +kernel
theorem dX7_plan_0 : decode cX7_plan 0 = .ok (.aload_n 0, 1) := by decide +kernel
theorem dX7_plan_1 : decode cX7_plan 1 = .ok (.invokevirtual 64, 3) := by decide +kernel
theorem dX7_plan_4 : decode cX7_plan 4 = .ok (.ifCond .lt 6, 3) := by decide +kernel
theorem dX7_plan_7 : decode cX7_plan 7 = .ok (.bipush (-5), 2) := by decide +kernel
theorem dX7_plan_9 : decode cX7_plan 9 = .ok (.ireturn, 1) := by decide +kernel
theorem dX7_plan_10 : decode cX7_plan 10 = .ok (.aload_n 0, 1) := by decide +kernel
theorem dX7_plan_11 : decode cX7_plan 11 = .ok (.iconst 0, 1) := by decide +kernel
theorem dX7_plan_12 : decode cX7_plan 12 = .ok (.putfield 74, 3) := by decide +kernel
theorem dX7_plan_15 : decode cX7_plan 15 = .ok (.iconst 0, 1) := by decide +kernel
theorem dX7_plan_16 : decode cX7_plan 16 = .ok (.istore_n 1, 1) := by decide +kernel
theorem dX7_plan_17 : decode cX7_plan 17 = .ok (.iload_n 1, 1) := by decide +kernel
theorem dX7_plan_18 : decode cX7_plan 18 = .ok (.aload_n 0, 1) := by decide +kernel
theorem dX7_plan_19 : decode cX7_plan 19 = .ok (.getfield 53, 3) := by decide +kernel
theorem dX7_plan_22 : decode cX7_plan 22 = .ok (.if_icmp .ge 90, 3) := by decide +kernel
theorem dX7_plan_25 : decode cX7_plan 25 = .ok (.aload_n 0, 1) := by decide +kernel
theorem dX7_plan_26 : decode cX7_plan 26 = .ok (.getfield 28, 3) := by decide +kernel
theorem dX7_plan_29 : decode cX7_plan 29 = .ok (.iload_n 1, 1) := by decide +kernel
theorem dX7_plan_30 : decode cX7_plan 30 = .ok (.iaload, 1) := by decide +kernel
theorem dX7_plan_31 : decode cX7_plan 31 = .ok (.istore_n 2, 1) := by decide +kernel
theorem dX7_plan_32 : decode cX7_plan 32 = .ok (.iload_n 2, 1) := by decide +kernel
theorem dX7_plan_33 : decode cX7_plan 33 = .ok (.bipush 97, 2) := by decide +kernel
theorem dX7_plan_35 : decode cX7_plan 35 = .ok (.bipush 104, 2) := by decide +kernel
theorem dX7_plan_37 : decode cX7_plan 37 = .ok (.invokestatic 45, 3) := by decide +kernel
theorem dX7_plan_40 : decode cX7_plan 40 = .ok (.ifCond .eq 29, 3) := by decide +kernel
theorem dX7_plan_43 : decode cX7_plan 43 = .ok (.aload_n 0, 1) := by decide +kernel
theorem dX7_plan_44 : decode cX7_plan 44 = .ok (.getfield 19, 3) := by decide +kernel
theorem dX7_plan_47 : decode cX7_plan 47 = .ok (.aload_n 0, 1) := by decide +kernel
theorem dX7_plan_48 : decode cX7_plan 48 = .ok (.getfield 74, 3) := by decide +kernel
theorem dX7_plan_51 : decode cX7_plan 51 = .ok (.iload_n 2, 1) := by decide +kernel
theorem dX7_plan_52 : decode cX7_plan 52 = .ok (.bipush 97, 2) := by decide +kernel
theorem dX7_plan_54 : decode cX7_plan 54 = .ok (.isub, 1) := by decide +kernel
theorem dX7_plan_55 : decode cX7_plan 55 = .ok (.iastore, 1) := by decide +kernel
theorem dX7_plan_56 : decode cX7_plan 56 = .ok (.aload_n 0, 1) := by decide +kernel
theorem dX7_plan_57 : decode cX7_plan 57 = .ok (.getfield 22, 3) := by decide +kernel
theorem dX7_plan_60 : decode cX7_plan 60 = .ok (.aload_n 0, 1) := by decide +kernel
theorem dX7_plan_61 : decode cX7_plan 61 = .ok (.getfield 74, 3) := by decide +kernel
theorem dX7_plan_64 : decode cX7_plan 64 = .ok (.iconst 0, 1) := by decide +kernel
theorem dX7_plan_65 : decode cX7_plan 65 = .ok (.iastore, 1) := by decide +kernel
theorem dX7_plan_66 : decode cX7_plan 66 = .ok (.goto 40, 3) := by decide +kernel
theorem dX7_plan_69 : decode cX7_plan 69 = .ok (.iload_n 2, 1) := by decide +kernel
theorem dX7_plan_70 : decode cX7_plan 70 = .ok (.bipush 59, 2) := by decide +kernel
theorem dX7_plan_72 : decode cX7_plan 72 = .ok (.if_icmp .ne 16, 3) := by decide +kernel
theorem dX7_plan_75 : decode cX7_plan 75 = .ok (.aload_n 0, 1) := by decide +kernel
theorem dX7_plan_76 : decode cX7_plan 76 = .ok (.dup, 1) := by decide +kernel
theorem dX7_plan_77 : decode cX7_plan 77 = .ok (.getfield 74, 3) := by decide +kernel
theorem dX7_plan_80 : decode cX7_plan 80 = .ok (.iconst 1, 1) := by decide +kernel
theorem dX7_plan_81 : decode cX7_plan 81 = .ok (.iadd, 1) := by decide +kernel
theorem dX7_plan_82 : decode cX7_plan 82 = .ok (.putfield 74, 3) := by decide +kernel
theorem dX7_plan_85 : decode cX7_plan 85 = .ok (.goto 21, 3) := by decide +kernel
theorem dX7_plan_88 : decode cX7_plan 88 = .ok (.aload_n 0, 1) := by decide +kernel
theorem dX7_plan_89 : decode cX7_plan 89 = .ok (.getfield 22, 3) := by decide +kernel
theorem dX7_plan_92 : decode cX7_plan 92 = .ok (.aload_n 0, 1) := by decide +kernel
theorem dX7_plan_93 : decode cX7_plan 93 = .ok (.getfield 74, 3) := by decide +kernel
theorem dX7_plan_96 : decode cX7_plan 96 = .ok (.dup2, 1) := by decide +kernel
theorem dX7_plan_97 : decode cX7_plan 97 = .ok (.iaload, 1) := by decide +kernel
theorem dX7_plan_98 : decode cX7_plan 98 = .ok (.iconst 1, 1) := by decide +kernel
theorem dX7_plan_99 : decode cX7_plan 99 = .ok (.iload_n 2, 1) := by decide +kernel
theorem dX7_plan_100 : decode cX7_plan 100 = .ok (.bipush 48, 2) := by decide +kernel
theorem dX7_plan_102 : decode cX7_plan 102 = .ok (.isub, 1) := by decide +kernel
theorem dX7_plan_103 : decode cX7_plan 103 = .ok (.ishl, 1) := by decide +kernel
theorem dX7_plan_104 : decode cX7_plan 104 = .ok (.ior, 1) := by decide +kernel
theorem dX7_plan_105 : decode cX7_plan 105 = .ok (.iastore, 1) := by decide +kernel
theorem dX7_plan_106 : decode cX7_plan 106 = .ok (.iinc 1 1, 3) := by decide +kernel
theorem dX7_plan_109 : decode cX7_plan 109 = .ok (.goto (-92), 3) := by decide +kernel
theorem dX7_plan_112 : decode cX7_plan 112 = .ok (.aload_n 0, 1) := by decide +kernel
theorem dX7_plan_113 : decode cX7_plan 113 = .ok (.iconst 0, 1) := by decide +kernel
theorem dX7_plan_114 : decode cX7_plan 114 = .ok (.putfield 53, 3) := by decide +kernel
theorem dX7_plan_117 : decode cX7_plan 117 = .ok (.aload_n 0, 1) := by decide +kernel
theorem dX7_plan_118 : decode cX7_plan 118 = .ok (.getfield 74, 3) := by decide +kernel
theorem dX7_plan_121 : decode cX7_plan 121 = .ok (.ireturn, 1) := by decide +kernel
theorem dX7_dayOf_0 : decode cX7_dayOf 0 = .ok (.aload_n 0, 1) := by decide +kernel
theorem dX7_dayOf_1 : decode cX7_dayOf 1 = .ok (.getfield 13, 3) := by decide +kernel
theorem dX7_dayOf_4 : decode cX7_dayOf 4 = .ok (.iload_n 1, 1) := by decide +kernel
theorem dX7_dayOf_5 : decode cX7_dayOf 5 = .ok (.iaload, 1) := by decide +kernel
theorem dX7_dayOf_6 : decode cX7_dayOf 6 = .ok (.istore_n 3, 1) := by decide +kernel
theorem dX7_dayOf_7 : decode cX7_dayOf 7 = .ok (.aload_n 0, 1) := by decide +kernel
theorem dX7_dayOf_8 : decode cX7_dayOf 8 = .ok (.getfield 7, 3) := by decide +kernel
theorem dX7_dayOf_11 : decode cX7_dayOf 11 = .ok (.bipush 8, 2) := by decide +kernel
theorem dX7_dayOf_13 : decode cX7_dayOf 13 = .ok (.iload_n 1, 1) := by decide +kernel
theorem dX7_dayOf_14 : decode cX7_dayOf 14 = .ok (.imul, 1) := by decide +kernel
theorem dX7_dayOf_15 : decode cX7_dayOf 15 = .ok (.iload_n 2, 1) := by decide +kernel
theorem dX7_dayOf_16 : decode cX7_dayOf 16 = .ok (.aload_n 0, 1) := by decide +kernel
theorem dX7_dayOf_17 : decode cX7_dayOf 17 = .ok (.getfield 16, 3) := by decide +kernel
theorem dX7_dayOf_20 : decode cX7_dayOf 20 = .ok (.iload_n 1, 1) := by decide +kernel
theorem dX7_dayOf_21 : decode cX7_dayOf 21 = .ok (.iaload, 1) := by decide +kernel
theorem dX7_dayOf_22 : decode cX7_dayOf 22 = .ok (.isub, 1) := by decide +kernel
theorem dX7_dayOf_23 : decode cX7_dayOf 23 = .ok (.iload_n 3, 1) := by decide +kernel
theorem dX7_dayOf_24 : decode cX7_dayOf 24 = .ok (.irem, 1) := by decide +kernel
theorem dX7_dayOf_25 : decode cX7_dayOf 25 = .ok (.iload_n 3, 1) := by decide +kernel
theorem dX7_dayOf_26 : decode cX7_dayOf 26 = .ok (.iadd, 1) := by decide +kernel
theorem dX7_dayOf_27 : decode cX7_dayOf 27 = .ok (.iload_n 3, 1) := by decide +kernel
theorem dX7_dayOf_28 : decode cX7_dayOf 28 = .ok (.irem, 1) := by decide +kernel
theorem dX7_dayOf_29 : decode cX7_dayOf 29 = .ok (.iadd, 1) := by decide +kernel
theorem dX7_dayOf_30 : decode cX7_dayOf 30 = .ok (.iaload, 1) := by decide +kernel
theorem dX7_dayOf_31 : decode cX7_dayOf 31 = .ok (.ireturn, 1) := by decide +kernel
theorem dX7_today_0 : decode cX7_today 0 = .ok (.aload_n 0, 1) := by decide +kernel
theorem dX7_today_1 : decode cX7_today 1 = .ok (.iload_n 1, 1) := by decide +kernel
theorem dX7_today_2 : decode cX7_today 2 = .ok (.invokevirtual 67, 3) := by decide +kernel
theorem dX7_today_5 : decode cX7_today 5 = .ok (.ifCond .ne 5, 3) := by decide +kernel
theorem dX7_today_8 : decode cX7_today 8 = .ok (.iconst (-1), 1) := by decide +kernel
theorem dX7_today_9 : decode cX7_today 9 = .ok (.ireturn, 1) := by decide +kernel
theorem dX7_today_10 : decode cX7_today 10 = .ok (.iload_n 2, 1) := by decide +kernel
theorem dX7_today_11 : decode cX7_today 11 = .ok (.invokestatic 77, 3) := by decide +kernel
theorem dX7_today_14 : decode cX7_today 14 = .ok (.ifCond .eq 12, 3) := by decide +kernel
theorem dX7_today_17 : decode cX7_today 17 = .ok (.aload_n 0, 1) := by decide +kernel
end
section
theorem dX7_today_18 : decode cX7_today 18 = .ok (.iload_n 1, 1) := by decide +kernel
theorem dX7_today_19 : decode cX7_today 19 = .ok (.iload_n 2, 1) := by decide +kernel
theorem dX7_today_20 : decode cX7_today 20 = .ok (.invokevirtual 80, 3) := by decide +kernel
theorem dX7_today_23 : decode cX7_today 23 = .ok (.goto 5, 3) := by decide +kernel
theorem dX7_today_26 : decode cX7_today 26 = .ok (.bipush (-2), 2) := by decide +kernel
theorem dX7_today_28 : decode cX7_today 28 = .ok (.ireturn, 1) := by decide +kernel
theorem dX7_having_0 : decode cX7_having 0 = .ok (.iconst 0, 1) := by decide +kernel
theorem dX7_having_1 : decode cX7_having 1 = .ok (.istore 4, 2) := by decide +kernel
theorem dX7_having_3 : decode cX7_having 3 = .ok (.iconst 0, 1) := by decide +kernel
theorem dX7_having_4 : decode cX7_having 4 = .ok (.istore 5, 2) := by decide +kernel
theorem dX7_having_6 : decode cX7_having 6 = .ok (.iload 5, 2) := by decide +kernel
theorem dX7_having_8 : decode cX7_having 8 = .ok (.bipush 6, 2) := by decide +kernel
theorem dX7_having_10 : decode cX7_having 10 = .ok (.if_icmp .ge 42, 3) := by decide +kernel
theorem dX7_having_13 : decode cX7_having 13 = .ok (.iload 4, 2) := by decide +kernel
theorem dX7_having_15 : decode cX7_having 15 = .ok (.iload_n 1, 1) := by decide +kernel
theorem dX7_having_16 : decode cX7_having 16 = .ok (.iload 5, 2) := by decide +kernel
theorem dX7_having_18 : decode cX7_having 18 = .ok (.invokestatic 49, 3) := by decide +kernel
theorem dX7_having_21 : decode cX7_having 21 = .ok (.ifCond .eq 21, 3) := by decide +kernel
theorem dX7_having_24 : decode cX7_having 24 = .ok (.aload_n 0, 1) := by decide +kernel
theorem dX7_having_25 : decode cX7_having 25 = .ok (.iload 5, 2) := by decide +kernel
theorem dX7_having_27 : decode cX7_having 27 = .ok (.iload_n 3, 1) := by decide +kernel
theorem dX7_having_28 : decode cX7_having 28 = .ok (.invokevirtual 80, 3) := by decide +kernel
theorem dX7_having_31 : decode cX7_having 31 = .ok (.iload_n 2, 1) := by decide +kernel
theorem dX7_having_32 : decode cX7_having 32 = .ok (.if_icmp .ne 10, 3) := by decide +kernel
theorem dX7_having_35 : decode cX7_having 35 = .ok (.iconst 1, 1) := by decide +kernel
theorem dX7_having_36 : decode cX7_having 36 = .ok (.iload 5, 2) := by decide +kernel
theorem dX7_having_38 : decode cX7_having 38 = .ok (.ishl, 1) := by decide +kernel
theorem dX7_having_39 : decode cX7_having 39 = .ok (.goto 4, 3) := by decide +kernel
theorem dX7_having_42 : decode cX7_having 42 = .ok (.iconst 0, 1) := by decide +kernel
theorem dX7_having_43 : decode cX7_having 43 = .ok (.ior, 1) := by decide +kernel
theorem dX7_having_44 : decode cX7_having 44 = .ok (.istore 4, 2) := by decide +kernel
theorem dX7_having_46 : decode cX7_having 46 = .ok (.iinc 5 1, 3) := by decide +kernel
theorem dX7_having_49 : decode cX7_having 49 = .ok (.goto (-43), 3) := by decide +kernel
theorem dX7_having_52 : decode cX7_having 52 = .ok (.iload 4, 2) := by decide +kernel
theorem dX7_having_54 : decode cX7_having 54 = .ok (.ireturn, 1) := by decide +kernel
theorem dX7_same_0 : decode cX7_same 0 = .ok (.iload_n 1, 1) := by decide +kernel
theorem dX7_same_1 : decode cX7_same 1 = .ok (.invokestatic 56, 3) := by decide +kernel
theorem dX7_same_4 : decode cX7_same 4 = .ok (.ifCond .ne 5, 3) := by decide +kernel
theorem dX7_same_7 : decode cX7_same 7 = .ok (.iconst (-1), 1) := by decide +kernel
theorem dX7_same_8 : decode cX7_same 8 = .ok (.ireturn, 1) := by decide +kernel
theorem dX7_same_9 : decode cX7_same 9 = .ok (.iload_n 2, 1) := by decide +kernel
theorem dX7_same_10 : decode cX7_same 10 = .ok (.invokestatic 77, 3) := by decide +kernel
theorem dX7_same_13 : decode cX7_same 13 = .ok (.ifCond .eq 16, 3) := by decide +kernel
theorem dX7_same_16 : decode cX7_same 16 = .ok (.aload_n 0, 1) := by decide +kernel
theorem dX7_same_17 : decode cX7_same 17 = .ok (.aload_n 0, 1) := by decide +kernel
theorem dX7_same_18 : decode cX7_same 18 = .ok (.getfield 41, 3) := by decide +kernel
theorem dX7_same_21 : decode cX7_same 21 = .ok (.iload_n 1, 1) := by decide +kernel
theorem dX7_same_22 : decode cX7_same 22 = .ok (.iload_n 2, 1) := by decide +kernel
theorem dX7_same_23 : decode cX7_same 23 = .ok (.invokevirtual 84, 3) := by decide +kernel
theorem dX7_same_26 : decode cX7_same 26 = .ok (.goto 5, 3) := by decide +kernel
theorem dX7_same_29 : decode cX7_same 29 = .ok (.bipush (-2), 2) := by decide +kernel
theorem dX7_same_31 : decode cX7_same 31 = .ok (.ireturn, 1) := by decide +kernel
theorem dX7_next_0 : decode cX7_next 0 = .ok (.aload_n 0, 1) := by decide +kernel
theorem dX7_next_1 : decode cX7_next 1 = .ok (.iload_n 1, 1) := by decide +kernel
theorem dX7_next_2 : decode cX7_next 2 = .ok (.invokevirtual 67, 3) := by decide +kernel
theorem dX7_next_5 : decode cX7_next 5 = .ok (.ifCond .eq 10, 3) := by decide +kernel
theorem dX7_next_8 : decode cX7_next 8 = .ok (.iload_n 2, 1) := by decide +kernel
theorem dX7_next_9 : decode cX7_next 9 = .ok (.invokestatic 56, 3) := by decide +kernel
theorem dX7_next_12 : decode cX7_next 12 = .ok (.ifCond .ne 5, 3) := by decide +kernel
theorem dX7_next_15 : decode cX7_next 15 = .ok (.iconst (-1), 1) := by decide +kernel
theorem dX7_next_16 : decode cX7_next 16 = .ok (.ireturn, 1) := by decide +kernel
theorem dX7_next_17 : decode cX7_next 17 = .ok (.iload_n 3, 1) := by decide +kernel
theorem dX7_next_18 : decode cX7_next 18 = .ok (.invokestatic 77, 3) := by decide +kernel
theorem dX7_next_21 : decode cX7_next 21 = .ok (.ifCond .ne 6, 3) := by decide +kernel
theorem dX7_next_24 : decode cX7_next 24 = .ok (.bipush (-2), 2) := by decide +kernel
theorem dX7_next_26 : decode cX7_next 26 = .ok (.ireturn, 1) := by decide +kernel
theorem dX7_next_27 : decode cX7_next 27 = .ok (.iload_n 3, 1) := by decide +kernel
theorem dX7_next_28 : decode cX7_next 28 = .ok (.istore 4, 2) := by decide +kernel
theorem dX7_next_30 : decode cX7_next 30 = .ok (.iload 4, 2) := by decide +kernel
theorem dX7_next_32 : decode cX7_next 32 = .ok (.sipush 10000, 3) := by decide +kernel
theorem dX7_next_35 : decode cX7_next 35 = .ok (.if_icmp .ge 23, 3) := by decide +kernel
theorem dX7_next_38 : decode cX7_next 38 = .ok (.aload_n 0, 1) := by decide +kernel
theorem dX7_next_39 : decode cX7_next 39 = .ok (.iload_n 1, 1) := by decide +kernel
theorem dX7_next_40 : decode cX7_next 40 = .ok (.iload 4, 2) := by decide +kernel
theorem dX7_next_42 : decode cX7_next 42 = .ok (.invokevirtual 80, 3) := by decide +kernel
theorem dX7_next_45 : decode cX7_next 45 = .ok (.iload_n 2, 1) := by decide +kernel
theorem dX7_next_46 : decode cX7_next 46 = .ok (.if_icmp .ne 6, 3) := by decide +kernel
theorem dX7_next_49 : decode cX7_next 49 = .ok (.iload 4, 2) := by decide +kernel
theorem dX7_next_51 : decode cX7_next 51 = .ok (.ireturn, 1) := by decide +kernel
theorem dX7_next_52 : decode cX7_next 52 = .ok (.iinc 4 1, 3) := by decide +kernel
theorem dX7_next_55 : decode cX7_next 55 = .ok (.goto (-25), 3) := by decide +kernel
theorem dX7_next_58 : decode cX7_next 58 = .ok (.bipush (-6), 2) := by decide +kernel
theorem dX7_next_60 : decode cX7_next 60 = .ok (.ireturn, 1) := by decide +kernel
theorem dX7_areThere_0 : decode cX7_areThere 0 = .ok (.iload_n 1, 1) := by decide +kernel
theorem dX7_areThere_1 : decode cX7_areThere 1 = .ok (.iconst 1, 1) := by decide +kernel
theorem dX7_areThere_2 : decode cX7_areThere 2 = .ok (.bipush 63, 2) := by decide +kernel
theorem dX7_areThere_4 : decode cX7_areThere 4 = .ok (.invokestatic 45, 3) := by decide +kernel
theorem dX7_areThere_7 : decode cX7_areThere 7 = .ok (.ifCond .eq 18, 3) := by decide +kernel
theorem dX7_areThere_10 : decode cX7_areThere 10 = .ok (.iload_n 1, 1) := by decide +kernel
theorem dX7_areThere_11 : decode cX7_areThere 11 = .ok (.aload_n 0, 1) := by decide +kernel
theorem dX7_areThere_12 : decode cX7_areThere 12 = .ok (.getfield 41, 3) := by decide +kernel
theorem dX7_areThere_15 : decode cX7_areThere 15 = .ok (.iconst (-1), 1) := by decide +kernel
theorem dX7_areThere_16 : decode cX7_areThere 16 = .ok (.ixor, 1) := by decide +kernel
theorem dX7_areThere_17 : decode cX7_areThere 17 = .ok (.iand, 1) := by decide +kernel
theorem dX7_areThere_18 : decode cX7_areThere 18 = .ok (.ifCond .ne 7, 3) := by decide +kernel
theorem dX7_areThere_21 : decode cX7_areThere 21 = .ok (.iconst 1, 1) := by decide +kernel
theorem dX7_areThere_22 : decode cX7_areThere 22 = .ok (.goto 4, 3) := by decide +kernel
theorem dX7_areThere_25 : decode cX7_areThere 25 = .ok (.iconst 0, 1) := by decide +kernel
theorem dX7_areThere_26 : decode cX7_areThere 26 = .ok (.ireturn, 1) := by decide +kernel
theorem dX7_oneDay_0 : decode cX7_oneDay 0 = .ok (.bipush (-6), 2) := by decide +kernel
theorem dX7_oneDay_2 : decode cX7_oneDay 2 = .ok (.istore_n 3, 1) := by decide +kernel
theorem dX7_oneDay_3 : decode cX7_oneDay 3 = .ok (.iconst 0, 1) := by decide +kernel
theorem dX7_oneDay_4 : decode cX7_oneDay 4 = .ok (.istore 4, 2) := by decide +kernel
theorem dX7_oneDay_6 : decode cX7_oneDay 6 = .ok (.iload 4, 2) := by decide +kernel
theorem dX7_oneDay_8 : decode cX7_oneDay 8 = .ok (.bipush 8, 2) := by decide +kernel
theorem dX7_oneDay_10 : decode cX7_oneDay 10 = .ok (.if_icmp .ge 28, 3) := by decide +kernel
theorem dX7_oneDay_13 : decode cX7_oneDay 13 = .ok (.aload_n 0, 1) := by decide +kernel
theorem dX7_oneDay_14 : decode cX7_oneDay 14 = .ok (.iload_n 1, 1) := by decide +kernel
theorem dX7_oneDay_15 : decode cX7_oneDay 15 = .ok (.iload 4, 2) := by decide +kernel
theorem dX7_oneDay_17 : decode cX7_oneDay 17 = .ok (.iload_n 2, 1) := by decide +kernel
theorem dX7_oneDay_18 : decode cX7_oneDay 18 = .ok (.invokevirtual 84, 3) := by decide +kernel
theorem dX7_oneDay_21 : decode cX7_oneDay 21 = .ok (.iload_n 1, 1) := by decide +kernel
theorem dX7_oneDay_22 : decode cX7_oneDay 22 = .ok (.if_icmp .ne 8, 3) := by decide +kernel
theorem dX7_oneDay_25 : decode cX7_oneDay 25 = .ok (.iload 4, 2) := by decide +kernel
theorem dX7_oneDay_27 : decode cX7_oneDay 27 = .ok (.goto 4, 3) := by decide +kernel
theorem dX7_oneDay_30 : decode cX7_oneDay 30 = .ok (.iload_n 3, 1) := by decide +kernel
theorem dX7_oneDay_31 : decode cX7_oneDay 31 = .ok (.istore_n 3, 1) := by decide +kernel
theorem dX7_oneDay_32 : decode cX7_oneDay 32 = .ok (.iinc 4 1, 3) := by decide +kernel
theorem dX7_oneDay_35 : decode cX7_oneDay 35 = .ok (.goto (-29), 3) := by decide +kernel
theorem dX7_oneDay_38 : decode cX7_oneDay 38 = .ok (.iload_n 3, 1) := by decide +kernel
theorem dX7_oneDay_39 : decode cX7_oneDay 39 = .ok (.ireturn, 1) := by decide +kernel
theorem dX7_meet_0 : decode cX7_meet 0 = .ok (.aload_n 0, 1) := by decide +kernel
theorem dX7_meet_1 : decode cX7_meet 1 = .ok (.iload_n 1, 1) := by decide +kernel
theorem dX7_meet_2 : decode cX7_meet 2 = .ok (.invokevirtual 88, 3) := by decide +kernel
theorem dX7_meet_5 : decode cX7_meet 5 = .ok (.ifCond .eq 19, 3) := by decide +kernel
theorem dX7_meet_8 : decode cX7_meet 8 = .ok (.iload_n 2, 1) := by decide +kernel
theorem dX7_meet_9 : decode cX7_meet 9 = .ok (.invokestatic 77, 3) := by decide +kernel
theorem dX7_meet_12 : decode cX7_meet 12 = .ok (.ifCond .eq 12, 3) := by decide +kernel
theorem dX7_meet_15 : decode cX7_meet 15 = .ok (.iload_n 3, 1) := by decide +kernel
theorem dX7_meet_16 : decode cX7_meet 16 = .ok (.iconst 0, 1) := by decide +kernel
theorem dX7_meet_17 : decode cX7_meet 17 = .ok (.iconst 1, 1) := by decide +kernel
theorem dX7_meet_18 : decode cX7_meet 18 = .ok (.invokestatic 45, 3) := by decide +kernel
theorem dX7_meet_21 : decode cX7_meet 21 = .ok (.ifCond .ne 6, 3) := by decide +kernel
theorem dX7_meet_24 : decode cX7_meet 24 = .ok (.bipush (-2), 2) := by decide +kernel
theorem dX7_meet_26 : decode cX7_meet 26 = .ok (.ireturn, 1) := by decide +kernel
theorem dX7_meet_27 : decode cX7_meet 27 = .ok (.iload_n 2, 1) := by decide +kernel
theorem dX7_meet_28 : decode cX7_meet 28 = .ok (.istore 4, 2) := by decide +kernel
theorem dX7_meet_30 : decode cX7_meet 30 = .ok (.iload 4, 2) := by decide +kernel
theorem dX7_meet_32 : decode cX7_meet 32 = .ok (.iload_n 2, 1) := by decide +kernel
theorem dX7_meet_33 : decode cX7_meet 33 = .ok (.sipush 840, 3) := by decide +kernel
theorem dX7_meet_36 : decode cX7_meet 36 = .ok (.iadd, 1) := by decide +kernel
theorem dX7_meet_37 : decode cX7_meet 37 = .ok (.if_icmp .ge 35, 3) := by decide +kernel
theorem dX7_meet_40 : decode cX7_meet 40 = .ok (.aload_n 0, 1) := by decide +kernel
theorem dX7_meet_41 : decode cX7_meet 41 = .ok (.iload_n 1, 1) := by decide +kernel
theorem dX7_meet_42 : decode cX7_meet 42 = .ok (.iload 4, 2) := by decide +kernel
theorem dX7_meet_44 : decode cX7_meet 44 = .ok (.invokevirtual 91, 3) := by decide +kernel
theorem dX7_meet_47 : decode cX7_meet 47 = .ok (.istore 5, 2) := by decide +kernel
theorem dX7_meet_49 : decode cX7_meet 49 = .ok (.iload 5, 2) := by decide +kernel
theorem dX7_meet_51 : decode cX7_meet 51 = .ok (.ifCond .lt 15, 3) := by decide +kernel
theorem dX7_meet_54 : decode cX7_meet 54 = .ok (.iload_n 3, 1) := by decide +kernel
theorem dX7_meet_55 : decode cX7_meet 55 = .ok (.ifCond .ne 8, 3) := by decide +kernel
theorem dX7_meet_58 : decode cX7_meet 58 = .ok (.iload 4, 2) := by decide +kernel
theorem dX7_meet_60 : decode cX7_meet 60 = .ok (.goto 5, 3) := by decide +kernel
theorem dX7_meet_63 : decode cX7_meet 63 = .ok (.iload 5, 2) := by decide +kernel
theorem dX7_meet_65 : decode cX7_meet 65 = .ok (.ireturn, 1) := by decide +kernel
theorem dX7_meet_66 : decode cX7_meet 66 = .ok (.iinc 4 1, 3) := by decide +kernel
theorem dX7_meet_69 : decode cX7_meet 69 = .ok (.goto (-39), 3) := by decide +kernel
theorem dX7_meet_72 : decode cX7_meet 72 = .ok (.bipush (-6), 2) := by decide +kernel
theorem dX7_meet_74 : decode cX7_meet 74 = .ok (.ireturn, 1) := by decide +kernel
theorem dX7_sharedBy_0 : decode cX7_sharedBy 0 = .ok (.iconst 0, 1) := by decide +kernel
theorem dX7_sharedBy_1 : decode cX7_sharedBy 1 = .ok (.istore 4, 2) := by decide +kernel
theorem dX7_sharedBy_3 : decode cX7_sharedBy 3 = .ok (.iconst 0, 1) := by decide +kernel
theorem dX7_sharedBy_4 : decode cX7_sharedBy 4 = .ok (.istore 5, 2) := by decide +kernel
theorem dX7_sharedBy_6 : decode cX7_sharedBy 6 = .ok (.iload 5, 2) := by decide +kernel
theorem dX7_sharedBy_8 : decode cX7_sharedBy 8 = .ok (.iload_n 3, 1) := by decide +kernel
theorem dX7_sharedBy_9 : decode cX7_sharedBy 9 = .ok (.if_icmp .ge 36, 3) := by decide +kernel
theorem dX7_sharedBy_12 : decode cX7_sharedBy 12 = .ok (.iload 4, 2) := by decide +kernel
theorem dX7_sharedBy_14 : decode cX7_sharedBy 14 = .ok (.aload_n 0, 1) := by decide +kernel
theorem dX7_sharedBy_15 : decode cX7_sharedBy 15 = .ok (.iload_n 1, 1) := by decide +kernel
theorem dX7_sharedBy_16 : decode cX7_sharedBy 16 = .ok (.iload 5, 2) := by decide +kernel
theorem dX7_sharedBy_18 : decode cX7_sharedBy 18 = .ok (.invokevirtual 80, 3) := by decide +kernel
theorem dX7_sharedBy_21 : decode cX7_sharedBy 21 = .ok (.aload_n 0, 1) := by decide +kernel
theorem dX7_sharedBy_22 : decode cX7_sharedBy 22 = .ok (.iload_n 2, 1) := by decide +kernel
theorem dX7_sharedBy_23 : decode cX7_sharedBy 23 = .ok (.iload 5, 2) := by decide +kernel
theorem dX7_sharedBy_25 : decode cX7_sharedBy 25 = .ok (.invokevirtual 80, 3) := by decide +kernel
theorem dX7_sharedBy_28 : decode cX7_sharedBy 28 = .ok (.if_icmp .ne 7, 3) := by decide +kernel
theorem dX7_sharedBy_31 : decode cX7_sharedBy 31 = .ok (.iconst 1, 1) := by decide +kernel
theorem dX7_sharedBy_32 : decode cX7_sharedBy 32 = .ok (.goto 4, 3) := by decide +kernel
theorem dX7_sharedBy_35 : decode cX7_sharedBy 35 = .ok (.iconst 0, 1) := by decide +kernel
theorem dX7_sharedBy_36 : decode cX7_sharedBy 36 = .ok (.iadd, 1) := by decide +kernel
theorem dX7_sharedBy_37 : decode cX7_sharedBy 37 = .ok (.istore 4, 2) := by decide +kernel
theorem dX7_sharedBy_39 : decode cX7_sharedBy 39 = .ok (.iinc 5 1, 3) := by decide +kernel
theorem dX7_sharedBy_42 : decode cX7_sharedBy 42 = .ok (.goto (-36), 3) := by decide +kernel
theorem dX7_sharedBy_45 : decode cX7_sharedBy 45 = .ok (.iload 4, 2) := by decide +kernel
theorem dX7_sharedBy_47 : decode cX7_sharedBy 47 = .ok (.ireturn, 1) := by decide +kernel
theorem dX7_shared_0 : decode cX7_shared 0 = .ok (.aload_n 0, 1) := by decide +kernel
theorem dX7_shared_1 : decode cX7_shared 1 = .ok (.iload_n 1, 1) := by decide +kernel
theorem dX7_shared_2 : decode cX7_shared 2 = .ok (.invokevirtual 67, 3) := by decide +kernel
theorem dX7_shared_5 : decode cX7_shared 5 = .ok (.ifCond .eq 28, 3) := by decide +kernel
theorem dX7_shared_8 : decode cX7_shared 8 = .ok (.aload_n 0, 1) := by decide +kernel
theorem dX7_shared_9 : decode cX7_shared 9 = .ok (.iload_n 2, 1) := by decide +kernel
theorem dX7_shared_10 : decode cX7_shared 10 = .ok (.invokevirtual 67, 3) := by decide +kernel
theorem dX7_shared_13 : decode cX7_shared 13 = .ok (.ifCond .eq 20, 3) := by decide +kernel
theorem dX7_shared_16 : decode cX7_shared 16 = .ok (.iload_n 1, 1) := by decide +kernel
theorem dX7_shared_17 : decode cX7_shared 17 = .ok (.iload_n 2, 1) := by decide +kernel
theorem dX7_shared_18 : decode cX7_shared 18 = .ok (.if_icmp .eq 15, 3) := by decide +kernel
theorem dX7_shared_21 : decode cX7_shared 21 = .ok (.aload_n 0, 1) := by decide +kernel
theorem dX7_shared_22 : decode cX7_shared 22 = .ok (.iload_n 1, 1) := by decide +kernel
theorem dX7_shared_23 : decode cX7_shared 23 = .ok (.iload_n 2, 1) := by decide +kernel
theorem dX7_shared_24 : decode cX7_shared 24 = .ok (.sipush 840, 3) := by decide +kernel
theorem dX7_shared_27 : decode cX7_shared 27 = .ok (.invokevirtual 94, 3) := by decide +kernel
theorem dX7_shared_30 : decode cX7_shared 30 = .ok (.goto 4, 3) := by decide +kernel
theorem dX7_shared_33 : decode cX7_shared 33 = .ok (.iconst (-1), 1) := by decide +kernel
theorem dX7_shared_34 : decode cX7_shared 34 = .ok (.ireturn, 1) := by decide +kernel
theorem dX7_never_0 : decode cX7_never 0 = .ok (.iconst 0, 1) := by decide +kernel
theorem dX7_never_1 : decode cX7_never 1 = .ok (.istore_n 2, 1) := by decide +kernel
theorem dX7_never_2 : decode cX7_never 2 = .ok (.iconst 0, 1) := by decide +kernel
theorem dX7_never_3 : decode cX7_never 3 = .ok (.istore_n 3, 1) := by decide +kernel
theorem dX7_never_4 : decode cX7_never 4 = .ok (.iload_n 3, 1) := by decide +kernel
theorem dX7_never_5 : decode cX7_never 5 = .ok (.bipush 6, 2) := by decide +kernel
theorem dX7_never_7 : decode cX7_never 7 = .ok (.if_icmp .ge 79, 3) := by decide +kernel
theorem dX7_never_10 : decode cX7_never 10 = .ok (.iload_n 3, 1) := by decide +kernel
theorem dX7_never_11 : decode cX7_never 11 = .ok (.iconst 1, 1) := by decide +kernel
theorem dX7_never_12 : decode cX7_never 12 = .ok (.iadd, 1) := by decide +kernel
theorem dX7_never_13 : decode cX7_never 13 = .ok (.istore 4, 2) := by decide +kernel
theorem dX7_never_15 : decode cX7_never 15 = .ok (.iload 4, 2) := by decide +kernel
theorem dX7_never_17 : decode cX7_never 17 = .ok (.bipush 6, 2) := by decide +kernel
theorem dX7_never_19 : decode cX7_never 19 = .ok (.if_icmp .ge 61, 3) := by decide +kernel
theorem dX7_never_22 : decode cX7_never 22 = .ok (.aload_n 0, 1) := by decide +kernel
theorem dX7_never_23 : decode cX7_never 23 = .ok (.getfield 41, 3) := by decide +kernel
theorem dX7_never_26 : decode cX7_never 26 = .ok (.iload_n 3, 1) := by decide +kernel
theorem dX7_never_27 : decode cX7_never 27 = .ok (.invokestatic 49, 3) := by decide +kernel
theorem dX7_never_30 : decode cX7_never 30 = .ok (.ifCond .eq 44, 3) := by decide +kernel
theorem dX7_never_33 : decode cX7_never 33 = .ok (.aload_n 0, 1) := by decide +kernel
theorem dX7_never_34 : decode cX7_never 34 = .ok (.getfield 41, 3) := by decide +kernel
theorem dX7_never_37 : decode cX7_never 37 = .ok (.iload 4, 2) := by decide +kernel
theorem dX7_never_39 : decode cX7_never 39 = .ok (.invokestatic 49, 3) := by decide +kernel
theorem dX7_never_42 : decode cX7_never 42 = .ok (.ifCond .eq 32, 3) := by decide +kernel
theorem dX7_never_45 : decode cX7_never 45 = .ok (.aload_n 0, 1) := by decide +kernel
theorem dX7_never_46 : decode cX7_never 46 = .ok (.iload_n 3, 1) := by decide +kernel
theorem dX7_never_47 : decode cX7_never 47 = .ok (.iload 4, 2) := by decide +kernel
theorem dX7_never_49 : decode cX7_never 49 = .ok (.sipush 840, 3) := by decide +kernel
theorem dX7_never_52 : decode cX7_never 52 = .ok (.invokevirtual 94, 3) := by decide +kernel
theorem dX7_never_55 : decode cX7_never 55 = .ok (.ifCond .ne 19, 3) := by decide +kernel
theorem dX7_never_58 : decode cX7_never 58 = .ok (.iload_n 2, 1) := by decide +kernel
theorem dX7_never_59 : decode cX7_never 59 = .ok (.iload_n 1, 1) := by decide +kernel
theorem dX7_never_60 : decode cX7_never 60 = .ok (.if_icmp .ne 11, 3) := by decide +kernel
theorem dX7_never_63 : decode cX7_never 63 = .ok (.bipush 10, 2) := by decide +kernel
theorem dX7_never_65 : decode cX7_never 65 = .ok (.iload_n 3, 1) := by decide +kernel
theorem dX7_never_66 : decode cX7_never 66 = .ok (.imul, 1) := by decide +kernel
theorem dX7_never_67 : decode cX7_never 67 = .ok (.iload 4, 2) := by decide +kernel
theorem dX7_never_69 : decode cX7_never 69 = .ok (.iadd, 1) := by decide +kernel
theorem dX7_never_70 : decode cX7_never 70 = .ok (.ireturn, 1) := by decide +kernel
theorem dX7_never_71 : decode cX7_never 71 = .ok (.iinc 2 1, 3) := by decide +kernel
theorem dX7_never_74 : decode cX7_never 74 = .ok (.iinc 4 1, 3) := by decide +kernel
theorem dX7_never_77 : decode cX7_never 77 = .ok (.goto (-62), 3) := by decide +kernel
theorem dX7_never_80 : decode cX7_never 80 = .ok (.iinc 3 1, 3) := by decide +kernel
theorem dX7_never_83 : decode cX7_never 83 = .ok (.goto (-79), 3) := by decide +kernel
theorem dX7_never_86 : decode cX7_never 86 = .ok (.iload_n 1, 1) := by decide +kernel
theorem dX7_never_87 : decode cX7_never 87 = .ok (.iconst (-1), 1) := by decide +kernel
theorem dX7_never_88 : decode cX7_never 88 = .ok (.if_icmp .ne 7, 3) := by decide +kernel
theorem dX7_never_91 : decode cX7_never 91 = .ok (.iload_n 2, 1) := by decide +kernel
theorem dX7_never_92 : decode cX7_never 92 = .ok (.goto 5, 3) := by decide +kernel
theorem dX7_never_95 : decode cX7_never 95 = .ok (.bipush (-6), 2) := by decide +kernel
theorem dX7_never_97 : decode cX7_never 97 = .ok (.ireturn, 1) := by decide +kernel
theorem dX7_market_0 : decode cX7_market 0 = .ok (.iload_n 1, 1) := by decide +kernel
theorem dX7_market_1 : decode cX7_market 1 = .ok (.invokestatic 56, 3) := by decide +kernel
theorem dX7_market_4 : decode cX7_market 4 = .ok (.ifCond .ne 5, 3) := by decide +kernel
theorem dX7_market_7 : decode cX7_market 7 = .ok (.iconst (-1), 1) := by decide +kernel
theorem dX7_market_8 : decode cX7_market 8 = .ok (.ireturn, 1) := by decide +kernel
theorem dX7_market_9 : decode cX7_market 9 = .ok (.iload_n 2, 1) := by decide +kernel
theorem dX7_market_10 : decode cX7_market 10 = .ok (.iconst 1, 1) := by decide +kernel
theorem dX7_market_11 : decode cX7_market 11 = .ok (.bipush 6, 2) := by decide +kernel
theorem dX7_market_13 : decode cX7_market 13 = .ok (.invokestatic 45, 3) := by decide +kernel
theorem dX7_market_16 : decode cX7_market 16 = .ok (.ifCond .eq 12, 3) := by decide +kernel
theorem dX7_market_19 : decode cX7_market 19 = .ok (.iload_n 3, 1) := by decide +kernel
theorem dX7_market_20 : decode cX7_market 20 = .ok (.iconst 0, 1) := by decide +kernel
theorem dX7_market_21 : decode cX7_market 21 = .ok (.iconst 2, 1) := by decide +kernel
theorem dX7_market_22 : decode cX7_market 22 = .ok (.invokestatic 45, 3) := by decide +kernel
theorem dX7_market_25 : decode cX7_market 25 = .ok (.ifCond .ne 6, 3) := by decide +kernel
theorem dX7_market_28 : decode cX7_market 28 = .ok (.bipush (-2), 2) := by decide +kernel
theorem dX7_market_30 : decode cX7_market 30 = .ok (.ireturn, 1) := by decide +kernel
theorem dX7_market_31 : decode cX7_market 31 = .ok (.iconst 0, 1) := by decide +kernel
theorem dX7_market_32 : decode cX7_market 32 = .ok (.istore 4, 2) := by decide +kernel
theorem dX7_market_34 : decode cX7_market 34 = .ok (.bipush (-6), 2) := by decide +kernel
theorem dX7_market_36 : decode cX7_market 36 = .ok (.istore 5, 2) := by decide +kernel
theorem dX7_market_38 : decode cX7_market 38 = .ok (.iconst 0, 1) := by decide +kernel
theorem dX7_market_39 : decode cX7_market 39 = .ok (.istore 6, 2) := by decide +kernel
theorem dX7_market_41 : decode cX7_market 41 = .ok (.iconst 0, 1) := by decide +kernel
theorem dX7_market_42 : decode cX7_market 42 = .ok (.istore 7, 2) := by decide +kernel
theorem dX7_market_44 : decode cX7_market 44 = .ok (.iconst 0, 1) := by decide +kernel
theorem dX7_market_45 : decode cX7_market 45 = .ok (.istore 8, 2) := by decide +kernel
theorem dX7_market_47 : decode cX7_market 47 = .ok (.iload 8, 2) := by decide +kernel
theorem dX7_market_49 : decode cX7_market 49 = .ok (.sipush 1680, 3) := by decide +kernel
theorem dX7_market_52 : decode cX7_market 52 = .ok (.if_icmp .ge 111, 3) := by decide +kernel
theorem dX7_market_55 : decode cX7_market 55 = .ok (.aload_n 0, 1) := by decide +kernel
theorem dX7_market_56 : decode cX7_market 56 = .ok (.aload_n 0, 1) := by decide +kernel
theorem dX7_market_57 : decode cX7_market 57 = .ok (.getfield 41, 3) := by decide +kernel
theorem dX7_market_60 : decode cX7_market 60 = .ok (.iload_n 1, 1) := by decide +kernel
theorem dX7_market_61 : decode cX7_market 61 = .ok (.iload 8, 2) := by decide +kernel
theorem dX7_market_63 : decode cX7_market 63 = .ok (.sipush 840, 3) := by decide +kernel
theorem dX7_market_66 : decode cX7_market 66 = .ok (.irem, 1) := by decide +kernel
theorem dX7_market_67 : decode cX7_market 67 = .ok (.invokevirtual 84, 3) := by decide +kernel
theorem dX7_market_70 : decode cX7_market 70 = .ok (.invokestatic 70, 3) := by decide +kernel
theorem dX7_market_73 : decode cX7_market 73 = .ok (.iload_n 2, 1) := by decide +kernel
theorem dX7_market_74 : decode cX7_market 74 = .ok (.if_icmp .lt 7, 3) := by decide +kernel
theorem dX7_market_77 : decode cX7_market 77 = .ok (.iconst 1, 1) := by decide +kernel
theorem dX7_market_78 : decode cX7_market 78 = .ok (.goto 4, 3) := by decide +kernel
theorem dX7_market_81 : decode cX7_market 81 = .ok (.iconst 0, 1) := by decide +kernel
theorem dX7_market_82 : decode cX7_market 82 = .ok (.istore 9, 2) := by decide +kernel
theorem dX7_market_84 : decode cX7_market 84 = .ok (.iload 5, 2) := by decide +kernel
theorem dX7_market_86 : decode cX7_market 86 = .ok (.ifCond .ge 13, 3) := by decide +kernel
theorem dX7_market_89 : decode cX7_market 89 = .ok (.iload 9, 2) := by decide +kernel
theorem dX7_market_91 : decode cX7_market 91 = .ok (.ifCond .eq 8, 3) := by decide +kernel
theorem dX7_market_94 : decode cX7_market 94 = .ok (.iload 8, 2) := by decide +kernel
theorem dX7_market_96 : decode cX7_market 96 = .ok (.goto 5, 3) := by decide +kernel
theorem dX7_market_99 : decode cX7_market 99 = .ok (.iload 5, 2) := by decide +kernel
theorem dX7_market_101 : decode cX7_market 101 = .ok (.istore 5, 2) := by decide +kernel
theorem dX7_market_103 : decode cX7_market 103 = .ok (.iload 4, 2) := by decide +kernel
theorem dX7_market_105 : decode cX7_market 105 = .ok (.iload 9, 2) := by decide +kernel
theorem dX7_market_107 : decode cX7_market 107 = .ok (.ifCond .eq 15, 3) := by decide +kernel
theorem dX7_market_110 : decode cX7_market 110 = .ok (.iload 8, 2) := by decide +kernel
theorem dX7_market_112 : decode cX7_market 112 = .ok (.sipush 840, 3) := by decide +kernel
theorem dX7_market_115 : decode cX7_market 115 = .ok (.if_icmp .ge 7, 3) := by decide +kernel
theorem dX7_market_118 : decode cX7_market 118 = .ok (.iconst 1, 1) := by decide +kernel
theorem dX7_market_119 : decode cX7_market 119 = .ok (.goto 4, 3) := by decide +kernel
theorem dX7_market_122 : decode cX7_market 122 = .ok (.iconst 0, 1) := by decide +kernel
theorem dX7_market_123 : decode cX7_market 123 = .ok (.iadd, 1) := by decide +kernel
theorem dX7_market_124 : decode cX7_market 124 = .ok (.istore 4, 2) := by decide +kernel
theorem dX7_market_126 : decode cX7_market 126 = .ok (.iload 9, 2) := by decide +kernel
theorem dX7_market_128 : decode cX7_market 128 = .ok (.ifCond .eq 7, 3) := by decide +kernel
theorem dX7_market_131 : decode cX7_market 131 = .ok (.iconst 0, 1) := by decide +kernel
theorem dX7_market_132 : decode cX7_market 132 = .ok (.goto 7, 3) := by decide +kernel
theorem dX7_market_135 : decode cX7_market 135 = .ok (.iload 6, 2) := by decide +kernel
theorem dX7_market_137 : decode cX7_market 137 = .ok (.iconst 1, 1) := by decide +kernel
theorem dX7_market_138 : decode cX7_market 138 = .ok (.iadd, 1) := by decide +kernel
theorem dX7_market_139 : decode cX7_market 139 = .ok (.istore 6, 2) := by decide +kernel
theorem dX7_market_141 : decode cX7_market 141 = .ok (.iload 6, 2) := by decide +kernel
theorem dX7_market_143 : decode cX7_market 143 = .ok (.iload 7, 2) := by decide +kernel
theorem dX7_market_145 : decode cX7_market 145 = .ok (.if_icmp .le 8, 3) := by decide +kernel
theorem dX7_market_148 : decode cX7_market 148 = .ok (.iload 6, 2) := by decide +kernel
theorem dX7_market_150 : decode cX7_market 150 = .ok (.goto 5, 3) := by decide +kernel
theorem dX7_market_153 : decode cX7_market 153 = .ok (.iload 7, 2) := by decide +kernel
theorem dX7_market_155 : decode cX7_market 155 = .ok (.istore 7, 2) := by decide +kernel
theorem dX7_market_157 : decode cX7_market 157 = .ok (.iinc 8 1, 3) := by decide +kernel
theorem dX7_market_160 : decode cX7_market 160 = .ok (.goto (-113), 3) := by decide +kernel
theorem dX7_market_163 : decode cX7_market 163 = .ok (.iload_n 3, 1) := by decide +kernel
theorem dX7_market_164 : decode cX7_market 164 = .ok (.ifCond .ne 8, 3) := by decide +kernel
theorem dX7_market_167 : decode cX7_market 167 = .ok (.iload 4, 2) := by decide +kernel
theorem dX7_market_169 : decode cX7_market 169 = .ok (.goto 26, 3) := by decide +kernel
theorem dX7_market_172 : decode cX7_market 172 = .ok (.iload_n 3, 1) := by decide +kernel
theorem dX7_market_173 : decode cX7_market 173 = .ok (.iconst 1, 1) := by decide +kernel
theorem dX7_market_174 : decode cX7_market 174 = .ok (.if_icmp .ne 8, 3) := by decide +kernel
theorem dX7_market_177 : decode cX7_market 177 = .ok (.iload 5, 2) := by decide +kernel
theorem dX7_market_179 : decode cX7_market 179 = .ok (.goto 16, 3) := by decide +kernel
theorem dX7_market_182 : decode cX7_market 182 = .ok (.iload 4, 2) := by decide +kernel
theorem dX7_market_184 : decode cX7_market 184 = .ok (.ifCond .ne 9, 3) := by decide +kernel
theorem dX7_market_187 : decode cX7_market 187 = .ok (.sipush 840, 3) := by decide +kernel
theorem dX7_market_190 : decode cX7_market 190 = .ok (.goto 5, 3) := by decide +kernel
theorem dX7_market_193 : decode cX7_market 193 = .ok (.iload 7, 2) := by decide +kernel
theorem dX7_market_195 : decode cX7_market 195 = .ok (.ireturn, 1) := by decide +kernel
theorem dX7_isWork_0 : decode cX7_isWork 0 = .ok (.iload_n 1, 1) := by decide +kernel
theorem dX7_isWork_1 : decode cX7_isWork 1 = .ok (.iconst 0, 1) := by decide +kernel
theorem dX7_isWork_2 : decode cX7_isWork 2 = .ok (.aload_n 0, 1) := by decide +kernel
theorem dX7_isWork_3 : decode cX7_isWork 3 = .ok (.getfield 74, 3) := by decide +kernel
theorem dX7_isWork_6 : decode cX7_isWork 6 = .ok (.iconst 1, 1) := by decide +kernel
theorem dX7_isWork_7 : decode cX7_isWork 7 = .ok (.isub, 1) := by decide +kernel
theorem dX7_isWork_8 : decode cX7_isWork 8 = .ok (.invokestatic 45, 3) := by decide +kernel
theorem dX7_isWork_11 : decode cX7_isWork 11 = .ok (.ireturn, 1) := by decide +kernel
theorem dX7_canBe_0 : decode cX7_canBe 0 = .ok (.aload_n 0, 1) := by decide +kernel
theorem dX7_canBe_1 : decode cX7_canBe 1 = .ok (.getfield 22, 3) := by decide +kernel
theorem dX7_canBe_4 : decode cX7_canBe 4 = .ok (.iload_n 1, 1) := by decide +kernel
theorem dX7_canBe_5 : decode cX7_canBe 5 = .ok (.iaload, 1) := by decide +kernel
theorem dX7_canBe_6 : decode cX7_canBe 6 = .ok (.aload_n 0, 1) := by decide +kernel
theorem dX7_canBe_7 : decode cX7_canBe 7 = .ok (.getfield 41, 3) := by decide +kernel
theorem dX7_canBe_10 : decode cX7_canBe 10 = .ok (.iconst (-1), 1) := by decide +kernel
theorem dX7_canBe_11 : decode cX7_canBe 11 = .ok (.ixor, 1) := by decide +kernel
theorem dX7_canBe_12 : decode cX7_canBe 12 = .ok (.iand, 1) := by decide +kernel
theorem dX7_canBe_13 : decode cX7_canBe 13 = .ok (.ifCond .ne 33, 3) := by decide +kernel
theorem dX7_canBe_16 : decode cX7_canBe 16 = .ok (.aload_n 0, 1) := by decide +kernel
theorem dX7_canBe_17 : decode cX7_canBe 17 = .ok (.aload_n 0, 1) := by decide +kernel
theorem dX7_canBe_18 : decode cX7_canBe 18 = .ok (.getfield 22, 3) := by decide +kernel
theorem dX7_canBe_21 : decode cX7_canBe 21 = .ok (.iload_n 1, 1) := by decide +kernel
theorem dX7_canBe_22 : decode cX7_canBe 22 = .ok (.iaload, 1) := by decide +kernel
theorem dX7_canBe_23 : decode cX7_canBe 23 = .ok (.aload_n 0, 1) := by decide +kernel
theorem dX7_canBe_24 : decode cX7_canBe 24 = .ok (.getfield 19, 3) := by decide +kernel
theorem dX7_canBe_27 : decode cX7_canBe 27 = .ok (.iload_n 1, 1) := by decide +kernel
theorem dX7_canBe_28 : decode cX7_canBe 28 = .ok (.iaload, 1) := by decide +kernel
theorem dX7_canBe_29 : decode cX7_canBe 29 = .ok (.iload_n 2, 1) := by decide +kernel
theorem dX7_canBe_30 : decode cX7_canBe 30 = .ok (.invokevirtual 84, 3) := by decide +kernel
theorem dX7_canBe_33 : decode cX7_canBe 33 = .ok (.aload_n 0, 1) := by decide +kernel
theorem dX7_canBe_34 : decode cX7_canBe 34 = .ok (.getfield 22, 3) := by decide +kernel
theorem dX7_canBe_37 : decode cX7_canBe 37 = .ok (.iload_n 1, 1) := by decide +kernel
theorem dX7_canBe_38 : decode cX7_canBe 38 = .ok (.iaload, 1) := by decide +kernel
theorem dX7_canBe_39 : decode cX7_canBe 39 = .ok (.if_icmp .ne 7, 3) := by decide +kernel
theorem dX7_canBe_42 : decode cX7_canBe 42 = .ok (.iconst 1, 1) := by decide +kernel
theorem dX7_canBe_43 : decode cX7_canBe 43 = .ok (.goto 4, 3) := by decide +kernel
theorem dX7_canBe_46 : decode cX7_canBe 46 = .ok (.iconst 0, 1) := by decide +kernel
theorem dX7_canBe_47 : decode cX7_canBe 47 = .ok (.ireturn, 1) := by decide +kernel
theorem dX7_can_0 : decode cX7_can 0 = .ok (.aload_n 0, 1) := by decide +kernel
theorem dX7_can_1 : decode cX7_can 1 = .ok (.iload_n 1, 1) := by decide +kernel
theorem dX7_can_2 : decode cX7_can 2 = .ok (.invokevirtual 97, 3) := by decide +kernel
theorem dX7_can_5 : decode cX7_can 5 = .ok (.ifCond .ne 5, 3) := by decide +kernel
theorem dX7_can_8 : decode cX7_can 8 = .ok (.iconst (-1), 1) := by decide +kernel
theorem dX7_can_9 : decode cX7_can 9 = .ok (.ireturn, 1) := by decide +kernel
theorem dX7_can_10 : decode cX7_can 10 = .ok (.iload_n 2, 1) := by decide +kernel
theorem dX7_can_11 : decode cX7_can 11 = .ok (.invokestatic 77, 3) := by decide +kernel
theorem dX7_can_14 : decode cX7_can 14 = .ok (.ifCond .ne 8, 3) := by decide +kernel
theorem dX7_can_17 : decode cX7_can 17 = .ok (.bipush (-2), 2) := by decide +kernel
theorem dX7_can_19 : decode cX7_can 19 = .ok (.goto 17, 3) := by decide +kernel
theorem dX7_can_22 : decode cX7_can 22 = .ok (.aload_n 0, 1) := by decide +kernel
theorem dX7_can_23 : decode cX7_can 23 = .ok (.iload_n 1, 1) := by decide +kernel
theorem dX7_can_24 : decode cX7_can 24 = .ok (.iload_n 2, 1) := by decide +kernel
theorem dX7_can_25 : decode cX7_can 25 = .ok (.invokevirtual 100, 3) := by decide +kernel
theorem dX7_can_28 : decode cX7_can 28 = .ok (.ifCond .eq 7, 3) := by decide +kernel
theorem dX7_can_31 : decode cX7_can 31 = .ok (.iconst 1, 1) := by decide +kernel
theorem dX7_can_32 : decode cX7_can 32 = .ok (.goto 4, 3) := by decide +kernel
theorem dX7_can_35 : decode cX7_can 35 = .ok (.iconst 0, 1) := by decide +kernel
theorem dX7_can_36 : decode cX7_can 36 = .ok (.ireturn, 1) := by decide +kernel
theorem dX7_fitsAhead_0 : decode cX7_fitsAhead 0 = .ok (.aload_n 0, 1) := by decide +kernel
theorem dX7_fitsAhead_1 : decode cX7_fitsAhead 1 = .ok (.iload_n 1, 1) := by decide +kernel
theorem dX7_fitsAhead_2 : decode cX7_fitsAhead 2 = .ok (.iload_n 2, 1) := by decide +kernel
theorem dX7_fitsAhead_3 : decode cX7_fitsAhead 3 = .ok (.aload_n 0, 1) := by decide +kernel
theorem dX7_fitsAhead_4 : decode cX7_fitsAhead 4 = .ok (.getfield 31, 3) := by decide +kernel
theorem dX7_fitsAhead_7 : decode cX7_fitsAhead 7 = .ok (.iload_n 1, 1) := by decide +kernel
theorem dX7_fitsAhead_8 : decode cX7_fitsAhead 8 = .ok (.iaload, 1) := by decide +kernel
theorem dX7_fitsAhead_9 : decode cX7_fitsAhead 9 = .ok (.iadd, 1) := by decide +kernel
theorem dX7_fitsAhead_10 : decode cX7_fitsAhead 10 = .ok (.invokevirtual 100, 3) := by decide +kernel
theorem dX7_fitsAhead_13 : decode cX7_fitsAhead 13 = .ok (.istore_n 3, 1) := by decide +kernel
theorem dX7_fitsAhead_14 : decode cX7_fitsAhead 14 = .ok (.iconst 0, 1) := by decide +kernel
theorem dX7_fitsAhead_15 : decode cX7_fitsAhead 15 = .ok (.istore 4, 2) := by decide +kernel
theorem dX7_fitsAhead_17 : decode cX7_fitsAhead 17 = .ok (.iload 4, 2) := by decide +kernel
theorem dX7_fitsAhead_19 : decode cX7_fitsAhead 19 = .ok (.iload_n 1, 1) := by decide +kernel
theorem dX7_fitsAhead_20 : decode cX7_fitsAhead 20 = .ok (.if_icmp .ge 52, 3) := by decide +kernel
theorem dX7_fitsAhead_23 : decode cX7_fitsAhead 23 = .ok (.iload_n 3, 1) := by decide +kernel
theorem dX7_fitsAhead_24 : decode cX7_fitsAhead 24 = .ok (.ifCond .eq 48, 3) := by decide +kernel
theorem dX7_fitsAhead_27 : decode cX7_fitsAhead 27 = .ok (.aload_n 0, 1) := by decide +kernel
theorem dX7_fitsAhead_28 : decode cX7_fitsAhead 28 = .ok (.getfield 31, 3) := by decide +kernel
theorem dX7_fitsAhead_31 : decode cX7_fitsAhead 31 = .ok (.iload 4, 2) := by decide +kernel
theorem dX7_fitsAhead_33 : decode cX7_fitsAhead 33 = .ok (.iaload, 1) := by decide +kernel
theorem dX7_fitsAhead_34 : decode cX7_fitsAhead 34 = .ok (.aload_n 0, 1) := by decide +kernel
theorem dX7_fitsAhead_35 : decode cX7_fitsAhead 35 = .ok (.getfield 31, 3) := by decide +kernel
theorem dX7_fitsAhead_38 : decode cX7_fitsAhead 38 = .ok (.iload_n 1, 1) := by decide +kernel
theorem dX7_fitsAhead_39 : decode cX7_fitsAhead 39 = .ok (.iaload, 1) := by decide +kernel
theorem dX7_fitsAhead_40 : decode cX7_fitsAhead 40 = .ok (.if_icmp .ne 20, 3) := by decide +kernel
theorem dX7_fitsAhead_43 : decode cX7_fitsAhead 43 = .ok (.aload_n 0, 1) := by decide +kernel
theorem dX7_fitsAhead_44 : decode cX7_fitsAhead 44 = .ok (.getfield 22, 3) := by decide +kernel
theorem dX7_fitsAhead_47 : decode cX7_fitsAhead 47 = .ok (.iload 4, 2) := by decide +kernel
theorem dX7_fitsAhead_49 : decode cX7_fitsAhead 49 = .ok (.iaload, 1) := by decide +kernel
theorem dX7_fitsAhead_50 : decode cX7_fitsAhead 50 = .ok (.aload_n 0, 1) := by decide +kernel
theorem dX7_fitsAhead_51 : decode cX7_fitsAhead 51 = .ok (.getfield 22, 3) := by decide +kernel
theorem dX7_fitsAhead_54 : decode cX7_fitsAhead 54 = .ok (.iload_n 1, 1) := by decide +kernel
theorem dX7_fitsAhead_55 : decode cX7_fitsAhead 55 = .ok (.iaload, 1) := by decide +kernel
theorem dX7_fitsAhead_56 : decode cX7_fitsAhead 56 = .ok (.iand, 1) := by decide +kernel
theorem dX7_fitsAhead_57 : decode cX7_fitsAhead 57 = .ok (.ifCond .ne 7, 3) := by decide +kernel
theorem dX7_fitsAhead_60 : decode cX7_fitsAhead 60 = .ok (.iconst 1, 1) := by decide +kernel
theorem dX7_fitsAhead_61 : decode cX7_fitsAhead 61 = .ok (.goto 4, 3) := by decide +kernel
theorem dX7_fitsAhead_64 : decode cX7_fitsAhead 64 = .ok (.iconst 0, 1) := by decide +kernel
theorem dX7_fitsAhead_65 : decode cX7_fitsAhead 65 = .ok (.istore_n 3, 1) := by decide +kernel
theorem dX7_fitsAhead_66 : decode cX7_fitsAhead 66 = .ok (.iinc 4 1, 3) := by decide +kernel
theorem dX7_fitsAhead_69 : decode cX7_fitsAhead 69 = .ok (.goto (-52), 3) := by decide +kernel
theorem dX7_fitsAhead_72 : decode cX7_fitsAhead 72 = .ok (.iload_n 3, 1) := by decide +kernel
theorem dX7_fitsAhead_73 : decode cX7_fitsAhead 73 = .ok (.ireturn, 1) := by decide +kernel
theorem dX7_canMonth_0 : decode cX7_canMonth 0 = .ok (.iconst 0, 1) := by decide +kernel
theorem dX7_canMonth_1 : decode cX7_canMonth 1 = .ok (.istore_n 3, 1) := by decide +kernel
theorem dX7_canMonth_2 : decode cX7_canMonth 2 = .ok (.iload_n 2, 1) := by decide +kernel
theorem dX7_canMonth_3 : decode cX7_canMonth 3 = .ok (.istore 4, 2) := by decide +kernel
theorem dX7_canMonth_5 : decode cX7_canMonth 5 = .ok (.aload_n 0, 1) := by decide +kernel
theorem dX7_canMonth_6 : decode cX7_canMonth 6 = .ok (.getfield 31, 3) := by decide +kernel
theorem dX7_canMonth_9 : decode cX7_canMonth 9 = .ok (.iconst 0, 1) := by decide +kernel
theorem dX7_canMonth_10 : decode cX7_canMonth 10 = .ok (.iconst (-1), 1) := by decide +kernel
theorem dX7_canMonth_11 : decode cX7_canMonth 11 = .ok (.iastore, 1) := by decide +kernel
theorem dX7_canMonth_12 : decode cX7_canMonth 12 = .ok (.iload_n 3, 1) := by decide +kernel
theorem dX7_canMonth_13 : decode cX7_canMonth 13 = .ok (.ifCond .lt 142, 3) := by decide +kernel
theorem dX7_canMonth_16 : decode cX7_canMonth 16 = .ok (.iload_n 3, 1) := by decide +kernel
theorem dX7_canMonth_17 : decode cX7_canMonth 17 = .ok (.aload_n 0, 1) := by decide +kernel
theorem dX7_canMonth_18 : decode cX7_canMonth 18 = .ok (.getfield 74, 3) := by decide +kernel
theorem dX7_canMonth_21 : decode cX7_canMonth 21 = .ok (.if_icmp .ge 134, 3) := by decide +kernel
theorem dX7_canMonth_24 : decode cX7_canMonth 24 = .ok (.iload 4, 2) := by decide +kernel
theorem dX7_canMonth_26 : decode cX7_canMonth 26 = .ok (.aload_n 0, 1) := by decide +kernel
theorem dX7_canMonth_27 : decode cX7_canMonth 27 = .ok (.getfield 31, 3) := by decide +kernel
theorem dX7_canMonth_30 : decode cX7_canMonth 30 = .ok (.iload_n 3, 1) := by decide +kernel
theorem dX7_canMonth_31 : decode cX7_canMonth 31 = .ok (.iaload, 1) := by decide +kernel
theorem dX7_canMonth_32 : decode cX7_canMonth 32 = .ok (.bipush 30, 2) := by decide +kernel
theorem dX7_canMonth_34 : decode cX7_canMonth 34 = .ok (.if_icmp .ne 7, 3) := by decide +kernel
theorem dX7_canMonth_37 : decode cX7_canMonth 37 = .ok (.iconst 1, 1) := by decide +kernel
theorem dX7_canMonth_38 : decode cX7_canMonth 38 = .ok (.goto 4, 3) := by decide +kernel
theorem dX7_canMonth_41 : decode cX7_canMonth 41 = .ok (.iconst 0, 1) := by decide +kernel
theorem dX7_canMonth_42 : decode cX7_canMonth 42 = .ok (.iadd, 1) := by decide +kernel
theorem dX7_canMonth_43 : decode cX7_canMonth 43 = .ok (.istore 4, 2) := by decide +kernel
theorem dX7_canMonth_45 : decode cX7_canMonth 45 = .ok (.aload_n 0, 1) := by decide +kernel
theorem dX7_canMonth_46 : decode cX7_canMonth 46 = .ok (.getfield 31, 3) := by decide +kernel
theorem dX7_canMonth_49 : decode cX7_canMonth 49 = .ok (.iload_n 3, 1) := by decide +kernel
theorem dX7_canMonth_50 : decode cX7_canMonth 50 = .ok (.dup2, 1) := by decide +kernel
theorem dX7_canMonth_51 : decode cX7_canMonth 51 = .ok (.iaload, 1) := by decide +kernel
theorem dX7_canMonth_52 : decode cX7_canMonth 52 = .ok (.iconst 1, 1) := by decide +kernel
theorem dX7_canMonth_53 : decode cX7_canMonth 53 = .ok (.iadd, 1) := by decide +kernel
theorem dX7_canMonth_54 : decode cX7_canMonth 54 = .ok (.iastore, 1) := by decide +kernel
theorem dX7_canMonth_55 : decode cX7_canMonth 55 = .ok (.aload_n 0, 1) := by decide +kernel
theorem dX7_canMonth_56 : decode cX7_canMonth 56 = .ok (.getfield 31, 3) := by decide +kernel
theorem dX7_canMonth_59 : decode cX7_canMonth 59 = .ok (.iload_n 3, 1) := by decide +kernel
theorem dX7_canMonth_60 : decode cX7_canMonth 60 = .ok (.iaload, 1) := by decide +kernel
theorem dX7_canMonth_61 : decode cX7_canMonth 61 = .ok (.bipush 30, 2) := by decide +kernel
theorem dX7_canMonth_63 : decode cX7_canMonth 63 = .ok (.if_icmp .ge 25, 3) := by decide +kernel
theorem dX7_canMonth_66 : decode cX7_canMonth 66 = .ok (.aload_n 0, 1) := by decide +kernel
theorem dX7_canMonth_67 : decode cX7_canMonth 67 = .ok (.iload_n 3, 1) := by decide +kernel
theorem dX7_canMonth_68 : decode cX7_canMonth 68 = .ok (.iload_n 1, 1) := by decide +kernel
theorem dX7_canMonth_69 : decode cX7_canMonth 69 = .ok (.invokevirtual 103, 3) := by decide +kernel
theorem dX7_canMonth_72 : decode cX7_canMonth 72 = .ok (.ifCond .ne 16, 3) := by decide +kernel
theorem dX7_canMonth_75 : decode cX7_canMonth 75 = .ok (.aload_n 0, 1) := by decide +kernel
theorem dX7_canMonth_76 : decode cX7_canMonth 76 = .ok (.getfield 31, 3) := by decide +kernel
theorem dX7_canMonth_79 : decode cX7_canMonth 79 = .ok (.iload_n 3, 1) := by decide +kernel
theorem dX7_canMonth_80 : decode cX7_canMonth 80 = .ok (.dup2, 1) := by decide +kernel
theorem dX7_canMonth_81 : decode cX7_canMonth 81 = .ok (.iaload, 1) := by decide +kernel
theorem dX7_canMonth_82 : decode cX7_canMonth 82 = .ok (.iconst 1, 1) := by decide +kernel
theorem dX7_canMonth_83 : decode cX7_canMonth 83 = .ok (.iadd, 1) := by decide +kernel
theorem dX7_canMonth_84 : decode cX7_canMonth 84 = .ok (.iastore, 1) := by decide +kernel
theorem dX7_canMonth_85 : decode cX7_canMonth 85 = .ok (.goto (-30), 3) := by decide +kernel
theorem dX7_canMonth_88 : decode cX7_canMonth 88 = .ok (.aload_n 0, 1) := by decide +kernel
theorem dX7_canMonth_89 : decode cX7_canMonth 89 = .ok (.getfield 31, 3) := by decide +kernel
theorem dX7_canMonth_92 : decode cX7_canMonth 92 = .ok (.iload_n 3, 1) := by decide +kernel
theorem dX7_canMonth_93 : decode cX7_canMonth 93 = .ok (.iaload, 1) := by decide +kernel
theorem dX7_canMonth_94 : decode cX7_canMonth 94 = .ok (.bipush 30, 2) := by decide +kernel
theorem dX7_canMonth_96 : decode cX7_canMonth 96 = .ok (.if_icmp .lt 19, 3) := by decide +kernel
theorem dX7_canMonth_99 : decode cX7_canMonth 99 = .ok (.aload_n 0, 1) := by decide +kernel
theorem dX7_canMonth_100 : decode cX7_canMonth 100 = .ok (.getfield 31, 3) := by decide +kernel
theorem dX7_canMonth_103 : decode cX7_canMonth 103 = .ok (.iload_n 3, 1) := by decide +kernel
theorem dX7_canMonth_104 : decode cX7_canMonth 104 = .ok (.iaload, 1) := by decide +kernel
theorem dX7_canMonth_105 : decode cX7_canMonth 105 = .ok (.bipush 30, 2) := by decide +kernel
theorem dX7_canMonth_107 : decode cX7_canMonth 107 = .ok (.if_icmp .ne 42, 3) := by decide +kernel
theorem dX7_canMonth_110 : decode cX7_canMonth 110 = .ok (.iload 4, 2) := by decide +kernel
theorem dX7_canMonth_112 : decode cX7_canMonth 112 = .ok (.ifCond .le 37, 3) := by decide +kernel
theorem dX7_canMonth_115 : decode cX7_canMonth 115 = .ok (.iload 4, 2) := by decide +kernel
theorem dX7_canMonth_117 : decode cX7_canMonth 117 = .ok (.aload_n 0, 1) := by decide +kernel
theorem dX7_canMonth_118 : decode cX7_canMonth 118 = .ok (.getfield 31, 3) := by decide +kernel
theorem dX7_canMonth_121 : decode cX7_canMonth 121 = .ok (.iload_n 3, 1) := by decide +kernel
theorem dX7_canMonth_122 : decode cX7_canMonth 122 = .ok (.iaload, 1) := by decide +kernel
theorem dX7_canMonth_123 : decode cX7_canMonth 123 = .ok (.bipush 30, 2) := by decide +kernel
theorem dX7_canMonth_125 : decode cX7_canMonth 125 = .ok (.if_icmp .ne 7, 3) := by decide +kernel
theorem dX7_canMonth_128 : decode cX7_canMonth 128 = .ok (.iconst 1, 1) := by decide +kernel
theorem dX7_canMonth_129 : decode cX7_canMonth 129 = .ok (.goto 4, 3) := by decide +kernel
theorem dX7_canMonth_132 : decode cX7_canMonth 132 = .ok (.iconst 0, 1) := by decide +kernel
theorem dX7_canMonth_133 : decode cX7_canMonth 133 = .ok (.isub, 1) := by decide +kernel
theorem dX7_canMonth_134 : decode cX7_canMonth 134 = .ok (.istore 4, 2) := by decide +kernel
theorem dX7_canMonth_136 : decode cX7_canMonth 136 = .ok (.iinc 3 1, 3) := by decide +kernel
theorem dX7_canMonth_139 : decode cX7_canMonth 139 = .ok (.aload_n 0, 1) := by decide +kernel
theorem dX7_canMonth_140 : decode cX7_canMonth 140 = .ok (.getfield 31, 3) := by decide +kernel
theorem dX7_canMonth_143 : decode cX7_canMonth 143 = .ok (.iload_n 3, 1) := by decide +kernel
theorem dX7_canMonth_144 : decode cX7_canMonth 144 = .ok (.iconst (-1), 1) := by decide +kernel
theorem dX7_canMonth_145 : decode cX7_canMonth 145 = .ok (.iastore, 1) := by decide +kernel
theorem dX7_canMonth_146 : decode cX7_canMonth 146 = .ok (.goto (-134), 3) := by decide +kernel
theorem dX7_canMonth_149 : decode cX7_canMonth 149 = .ok (.iinc 3 (-1), 3) := by decide +kernel
theorem dX7_canMonth_152 : decode cX7_canMonth 152 = .ok (.goto (-140), 3) := by decide +kernel
theorem dX7_canMonth_155 : decode cX7_canMonth 155 = .ok (.iload_n 3, 1) := by decide +kernel
theorem dX7_canMonth_156 : decode cX7_canMonth 156 = .ok (.aload_n 0, 1) := by decide +kernel
theorem dX7_canMonth_157 : decode cX7_canMonth 157 = .ok (.getfield 74, 3) := by decide +kernel
theorem dX7_canMonth_160 : decode cX7_canMonth 160 = .ok (.if_icmp .ne 7, 3) := by decide +kernel
theorem dX7_canMonth_163 : decode cX7_canMonth 163 = .ok (.iconst 1, 1) := by decide +kernel
theorem dX7_canMonth_164 : decode cX7_canMonth 164 = .ok (.goto 4, 3) := by decide +kernel
theorem dX7_canMonth_167 : decode cX7_canMonth 167 = .ok (.iconst 0, 1) := by decide +kernel
theorem dX7_canMonth_168 : decode cX7_canMonth 168 = .ok (.ireturn, 1) := by decide +kernel
theorem dX7_month_0 : decode cX7_month 0 = .ok (.iload_n 2, 1) := by decide +kernel
theorem dX7_month_1 : decode cX7_month 1 = .ok (.iconst (-1), 1) := by decide +kernel
theorem dX7_month_2 : decode cX7_month 2 = .ok (.if_icmp .eq 13, 3) := by decide +kernel
theorem dX7_month_5 : decode cX7_month 5 = .ok (.aload_n 0, 1) := by decide +kernel
theorem dX7_month_6 : decode cX7_month 6 = .ok (.iload_n 2, 1) := by decide +kernel
theorem dX7_month_7 : decode cX7_month 7 = .ok (.invokevirtual 97, 3) := by decide +kernel
theorem dX7_month_10 : decode cX7_month 10 = .ok (.ifCond .ne 5, 3) := by decide +kernel
theorem dX7_month_13 : decode cX7_month 13 = .ok (.iconst (-1), 1) := by decide +kernel
theorem dX7_month_14 : decode cX7_month 14 = .ok (.ireturn, 1) := by decide +kernel
theorem dX7_month_15 : decode cX7_month 15 = .ok (.iload_n 1, 1) := by decide +kernel
theorem dX7_month_16 : decode cX7_month 16 = .ok (.iconst 0, 1) := by decide +kernel
theorem dX7_month_17 : decode cX7_month 17 = .ok (.sipush 9970, 3) := by decide +kernel
theorem dX7_month_20 : decode cX7_month 20 = .ok (.invokestatic 45, 3) := by decide +kernel
theorem dX7_month_23 : decode cX7_month 23 = .ok (.ifCond .ne 6, 3) := by decide +kernel
theorem dX7_month_26 : decode cX7_month 26 = .ok (.bipush (-2), 2) := by decide +kernel
theorem dX7_month_28 : decode cX7_month 28 = .ok (.ireturn, 1) := by decide +kernel
theorem dX7_month_29 : decode cX7_month 29 = .ok (.iconst 0, 1) := by decide +kernel
theorem dX7_month_30 : decode cX7_month 30 = .ok (.istore_n 3, 1) := by decide +kernel
theorem dX7_month_31 : decode cX7_month 31 = .ok (.aload_n 0, 1) := by decide +kernel
theorem dX7_month_32 : decode cX7_month 32 = .ok (.iload_n 1, 1) := by decide +kernel
theorem dX7_month_33 : decode cX7_month 33 = .ok (.iload_n 3, 1) := by decide +kernel
theorem dX7_month_34 : decode cX7_month 34 = .ok (.invokevirtual 106, 3) := by decide +kernel
theorem dX7_month_37 : decode cX7_month 37 = .ok (.ifCond .ne 9, 3) := by decide +kernel
theorem dX7_month_40 : decode cX7_month 40 = .ok (.iinc 3 1, 3) := by decide +kernel
theorem dX7_month_43 : decode cX7_month 43 = .ok (.goto (-12), 3) := by decide +kernel
theorem dX7_month_46 : decode cX7_month 46 = .ok (.iload_n 2, 1) := by decide +kernel
theorem dX7_month_47 : decode cX7_month 47 = .ok (.ifCond .ge 12, 3) := by decide +kernel
theorem dX7_month_50 : decode cX7_month 50 = .ok (.aload_n 0, 1) := by decide +kernel
theorem dX7_month_51 : decode cX7_month 51 = .ok (.getfield 74, 3) := by decide +kernel
theorem dX7_month_54 : decode cX7_month 54 = .ok (.iload_n 3, 1) := by decide +kernel
theorem dX7_month_55 : decode cX7_month 55 = .ok (.isub, 1) := by decide +kernel
theorem dX7_month_56 : decode cX7_month 56 = .ok (.goto 27, 3) := by decide +kernel
theorem dX7_month_59 : decode cX7_month 59 = .ok (.aload_n 0, 1) := by decide +kernel
theorem dX7_month_60 : decode cX7_month 60 = .ok (.getfield 31, 3) := by decide +kernel
theorem dX7_month_63 : decode cX7_month 63 = .ok (.iload_n 2, 1) := by decide +kernel
theorem dX7_month_64 : decode cX7_month 64 = .ok (.iaload, 1) := by decide +kernel
theorem dX7_month_65 : decode cX7_month 65 = .ok (.bipush 30, 2) := by decide +kernel
theorem dX7_month_67 : decode cX7_month 67 = .ok (.if_icmp .ge 14, 3) := by decide +kernel
theorem dX7_month_70 : decode cX7_month 70 = .ok (.iload_n 1, 1) := by decide +kernel
theorem dX7_month_71 : decode cX7_month 71 = .ok (.aload_n 0, 1) := by decide +kernel
theorem dX7_month_72 : decode cX7_month 72 = .ok (.getfield 31, 3) := by decide +kernel
theorem dX7_month_75 : decode cX7_month 75 = .ok (.iload_n 2, 1) := by decide +kernel
theorem dX7_month_76 : decode cX7_month 76 = .ok (.iaload, 1) := by decide +kernel
theorem dX7_month_77 : decode cX7_month 77 = .ok (.iadd, 1) := by decide +kernel
theorem dX7_month_78 : decode cX7_month 78 = .ok (.goto 5, 3) := by decide +kernel
theorem dX7_month_81 : decode cX7_month 81 = .ok (.bipush (-6), 2) := by decide +kernel
theorem dX7_month_83 : decode cX7_month 83 = .ok (.ireturn, 1) := by decide +kernel
theorem dX7_isBarred_0 : decode cX7_isBarred 0 = .ok (.iconst 1, 1) := by decide +kernel
theorem dX7_isBarred_1 : decode cX7_isBarred 1 = .ok (.istore_n 2, 1) := by decide +kernel
theorem dX7_isBarred_2 : decode cX7_isBarred 2 = .ok (.iconst 0, 1) := by decide +kernel
theorem dX7_isBarred_3 : decode cX7_isBarred 3 = .ok (.istore_n 3, 1) := by decide +kernel
theorem dX7_isBarred_4 : decode cX7_isBarred 4 = .ok (.iload_n 3, 1) := by decide +kernel
theorem dX7_isBarred_5 : decode cX7_isBarred 5 = .ok (.sipush 840, 3) := by decide +kernel
theorem dX7_isBarred_8 : decode cX7_isBarred 8 = .ok (.if_icmp .ge 28, 3) := by decide +kernel
theorem dX7_isBarred_11 : decode cX7_isBarred 11 = .ok (.iload_n 2, 1) := by decide +kernel
theorem dX7_isBarred_12 : decode cX7_isBarred 12 = .ok (.ifCond .eq 24, 3) := by decide +kernel
theorem dX7_isBarred_15 : decode cX7_isBarred 15 = .ok (.aload_n 0, 1) := by decide +kernel
theorem dX7_isBarred_16 : decode cX7_isBarred 16 = .ok (.iload_n 1, 1) := by decide +kernel
theorem dX7_isBarred_17 : decode cX7_isBarred 17 = .ok (.iload_n 3, 1) := by decide +kernel
theorem dX7_isBarred_18 : decode cX7_isBarred 18 = .ok (.invokevirtual 100, 3) := by decide +kernel
theorem dX7_isBarred_21 : decode cX7_isBarred 21 = .ok (.ifCond .ne 7, 3) := by decide +kernel
theorem dX7_isBarred_24 : decode cX7_isBarred 24 = .ok (.iconst 1, 1) := by decide +kernel
theorem dX7_isBarred_25 : decode cX7_isBarred 25 = .ok (.goto 4, 3) := by decide +kernel
theorem dX7_isBarred_28 : decode cX7_isBarred 28 = .ok (.iconst 0, 1) := by decide +kernel
theorem dX7_isBarred_29 : decode cX7_isBarred 29 = .ok (.istore_n 2, 1) := by decide +kernel
theorem dX7_isBarred_30 : decode cX7_isBarred 30 = .ok (.iinc 3 1, 3) := by decide +kernel
theorem dX7_isBarred_33 : decode cX7_isBarred 33 = .ok (.goto (-29), 3) := by decide +kernel
theorem dX7_isBarred_36 : decode cX7_isBarred 36 = .ok (.iload_n 2, 1) := by decide +kernel
theorem dX7_isBarred_37 : decode cX7_isBarred 37 = .ok (.ireturn, 1) := by decide +kernel
theorem dX7_barred_0 : decode cX7_barred 0 = .ok (.iconst 0, 1) := by decide +kernel
theorem dX7_barred_1 : decode cX7_barred 1 = .ok (.istore_n 1, 1) := by decide +kernel
theorem dX7_barred_2 : decode cX7_barred 2 = .ok (.iconst 0, 1) := by decide +kernel
theorem dX7_barred_3 : decode cX7_barred 3 = .ok (.istore_n 2, 1) := by decide +kernel
theorem dX7_barred_4 : decode cX7_barred 4 = .ok (.iload_n 2, 1) := by decide +kernel
theorem dX7_barred_5 : decode cX7_barred 5 = .ok (.aload_n 0, 1) := by decide +kernel
theorem dX7_barred_6 : decode cX7_barred 6 = .ok (.getfield 74, 3) := by decide +kernel
theorem dX7_barred_9 : decode cX7_barred 9 = .ok (.if_icmp .ge 27, 3) := by decide +kernel
theorem dX7_barred_12 : decode cX7_barred 12 = .ok (.iload_n 1, 1) := by decide +kernel
theorem dX7_barred_13 : decode cX7_barred 13 = .ok (.aload_n 0, 1) := by decide +kernel
theorem dX7_barred_14 : decode cX7_barred 14 = .ok (.iload_n 2, 1) := by decide +kernel
theorem dX7_barred_15 : decode cX7_barred 15 = .ok (.invokevirtual 109, 3) := by decide +kernel
theorem dX7_barred_18 : decode cX7_barred 18 = .ok (.ifCond .eq 9, 3) := by decide +kernel
theorem dX7_barred_21 : decode cX7_barred 21 = .ok (.iconst 1, 1) := by decide +kernel
theorem dX7_barred_22 : decode cX7_barred 22 = .ok (.iload_n 2, 1) := by decide +kernel
theorem dX7_barred_23 : decode cX7_barred 23 = .ok (.ishl, 1) := by decide +kernel
theorem dX7_barred_24 : decode cX7_barred 24 = .ok (.goto 4, 3) := by decide +kernel
theorem dX7_barred_27 : decode cX7_barred 27 = .ok (.iconst 0, 1) := by decide +kernel
theorem dX7_barred_28 : decode cX7_barred 28 = .ok (.ior, 1) := by decide +kernel
theorem dX7_barred_29 : decode cX7_barred 29 = .ok (.istore_n 1, 1) := by decide +kernel
theorem dX7_barred_30 : decode cX7_barred 30 = .ok (.iinc 2 1, 3) := by decide +kernel
theorem dX7_barred_33 : decode cX7_barred 33 = .ok (.goto (-29), 3) := by decide +kernel
theorem dX7_barred_36 : decode cX7_barred 36 = .ok (.iload_n 1, 1) := by decide +kernel
theorem dX7_barred_37 : decode cX7_barred 37 = .ok (.ireturn, 1) := by decide +kernel
theorem dX7_haveAtOnce_0 : decode cX7_haveAtOnce 0 = .ok (.iconst 0, 1) := by decide +kernel
theorem dX7_haveAtOnce_1 : decode cX7_haveAtOnce 1 = .ok (.istore_n 3, 1) := by decide +kernel
theorem dX7_haveAtOnce_2 : decode cX7_haveAtOnce 2 = .ok (.iconst 0, 1) := by decide +kernel
theorem dX7_haveAtOnce_3 : decode cX7_haveAtOnce 3 = .ok (.istore 4, 2) := by decide +kernel
theorem dX7_haveAtOnce_5 : decode cX7_haveAtOnce 5 = .ok (.iload 4, 2) := by decide +kernel
theorem dX7_haveAtOnce_7 : decode cX7_haveAtOnce 7 = .ok (.sipush 840, 3) := by decide +kernel
theorem dX7_haveAtOnce_10 : decode cX7_haveAtOnce 10 = .ok (.if_icmp .ge 31, 3) := by decide +kernel
theorem dX7_haveAtOnce_13 : decode cX7_haveAtOnce 13 = .ok (.iload_n 3, 1) := by decide +kernel
theorem dX7_haveAtOnce_14 : decode cX7_haveAtOnce 14 = .ok (.ifCond .ne 27, 3) := by decide +kernel
theorem dX7_haveAtOnce_17 : decode cX7_haveAtOnce 17 = .ok (.aload_n 0, 1) := by decide +kernel
theorem dX7_haveAtOnce_18 : decode cX7_haveAtOnce 18 = .ok (.iload_n 1, 1) := by decide +kernel
theorem dX7_haveAtOnce_19 : decode cX7_haveAtOnce 19 = .ok (.iload_n 2, 1) := by decide +kernel
theorem dX7_haveAtOnce_20 : decode cX7_haveAtOnce 20 = .ok (.iload 4, 2) := by decide +kernel
theorem dX7_haveAtOnce_22 : decode cX7_haveAtOnce 22 = .ok (.invokevirtual 84, 3) := by decide +kernel
theorem dX7_haveAtOnce_25 : decode cX7_haveAtOnce 25 = .ok (.iload_n 1, 1) := by decide +kernel
theorem dX7_haveAtOnce_26 : decode cX7_haveAtOnce 26 = .ok (.if_icmp .ne 7, 3) := by decide +kernel
theorem dX7_haveAtOnce_29 : decode cX7_haveAtOnce 29 = .ok (.iconst 1, 1) := by decide +kernel
theorem dX7_haveAtOnce_30 : decode cX7_haveAtOnce 30 = .ok (.goto 4, 3) := by decide +kernel
theorem dX7_haveAtOnce_33 : decode cX7_haveAtOnce 33 = .ok (.iconst 0, 1) := by decide +kernel
theorem dX7_haveAtOnce_34 : decode cX7_haveAtOnce 34 = .ok (.istore_n 3, 1) := by decide +kernel
theorem dX7_haveAtOnce_35 : decode cX7_haveAtOnce 35 = .ok (.iinc 4 1, 3) := by decide +kernel
theorem dX7_haveAtOnce_38 : decode cX7_haveAtOnce 38 = .ok (.goto (-33), 3) := by decide +kernel
theorem dX7_haveAtOnce_41 : decode cX7_haveAtOnce 41 = .ok (.iload_n 3, 1) := by decide +kernel
theorem dX7_haveAtOnce_42 : decode cX7_haveAtOnce 42 = .ok (.ireturn, 1) := by decide +kernel
theorem dX7_why_0 : decode cX7_why 0 = .ok (.aload_n 0, 1) := by decide +kernel
theorem dX7_why_1 : decode cX7_why 1 = .ok (.iload_n 1, 1) := by decide +kernel
theorem dX7_why_2 : decode cX7_why 2 = .ok (.invokevirtual 97, 3) := by decide +kernel
theorem dX7_why_5 : decode cX7_why 5 = .ok (.ifCond .ne 5, 3) := by decide +kernel
theorem dX7_why_8 : decode cX7_why 8 = .ok (.iconst (-1), 1) := by decide +kernel
theorem dX7_why_9 : decode cX7_why 9 = .ok (.ireturn, 1) := by decide +kernel
theorem dX7_why_10 : decode cX7_why 10 = .ok (.aload_n 0, 1) := by decide +kernel
theorem dX7_why_11 : decode cX7_why 11 = .ok (.iload_n 1, 1) := by decide +kernel
theorem dX7_why_12 : decode cX7_why 12 = .ok (.invokevirtual 109, 3) := by decide +kernel
theorem dX7_why_15 : decode cX7_why 15 = .ok (.ifCond .ne 6, 3) := by decide +kernel
theorem dX7_why_18 : decode cX7_why 18 = .ok (.bipush (-5), 2) := by decide +kernel
theorem dX7_why_20 : decode cX7_why 20 = .ok (.ireturn, 1) := by decide +kernel
theorem dX7_why_21 : decode cX7_why 21 = .ok (.aload_n 0, 1) := by decide +kernel
theorem dX7_why_22 : decode cX7_why 22 = .ok (.getfield 22, 3) := by decide +kernel
theorem dX7_why_25 : decode cX7_why 25 = .ok (.iload_n 1, 1) := by decide +kernel
theorem dX7_why_26 : decode cX7_why 26 = .ok (.iaload, 1) := by decide +kernel
theorem dX7_why_27 : decode cX7_why 27 = .ok (.aload_n 0, 1) := by decide +kernel
theorem dX7_why_28 : decode cX7_why 28 = .ok (.getfield 41, 3) := by decide +kernel
theorem dX7_why_31 : decode cX7_why 31 = .ok (.iconst (-1), 1) := by decide +kernel
theorem dX7_why_32 : decode cX7_why 32 = .ok (.ixor, 1) := by decide +kernel
theorem dX7_why_33 : decode cX7_why 33 = .ok (.iand, 1) := by decide +kernel
theorem dX7_why_34 : decode cX7_why 34 = .ok (.ifCond .eq 6, 3) := by decide +kernel
theorem dX7_why_37 : decode cX7_why 37 = .ok (.bipush (-3), 2) := by decide +kernel
theorem dX7_why_39 : decode cX7_why 39 = .ok (.ireturn, 1) := by decide +kernel
theorem dX7_why_40 : decode cX7_why 40 = .ok (.iconst 0, 1) := by decide +kernel
theorem dX7_why_41 : decode cX7_why 41 = .ok (.istore_n 2, 1) := by decide +kernel
theorem dX7_why_42 : decode cX7_why 42 = .ok (.iload_n 2, 1) := by decide +kernel
theorem dX7_why_43 : decode cX7_why 43 = .ok (.bipush 6, 2) := by decide +kernel
theorem dX7_why_45 : decode cX7_why 45 = .ok (.if_icmp .ge 43, 3) := by decide +kernel
theorem dX7_why_48 : decode cX7_why 48 = .ok (.aload_n 0, 1) := by decide +kernel
theorem dX7_why_49 : decode cX7_why 49 = .ok (.getfield 22, 3) := by decide +kernel
theorem dX7_why_52 : decode cX7_why 52 = .ok (.iload_n 1, 1) := by decide +kernel
theorem dX7_why_53 : decode cX7_why 53 = .ok (.iaload, 1) := by decide +kernel
theorem dX7_why_54 : decode cX7_why 54 = .ok (.iload_n 2, 1) := by decide +kernel
theorem dX7_why_55 : decode cX7_why 55 = .ok (.invokestatic 49, 3) := by decide +kernel
theorem dX7_why_58 : decode cX7_why 58 = .ok (.ifCond .eq 24, 3) := by decide +kernel
theorem dX7_why_61 : decode cX7_why 61 = .ok (.aload_n 0, 1) := by decide +kernel
theorem dX7_why_62 : decode cX7_why 62 = .ok (.iconst 1, 1) := by decide +kernel
theorem dX7_why_63 : decode cX7_why 63 = .ok (.iload_n 2, 1) := by decide +kernel
theorem dX7_why_64 : decode cX7_why 64 = .ok (.ishl, 1) := by decide +kernel
theorem dX7_why_65 : decode cX7_why 65 = .ok (.aload_n 0, 1) := by decide +kernel
theorem dX7_why_66 : decode cX7_why 66 = .ok (.getfield 19, 3) := by decide +kernel
theorem dX7_why_69 : decode cX7_why 69 = .ok (.iload_n 1, 1) := by decide +kernel
theorem dX7_why_70 : decode cX7_why 70 = .ok (.iaload, 1) := by decide +kernel
theorem dX7_why_71 : decode cX7_why 71 = .ok (.invokevirtual 112, 3) := by decide +kernel
theorem dX7_why_74 : decode cX7_why 74 = .ok (.ifCond .ne 8, 3) := by decide +kernel
theorem dX7_why_77 : decode cX7_why 77 = .ok (.bipush 11, 2) := by decide +kernel
theorem dX7_why_79 : decode cX7_why 79 = .ok (.iload_n 2, 1) := by decide +kernel
theorem dX7_why_80 : decode cX7_why 80 = .ok (.imul, 1) := by decide +kernel
theorem dX7_why_81 : decode cX7_why 81 = .ok (.ireturn, 1) := by decide +kernel
theorem dX7_why_82 : decode cX7_why 82 = .ok (.iinc 2 1, 3) := by decide +kernel
theorem dX7_why_85 : decode cX7_why 85 = .ok (.goto (-43), 3) := by decide +kernel
theorem dX7_why_88 : decode cX7_why 88 = .ok (.iconst 0, 1) := by decide +kernel
theorem dX7_why_89 : decode cX7_why 89 = .ok (.istore_n 2, 1) := by decide +kernel
theorem dX7_why_90 : decode cX7_why 90 = .ok (.iload_n 2, 1) := by decide +kernel
theorem dX7_why_91 : decode cX7_why 91 = .ok (.bipush 6, 2) := by decide +kernel
theorem dX7_why_93 : decode cX7_why 93 = .ok (.if_icmp .ge 78, 3) := by decide +kernel
theorem dX7_why_96 : decode cX7_why 96 = .ok (.iload_n 2, 1) := by decide +kernel
theorem dX7_why_97 : decode cX7_why 97 = .ok (.iconst 1, 1) := by decide +kernel
theorem dX7_why_98 : decode cX7_why 98 = .ok (.iadd, 1) := by decide +kernel
theorem dX7_why_99 : decode cX7_why 99 = .ok (.istore_n 3, 1) := by decide +kernel
theorem dX7_why_100 : decode cX7_why 100 = .ok (.iload_n 3, 1) := by decide +kernel
theorem dX7_why_101 : decode cX7_why 101 = .ok (.bipush 6, 2) := by decide +kernel
theorem dX7_why_103 : decode cX7_why 103 = .ok (.if_icmp .ge 62, 3) := by decide +kernel
theorem dX7_why_106 : decode cX7_why 106 = .ok (.aload_n 0, 1) := by decide +kernel
theorem dX7_why_107 : decode cX7_why 107 = .ok (.getfield 22, 3) := by decide +kernel
theorem dX7_why_110 : decode cX7_why 110 = .ok (.iload_n 1, 1) := by decide +kernel
theorem dX7_why_111 : decode cX7_why 111 = .ok (.iaload, 1) := by decide +kernel
theorem dX7_why_112 : decode cX7_why 112 = .ok (.iload_n 2, 1) := by decide +kernel
theorem dX7_why_113 : decode cX7_why 113 = .ok (.invokestatic 49, 3) := by decide +kernel
theorem dX7_why_116 : decode cX7_why 116 = .ok (.ifCond .eq 43, 3) := by decide +kernel
theorem dX7_why_119 : decode cX7_why 119 = .ok (.aload_n 0, 1) := by decide +kernel
theorem dX7_why_120 : decode cX7_why 120 = .ok (.getfield 22, 3) := by decide +kernel
theorem dX7_why_123 : decode cX7_why 123 = .ok (.iload_n 1, 1) := by decide +kernel
theorem dX7_why_124 : decode cX7_why 124 = .ok (.iaload, 1) := by decide +kernel
theorem dX7_why_125 : decode cX7_why 125 = .ok (.iload_n 3, 1) := by decide +kernel
theorem dX7_why_126 : decode cX7_why 126 = .ok (.invokestatic 49, 3) := by decide +kernel
theorem dX7_why_129 : decode cX7_why 129 = .ok (.ifCond .eq 30, 3) := by decide +kernel
theorem dX7_why_132 : decode cX7_why 132 = .ok (.aload_n 0, 1) := by decide +kernel
theorem dX7_why_133 : decode cX7_why 133 = .ok (.iconst 1, 1) := by decide +kernel
theorem dX7_why_134 : decode cX7_why 134 = .ok (.iload_n 2, 1) := by decide +kernel
theorem dX7_why_135 : decode cX7_why 135 = .ok (.ishl, 1) := by decide +kernel
theorem dX7_why_136 : decode cX7_why 136 = .ok (.iconst 1, 1) := by decide +kernel
theorem dX7_why_137 : decode cX7_why 137 = .ok (.iload_n 3, 1) := by decide +kernel
theorem dX7_why_138 : decode cX7_why 138 = .ok (.ishl, 1) := by decide +kernel
theorem dX7_why_139 : decode cX7_why 139 = .ok (.ior, 1) := by decide +kernel
theorem dX7_why_140 : decode cX7_why 140 = .ok (.aload_n 0, 1) := by decide +kernel
theorem dX7_why_141 : decode cX7_why 141 = .ok (.getfield 19, 3) := by decide +kernel
theorem dX7_why_144 : decode cX7_why 144 = .ok (.iload_n 1, 1) := by decide +kernel
theorem dX7_why_145 : decode cX7_why 145 = .ok (.iaload, 1) := by decide +kernel
theorem dX7_why_146 : decode cX7_why 146 = .ok (.invokevirtual 112, 3) := by decide +kernel
theorem dX7_why_149 : decode cX7_why 149 = .ok (.ifCond .ne 10, 3) := by decide +kernel
theorem dX7_why_152 : decode cX7_why 152 = .ok (.bipush 10, 2) := by decide +kernel
theorem dX7_why_154 : decode cX7_why 154 = .ok (.iload_n 2, 1) := by decide +kernel
theorem dX7_why_155 : decode cX7_why 155 = .ok (.imul, 1) := by decide +kernel
theorem dX7_why_156 : decode cX7_why 156 = .ok (.iload_n 3, 1) := by decide +kernel
theorem dX7_why_157 : decode cX7_why 157 = .ok (.iadd, 1) := by decide +kernel
theorem dX7_why_158 : decode cX7_why 158 = .ok (.ireturn, 1) := by decide +kernel
theorem dX7_why_159 : decode cX7_why 159 = .ok (.iinc 3 1, 3) := by decide +kernel
theorem dX7_why_162 : decode cX7_why 162 = .ok (.goto (-62), 3) := by decide +kernel
theorem dX7_why_165 : decode cX7_why 165 = .ok (.iinc 2 1, 3) := by decide +kernel
theorem dX7_why_168 : decode cX7_why 168 = .ok (.goto (-78), 3) := by decide +kernel
theorem dX7_why_171 : decode cX7_why 171 = .ok (.bipush (-6), 2) := by decide +kernel
theorem dX7_why_173 : decode cX7_why 173 = .ok (.ireturn, 1) := by decide +kernel
theorem dX7_common_0 : decode cX7_common 0 = .ok (.aload_n 0, 1) := by decide +kernel
theorem dX7_common_1 : decode cX7_common 1 = .ok (.iload_n 1, 1) := by decide +kernel
theorem dX7_common_2 : decode cX7_common 2 = .ok (.invokevirtual 88, 3) := by decide +kernel
theorem dX7_common_5 : decode cX7_common 5 = .ok (.ifCond .eq 23, 3) := by decide +kernel
theorem dX7_common_8 : decode cX7_common 8 = .ok (.iload_n 2, 1) := by decide +kernel
theorem dX7_common_9 : decode cX7_common 9 = .ok (.iconst 0, 1) := by decide +kernel
theorem dX7_common_10 : decode cX7_common 10 = .ok (.sipush 9990, 3) := by decide +kernel
theorem dX7_common_13 : decode cX7_common 13 = .ok (.invokestatic 45, 3) := by decide +kernel
theorem dX7_common_16 : decode cX7_common 16 = .ok (.ifCond .eq 12, 3) := by decide +kernel
theorem dX7_common_19 : decode cX7_common 19 = .ok (.iload_n 3, 1) := by decide +kernel
theorem dX7_common_20 : decode cX7_common 20 = .ok (.iconst 0, 1) := by decide +kernel
theorem dX7_common_21 : decode cX7_common 21 = .ok (.iconst 1, 1) := by decide +kernel
theorem dX7_common_22 : decode cX7_common 22 = .ok (.invokestatic 45, 3) := by decide +kernel
theorem dX7_common_25 : decode cX7_common 25 = .ok (.ifCond .ne 6, 3) := by decide +kernel
theorem dX7_common_28 : decode cX7_common 28 = .ok (.bipush (-2), 2) := by decide +kernel
theorem dX7_common_30 : decode cX7_common 30 = .ok (.ireturn, 1) := by decide +kernel
theorem dX7_common_31 : decode cX7_common 31 = .ok (.ldc 115, 2) := by decide +kernel
theorem dX7_common_33 : decode cX7_common 33 = .ok (.istore 4, 2) := by decide +kernel
theorem dX7_common_35 : decode cX7_common 35 = .ok (.bipush (-6), 2) := by decide +kernel
theorem dX7_common_37 : decode cX7_common 37 = .ok (.istore 5, 2) := by decide +kernel
theorem dX7_common_39 : decode cX7_common 39 = .ok (.iconst 0, 1) := by decide +kernel
theorem dX7_common_40 : decode cX7_common 40 = .ok (.istore 6, 2) := by decide +kernel
theorem dX7_common_42 : decode cX7_common 42 = .ok (.iload 6, 2) := by decide +kernel
theorem dX7_common_44 : decode cX7_common 44 = .ok (.bipush 7, 2) := by decide +kernel
theorem dX7_common_46 : decode cX7_common 46 = .ok (.if_icmp .ge 120, 3) := by decide +kernel
theorem dX7_common_49 : decode cX7_common 49 = .ok (.iconst 0, 1) := by decide +kernel
theorem dX7_common_50 : decode cX7_common 50 = .ok (.istore 7, 2) := by decide +kernel
theorem dX7_common_52 : decode cX7_common 52 = .ok (.iload 7, 2) := by decide +kernel
theorem dX7_common_54 : decode cX7_common 54 = .ok (.bipush 8, 2) := by decide +kernel
theorem dX7_common_56 : decode cX7_common 56 = .ok (.if_icmp .ge 104, 3) := by decide +kernel
theorem dX7_common_59 : decode cX7_common 59 = .ok (.iload_n 1, 1) := by decide +kernel
theorem dX7_common_60 : decode cX7_common 60 = .ok (.aload_n 0, 1) := by decide +kernel
theorem dX7_common_61 : decode cX7_common 61 = .ok (.aload_n 0, 1) := by decide +kernel
theorem dX7_common_62 : decode cX7_common 62 = .ok (.getfield 41, 3) := by decide +kernel
theorem dX7_common_65 : decode cX7_common 65 = .ok (.iload 7, 2) := by decide +kernel
theorem dX7_common_67 : decode cX7_common 67 = .ok (.iload_n 2, 1) := by decide +kernel
theorem dX7_common_68 : decode cX7_common 68 = .ok (.iload 6, 2) := by decide +kernel
theorem dX7_common_70 : decode cX7_common 70 = .ok (.iadd, 1) := by decide +kernel
theorem dX7_common_71 : decode cX7_common 71 = .ok (.invokevirtual 84, 3) := by decide +kernel
theorem dX7_common_74 : decode cX7_common 74 = .ok (.iconst (-1), 1) := by decide +kernel
theorem dX7_common_75 : decode cX7_common 75 = .ok (.ixor, 1) := by decide +kernel
theorem dX7_common_76 : decode cX7_common 76 = .ok (.iand, 1) := by decide +kernel
theorem dX7_common_77 : decode cX7_common 77 = .ok (.invokestatic 70, 3) := by decide +kernel
theorem dX7_common_80 : decode cX7_common 80 = .ok (.istore 8, 2) := by decide +kernel
theorem dX7_common_82 : decode cX7_common 82 = .ok (.aload_n 0, 1) := by decide +kernel
theorem dX7_common_83 : decode cX7_common 83 = .ok (.aload_n 0, 1) := by decide +kernel
theorem dX7_common_84 : decode cX7_common 84 = .ok (.getfield 41, 3) := by decide +kernel
theorem dX7_common_87 : decode cX7_common 87 = .ok (.iload 7, 2) := by decide +kernel
theorem dX7_common_89 : decode cX7_common 89 = .ok (.iload_n 2, 1) := by decide +kernel
theorem dX7_common_90 : decode cX7_common 90 = .ok (.iload 6, 2) := by decide +kernel
theorem dX7_common_92 : decode cX7_common 92 = .ok (.iadd, 1) := by decide +kernel
theorem dX7_common_93 : decode cX7_common 93 = .ok (.invokevirtual 84, 3) := by decide +kernel
theorem dX7_common_96 : decode cX7_common 96 = .ok (.ifCond .eq 7, 3) := by decide +kernel
theorem dX7_common_99 : decode cX7_common 99 = .ok (.iconst 1, 1) := by decide +kernel
theorem dX7_common_100 : decode cX7_common 100 = .ok (.goto 4, 3) := by decide +kernel
theorem dX7_common_103 : decode cX7_common 103 = .ok (.iconst 0, 1) := by decide +kernel
theorem dX7_common_104 : decode cX7_common 104 = .ok (.istore 9, 2) := by decide +kernel
theorem dX7_common_106 : decode cX7_common 106 = .ok (.iload 9, 2) := by decide +kernel
theorem dX7_common_108 : decode cX7_common 108 = .ok (.ifCond .eq 21, 3) := by decide +kernel
theorem dX7_common_111 : decode cX7_common 111 = .ok (.iload 8, 2) := by decide +kernel
theorem dX7_common_113 : decode cX7_common 113 = .ok (.iload 4, 2) := by decide +kernel
theorem dX7_common_115 : decode cX7_common 115 = .ok (.if_icmp .ge 14, 3) := by decide +kernel
theorem dX7_common_118 : decode cX7_common 118 = .ok (.bipush 100, 2) := by decide +kernel
theorem dX7_common_120 : decode cX7_common 120 = .ok (.iload 6, 2) := by decide +kernel
theorem dX7_common_122 : decode cX7_common 122 = .ok (.imul, 1) := by decide +kernel
theorem dX7_common_123 : decode cX7_common 123 = .ok (.iload 7, 2) := by decide +kernel
theorem dX7_common_125 : decode cX7_common 125 = .ok (.iadd, 1) := by decide +kernel
theorem dX7_common_126 : decode cX7_common 126 = .ok (.goto 5, 3) := by decide +kernel
theorem dX7_common_129 : decode cX7_common 129 = .ok (.iload 5, 2) := by decide +kernel
theorem dX7_common_131 : decode cX7_common 131 = .ok (.istore 5, 2) := by decide +kernel
theorem dX7_common_133 : decode cX7_common 133 = .ok (.iload 9, 2) := by decide +kernel
theorem dX7_common_135 : decode cX7_common 135 = .ok (.ifCond .eq 15, 3) := by decide +kernel
theorem dX7_common_138 : decode cX7_common 138 = .ok (.iload 8, 2) := by decide +kernel
theorem dX7_common_140 : decode cX7_common 140 = .ok (.iload 4, 2) := by decide +kernel
theorem dX7_common_142 : decode cX7_common 142 = .ok (.if_icmp .ge 8, 3) := by decide +kernel
theorem dX7_common_145 : decode cX7_common 145 = .ok (.iload 8, 2) := by decide +kernel
theorem dX7_common_147 : decode cX7_common 147 = .ok (.goto 5, 3) := by decide +kernel
theorem dX7_common_150 : decode cX7_common 150 = .ok (.iload 4, 2) := by decide +kernel
theorem dX7_common_152 : decode cX7_common 152 = .ok (.istore 4, 2) := by decide +kernel
theorem dX7_common_154 : decode cX7_common 154 = .ok (.iinc 7 1, 3) := by decide +kernel
theorem dX7_common_157 : decode cX7_common 157 = .ok (.goto (-105), 3) := by decide +kernel
theorem dX7_common_160 : decode cX7_common 160 = .ok (.iinc 6 1, 3) := by decide +kernel
theorem dX7_common_163 : decode cX7_common 163 = .ok (.goto (-121), 3) := by decide +kernel
theorem dX7_common_166 : decode cX7_common 166 = .ok (.iload_n 3, 1) := by decide +kernel
theorem dX7_common_167 : decode cX7_common 167 = .ok (.ifCond .ne 8, 3) := by decide +kernel
theorem dX7_common_170 : decode cX7_common 170 = .ok (.iload 4, 2) := by decide +kernel
theorem dX7_common_172 : decode cX7_common 172 = .ok (.goto 5, 3) := by decide +kernel
theorem dX7_common_175 : decode cX7_common 175 = .ok (.iload 5, 2) := by decide +kernel
theorem dX7_common_177 : decode cX7_common 177 = .ok (.ireturn, 1) := by decide +kernel
theorem dX7_costOf_0 : decode cX7_costOf 0 = .ok (.bipush 28, 2) := by decide +kernel
theorem dX7_costOf_2 : decode cX7_costOf 2 = .ok (.aload_n 0, 1) := by decide +kernel
theorem dX7_costOf_3 : decode cX7_costOf 3 = .ok (.iload_n 1, 1) := by decide +kernel
theorem dX7_costOf_4 : decode cX7_costOf 4 = .ok (.iload_n 2, 1) := by decide +kernel
theorem dX7_costOf_5 : decode cX7_costOf 5 = .ok (.bipush 28, 2) := by decide +kernel
theorem dX7_costOf_7 : decode cX7_costOf 7 = .ok (.invokevirtual 94, 3) := by decide +kernel
theorem dX7_costOf_10 : decode cX7_costOf 10 = .ok (.isub, 1) := by decide +kernel
theorem dX7_costOf_11 : decode cX7_costOf 11 = .ok (.ireturn, 1) := by decide +kernel
theorem dX7_wedding_0 : decode cX7_wedding 0 = .ok (.aload_n 0, 1) := by decide +kernel
theorem dX7_wedding_1 : decode cX7_wedding 1 = .ok (.iload_n 1, 1) := by decide +kernel
theorem dX7_wedding_2 : decode cX7_wedding 2 = .ok (.invokevirtual 67, 3) := by decide +kernel
theorem dX7_wedding_5 : decode cX7_wedding 5 = .ok (.ifCond .eq 16, 3) := by decide +kernel
theorem dX7_wedding_8 : decode cX7_wedding 8 = .ok (.aload_n 0, 1) := by decide +kernel
theorem dX7_wedding_9 : decode cX7_wedding 9 = .ok (.iload_n 2, 1) := by decide +kernel
theorem dX7_wedding_10 : decode cX7_wedding 10 = .ok (.invokevirtual 67, 3) := by decide +kernel
theorem dX7_wedding_13 : decode cX7_wedding 13 = .ok (.ifCond .eq 8, 3) := by decide +kernel
theorem dX7_wedding_16 : decode cX7_wedding 16 = .ok (.iload_n 1, 1) := by decide +kernel
theorem dX7_wedding_17 : decode cX7_wedding 17 = .ok (.iload_n 2, 1) := by decide +kernel
theorem dX7_wedding_18 : decode cX7_wedding 18 = .ok (.if_icmp .ne 5, 3) := by decide +kernel
theorem dX7_wedding_21 : decode cX7_wedding 21 = .ok (.iconst (-1), 1) := by decide +kernel
theorem dX7_wedding_22 : decode cX7_wedding 22 = .ok (.ireturn, 1) := by decide +kernel
theorem dX7_wedding_23 : decode cX7_wedding 23 = .ok (.iload_n 3, 1) := by decide +kernel
theorem dX7_wedding_24 : decode cX7_wedding 24 = .ok (.iconst 0, 1) := by decide +kernel
theorem dX7_wedding_25 : decode cX7_wedding 25 = .ok (.iconst 1, 1) := by decide +kernel
theorem dX7_wedding_26 : decode cX7_wedding 26 = .ok (.invokestatic 45, 3) := by decide +kernel
theorem dX7_wedding_29 : decode cX7_wedding 29 = .ok (.ifCond .ne 6, 3) := by decide +kernel
theorem dX7_wedding_32 : decode cX7_wedding 32 = .ok (.bipush (-2), 2) := by decide +kernel
theorem dX7_wedding_34 : decode cX7_wedding 34 = .ok (.ireturn, 1) := by decide +kernel
theorem dX7_wedding_35 : decode cX7_wedding 35 = .ok (.aload_n 0, 1) := by decide +kernel
theorem dX7_wedding_36 : decode cX7_wedding 36 = .ok (.iload_n 1, 1) := by decide +kernel
theorem dX7_wedding_37 : decode cX7_wedding 37 = .ok (.iload_n 2, 1) := by decide +kernel
theorem dX7_wedding_38 : decode cX7_wedding 38 = .ok (.bipush 28, 2) := by decide +kernel
theorem dX7_wedding_40 : decode cX7_wedding 40 = .ok (.invokevirtual 94, 3) := by decide +kernel
theorem dX7_wedding_43 : decode cX7_wedding 43 = .ok (.iconst 4, 1) := by decide +kernel
theorem dX7_wedding_44 : decode cX7_wedding 44 = .ok (.if_icmp .lt 7, 3) := by decide +kernel
theorem dX7_wedding_47 : decode cX7_wedding 47 = .ok (.iconst 0, 1) := by decide +kernel
theorem dX7_wedding_48 : decode cX7_wedding 48 = .ok (.goto 5, 3) := by decide +kernel
theorem dX7_wedding_51 : decode cX7_wedding 51 = .ok (.ldc 115, 2) := by decide +kernel
theorem dX7_wedding_53 : decode cX7_wedding 53 = .ok (.istore 4, 2) := by decide +kernel
theorem dX7_wedding_55 : decode cX7_wedding 55 = .ok (.iload 4, 2) := by decide +kernel
theorem dX7_wedding_57 : decode cX7_wedding 57 = .ok (.ifCond .ne 7, 3) := by decide +kernel
theorem dX7_wedding_60 : decode cX7_wedding 60 = .ok (.iconst 0, 1) := by decide +kernel
theorem dX7_wedding_61 : decode cX7_wedding 61 = .ok (.goto 5, 3) := by decide +kernel
theorem dX7_wedding_64 : decode cX7_wedding 64 = .ok (.bipush (-6), 2) := by decide +kernel
theorem dX7_wedding_66 : decode cX7_wedding 66 = .ok (.istore 5, 2) := by decide +kernel
theorem dX7_wedding_68 : decode cX7_wedding 68 = .ok (.aload_n 0, 1) := by decide +kernel
theorem dX7_wedding_69 : decode cX7_wedding 69 = .ok (.iload_n 1, 1) := by decide +kernel
theorem dX7_wedding_70 : decode cX7_wedding 70 = .ok (.iload_n 2, 1) := by decide +kernel
theorem dX7_wedding_71 : decode cX7_wedding 71 = .ok (.invokevirtual 116, 3) := by decide +kernel
theorem dX7_wedding_74 : decode cX7_wedding 74 = .ok (.istore 6, 2) := by decide +kernel
theorem dX7_wedding_76 : decode cX7_wedding 76 = .ok (.iload 6, 2) := by decide +kernel
theorem dX7_wedding_78 : decode cX7_wedding 78 = .ok (.iload 4, 2) := by decide +kernel
theorem dX7_wedding_80 : decode cX7_wedding 80 = .ok (.if_icmp .ge 7, 3) := by decide +kernel
theorem dX7_wedding_83 : decode cX7_wedding 83 = .ok (.iconst 1, 1) := by decide +kernel
theorem dX7_wedding_84 : decode cX7_wedding 84 = .ok (.goto 5, 3) := by decide +kernel
theorem dX7_wedding_87 : decode cX7_wedding 87 = .ok (.iload 5, 2) := by decide +kernel
theorem dX7_wedding_89 : decode cX7_wedding 89 = .ok (.istore 5, 2) := by decide +kernel
theorem dX7_wedding_91 : decode cX7_wedding 91 = .ok (.iload 6, 2) := by decide +kernel
theorem dX7_wedding_93 : decode cX7_wedding 93 = .ok (.iload 4, 2) := by decide +kernel
theorem dX7_wedding_95 : decode cX7_wedding 95 = .ok (.if_icmp .ge 8, 3) := by decide +kernel
theorem dX7_wedding_98 : decode cX7_wedding 98 = .ok (.iload 6, 2) := by decide +kernel
theorem dX7_wedding_100 : decode cX7_wedding 100 = .ok (.goto 5, 3) := by decide +kernel
theorem dX7_wedding_103 : decode cX7_wedding 103 = .ok (.iload 4, 2) := by decide +kernel
theorem dX7_wedding_105 : decode cX7_wedding 105 = .ok (.istore 4, 2) := by decide +kernel
theorem dX7_wedding_107 : decode cX7_wedding 107 = .ok (.aload_n 0, 1) := by decide +kernel
theorem dX7_wedding_108 : decode cX7_wedding 108 = .ok (.iload_n 2, 1) := by decide +kernel
theorem dX7_wedding_109 : decode cX7_wedding 109 = .ok (.iload_n 1, 1) := by decide +kernel
theorem dX7_wedding_110 : decode cX7_wedding 110 = .ok (.invokevirtual 116, 3) := by decide +kernel
theorem dX7_wedding_113 : decode cX7_wedding 113 = .ok (.istore 7, 2) := by decide +kernel
theorem dX7_wedding_115 : decode cX7_wedding 115 = .ok (.iload 7, 2) := by decide +kernel
theorem dX7_wedding_117 : decode cX7_wedding 117 = .ok (.iload 4, 2) := by decide +kernel
theorem dX7_wedding_119 : decode cX7_wedding 119 = .ok (.if_icmp .ge 7, 3) := by decide +kernel
theorem dX7_wedding_122 : decode cX7_wedding 122 = .ok (.iconst 2, 1) := by decide +kernel
theorem dX7_wedding_123 : decode cX7_wedding 123 = .ok (.goto 5, 3) := by decide +kernel
theorem dX7_wedding_126 : decode cX7_wedding 126 = .ok (.iload 5, 2) := by decide +kernel
theorem dX7_wedding_128 : decode cX7_wedding 128 = .ok (.istore 5, 2) := by decide +kernel
theorem dX7_wedding_130 : decode cX7_wedding 130 = .ok (.iload 7, 2) := by decide +kernel
theorem dX7_wedding_132 : decode cX7_wedding 132 = .ok (.iload 4, 2) := by decide +kernel
theorem dX7_wedding_134 : decode cX7_wedding 134 = .ok (.if_icmp .ge 8, 3) := by decide +kernel
theorem dX7_wedding_137 : decode cX7_wedding 137 = .ok (.iload 7, 2) := by decide +kernel
theorem dX7_wedding_139 : decode cX7_wedding 139 = .ok (.goto 5, 3) := by decide +kernel
theorem dX7_wedding_142 : decode cX7_wedding 142 = .ok (.iload 4, 2) := by decide +kernel
theorem dX7_wedding_144 : decode cX7_wedding 144 = .ok (.istore 4, 2) := by decide +kernel
theorem dX7_wedding_146 : decode cX7_wedding 146 = .ok (.iconst 0, 1) := by decide +kernel
theorem dX7_wedding_147 : decode cX7_wedding 147 = .ok (.istore 8, 2) := by decide +kernel
theorem dX7_wedding_149 : decode cX7_wedding 149 = .ok (.iload 8, 2) := by decide +kernel
theorem dX7_wedding_151 : decode cX7_wedding 151 = .ok (.bipush 6, 2) := by decide +kernel
theorem dX7_wedding_153 : decode cX7_wedding 153 = .ok (.if_icmp .ge 85, 3) := by decide +kernel
theorem dX7_wedding_156 : decode cX7_wedding 156 = .ok (.aload_n 0, 1) := by decide +kernel
theorem dX7_wedding_157 : decode cX7_wedding 157 = .ok (.getfield 41, 3) := by decide +kernel
theorem dX7_wedding_160 : decode cX7_wedding 160 = .ok (.iload 8, 2) := by decide +kernel
theorem dX7_wedding_162 : decode cX7_wedding 162 = .ok (.invokestatic 49, 3) := by decide +kernel
theorem dX7_wedding_165 : decode cX7_wedding 165 = .ok (.ifCond .eq 67, 3) := by decide +kernel
theorem dX7_wedding_168 : decode cX7_wedding 168 = .ok (.iload 8, 2) := by decide +kernel
theorem dX7_wedding_170 : decode cX7_wedding 170 = .ok (.iload_n 1, 1) := by decide +kernel
theorem dX7_wedding_171 : decode cX7_wedding 171 = .ok (.if_icmp .eq 61, 3) := by decide +kernel
theorem dX7_wedding_174 : decode cX7_wedding 174 = .ok (.iload 8, 2) := by decide +kernel
theorem dX7_wedding_176 : decode cX7_wedding 176 = .ok (.iload_n 2, 1) := by decide +kernel
theorem dX7_wedding_177 : decode cX7_wedding 177 = .ok (.if_icmp .eq 55, 3) := by decide +kernel
theorem dX7_wedding_180 : decode cX7_wedding 180 = .ok (.aload_n 0, 1) := by decide +kernel
theorem dX7_wedding_181 : decode cX7_wedding 181 = .ok (.iload_n 1, 1) := by decide +kernel
theorem dX7_wedding_182 : decode cX7_wedding 182 = .ok (.iload 8, 2) := by decide +kernel
theorem dX7_wedding_184 : decode cX7_wedding 184 = .ok (.invokevirtual 116, 3) := by decide +kernel
theorem dX7_wedding_187 : decode cX7_wedding 187 = .ok (.aload_n 0, 1) := by decide +kernel
theorem dX7_wedding_188 : decode cX7_wedding 188 = .ok (.iload_n 2, 1) := by decide +kernel
theorem dX7_wedding_189 : decode cX7_wedding 189 = .ok (.iload 8, 2) := by decide +kernel
theorem dX7_wedding_191 : decode cX7_wedding 191 = .ok (.invokevirtual 116, 3) := by decide +kernel
theorem dX7_wedding_194 : decode cX7_wedding 194 = .ok (.iadd, 1) := by decide +kernel
theorem dX7_wedding_195 : decode cX7_wedding 195 = .ok (.istore 9, 2) := by decide +kernel
theorem dX7_wedding_197 : decode cX7_wedding 197 = .ok (.iload 9, 2) := by decide +kernel
theorem dX7_wedding_199 : decode cX7_wedding 199 = .ok (.iload 4, 2) := by decide +kernel
theorem dX7_wedding_201 : decode cX7_wedding 201 = .ok (.if_icmp .ge 11, 3) := by decide +kernel
theorem dX7_wedding_204 : decode cX7_wedding 204 = .ok (.bipush 10, 2) := by decide +kernel
theorem dX7_wedding_206 : decode cX7_wedding 206 = .ok (.iload 8, 2) := by decide +kernel
theorem dX7_wedding_208 : decode cX7_wedding 208 = .ok (.iadd, 1) := by decide +kernel
theorem dX7_wedding_209 : decode cX7_wedding 209 = .ok (.goto 5, 3) := by decide +kernel
theorem dX7_wedding_212 : decode cX7_wedding 212 = .ok (.iload 5, 2) := by decide +kernel
theorem dX7_wedding_214 : decode cX7_wedding 214 = .ok (.istore 5, 2) := by decide +kernel
theorem dX7_wedding_216 : decode cX7_wedding 216 = .ok (.iload 9, 2) := by decide +kernel
theorem dX7_wedding_218 : decode cX7_wedding 218 = .ok (.iload 4, 2) := by decide +kernel
theorem dX7_wedding_220 : decode cX7_wedding 220 = .ok (.if_icmp .ge 8, 3) := by decide +kernel
theorem dX7_wedding_223 : decode cX7_wedding 223 = .ok (.iload 9, 2) := by decide +kernel
theorem dX7_wedding_225 : decode cX7_wedding 225 = .ok (.goto 5, 3) := by decide +kernel
theorem dX7_wedding_228 : decode cX7_wedding 228 = .ok (.iload 4, 2) := by decide +kernel
theorem dX7_wedding_230 : decode cX7_wedding 230 = .ok (.istore 4, 2) := by decide +kernel
theorem dX7_wedding_232 : decode cX7_wedding 232 = .ok (.iinc 8 1, 3) := by decide +kernel
theorem dX7_wedding_235 : decode cX7_wedding 235 = .ok (.goto (-86), 3) := by decide +kernel
theorem dX7_wedding_238 : decode cX7_wedding 238 = .ok (.iload_n 3, 1) := by decide +kernel
theorem dX7_wedding_239 : decode cX7_wedding 239 = .ok (.ifCond .ne 8, 3) := by decide +kernel
theorem dX7_wedding_242 : decode cX7_wedding 242 = .ok (.iload 4, 2) := by decide +kernel
theorem dX7_wedding_244 : decode cX7_wedding 244 = .ok (.goto 5, 3) := by decide +kernel
theorem dX7_wedding_247 : decode cX7_wedding 247 = .ok (.iload 5, 2) := by decide +kernel
theorem dX7_wedding_249 : decode cX7_wedding 249 = .ok (.ireturn, 1) := by decide +kernel
theorem dX7_turned_0 : decode cX7_turned 0 = .ok (.iload_n 1, 1) := by decide +kernel
theorem dX7_turned_1 : decode cX7_turned 1 = .ok (.bipush 7, 2) := by decide +kernel
theorem dX7_turned_3 : decode cX7_turned 3 = .ok (.irem, 1) := by decide +kernel
theorem dX7_turned_4 : decode cX7_turned 4 = .ok (.bipush 7, 2) := by decide +kernel
theorem dX7_turned_6 : decode cX7_turned 6 = .ok (.iadd, 1) := by decide +kernel
theorem dX7_turned_7 : decode cX7_turned 7 = .ok (.bipush 7, 2) := by decide +kernel
theorem dX7_turned_9 : decode cX7_turned 9 = .ok (.irem, 1) := by decide +kernel
theorem dX7_turned_10 : decode cX7_turned 10 = .ok (.istore_n 2, 1) := by decide +kernel
theorem dX7_turned_11 : decode cX7_turned 11 = .ok (.iload_n 0, 1) := by decide +kernel
theorem dX7_turned_12 : decode cX7_turned 12 = .ok (.bipush 7, 2) := by decide +kernel
theorem dX7_turned_14 : decode cX7_turned 14 = .ok (.irem, 1) := by decide +kernel
theorem dX7_turned_15 : decode cX7_turned 15 = .ok (.istore_n 3, 1) := by decide +kernel
theorem dX7_turned_16 : decode cX7_turned 16 = .ok (.iload_n 0, 1) := by decide +kernel
theorem dX7_turned_17 : decode cX7_turned 17 = .ok (.bipush 7, 2) := by decide +kernel
theorem dX7_turned_19 : decode cX7_turned 19 = .ok (.if_icmp .ge 12, 3) := by decide +kernel
theorem dX7_turned_22 : decode cX7_turned 22 = .ok (.iload_n 3, 1) := by decide +kernel
theorem dX7_turned_23 : decode cX7_turned 23 = .ok (.iload_n 2, 1) := by decide +kernel
theorem dX7_turned_24 : decode cX7_turned 24 = .ok (.iadd, 1) := by decide +kernel
theorem dX7_turned_25 : decode cX7_turned 25 = .ok (.bipush 7, 2) := by decide +kernel
theorem dX7_turned_27 : decode cX7_turned 27 = .ok (.irem, 1) := by decide +kernel
theorem dX7_turned_28 : decode cX7_turned 28 = .ok (.goto 12, 3) := by decide +kernel
theorem dX7_turned_31 : decode cX7_turned 31 = .ok (.iload_n 3, 1) := by decide +kernel
theorem dX7_turned_32 : decode cX7_turned 32 = .ok (.bipush 7, 2) := by decide +kernel
theorem dX7_turned_34 : decode cX7_turned 34 = .ok (.iadd, 1) := by decide +kernel
theorem dX7_turned_35 : decode cX7_turned 35 = .ok (.iload_n 2, 1) := by decide +kernel
theorem dX7_turned_36 : decode cX7_turned 36 = .ok (.isub, 1) := by decide +kernel
theorem dX7_turned_37 : decode cX7_turned 37 = .ok (.bipush 7, 2) := by decide +kernel
theorem dX7_turned_39 : decode cX7_turned 39 = .ok (.irem, 1) := by decide +kernel
theorem dX7_turned_40 : decode cX7_turned 40 = .ok (.ireturn, 1) := by decide +kernel
theorem dX7_best_0 : decode cX7_best 0 = .ok (.iload_n 1, 1) := by decide +kernel
theorem dX7_best_1 : decode cX7_best 1 = .ok (.iconst 0, 1) := by decide +kernel
theorem dX7_best_2 : decode cX7_best 2 = .ok (.bipush 99, 2) := by decide +kernel
theorem dX7_best_4 : decode cX7_best 4 = .ok (.invokestatic 45, 3) := by decide +kernel
theorem dX7_best_7 : decode cX7_best 7 = .ok (.ifCond .eq 12, 3) := by decide +kernel
theorem dX7_best_10 : decode cX7_best 10 = .ok (.iload_n 2, 1) := by decide +kernel
theorem dX7_best_11 : decode cX7_best 11 = .ok (.iconst 0, 1) := by decide +kernel
theorem dX7_best_12 : decode cX7_best 12 = .ok (.iconst 1, 1) := by decide +kernel
theorem dX7_best_13 : decode cX7_best 13 = .ok (.invokestatic 45, 3) := by decide +kernel
theorem dX7_best_16 : decode cX7_best 16 = .ok (.ifCond .ne 6, 3) := by decide +kernel
theorem dX7_best_19 : decode cX7_best 19 = .ok (.bipush (-2), 2) := by decide +kernel
theorem dX7_best_21 : decode cX7_best 21 = .ok (.ireturn, 1) := by decide +kernel
theorem dX7_best_22 : decode cX7_best 22 = .ok (.iconst (-1), 1) := by decide +kernel
theorem dX7_best_23 : decode cX7_best 23 = .ok (.istore_n 3, 1) := by decide +kernel
theorem dX7_best_24 : decode cX7_best 24 = .ok (.bipush (-6), 2) := by decide +kernel
theorem dX7_best_26 : decode cX7_best 26 = .ok (.istore 4, 2) := by decide +kernel
theorem dX7_best_28 : decode cX7_best 28 = .ok (.iconst 0, 1) := by decide +kernel
theorem dX7_best_29 : decode cX7_best 29 = .ok (.istore 5, 2) := by decide +kernel
theorem dX7_best_31 : decode cX7_best 31 = .ok (.iload 5, 2) := by decide +kernel
theorem dX7_best_33 : decode cX7_best 33 = .ok (.bipush 14, 2) := by decide +kernel
theorem dX7_best_35 : decode cX7_best 35 = .ok (.if_icmp .ge 158, 3) := by decide +kernel
theorem dX7_best_38 : decode cX7_best 38 = .ok (.bipush 14, 2) := by decide +kernel
theorem dX7_best_40 : decode cX7_best 40 = .ok (.istore 6, 2) := by decide +kernel
theorem dX7_best_42 : decode cX7_best 42 = .ok (.iconst 0, 1) := by decide +kernel
theorem dX7_best_43 : decode cX7_best 43 = .ok (.istore 7, 2) := by decide +kernel
theorem dX7_best_45 : decode cX7_best 45 = .ok (.iload 7, 2) := by decide +kernel
theorem dX7_best_47 : decode cX7_best 47 = .ok (.bipush 6, 2) := by decide +kernel
theorem dX7_best_49 : decode cX7_best 49 = .ok (.if_icmp .ge 98, 3) := by decide +kernel
theorem dX7_best_52 : decode cX7_best 52 = .ok (.iconst 0, 1) := by decide +kernel
theorem dX7_best_53 : decode cX7_best 53 = .ok (.istore 8, 2) := by decide +kernel
theorem dX7_best_55 : decode cX7_best 55 = .ok (.iconst 0, 1) := by decide +kernel
theorem dX7_best_56 : decode cX7_best 56 = .ok (.istore 9, 2) := by decide +kernel
theorem dX7_best_58 : decode cX7_best 58 = .ok (.iload 9, 2) := by decide +kernel
theorem dX7_best_60 : decode cX7_best 60 = .ok (.bipush 14, 2) := by decide +kernel
theorem dX7_best_62 : decode cX7_best 62 = .ok (.if_icmp .ge 51, 3) := by decide +kernel
theorem dX7_best_65 : decode cX7_best 65 = .ok (.aload_n 0, 1) := by decide +kernel
theorem dX7_best_66 : decode cX7_best 66 = .ok (.getfield 41, 3) := by decide +kernel
theorem dX7_best_69 : decode cX7_best 69 = .ok (.iload 7, 2) := by decide +kernel
theorem dX7_best_71 : decode cX7_best 71 = .ok (.invokestatic 49, 3) := by decide +kernel
theorem dX7_best_74 : decode cX7_best 74 = .ok (.ifCond .eq 39, 3) := by decide +kernel
theorem dX7_best_77 : decode cX7_best 77 = .ok (.iload 8, 2) := by decide +kernel
theorem dX7_best_79 : decode cX7_best 79 = .ok (.aload_n 0, 1) := by decide +kernel
theorem dX7_best_80 : decode cX7_best 80 = .ok (.iload 7, 2) := by decide +kernel
theorem dX7_best_82 : decode cX7_best 82 = .ok (.iload_n 1, 1) := by decide +kernel
theorem dX7_best_83 : decode cX7_best 83 = .ok (.iload 9, 2) := by decide +kernel
theorem dX7_best_85 : decode cX7_best 85 = .ok (.iadd, 1) := by decide +kernel
theorem dX7_best_86 : decode cX7_best 86 = .ok (.invokevirtual 80, 3) := by decide +kernel
theorem dX7_best_89 : decode cX7_best 89 = .ok (.iload 5, 2) := by decide +kernel
theorem dX7_best_91 : decode cX7_best 91 = .ok (.iload 9, 2) := by decide +kernel
theorem dX7_best_93 : decode cX7_best 93 = .ok (.invokestatic 119, 3) := by decide +kernel
theorem dX7_best_96 : decode cX7_best 96 = .ok (.if_icmp .ne 7, 3) := by decide +kernel
theorem dX7_best_99 : decode cX7_best 99 = .ok (.iconst 1, 1) := by decide +kernel
theorem dX7_best_100 : decode cX7_best 100 = .ok (.goto 4, 3) := by decide +kernel
theorem dX7_best_103 : decode cX7_best 103 = .ok (.iconst 0, 1) := by decide +kernel
theorem dX7_best_104 : decode cX7_best 104 = .ok (.iadd, 1) := by decide +kernel
theorem dX7_best_105 : decode cX7_best 105 = .ok (.istore 8, 2) := by decide +kernel
theorem dX7_best_107 : decode cX7_best 107 = .ok (.iinc 9 1, 3) := by decide +kernel
theorem dX7_best_110 : decode cX7_best 110 = .ok (.goto (-52), 3) := by decide +kernel
theorem dX7_best_113 : decode cX7_best 113 = .ok (.aload_n 0, 1) := by decide +kernel
theorem dX7_best_114 : decode cX7_best 114 = .ok (.getfield 41, 3) := by decide +kernel
theorem dX7_best_117 : decode cX7_best 117 = .ok (.iload 7, 2) := by decide +kernel
theorem dX7_best_119 : decode cX7_best 119 = .ok (.invokestatic 49, 3) := by decide +kernel
theorem dX7_best_122 : decode cX7_best 122 = .ok (.ifCond .eq 15, 3) := by decide +kernel
theorem dX7_best_125 : decode cX7_best 125 = .ok (.iload 8, 2) := by decide +kernel
theorem dX7_best_127 : decode cX7_best 127 = .ok (.iload 6, 2) := by decide +kernel
theorem dX7_best_129 : decode cX7_best 129 = .ok (.if_icmp .ge 8, 3) := by decide +kernel
theorem dX7_best_132 : decode cX7_best 132 = .ok (.iload 8, 2) := by decide +kernel
theorem dX7_best_134 : decode cX7_best 134 = .ok (.goto 5, 3) := by decide +kernel
theorem dX7_best_137 : decode cX7_best 137 = .ok (.iload 6, 2) := by decide +kernel
theorem dX7_best_139 : decode cX7_best 139 = .ok (.istore 6, 2) := by decide +kernel
theorem dX7_best_141 : decode cX7_best 141 = .ok (.iinc 7 1, 3) := by decide +kernel
theorem dX7_best_144 : decode cX7_best 144 = .ok (.goto (-99), 3) := by decide +kernel
theorem dX7_best_147 : decode cX7_best 147 = .ok (.iload 6, 2) := by decide +kernel
theorem dX7_best_149 : decode cX7_best 149 = .ok (.iload_n 3, 1) := by decide +kernel
theorem dX7_best_150 : decode cX7_best 150 = .ok (.if_icmp .le 20, 3) := by decide +kernel
theorem dX7_best_153 : decode cX7_best 153 = .ok (.bipush 10, 2) := by decide +kernel
theorem dX7_best_155 : decode cX7_best 155 = .ok (.iload 5, 2) := by decide +kernel
end
section
theorem dX7_best_157 : decode cX7_best 157 = .ok (.bipush 7, 2) := by decide +kernel
theorem dX7_best_159 : decode cX7_best 159 = .ok (.idiv, 1) := by decide +kernel
theorem dX7_best_160 : decode cX7_best 160 = .ok (.imul, 1) := by decide +kernel
theorem dX7_best_161 : decode cX7_best 161 = .ok (.iload 5, 2) := by decide +kernel
theorem dX7_best_163 : decode cX7_best 163 = .ok (.bipush 7, 2) := by decide +kernel
theorem dX7_best_165 : decode cX7_best 165 = .ok (.irem, 1) := by decide +kernel
theorem dX7_best_166 : decode cX7_best 166 = .ok (.iadd, 1) := by decide +kernel
theorem dX7_best_167 : decode cX7_best 167 = .ok (.goto 5, 3) := by decide +kernel
theorem dX7_best_170 : decode cX7_best 170 = .ok (.iload 4, 2) := by decide +kernel
theorem dX7_best_172 : decode cX7_best 172 = .ok (.istore 4, 2) := by decide +kernel
theorem dX7_best_174 : decode cX7_best 174 = .ok (.iload 6, 2) := by decide +kernel
theorem dX7_best_176 : decode cX7_best 176 = .ok (.iload_n 3, 1) := by decide +kernel
theorem dX7_best_177 : decode cX7_best 177 = .ok (.if_icmp .le 8, 3) := by decide +kernel
theorem dX7_best_180 : decode cX7_best 180 = .ok (.iload 6, 2) := by decide +kernel
theorem dX7_best_182 : decode cX7_best 182 = .ok (.goto 4, 3) := by decide +kernel
theorem dX7_best_185 : decode cX7_best 185 = .ok (.iload_n 3, 1) := by decide +kernel
theorem dX7_best_186 : decode cX7_best 186 = .ok (.istore_n 3, 1) := by decide +kernel
theorem dX7_best_187 : decode cX7_best 187 = .ok (.iinc 5 1, 3) := by decide +kernel
theorem dX7_best_190 : decode cX7_best 190 = .ok (.goto (-159), 3) := by decide +kernel
theorem dX7_best_193 : decode cX7_best 193 = .ok (.iload_n 2, 1) := by decide +kernel
theorem dX7_best_194 : decode cX7_best 194 = .ok (.ifCond .ne 7, 3) := by decide +kernel
theorem dX7_best_197 : decode cX7_best 197 = .ok (.iload_n 3, 1) := by decide +kernel
theorem dX7_best_198 : decode cX7_best 198 = .ok (.goto 5, 3) := by decide +kernel
theorem dX7_best_201 : decode cX7_best 201 = .ok (.iload 4, 2) := by decide +kernel
theorem dX7_best_203 : decode cX7_best 203 = .ok (.ireturn, 1) := by decide +kernel
theorem dX7_feastOn_0 : decode cX7_feastOn 0 = .ok (.bipush (-6), 2) := by decide +kernel
theorem dX7_feastOn_2 : decode cX7_feastOn 2 = .ok (.istore_n 2, 1) := by decide +kernel
theorem dX7_feastOn_3 : decode cX7_feastOn 3 = .ok (.iconst 0, 1) := by decide +kernel
theorem dX7_feastOn_4 : decode cX7_feastOn 4 = .ok (.istore_n 3, 1) := by decide +kernel
theorem dX7_feastOn_5 : decode cX7_feastOn 5 = .ok (.iconst 0, 1) := by decide +kernel
theorem dX7_feastOn_6 : decode cX7_feastOn 6 = .ok (.istore 4, 2) := by decide +kernel
theorem dX7_feastOn_8 : decode cX7_feastOn 8 = .ok (.iload 4, 2) := by decide +kernel
theorem dX7_feastOn_10 : decode cX7_feastOn 10 = .ok (.bipush 8, 2) := by decide +kernel
theorem dX7_feastOn_12 : decode cX7_feastOn 12 = .ok (.if_icmp .ge 51, 3) := by decide +kernel
theorem dX7_feastOn_15 : decode cX7_feastOn 15 = .ok (.aload_n 0, 1) := by decide +kernel
theorem dX7_feastOn_16 : decode cX7_feastOn 16 = .ok (.aload_n 0, 1) := by decide +kernel
theorem dX7_feastOn_17 : decode cX7_feastOn 17 = .ok (.getfield 41, 3) := by decide +kernel
theorem dX7_feastOn_20 : decode cX7_feastOn 20 = .ok (.iload 4, 2) := by decide +kernel
theorem dX7_feastOn_22 : decode cX7_feastOn 22 = .ok (.iload_n 1, 1) := by decide +kernel
theorem dX7_feastOn_23 : decode cX7_feastOn 23 = .ok (.invokevirtual 84, 3) := by decide +kernel
theorem dX7_feastOn_26 : decode cX7_feastOn 26 = .ok (.invokestatic 70, 3) := by decide +kernel
theorem dX7_feastOn_29 : decode cX7_feastOn 29 = .ok (.istore 5, 2) := by decide +kernel
theorem dX7_feastOn_31 : decode cX7_feastOn 31 = .ok (.iload 5, 2) := by decide +kernel
theorem dX7_feastOn_33 : decode cX7_feastOn 33 = .ok (.iload_n 3, 1) := by decide +kernel
theorem dX7_feastOn_34 : decode cX7_feastOn 34 = .ok (.if_icmp .le 8, 3) := by decide +kernel
theorem dX7_feastOn_37 : decode cX7_feastOn 37 = .ok (.iload 4, 2) := by decide +kernel
theorem dX7_feastOn_39 : decode cX7_feastOn 39 = .ok (.goto 4, 3) := by decide +kernel
theorem dX7_feastOn_42 : decode cX7_feastOn 42 = .ok (.iload_n 2, 1) := by decide +kernel
theorem dX7_feastOn_43 : decode cX7_feastOn 43 = .ok (.istore_n 2, 1) := by decide +kernel
theorem dX7_feastOn_44 : decode cX7_feastOn 44 = .ok (.iload 5, 2) := by decide +kernel
theorem dX7_feastOn_46 : decode cX7_feastOn 46 = .ok (.iload_n 3, 1) := by decide +kernel
theorem dX7_feastOn_47 : decode cX7_feastOn 47 = .ok (.if_icmp .le 8, 3) := by decide +kernel
theorem dX7_feastOn_50 : decode cX7_feastOn 50 = .ok (.iload 5, 2) := by decide +kernel
theorem dX7_feastOn_52 : decode cX7_feastOn 52 = .ok (.goto 4, 3) := by decide +kernel
theorem dX7_feastOn_55 : decode cX7_feastOn 55 = .ok (.iload_n 3, 1) := by decide +kernel
theorem dX7_feastOn_56 : decode cX7_feastOn 56 = .ok (.istore_n 3, 1) := by decide +kernel
theorem dX7_feastOn_57 : decode cX7_feastOn 57 = .ok (.iinc 4 1, 3) := by decide +kernel
theorem dX7_feastOn_60 : decode cX7_feastOn 60 = .ok (.goto (-52), 3) := by decide +kernel
theorem dX7_feastOn_63 : decode cX7_feastOn 63 = .ok (.iload_n 2, 1) := by decide +kernel
theorem dX7_feastOn_64 : decode cX7_feastOn 64 = .ok (.ireturn, 1) := by decide +kernel
theorem dX7_feast_0 : decode cX7_feast 0 = .ok (.iload_n 1, 1) := by decide +kernel
theorem dX7_feast_1 : decode cX7_feast 1 = .ok (.invokestatic 77, 3) := by decide +kernel
theorem dX7_feast_4 : decode cX7_feast 4 = .ok (.ifCond .eq 11, 3) := by decide +kernel
theorem dX7_feast_7 : decode cX7_feast 7 = .ok (.aload_n 0, 1) := by decide +kernel
theorem dX7_feast_8 : decode cX7_feast 8 = .ok (.iload_n 1, 1) := by decide +kernel
theorem dX7_feast_9 : decode cX7_feast 9 = .ok (.invokevirtual 122, 3) := by decide +kernel
theorem dX7_feast_12 : decode cX7_feast 12 = .ok (.goto 5, 3) := by decide +kernel
theorem dX7_feast_15 : decode cX7_feast 15 = .ok (.bipush (-2), 2) := by decide +kernel
theorem dX7_feast_17 : decode cX7_feast 17 = .ok (.ireturn, 1) := by decide +kernel
theorem dX7_feasts_0 : decode cX7_feasts 0 = .ok (.iload_n 1, 1) := by decide +kernel
theorem dX7_feasts_1 : decode cX7_feasts 1 = .ok (.invokestatic 56, 3) := by decide +kernel
theorem dX7_feasts_4 : decode cX7_feasts 4 = .ok (.ifCond .ne 5, 3) := by decide +kernel
theorem dX7_feasts_7 : decode cX7_feasts 7 = .ok (.iconst (-1), 1) := by decide +kernel
theorem dX7_feasts_8 : decode cX7_feasts 8 = .ok (.ireturn, 1) := by decide +kernel
theorem dX7_feasts_9 : decode cX7_feasts 9 = .ok (.iconst 0, 1) := by decide +kernel
theorem dX7_feasts_10 : decode cX7_feasts 10 = .ok (.istore_n 2, 1) := by decide +kernel
theorem dX7_feasts_11 : decode cX7_feasts 11 = .ok (.iconst 0, 1) := by decide +kernel
theorem dX7_feasts_12 : decode cX7_feasts 12 = .ok (.istore_n 3, 1) := by decide +kernel
theorem dX7_feasts_13 : decode cX7_feasts 13 = .ok (.iload_n 3, 1) := by decide +kernel
theorem dX7_feasts_14 : decode cX7_feasts 14 = .ok (.sipush 840, 3) := by decide +kernel
theorem dX7_feasts_17 : decode cX7_feasts 17 = .ok (.if_icmp .ge 26, 3) := by decide +kernel
theorem dX7_feasts_20 : decode cX7_feasts 20 = .ok (.iload_n 2, 1) := by decide +kernel
theorem dX7_feasts_21 : decode cX7_feasts 21 = .ok (.aload_n 0, 1) := by decide +kernel
theorem dX7_feasts_22 : decode cX7_feasts 22 = .ok (.iload_n 3, 1) := by decide +kernel
theorem dX7_feasts_23 : decode cX7_feasts 23 = .ok (.invokevirtual 122, 3) := by decide +kernel
theorem dX7_feasts_26 : decode cX7_feasts 26 = .ok (.iload_n 1, 1) := by decide +kernel
theorem dX7_feasts_27 : decode cX7_feasts 27 = .ok (.if_icmp .ne 7, 3) := by decide +kernel
theorem dX7_feasts_30 : decode cX7_feasts 30 = .ok (.iconst 1, 1) := by decide +kernel
theorem dX7_feasts_31 : decode cX7_feasts 31 = .ok (.goto 4, 3) := by decide +kernel
theorem dX7_feasts_34 : decode cX7_feasts 34 = .ok (.iconst 0, 1) := by decide +kernel
theorem dX7_feasts_35 : decode cX7_feasts 35 = .ok (.iadd, 1) := by decide +kernel
theorem dX7_feasts_36 : decode cX7_feasts 36 = .ok (.istore_n 2, 1) := by decide +kernel
theorem dX7_feasts_37 : decode cX7_feasts 37 = .ok (.iinc 3 1, 3) := by decide +kernel
theorem dX7_feasts_40 : decode cX7_feasts 40 = .ok (.goto (-27), 3) := by decide +kernel
theorem dX7_feasts_43 : decode cX7_feasts 43 = .ok (.iload_n 2, 1) := by decide +kernel
theorem dX7_feasts_44 : decode cX7_feasts 44 = .ok (.ireturn, 1) := by decide +kernel
theorem dX7_poor_0 : decode cX7_poor 0 = .ok (.iconst 0, 1) := by decide +kernel
theorem dX7_poor_1 : decode cX7_poor 1 = .ok (.istore_n 1, 1) := by decide +kernel
theorem dX7_poor_2 : decode cX7_poor 2 = .ok (.iconst 0, 1) := by decide +kernel
theorem dX7_poor_3 : decode cX7_poor 3 = .ok (.istore_n 2, 1) := by decide +kernel
theorem dX7_poor_4 : decode cX7_poor 4 = .ok (.iload_n 2, 1) := by decide +kernel
theorem dX7_poor_5 : decode cX7_poor 5 = .ok (.sipush 840, 3) := by decide +kernel
theorem dX7_poor_8 : decode cX7_poor 8 = .ok (.if_icmp .ge 36, 3) := by decide +kernel
theorem dX7_poor_11 : decode cX7_poor 11 = .ok (.aload_n 0, 1) := by decide +kernel
theorem dX7_poor_12 : decode cX7_poor 12 = .ok (.iload_n 2, 1) := by decide +kernel
theorem dX7_poor_13 : decode cX7_poor 13 = .ok (.invokevirtual 122, 3) := by decide +kernel
theorem dX7_poor_16 : decode cX7_poor 16 = .ok (.istore_n 3, 1) := by decide +kernel
theorem dX7_poor_17 : decode cX7_poor 17 = .ok (.iload_n 1, 1) := by decide +kernel
theorem dX7_poor_18 : decode cX7_poor 18 = .ok (.iload_n 3, 1) := by decide +kernel
theorem dX7_poor_19 : decode cX7_poor 19 = .ok (.ifCond .lt 16, 3) := by decide +kernel
theorem dX7_poor_22 : decode cX7_poor 22 = .ok (.aload_n 0, 1) := by decide +kernel
theorem dX7_poor_23 : decode cX7_poor 23 = .ok (.aload_n 0, 1) := by decide +kernel
theorem dX7_poor_24 : decode cX7_poor 24 = .ok (.getfield 41, 3) := by decide +kernel
theorem dX7_poor_27 : decode cX7_poor 27 = .ok (.iload_n 3, 1) := by decide +kernel
theorem dX7_poor_28 : decode cX7_poor 28 = .ok (.iload_n 2, 1) := by decide +kernel
theorem dX7_poor_29 : decode cX7_poor 29 = .ok (.invokevirtual 84, 3) := by decide +kernel
theorem dX7_poor_32 : decode cX7_poor 32 = .ok (.goto 4, 3) := by decide +kernel
theorem dX7_poor_35 : decode cX7_poor 35 = .ok (.iconst 0, 1) := by decide +kernel
theorem dX7_poor_36 : decode cX7_poor 36 = .ok (.ior, 1) := by decide +kernel
theorem dX7_poor_37 : decode cX7_poor 37 = .ok (.istore_n 1, 1) := by decide +kernel
theorem dX7_poor_38 : decode cX7_poor 38 = .ok (.iinc 2 1, 3) := by decide +kernel
theorem dX7_poor_41 : decode cX7_poor 41 = .ok (.goto (-37), 3) := by decide +kernel
theorem dX7_poor_44 : decode cX7_poor 44 = .ok (.aload_n 0, 1) := by decide +kernel
theorem dX7_poor_45 : decode cX7_poor 45 = .ok (.getfield 41, 3) := by decide +kernel
theorem dX7_poor_48 : decode cX7_poor 48 = .ok (.iload_n 1, 1) := by decide +kernel
theorem dX7_poor_49 : decode cX7_poor 49 = .ok (.iconst (-1), 1) := by decide +kernel
theorem dX7_poor_50 : decode cX7_poor 50 = .ok (.ixor, 1) := by decide +kernel
theorem dX7_poor_51 : decode cX7_poor 51 = .ok (.iand, 1) := by decide +kernel
theorem dX7_poor_52 : decode cX7_poor 52 = .ok (.ireturn, 1) := by decide +kernel
theorem dX7_goesWith_0 : decode cX7_goesWith 0 = .ok (.iconst 1, 1) := by decide +kernel
theorem dX7_goesWith_1 : decode cX7_goesWith 1 = .ok (.istore 4, 2) := by decide +kernel
theorem dX7_goesWith_3 : decode cX7_goesWith 3 = .ok (.iconst 0, 1) := by decide +kernel
theorem dX7_goesWith_4 : decode cX7_goesWith 4 = .ok (.istore 5, 2) := by decide +kernel
theorem dX7_goesWith_6 : decode cX7_goesWith 6 = .ok (.iload 5, 2) := by decide +kernel
theorem dX7_goesWith_8 : decode cX7_goesWith 8 = .ok (.sipush 840, 3) := by decide +kernel
theorem dX7_goesWith_11 : decode cX7_goesWith 11 = .ok (.if_icmp .ge 40, 3) := by decide +kernel
theorem dX7_goesWith_14 : decode cX7_goesWith 14 = .ok (.iload 4, 2) := by decide +kernel
theorem dX7_goesWith_16 : decode cX7_goesWith 16 = .ok (.ifCond .eq 35, 3) := by decide +kernel
theorem dX7_goesWith_19 : decode cX7_goesWith 19 = .ok (.aload_n 0, 1) := by decide +kernel
theorem dX7_goesWith_20 : decode cX7_goesWith 20 = .ok (.iload_n 2, 1) := by decide +kernel
theorem dX7_goesWith_21 : decode cX7_goesWith 21 = .ok (.iload 5, 2) := by decide +kernel
theorem dX7_goesWith_23 : decode cX7_goesWith 23 = .ok (.invokevirtual 80, 3) := by decide +kernel
theorem dX7_goesWith_26 : decode cX7_goesWith 26 = .ok (.aload_n 0, 1) := by decide +kernel
theorem dX7_goesWith_27 : decode cX7_goesWith 27 = .ok (.iload_n 1, 1) := by decide +kernel
theorem dX7_goesWith_28 : decode cX7_goesWith 28 = .ok (.iload 5, 2) := by decide +kernel
theorem dX7_goesWith_30 : decode cX7_goesWith 30 = .ok (.iload_n 3, 1) := by decide +kernel
theorem dX7_goesWith_31 : decode cX7_goesWith 31 = .ok (.iadd, 1) := by decide +kernel
theorem dX7_goesWith_32 : decode cX7_goesWith 32 = .ok (.invokevirtual 80, 3) := by decide +kernel
theorem dX7_goesWith_35 : decode cX7_goesWith 35 = .ok (.if_icmp .ne 7, 3) := by decide +kernel
theorem dX7_goesWith_38 : decode cX7_goesWith 38 = .ok (.iconst 1, 1) := by decide +kernel
theorem dX7_goesWith_39 : decode cX7_goesWith 39 = .ok (.goto 4, 3) := by decide +kernel
theorem dX7_goesWith_42 : decode cX7_goesWith 42 = .ok (.iconst 0, 1) := by decide +kernel
theorem dX7_goesWith_43 : decode cX7_goesWith 43 = .ok (.istore 4, 2) := by decide +kernel
theorem dX7_goesWith_45 : decode cX7_goesWith 45 = .ok (.iinc 5 1, 3) := by decide +kernel
theorem dX7_goesWith_48 : decode cX7_goesWith 48 = .ok (.goto (-42), 3) := by decide +kernel
theorem dX7_goesWith_51 : decode cX7_goesWith 51 = .ok (.iload 4, 2) := by decide +kernel
theorem dX7_goesWith_53 : decode cX7_goesWith 53 = .ok (.ireturn, 1) := by decide +kernel
theorem dX7_twins_0 : decode cX7_twins 0 = .ok (.iconst 0, 1) := by decide +kernel
theorem dX7_twins_1 : decode cX7_twins 1 = .ok (.istore_n 2, 1) := by decide +kernel
theorem dX7_twins_2 : decode cX7_twins 2 = .ok (.iconst 0, 1) := by decide +kernel
theorem dX7_twins_3 : decode cX7_twins 3 = .ok (.istore_n 3, 1) := by decide +kernel
theorem dX7_twins_4 : decode cX7_twins 4 = .ok (.iload_n 3, 1) := by decide +kernel
theorem dX7_twins_5 : decode cX7_twins 5 = .ok (.bipush 6, 2) := by decide +kernel
theorem dX7_twins_7 : decode cX7_twins 7 = .ok (.if_icmp .ge 88, 3) := by decide +kernel
theorem dX7_twins_10 : decode cX7_twins 10 = .ok (.iload_n 3, 1) := by decide +kernel
theorem dX7_twins_11 : decode cX7_twins 11 = .ok (.iconst 1, 1) := by decide +kernel
theorem dX7_twins_12 : decode cX7_twins 12 = .ok (.iadd, 1) := by decide +kernel
theorem dX7_twins_13 : decode cX7_twins 13 = .ok (.istore 4, 2) := by decide +kernel
theorem dX7_twins_15 : decode cX7_twins 15 = .ok (.iload 4, 2) := by decide +kernel
theorem dX7_twins_17 : decode cX7_twins 17 = .ok (.bipush 6, 2) := by decide +kernel
theorem dX7_twins_19 : decode cX7_twins 19 = .ok (.if_icmp .ge 70, 3) := by decide +kernel
theorem dX7_twins_22 : decode cX7_twins 22 = .ok (.aload_n 0, 1) := by decide +kernel
theorem dX7_twins_23 : decode cX7_twins 23 = .ok (.getfield 41, 3) := by decide +kernel
theorem dX7_twins_26 : decode cX7_twins 26 = .ok (.iload_n 3, 1) := by decide +kernel
theorem dX7_twins_27 : decode cX7_twins 27 = .ok (.invokestatic 49, 3) := by decide +kernel
theorem dX7_twins_30 : decode cX7_twins 30 = .ok (.ifCond .eq 53, 3) := by decide +kernel
theorem dX7_twins_33 : decode cX7_twins 33 = .ok (.aload_n 0, 1) := by decide +kernel
theorem dX7_twins_34 : decode cX7_twins 34 = .ok (.getfield 41, 3) := by decide +kernel
theorem dX7_twins_37 : decode cX7_twins 37 = .ok (.iload 4, 2) := by decide +kernel
theorem dX7_twins_39 : decode cX7_twins 39 = .ok (.invokestatic 49, 3) := by decide +kernel
theorem dX7_twins_42 : decode cX7_twins 42 = .ok (.ifCond .eq 41, 3) := by decide +kernel
theorem dX7_twins_45 : decode cX7_twins 45 = .ok (.aload_n 0, 1) := by decide +kernel
theorem dX7_twins_46 : decode cX7_twins 46 = .ok (.iload_n 3, 1) := by decide +kernel
theorem dX7_twins_47 : decode cX7_twins 47 = .ok (.iload 4, 2) := by decide +kernel
theorem dX7_twins_49 : decode cX7_twins 49 = .ok (.iconst (-1), 1) := by decide +kernel
theorem dX7_twins_50 : decode cX7_twins 50 = .ok (.invokevirtual 125, 3) := by decide +kernel
theorem dX7_twins_53 : decode cX7_twins 53 = .ok (.ifCond .ne 14, 3) := by decide +kernel
theorem dX7_twins_56 : decode cX7_twins 56 = .ok (.aload_n 0, 1) := by decide +kernel
theorem dX7_twins_57 : decode cX7_twins 57 = .ok (.iload_n 3, 1) := by decide +kernel
theorem dX7_twins_58 : decode cX7_twins 58 = .ok (.iload 4, 2) := by decide +kernel
theorem dX7_twins_60 : decode cX7_twins 60 = .ok (.iconst 1, 1) := by decide +kernel
theorem dX7_twins_61 : decode cX7_twins 61 = .ok (.invokevirtual 125, 3) := by decide +kernel
theorem dX7_twins_64 : decode cX7_twins 64 = .ok (.ifCond .eq 19, 3) := by decide +kernel
theorem dX7_twins_67 : decode cX7_twins 67 = .ok (.iload_n 2, 1) := by decide +kernel
theorem dX7_twins_68 : decode cX7_twins 68 = .ok (.iload_n 1, 1) := by decide +kernel
theorem dX7_twins_69 : decode cX7_twins 69 = .ok (.if_icmp .ne 11, 3) := by decide +kernel
theorem dX7_twins_72 : decode cX7_twins 72 = .ok (.bipush 10, 2) := by decide +kernel
theorem dX7_twins_74 : decode cX7_twins 74 = .ok (.iload_n 3, 1) := by decide +kernel
theorem dX7_twins_75 : decode cX7_twins 75 = .ok (.imul, 1) := by decide +kernel
theorem dX7_twins_76 : decode cX7_twins 76 = .ok (.iload 4, 2) := by decide +kernel
theorem dX7_twins_78 : decode cX7_twins 78 = .ok (.iadd, 1) := by decide +kernel
theorem dX7_twins_79 : decode cX7_twins 79 = .ok (.ireturn, 1) := by decide +kernel
theorem dX7_twins_80 : decode cX7_twins 80 = .ok (.iinc 2 1, 3) := by decide +kernel
theorem dX7_twins_83 : decode cX7_twins 83 = .ok (.iinc 4 1, 3) := by decide +kernel
theorem dX7_twins_86 : decode cX7_twins 86 = .ok (.goto (-71), 3) := by decide +kernel
theorem dX7_twins_89 : decode cX7_twins 89 = .ok (.iinc 3 1, 3) := by decide +kernel
theorem dX7_twins_92 : decode cX7_twins 92 = .ok (.goto (-88), 3) := by decide +kernel
theorem dX7_twins_95 : decode cX7_twins 95 = .ok (.iload_n 1, 1) := by decide +kernel
theorem dX7_twins_96 : decode cX7_twins 96 = .ok (.iconst (-1), 1) := by decide +kernel
theorem dX7_twins_97 : decode cX7_twins 97 = .ok (.if_icmp .ne 7, 3) := by decide +kernel
theorem dX7_twins_100 : decode cX7_twins 100 = .ok (.iload_n 2, 1) := by decide +kernel
theorem dX7_twins_101 : decode cX7_twins 101 = .ok (.goto 5, 3) := by decide +kernel
theorem dX7_twins_104 : decode cX7_twins 104 = .ok (.bipush (-6), 2) := by decide +kernel
theorem dX7_twins_106 : decode cX7_twins 106 = .ok (.ireturn, 1) := by decide +kernel
theorem dX7_oneOrder_0 : decode cX7_oneOrder 0 = .ok (.aload_n 0, 1) := by decide +kernel
theorem dX7_oneOrder_1 : decode cX7_oneOrder 1 = .ok (.iload_n 1, 1) := by decide +kernel
theorem dX7_oneOrder_2 : decode cX7_oneOrder 2 = .ok (.invokevirtual 67, 3) := by decide +kernel
theorem dX7_oneOrder_5 : decode cX7_oneOrder 5 = .ok (.ifCond .ne 5, 3) := by decide +kernel
theorem dX7_oneOrder_8 : decode cX7_oneOrder 8 = .ok (.iconst (-1), 1) := by decide +kernel
theorem dX7_oneOrder_9 : decode cX7_oneOrder 9 = .ok (.ireturn, 1) := by decide +kernel
theorem dX7_oneOrder_10 : decode cX7_oneOrder 10 = .ok (.iload_n 2, 1) := by decide +kernel
theorem dX7_oneOrder_11 : decode cX7_oneOrder 11 = .ok (.iconst 0, 1) := by decide +kernel
theorem dX7_oneOrder_12 : decode cX7_oneOrder 12 = .ok (.iconst 1, 1) := by decide +kernel
theorem dX7_oneOrder_13 : decode cX7_oneOrder 13 = .ok (.invokestatic 45, 3) := by decide +kernel
theorem dX7_oneOrder_16 : decode cX7_oneOrder 16 = .ok (.ifCond .ne 6, 3) := by decide +kernel
theorem dX7_oneOrder_19 : decode cX7_oneOrder 19 = .ok (.bipush (-2), 2) := by decide +kernel
theorem dX7_oneOrder_21 : decode cX7_oneOrder 21 = .ok (.ireturn, 1) := by decide +kernel
theorem dX7_oneOrder_22 : decode cX7_oneOrder 22 = .ok (.iconst 0, 1) := by decide +kernel
theorem dX7_oneOrder_23 : decode cX7_oneOrder 23 = .ok (.istore_n 3, 1) := by decide +kernel
theorem dX7_oneOrder_24 : decode cX7_oneOrder 24 = .ok (.iconst 0, 1) := by decide +kernel
theorem dX7_oneOrder_25 : decode cX7_oneOrder 25 = .ok (.istore 4, 2) := by decide +kernel
theorem dX7_oneOrder_27 : decode cX7_oneOrder 27 = .ok (.iconst 0, 1) := by decide +kernel
theorem dX7_oneOrder_28 : decode cX7_oneOrder 28 = .ok (.istore 5, 2) := by decide +kernel
theorem dX7_oneOrder_30 : decode cX7_oneOrder 30 = .ok (.iload 5, 2) := by decide +kernel
theorem dX7_oneOrder_32 : decode cX7_oneOrder 32 = .ok (.bipush 28, 2) := by decide +kernel
theorem dX7_oneOrder_34 : decode cX7_oneOrder 34 = .ok (.if_icmp .ge 30, 3) := by decide +kernel
theorem dX7_oneOrder_37 : decode cX7_oneOrder 37 = .ok (.iload_n 3, 1) := by decide +kernel
theorem dX7_oneOrder_38 : decode cX7_oneOrder 38 = .ok (.aload_n 0, 1) := by decide +kernel
theorem dX7_oneOrder_39 : decode cX7_oneOrder 39 = .ok (.aload_n 0, 1) := by decide +kernel
theorem dX7_oneOrder_40 : decode cX7_oneOrder 40 = .ok (.getfield 41, 3) := by decide +kernel
theorem dX7_oneOrder_43 : decode cX7_oneOrder 43 = .ok (.iload 5, 2) := by decide +kernel
theorem dX7_oneOrder_45 : decode cX7_oneOrder 45 = .ok (.invokevirtual 91, 3) := by decide +kernel
theorem dX7_oneOrder_48 : decode cX7_oneOrder 48 = .ok (.ifCond .ge 7, 3) := by decide +kernel
theorem dX7_oneOrder_51 : decode cX7_oneOrder 51 = .ok (.iconst 1, 1) := by decide +kernel
theorem dX7_oneOrder_52 : decode cX7_oneOrder 52 = .ok (.goto 4, 3) := by decide +kernel
theorem dX7_oneOrder_55 : decode cX7_oneOrder 55 = .ok (.iconst 0, 1) := by decide +kernel
theorem dX7_oneOrder_56 : decode cX7_oneOrder 56 = .ok (.iadd, 1) := by decide +kernel
theorem dX7_oneOrder_57 : decode cX7_oneOrder 57 = .ok (.istore_n 3, 1) := by decide +kernel
theorem dX7_oneOrder_58 : decode cX7_oneOrder 58 = .ok (.iinc 5 1, 3) := by decide +kernel
theorem dX7_oneOrder_61 : decode cX7_oneOrder 61 = .ok (.goto (-31), 3) := by decide +kernel
theorem dX7_oneOrder_64 : decode cX7_oneOrder 64 = .ok (.iconst 0, 1) := by decide +kernel
theorem dX7_oneOrder_65 : decode cX7_oneOrder 65 = .ok (.istore 5, 2) := by decide +kernel
theorem dX7_oneOrder_67 : decode cX7_oneOrder 67 = .ok (.iload 5, 2) := by decide +kernel
theorem dX7_oneOrder_69 : decode cX7_oneOrder 69 = .ok (.bipush 6, 2) := by decide +kernel
theorem dX7_oneOrder_71 : decode cX7_oneOrder 71 = .ok (.if_icmp .ge 37, 3) := by decide +kernel
theorem dX7_oneOrder_74 : decode cX7_oneOrder 74 = .ok (.iload 4, 2) := by decide +kernel
theorem dX7_oneOrder_76 : decode cX7_oneOrder 76 = .ok (.aload_n 0, 1) := by decide +kernel
theorem dX7_oneOrder_77 : decode cX7_oneOrder 77 = .ok (.getfield 41, 3) := by decide +kernel
theorem dX7_oneOrder_80 : decode cX7_oneOrder 80 = .ok (.iload 5, 2) := by decide +kernel
theorem dX7_oneOrder_82 : decode cX7_oneOrder 82 = .ok (.invokestatic 49, 3) := by decide +kernel
theorem dX7_oneOrder_85 : decode cX7_oneOrder 85 = .ok (.ifCond .eq 13, 3) := by decide +kernel
theorem dX7_oneOrder_88 : decode cX7_oneOrder 88 = .ok (.aload_n 0, 1) := by decide +kernel
theorem dX7_oneOrder_89 : decode cX7_oneOrder 89 = .ok (.iload 5, 2) := by decide +kernel
theorem dX7_oneOrder_91 : decode cX7_oneOrder 91 = .ok (.iload_n 1, 1) := by decide +kernel
theorem dX7_oneOrder_92 : decode cX7_oneOrder 92 = .ok (.invokevirtual 116, 3) := by decide +kernel
theorem dX7_oneOrder_95 : decode cX7_oneOrder 95 = .ok (.goto 4, 3) := by decide +kernel
theorem dX7_oneOrder_98 : decode cX7_oneOrder 98 = .ok (.iconst 0, 1) := by decide +kernel
theorem dX7_oneOrder_99 : decode cX7_oneOrder 99 = .ok (.iadd, 1) := by decide +kernel
theorem dX7_oneOrder_100 : decode cX7_oneOrder 100 = .ok (.istore 4, 2) := by decide +kernel
theorem dX7_oneOrder_102 : decode cX7_oneOrder 102 = .ok (.iinc 5 1, 3) := by decide +kernel
theorem dX7_oneOrder_105 : decode cX7_oneOrder 105 = .ok (.goto (-38), 3) := by decide +kernel
theorem dX7_oneOrder_108 : decode cX7_oneOrder 108 = .ok (.iload_n 2, 1) := by decide +kernel
theorem dX7_oneOrder_109 : decode cX7_oneOrder 109 = .ok (.ifCond .ne 7, 3) := by decide +kernel
theorem dX7_oneOrder_112 : decode cX7_oneOrder 112 = .ok (.iload_n 3, 1) := by decide +kernel
theorem dX7_oneOrder_113 : decode cX7_oneOrder 113 = .ok (.goto 5, 3) := by decide +kernel
theorem dX7_oneOrder_116 : decode cX7_oneOrder 116 = .ok (.iload 4, 2) := by decide +kernel
theorem dX7_oneOrder_118 : decode cX7_oneOrder 118 = .ok (.ireturn, 1) := by decide +kernel
theorem dX7_seen_0 : decode cX7_seen 0 = .ok (.iload_n 1, 1) := by decide +kernel
theorem dX7_seen_1 : decode cX7_seen 1 = .ok (.invokestatic 77, 3) := by decide +kernel
theorem dX7_seen_4 : decode cX7_seen 4 = .ok (.ifCond .eq 12, 3) := by decide +kernel
theorem dX7_seen_7 : decode cX7_seen 7 = .ok (.iload_n 2, 1) := by decide +kernel
theorem dX7_seen_8 : decode cX7_seen 8 = .ok (.iconst 0, 1) := by decide +kernel
theorem dX7_seen_9 : decode cX7_seen 9 = .ok (.iconst 1, 1) := by decide +kernel
theorem dX7_seen_10 : decode cX7_seen 10 = .ok (.invokestatic 45, 3) := by decide +kernel
theorem dX7_seen_13 : decode cX7_seen 13 = .ok (.ifCond .ne 6, 3) := by decide +kernel
theorem dX7_seen_16 : decode cX7_seen 16 = .ok (.bipush (-2), 2) := by decide +kernel
theorem dX7_seen_18 : decode cX7_seen 18 = .ok (.ireturn, 1) := by decide +kernel
theorem dX7_seen_19 : decode cX7_seen 19 = .ok (.aload_n 0, 1) := by decide +kernel
theorem dX7_seen_20 : decode cX7_seen 20 = .ok (.getfield 128, 3) := by decide +kernel
theorem dX7_seen_23 : decode cX7_seen 23 = .ok (.bipush 6, 2) := by decide +kernel
theorem dX7_seen_25 : decode cX7_seen 25 = .ok (.if_icmp .ne 6, 3) := by decide +kernel
theorem dX7_seen_28 : decode cX7_seen 28 = .ok (.bipush (-4), 2) := by decide +kernel
theorem dX7_seen_30 : decode cX7_seen 30 = .ok (.ireturn, 1) := by decide +kernel
theorem dX7_seen_31 : decode cX7_seen 31 = .ok (.aload_n 0, 1) := by decide +kernel
theorem dX7_seen_32 : decode cX7_seen 32 = .ok (.getfield 25, 3) := by decide +kernel
theorem dX7_seen_35 : decode cX7_seen 35 = .ok (.iconst 2, 1) := by decide +kernel
theorem dX7_seen_36 : decode cX7_seen 36 = .ok (.aload_n 0, 1) := by decide +kernel
theorem dX7_seen_37 : decode cX7_seen 37 = .ok (.getfield 128, 3) := by decide +kernel
theorem dX7_seen_40 : decode cX7_seen 40 = .ok (.imul, 1) := by decide +kernel
theorem dX7_seen_41 : decode cX7_seen 41 = .ok (.iload_n 1, 1) := by decide +kernel
theorem dX7_seen_42 : decode cX7_seen 42 = .ok (.iastore, 1) := by decide +kernel
theorem dX7_seen_43 : decode cX7_seen 43 = .ok (.aload_n 0, 1) := by decide +kernel
theorem dX7_seen_44 : decode cX7_seen 44 = .ok (.getfield 25, 3) := by decide +kernel
theorem dX7_seen_47 : decode cX7_seen 47 = .ok (.iconst 2, 1) := by decide +kernel
theorem dX7_seen_48 : decode cX7_seen 48 = .ok (.aload_n 0, 1) := by decide +kernel
theorem dX7_seen_49 : decode cX7_seen 49 = .ok (.getfield 128, 3) := by decide +kernel
theorem dX7_seen_52 : decode cX7_seen 52 = .ok (.imul, 1) := by decide +kernel
theorem dX7_seen_53 : decode cX7_seen 53 = .ok (.iconst 1, 1) := by decide +kernel
theorem dX7_seen_54 : decode cX7_seen 54 = .ok (.iadd, 1) := by decide +kernel
theorem dX7_seen_55 : decode cX7_seen 55 = .ok (.iload_n 2, 1) := by decide +kernel
theorem dX7_seen_56 : decode cX7_seen 56 = .ok (.iastore, 1) := by decide +kernel
theorem dX7_seen_57 : decode cX7_seen 57 = .ok (.aload_n 0, 1) := by decide +kernel
theorem dX7_seen_58 : decode cX7_seen 58 = .ok (.dup, 1) := by decide +kernel
theorem dX7_seen_59 : decode cX7_seen 59 = .ok (.getfield 128, 3) := by decide +kernel
theorem dX7_seen_62 : decode cX7_seen 62 = .ok (.iconst 1, 1) := by decide +kernel
theorem dX7_seen_63 : decode cX7_seen 63 = .ok (.iadd, 1) := by decide +kernel
theorem dX7_seen_64 : decode cX7_seen 64 = .ok (.putfield 128, 3) := by decide +kernel
theorem dX7_seen_67 : decode cX7_seen 67 = .ok (.aload_n 0, 1) := by decide +kernel
theorem dX7_seen_68 : decode cX7_seen 68 = .ok (.getfield 128, 3) := by decide +kernel
theorem dX7_seen_71 : decode cX7_seen 71 = .ok (.ireturn, 1) := by decide +kernel
theorem dX7_forget_0 : decode cX7_forget 0 = .ok (.aload_n 0, 1) := by decide +kernel
theorem dX7_forget_1 : decode cX7_forget 1 = .ok (.getfield 128, 3) := by decide +kernel
theorem dX7_forget_4 : decode cX7_forget 4 = .ok (.istore_n 1, 1) := by decide +kernel
theorem dX7_forget_5 : decode cX7_forget 5 = .ok (.aload_n 0, 1) := by decide +kernel
theorem dX7_forget_6 : decode cX7_forget 6 = .ok (.iconst 0, 1) := by decide +kernel
theorem dX7_forget_7 : decode cX7_forget 7 = .ok (.putfield 128, 3) := by decide +kernel
theorem dX7_forget_10 : decode cX7_forget 10 = .ok (.iload_n 1, 1) := by decide +kernel
theorem dX7_forget_11 : decode cX7_forget 11 = .ok (.ireturn, 1) := by decide +kernel
theorem dX7_isWell_0 : decode cX7_isWell 0 = .ok (.aload_n 0, 1) := by decide +kernel
theorem dX7_isWell_1 : decode cX7_isWell 1 = .ok (.getfield 41, 3) := by decide +kernel
theorem dX7_isWell_4 : decode cX7_isWell 4 = .ok (.iload_n 1, 1) := by decide +kernel
theorem dX7_isWell_5 : decode cX7_isWell 5 = .ok (.invokestatic 49, 3) := by decide +kernel
theorem dX7_isWell_8 : decode cX7_isWell 8 = .ok (.istore_n 3, 1) := by decide +kernel
theorem dX7_isWell_9 : decode cX7_isWell 9 = .ok (.iconst 0, 1) := by decide +kernel
theorem dX7_isWell_10 : decode cX7_isWell 10 = .ok (.istore 4, 2) := by decide +kernel
theorem dX7_isWell_12 : decode cX7_isWell 12 = .ok (.iload 4, 2) := by decide +kernel
theorem dX7_isWell_14 : decode cX7_isWell 14 = .ok (.aload_n 0, 1) := by decide +kernel
theorem dX7_isWell_15 : decode cX7_isWell 15 = .ok (.getfield 128, 3) := by decide +kernel
theorem dX7_isWell_18 : decode cX7_isWell 18 = .ok (.if_icmp .ge 65, 3) := by decide +kernel
theorem dX7_isWell_21 : decode cX7_isWell 21 = .ok (.iload_n 3, 1) := by decide +kernel
theorem dX7_isWell_22 : decode cX7_isWell 22 = .ok (.ifCond .eq 61, 3) := by decide +kernel
theorem dX7_isWell_25 : decode cX7_isWell 25 = .ok (.aload_n 0, 1) := by decide +kernel
theorem dX7_isWell_26 : decode cX7_isWell 26 = .ok (.iload_n 1, 1) := by decide +kernel
theorem dX7_isWell_27 : decode cX7_isWell 27 = .ok (.aload_n 0, 1) := by decide +kernel
theorem dX7_isWell_28 : decode cX7_isWell 28 = .ok (.getfield 25, 3) := by decide +kernel
theorem dX7_isWell_31 : decode cX7_isWell 31 = .ok (.iconst 2, 1) := by decide +kernel
theorem dX7_isWell_32 : decode cX7_isWell 32 = .ok (.iload 4, 2) := by decide +kernel
theorem dX7_isWell_34 : decode cX7_isWell 34 = .ok (.imul, 1) := by decide +kernel
theorem dX7_isWell_35 : decode cX7_isWell 35 = .ok (.iaload, 1) := by decide +kernel
theorem dX7_isWell_36 : decode cX7_isWell 36 = .ok (.invokevirtual 80, 3) := by decide +kernel
theorem dX7_isWell_39 : decode cX7_isWell 39 = .ok (.iload_n 2, 1) := by decide +kernel
theorem dX7_isWell_40 : decode cX7_isWell 40 = .ok (.if_icmp .ne 7, 3) := by decide +kernel
theorem dX7_isWell_43 : decode cX7_isWell 43 = .ok (.iconst 1, 1) := by decide +kernel
theorem dX7_isWell_44 : decode cX7_isWell 44 = .ok (.goto 4, 3) := by decide +kernel
theorem dX7_isWell_47 : decode cX7_isWell 47 = .ok (.iconst 0, 1) := by decide +kernel
theorem dX7_isWell_48 : decode cX7_isWell 48 = .ok (.aload_n 0, 1) := by decide +kernel
theorem dX7_isWell_49 : decode cX7_isWell 49 = .ok (.getfield 25, 3) := by decide +kernel
theorem dX7_isWell_52 : decode cX7_isWell 52 = .ok (.iconst 2, 1) := by decide +kernel
theorem dX7_isWell_53 : decode cX7_isWell 53 = .ok (.iload 4, 2) := by decide +kernel
theorem dX7_isWell_55 : decode cX7_isWell 55 = .ok (.imul, 1) := by decide +kernel
theorem dX7_isWell_56 : decode cX7_isWell 56 = .ok (.iconst 1, 1) := by decide +kernel
theorem dX7_isWell_57 : decode cX7_isWell 57 = .ok (.iadd, 1) := by decide +kernel
theorem dX7_isWell_58 : decode cX7_isWell 58 = .ok (.iaload, 1) := by decide +kernel
theorem dX7_isWell_59 : decode cX7_isWell 59 = .ok (.iconst 1, 1) := by decide +kernel
theorem dX7_isWell_60 : decode cX7_isWell 60 = .ok (.if_icmp .ne 7, 3) := by decide +kernel
theorem dX7_isWell_63 : decode cX7_isWell 63 = .ok (.iconst 1, 1) := by decide +kernel
theorem dX7_isWell_64 : decode cX7_isWell 64 = .ok (.goto 4, 3) := by decide +kernel
theorem dX7_isWell_67 : decode cX7_isWell 67 = .ok (.iconst 0, 1) := by decide +kernel
theorem dX7_isWell_68 : decode cX7_isWell 68 = .ok (.if_icmp .ne 7, 3) := by decide +kernel
theorem dX7_isWell_71 : decode cX7_isWell 71 = .ok (.iconst 1, 1) := by decide +kernel
theorem dX7_isWell_72 : decode cX7_isWell 72 = .ok (.goto 4, 3) := by decide +kernel
theorem dX7_isWell_75 : decode cX7_isWell 75 = .ok (.iconst 0, 1) := by decide +kernel
theorem dX7_isWell_76 : decode cX7_isWell 76 = .ok (.istore_n 3, 1) := by decide +kernel
theorem dX7_isWell_77 : decode cX7_isWell 77 = .ok (.iinc 4 1, 3) := by decide +kernel
theorem dX7_isWell_80 : decode cX7_isWell 80 = .ok (.goto (-68), 3) := by decide +kernel
theorem dX7_isWell_83 : decode cX7_isWell 83 = .ok (.iload_n 3, 1) := by decide +kernel
theorem dX7_isWell_84 : decode cX7_isWell 84 = .ok (.ireturn, 1) := by decide +kernel
theorem dX7_whose_0 : decode cX7_whose 0 = .ok (.iconst 0, 1) := by decide +kernel
theorem dX7_whose_1 : decode cX7_whose 1 = .ok (.istore_n 2, 1) := by decide +kernel
theorem dX7_whose_2 : decode cX7_whose 2 = .ok (.iconst 0, 1) := by decide +kernel
theorem dX7_whose_3 : decode cX7_whose 3 = .ok (.istore_n 3, 1) := by decide +kernel
theorem dX7_whose_4 : decode cX7_whose 4 = .ok (.iload_n 3, 1) := by decide +kernel
theorem dX7_whose_5 : decode cX7_whose 5 = .ok (.bipush 6, 2) := by decide +kernel
theorem dX7_whose_7 : decode cX7_whose 7 = .ok (.if_icmp .ge 51, 3) := by decide +kernel
theorem dX7_whose_10 : decode cX7_whose 10 = .ok (.iconst 0, 1) := by decide +kernel
theorem dX7_whose_11 : decode cX7_whose 11 = .ok (.istore 4, 2) := by decide +kernel
theorem dX7_whose_13 : decode cX7_whose 13 = .ok (.iload 4, 2) := by decide +kernel
theorem dX7_whose_15 : decode cX7_whose 15 = .ok (.bipush 8, 2) := by decide +kernel
theorem dX7_whose_17 : decode cX7_whose 17 = .ok (.if_icmp .ge 35, 3) := by decide +kernel
theorem dX7_whose_20 : decode cX7_whose 20 = .ok (.aload_n 0, 1) := by decide +kernel
theorem dX7_whose_21 : decode cX7_whose 21 = .ok (.iload_n 3, 1) := by decide +kernel
theorem dX7_whose_22 : decode cX7_whose 22 = .ok (.iload 4, 2) := by decide +kernel
theorem dX7_whose_24 : decode cX7_whose 24 = .ok (.invokevirtual 131, 3) := by decide +kernel
theorem dX7_whose_27 : decode cX7_whose 27 = .ok (.ifCond .eq 19, 3) := by decide +kernel
theorem dX7_whose_30 : decode cX7_whose 30 = .ok (.iload_n 2, 1) := by decide +kernel
theorem dX7_whose_31 : decode cX7_whose 31 = .ok (.iload_n 1, 1) := by decide +kernel
theorem dX7_whose_32 : decode cX7_whose 32 = .ok (.if_icmp .ne 11, 3) := by decide +kernel
theorem dX7_whose_35 : decode cX7_whose 35 = .ok (.bipush 10, 2) := by decide +kernel
theorem dX7_whose_37 : decode cX7_whose 37 = .ok (.iload_n 3, 1) := by decide +kernel
theorem dX7_whose_38 : decode cX7_whose 38 = .ok (.imul, 1) := by decide +kernel
theorem dX7_whose_39 : decode cX7_whose 39 = .ok (.iload 4, 2) := by decide +kernel
theorem dX7_whose_41 : decode cX7_whose 41 = .ok (.iadd, 1) := by decide +kernel
theorem dX7_whose_42 : decode cX7_whose 42 = .ok (.ireturn, 1) := by decide +kernel
theorem dX7_whose_43 : decode cX7_whose 43 = .ok (.iinc 2 1, 3) := by decide +kernel
theorem dX7_whose_46 : decode cX7_whose 46 = .ok (.iinc 4 1, 3) := by decide +kernel
theorem dX7_whose_49 : decode cX7_whose 49 = .ok (.goto (-36), 3) := by decide +kernel
theorem dX7_whose_52 : decode cX7_whose 52 = .ok (.iinc 3 1, 3) := by decide +kernel
theorem dX7_whose_55 : decode cX7_whose 55 = .ok (.goto (-51), 3) := by decide +kernel
theorem dX7_whose_58 : decode cX7_whose 58 = .ok (.iload_n 1, 1) := by decide +kernel
theorem dX7_whose_59 : decode cX7_whose 59 = .ok (.iconst (-1), 1) := by decide +kernel
theorem dX7_whose_60 : decode cX7_whose 60 = .ok (.if_icmp .ne 7, 3) := by decide +kernel
theorem dX7_whose_63 : decode cX7_whose 63 = .ok (.iload_n 2, 1) := by decide +kernel
theorem dX7_whose_64 : decode cX7_whose 64 = .ok (.goto 5, 3) := by decide +kernel
theorem dX7_whose_67 : decode cX7_whose 67 = .ok (.bipush (-6), 2) := by decide +kernel
theorem dX7_whose_69 : decode cX7_whose 69 = .ok (.ireturn, 1) := by decide +kernel
theorem dX7_sure_0 : decode cX7_sure 0 = .ok (.iload_n 1, 1) := by decide +kernel
theorem dX7_sure_1 : decode cX7_sure 1 = .ok (.invokestatic 77, 3) := by decide +kernel
theorem dX7_sure_4 : decode cX7_sure 4 = .ok (.ifCond .ne 6, 3) := by decide +kernel
theorem dX7_sure_7 : decode cX7_sure 7 = .ok (.bipush (-2), 2) := by decide +kernel
theorem dX7_sure_9 : decode cX7_sure 9 = .ok (.ireturn, 1) := by decide +kernel
theorem dX7_sure_10 : decode cX7_sure 10 = .ok (.iconst 0, 1) := by decide +kernel
theorem dX7_sure_11 : decode cX7_sure 11 = .ok (.istore_n 2, 1) := by decide +kernel
theorem dX7_sure_12 : decode cX7_sure 12 = .ok (.iconst 0, 1) := by decide +kernel
theorem dX7_sure_13 : decode cX7_sure 13 = .ok (.istore_n 3, 1) := by decide +kernel
theorem dX7_sure_14 : decode cX7_sure 14 = .ok (.iconst 0, 1) := by decide +kernel
theorem dX7_sure_15 : decode cX7_sure 15 = .ok (.istore 4, 2) := by decide +kernel
theorem dX7_sure_17 : decode cX7_sure 17 = .ok (.iload 4, 2) := by decide +kernel
theorem dX7_sure_19 : decode cX7_sure 19 = .ok (.bipush 6, 2) := by decide +kernel
theorem dX7_sure_21 : decode cX7_sure 21 = .ok (.if_icmp .ge 76, 3) := by decide +kernel
theorem dX7_sure_24 : decode cX7_sure 24 = .ok (.iconst 0, 1) := by decide +kernel
theorem dX7_sure_25 : decode cX7_sure 25 = .ok (.istore 5, 2) := by decide +kernel
theorem dX7_sure_27 : decode cX7_sure 27 = .ok (.iload 5, 2) := by decide +kernel
theorem dX7_sure_29 : decode cX7_sure 29 = .ok (.bipush 8, 2) := by decide +kernel
theorem dX7_sure_31 : decode cX7_sure 31 = .ok (.if_icmp .ge 60, 3) := by decide +kernel
theorem dX7_sure_34 : decode cX7_sure 34 = .ok (.aload_n 0, 1) := by decide +kernel
theorem dX7_sure_35 : decode cX7_sure 35 = .ok (.iload 4, 2) := by decide +kernel
theorem dX7_sure_37 : decode cX7_sure 37 = .ok (.iload 5, 2) := by decide +kernel
theorem dX7_sure_39 : decode cX7_sure 39 = .ok (.invokevirtual 131, 3) := by decide +kernel
theorem dX7_sure_42 : decode cX7_sure 42 = .ok (.ifCond .eq 43, 3) := by decide +kernel
theorem dX7_sure_45 : decode cX7_sure 45 = .ok (.iload_n 2, 1) := by decide +kernel
theorem dX7_sure_46 : decode cX7_sure 46 = .ok (.aload_n 0, 1) := by decide +kernel
theorem dX7_sure_47 : decode cX7_sure 47 = .ok (.iload 4, 2) := by decide +kernel
theorem dX7_sure_49 : decode cX7_sure 49 = .ok (.iload_n 1, 1) := by decide +kernel
theorem dX7_sure_50 : decode cX7_sure 50 = .ok (.invokevirtual 80, 3) := by decide +kernel
theorem dX7_sure_53 : decode cX7_sure 53 = .ok (.iload 5, 2) := by decide +kernel
theorem dX7_sure_55 : decode cX7_sure 55 = .ok (.if_icmp .ne 7, 3) := by decide +kernel
theorem dX7_sure_58 : decode cX7_sure 58 = .ok (.iconst 1, 1) := by decide +kernel
theorem dX7_sure_59 : decode cX7_sure 59 = .ok (.goto 4, 3) := by decide +kernel
theorem dX7_sure_62 : decode cX7_sure 62 = .ok (.iconst 0, 1) := by decide +kernel
theorem dX7_sure_63 : decode cX7_sure 63 = .ok (.iadd, 1) := by decide +kernel
theorem dX7_sure_64 : decode cX7_sure 64 = .ok (.istore_n 2, 1) := by decide +kernel
theorem dX7_sure_65 : decode cX7_sure 65 = .ok (.iload_n 3, 1) := by decide +kernel
theorem dX7_sure_66 : decode cX7_sure 66 = .ok (.aload_n 0, 1) := by decide +kernel
theorem dX7_sure_67 : decode cX7_sure 67 = .ok (.iload 4, 2) := by decide +kernel
theorem dX7_sure_69 : decode cX7_sure 69 = .ok (.iload_n 1, 1) := by decide +kernel
theorem dX7_sure_70 : decode cX7_sure 70 = .ok (.invokevirtual 80, 3) := by decide +kernel
theorem dX7_sure_73 : decode cX7_sure 73 = .ok (.iload 5, 2) := by decide +kernel
theorem dX7_sure_75 : decode cX7_sure 75 = .ok (.if_icmp .ne 7, 3) := by decide +kernel
theorem dX7_sure_78 : decode cX7_sure 78 = .ok (.iconst 0, 1) := by decide +kernel
theorem dX7_sure_79 : decode cX7_sure 79 = .ok (.goto 4, 3) := by decide +kernel
theorem dX7_sure_82 : decode cX7_sure 82 = .ok (.iconst 1, 1) := by decide +kernel
theorem dX7_sure_83 : decode cX7_sure 83 = .ok (.iadd, 1) := by decide +kernel
theorem dX7_sure_84 : decode cX7_sure 84 = .ok (.istore_n 3, 1) := by decide +kernel
theorem dX7_sure_85 : decode cX7_sure 85 = .ok (.iinc 5 1, 3) := by decide +kernel
theorem dX7_sure_88 : decode cX7_sure 88 = .ok (.goto (-61), 3) := by decide +kernel
theorem dX7_sure_91 : decode cX7_sure 91 = .ok (.iinc 4 1, 3) := by decide +kernel
theorem dX7_sure_94 : decode cX7_sure 94 = .ok (.goto (-77), 3) := by decide +kernel
theorem dX7_sure_97 : decode cX7_sure 97 = .ok (.iload_n 2, 1) := by decide +kernel
theorem dX7_sure_98 : decode cX7_sure 98 = .ok (.iload_n 3, 1) := by decide +kernel
theorem dX7_sure_99 : decode cX7_sure 99 = .ok (.iadd, 1) := by decide +kernel
theorem dX7_sure_100 : decode cX7_sure 100 = .ok (.ifCond .ne 8, 3) := by decide +kernel
theorem dX7_sure_103 : decode cX7_sure 103 = .ok (.bipush (-6), 2) := by decide +kernel
theorem dX7_sure_105 : decode cX7_sure 105 = .ok (.goto 20, 3) := by decide +kernel
theorem dX7_sure_108 : decode cX7_sure 108 = .ok (.iload_n 3, 1) := by decide +kernel
theorem dX7_sure_109 : decode cX7_sure 109 = .ok (.ifCond .ne 7, 3) := by decide +kernel
theorem dX7_sure_112 : decode cX7_sure 112 = .ok (.iconst 1, 1) := by decide +kernel
theorem dX7_sure_113 : decode cX7_sure 113 = .ok (.goto 12, 3) := by decide +kernel
theorem dX7_sure_116 : decode cX7_sure 116 = .ok (.iload_n 2, 1) := by decide +kernel
theorem dX7_sure_117 : decode cX7_sure 117 = .ok (.ifCond .ne 7, 3) := by decide +kernel
theorem dX7_sure_120 : decode cX7_sure 120 = .ok (.iconst 0, 1) := by decide +kernel
theorem dX7_sure_121 : decode cX7_sure 121 = .ok (.goto 4, 3) := by decide +kernel
theorem dX7_sure_124 : decode cX7_sure 124 = .ok (.iconst 2, 1) := by decide +kernel
theorem dX7_sure_125 : decode cX7_sure 125 = .ok (.ireturn, 1) := by decide +kernel
theorem dX7_newly_0 : decode cX7_newly 0 = .ok (.iconst 0, 1) := by decide +kernel
theorem dX7_newly_1 : decode cX7_newly 1 = .ok (.istore_n 3, 1) := by decide +kernel
theorem dX7_newly_2 : decode cX7_newly 2 = .ok (.iconst 0, 1) := by decide +kernel
theorem dX7_newly_3 : decode cX7_newly 3 = .ok (.istore 4, 2) := by decide +kernel
theorem dX7_newly_5 : decode cX7_newly 5 = .ok (.iload 4, 2) := by decide +kernel
theorem dX7_newly_7 : decode cX7_newly 7 = .ok (.bipush 14, 2) := by decide +kernel
theorem dX7_newly_9 : decode cX7_newly 9 = .ok (.if_icmp .ge 46, 3) := by decide +kernel
theorem dX7_newly_12 : decode cX7_newly 12 = .ok (.iconst 0, 1) := by decide +kernel
theorem dX7_newly_13 : decode cX7_newly 13 = .ok (.istore 5, 2) := by decide +kernel
theorem dX7_newly_15 : decode cX7_newly 15 = .ok (.iload 5, 2) := by decide +kernel
theorem dX7_newly_17 : decode cX7_newly 17 = .ok (.bipush 7, 2) := by decide +kernel
theorem dX7_newly_19 : decode cX7_newly 19 = .ok (.if_icmp .ge 30, 3) := by decide +kernel
theorem dX7_newly_22 : decode cX7_newly 22 = .ok (.iload_n 3, 1) := by decide +kernel
theorem dX7_newly_23 : decode cX7_newly 23 = .ok (.iload 4, 2) := by decide +kernel
theorem dX7_newly_25 : decode cX7_newly 25 = .ok (.iload_n 1, 1) := by decide +kernel
theorem dX7_newly_26 : decode cX7_newly 26 = .ok (.iload 5, 2) := by decide +kernel
theorem dX7_newly_28 : decode cX7_newly 28 = .ok (.isub, 1) := by decide +kernel
theorem dX7_newly_29 : decode cX7_newly 29 = .ok (.invokestatic 119, 3) := by decide +kernel
theorem dX7_newly_32 : decode cX7_newly 32 = .ok (.iload_n 0, 1) := by decide +kernel
theorem dX7_newly_33 : decode cX7_newly 33 = .ok (.if_icmp .ne 7, 3) := by decide +kernel
theorem dX7_newly_36 : decode cX7_newly 36 = .ok (.iconst 1, 1) := by decide +kernel
theorem dX7_newly_37 : decode cX7_newly 37 = .ok (.goto 4, 3) := by decide +kernel
theorem dX7_newly_40 : decode cX7_newly 40 = .ok (.iconst 0, 1) := by decide +kernel
theorem dX7_newly_41 : decode cX7_newly 41 = .ok (.iadd, 1) := by decide +kernel
theorem dX7_newly_42 : decode cX7_newly 42 = .ok (.istore_n 3, 1) := by decide +kernel
theorem dX7_newly_43 : decode cX7_newly 43 = .ok (.iinc 5 1, 3) := by decide +kernel
theorem dX7_newly_46 : decode cX7_newly 46 = .ok (.goto (-31), 3) := by decide +kernel
theorem dX7_newly_49 : decode cX7_newly 49 = .ok (.iinc 4 1, 3) := by decide +kernel
theorem dX7_newly_52 : decode cX7_newly 52 = .ok (.goto (-47), 3) := by decide +kernel
theorem dX7_newly_55 : decode cX7_newly 55 = .ok (.iload_n 3, 1) := by decide +kernel
theorem dX7_newly_56 : decode cX7_newly 56 = .ok (.istore 4, 2) := by decide +kernel
theorem dX7_newly_58 : decode cX7_newly 58 = .ok (.bipush 98, 2) := by decide +kernel
theorem dX7_newly_60 : decode cX7_newly 60 = .ok (.istore 5, 2) := by decide +kernel
theorem dX7_newly_62 : decode cX7_newly 62 = .ok (.iload 5, 2) := by decide +kernel
theorem dX7_newly_64 : decode cX7_newly 64 = .ok (.ifCond .eq 21, 3) := by decide +kernel
theorem dX7_newly_67 : decode cX7_newly 67 = .ok (.iload 4, 2) := by decide +kernel
theorem dX7_newly_69 : decode cX7_newly 69 = .ok (.iload 5, 2) := by decide +kernel
theorem dX7_newly_71 : decode cX7_newly 71 = .ok (.irem, 1) := by decide +kernel
theorem dX7_newly_72 : decode cX7_newly 72 = .ok (.istore 6, 2) := by decide +kernel
theorem dX7_newly_74 : decode cX7_newly 74 = .ok (.iload 5, 2) := by decide +kernel
theorem dX7_newly_76 : decode cX7_newly 76 = .ok (.istore 4, 2) := by decide +kernel
theorem dX7_newly_78 : decode cX7_newly 78 = .ok (.iload 6, 2) := by decide +kernel
theorem dX7_newly_80 : decode cX7_newly 80 = .ok (.istore 5, 2) := by decide +kernel
theorem dX7_newly_82 : decode cX7_newly 82 = .ok (.goto (-20), 3) := by decide +kernel
theorem dX7_newly_85 : decode cX7_newly 85 = .ok (.iload_n 2, 1) := by decide +kernel
theorem dX7_newly_86 : decode cX7_newly 86 = .ok (.ifCond .ne 11, 3) := by decide +kernel
theorem dX7_newly_89 : decode cX7_newly 89 = .ok (.iload_n 3, 1) := by decide +kernel
theorem dX7_newly_90 : decode cX7_newly 90 = .ok (.iload 4, 2) := by decide +kernel
theorem dX7_newly_92 : decode cX7_newly 92 = .ok (.idiv, 1) := by decide +kernel
theorem dX7_newly_93 : decode cX7_newly 93 = .ok (.i2l, 1) := by decide +kernel
theorem dX7_newly_94 : decode cX7_newly 94 = .ok (.goto 9, 3) := by decide +kernel
theorem dX7_newly_97 : decode cX7_newly 97 = .ok (.bipush 98, 2) := by decide +kernel
theorem dX7_newly_99 : decode cX7_newly 99 = .ok (.iload 4, 2) := by decide +kernel
theorem dX7_newly_101 : decode cX7_newly 101 = .ok (.idiv, 1) := by decide +kernel
theorem dX7_newly_102 : decode cX7_newly 102 = .ok (.i2l, 1) := by decide +kernel
theorem dX7_newly_103 : decode cX7_newly 103 = .ok (.lreturn, 1) := by decide +kernel
theorem dX7_chance_0 : decode cX7_chance 0 = .ok (.iload_n 1, 1) := by decide +kernel
theorem dX7_chance_1 : decode cX7_chance 1 = .ok (.invokestatic 56, 3) := by decide +kernel
theorem dX7_chance_4 : decode cX7_chance 4 = .ok (.ifCond .ne 7, 3) := by decide +kernel
theorem dX7_chance_7 : decode cX7_chance 7 = .ok (.ldc2_w 134, 3) := by decide +kernel
theorem dX7_chance_10 : decode cX7_chance 10 = .ok (.lreturn, 1) := by decide +kernel
theorem dX7_chance_11 : decode cX7_chance 11 = .ok (.iload_n 2, 1) := by decide +kernel
theorem dX7_chance_12 : decode cX7_chance 12 = .ok (.invokestatic 77, 3) := by decide +kernel
theorem dX7_chance_15 : decode cX7_chance 15 = .ok (.ifCond .eq 21, 3) := by decide +kernel
theorem dX7_chance_18 : decode cX7_chance 18 = .ok (.iload_n 3, 1) := by decide +kernel
theorem dX7_chance_19 : decode cX7_chance 19 = .ok (.iconst 0, 1) := by decide +kernel
theorem dX7_chance_20 : decode cX7_chance 20 = .ok (.iconst 1, 1) := by decide +kernel
theorem dX7_chance_21 : decode cX7_chance 21 = .ok (.invokestatic 45, 3) := by decide +kernel
theorem dX7_chance_24 : decode cX7_chance 24 = .ok (.ifCond .eq 12, 3) := by decide +kernel
theorem dX7_chance_27 : decode cX7_chance 27 = .ok (.iload_n 1, 1) := by decide +kernel
theorem dX7_chance_28 : decode cX7_chance 28 = .ok (.iload_n 2, 1) := by decide +kernel
theorem dX7_chance_29 : decode cX7_chance 29 = .ok (.iload_n 3, 1) := by decide +kernel
theorem dX7_chance_30 : decode cX7_chance 30 = .ok (.invokestatic 136, 3) := by decide +kernel
theorem dX7_chance_33 : decode cX7_chance 33 = .ok (.goto 6, 3) := by decide +kernel
theorem dX7_chance_36 : decode cX7_chance 36 = .ok (.ldc2_w 140, 3) := by decide +kernel
theorem dX7_chance_39 : decode cX7_chance 39 = .ok (.lreturn, 1) := by decide +kernel
theorem dX7_shares_0 : decode cX7_shares 0 = .ok (.aload_n 0, 1) := by decide +kernel
theorem dX7_shares_1 : decode cX7_shares 1 = .ok (.iload_n 1, 1) := by decide +kernel
theorem dX7_shares_2 : decode cX7_shares 2 = .ok (.invokevirtual 67, 3) := by decide +kernel
theorem dX7_shares_5 : decode cX7_shares 5 = .ok (.ifCond .ne 7, 3) := by decide +kernel
theorem dX7_shares_8 : decode cX7_shares 8 = .ok (.ldc2_w 134, 3) := by decide +kernel
theorem dX7_shares_11 : decode cX7_shares 11 = .ok (.lreturn, 1) := by decide +kernel
theorem dX7_shares_12 : decode cX7_shares 12 = .ok (.iload_n 2, 1) := by decide +kernel
theorem dX7_shares_13 : decode cX7_shares 13 = .ok (.invokestatic 77, 3) := by decide +kernel
theorem dX7_shares_16 : decode cX7_shares 16 = .ok (.ifCond .eq 26, 3) := by decide +kernel
theorem dX7_shares_19 : decode cX7_shares 19 = .ok (.iload_n 3, 1) := by decide +kernel
theorem dX7_shares_20 : decode cX7_shares 20 = .ok (.iconst 0, 1) := by decide +kernel
theorem dX7_shares_21 : decode cX7_shares 21 = .ok (.iconst 1, 1) := by decide +kernel
theorem dX7_shares_22 : decode cX7_shares 22 = .ok (.invokestatic 45, 3) := by decide +kernel
theorem dX7_shares_25 : decode cX7_shares 25 = .ok (.ifCond .eq 17, 3) := by decide +kernel
theorem dX7_shares_28 : decode cX7_shares 28 = .ok (.aload_n 0, 1) := by decide +kernel
theorem dX7_shares_29 : decode cX7_shares 29 = .ok (.iload_n 1, 1) := by decide +kernel
theorem dX7_shares_30 : decode cX7_shares 30 = .ok (.iload_n 2, 1) := by decide +kernel
theorem dX7_shares_31 : decode cX7_shares 31 = .ok (.invokevirtual 80, 3) := by decide +kernel
theorem dX7_shares_34 : decode cX7_shares 34 = .ok (.iload_n 2, 1) := by decide +kernel
theorem dX7_shares_35 : decode cX7_shares 35 = .ok (.iload_n 3, 1) := by decide +kernel
theorem dX7_shares_36 : decode cX7_shares 36 = .ok (.invokestatic 136, 3) := by decide +kernel
theorem dX7_shares_39 : decode cX7_shares 39 = .ok (.goto 6, 3) := by decide +kernel
theorem dX7_shares_42 : decode cX7_shares 42 = .ok (.ldc2_w 140, 3) := by decide +kernel
theorem dX7_shares_45 : decode cX7_shares 45 = .ok (.lreturn, 1) := by decide +kernel
theorem dX7_year_0 : decode cX7_year 0 = .ok (.iload_n 1, 1) := by decide +kernel
theorem dX7_year_1 : decode cX7_year 1 = .ok (.iconst 0, 1) := by decide +kernel
theorem dX7_year_2 : decode cX7_year 2 = .ok (.sipush 9999, 3) := by decide +kernel
theorem dX7_year_5 : decode cX7_year 5 = .ok (.invokestatic 45, 3) := by decide +kernel
theorem dX7_year_8 : decode cX7_year 8 = .ok (.ifCond .eq 23, 3) := by decide +kernel
theorem dX7_year_11 : decode cX7_year 11 = .ok (.iload_n 2, 1) := by decide +kernel
theorem dX7_year_12 : decode cX7_year 12 = .ok (.iconst 1, 1) := by decide +kernel
theorem dX7_year_13 : decode cX7_year 13 = .ok (.sipush 999, 3) := by decide +kernel
theorem dX7_year_16 : decode cX7_year 16 = .ok (.invokestatic 45, 3) := by decide +kernel
theorem dX7_year_19 : decode cX7_year 19 = .ok (.ifCond .eq 12, 3) := by decide +kernel
theorem dX7_year_22 : decode cX7_year 22 = .ok (.iload_n 3, 1) := by decide +kernel
theorem dX7_year_23 : decode cX7_year 23 = .ok (.iconst 0, 1) := by decide +kernel
theorem dX7_year_24 : decode cX7_year 24 = .ok (.iconst 2, 1) := by decide +kernel
theorem dX7_year_25 : decode cX7_year 25 = .ok (.invokestatic 45, 3) := by decide +kernel
theorem dX7_year_28 : decode cX7_year 28 = .ok (.ifCond .ne 6, 3) := by decide +kernel
theorem dX7_year_31 : decode cX7_year 31 = .ok (.bipush (-2), 2) := by decide +kernel
theorem dX7_year_33 : decode cX7_year 33 = .ok (.ireturn, 1) := by decide +kernel
theorem dX7_year_34 : decode cX7_year 34 = .ok (.iload_n 1, 1) := by decide +kernel
theorem dX7_year_35 : decode cX7_year 35 = .ok (.istore 4, 2) := by decide +kernel
theorem dX7_year_37 : decode cX7_year 37 = .ok (.iconst 0, 1) := by decide +kernel
theorem dX7_year_38 : decode cX7_year 38 = .ok (.istore 5, 2) := by decide +kernel
theorem dX7_year_40 : decode cX7_year 40 = .ok (.iconst 0, 1) := by decide +kernel
theorem dX7_year_41 : decode cX7_year 41 = .ok (.istore 6, 2) := by decide +kernel
theorem dX7_year_43 : decode cX7_year 43 = .ok (.bipush (-6), 2) := by decide +kernel
theorem dX7_year_45 : decode cX7_year 45 = .ok (.istore 7, 2) := by decide +kernel
theorem dX7_year_47 : decode cX7_year 47 = .ok (.iconst 0, 1) := by decide +kernel
theorem dX7_year_48 : decode cX7_year 48 = .ok (.istore 8, 2) := by decide +kernel
theorem dX7_year_50 : decode cX7_year 50 = .ok (.iconst 0, 1) := by decide +kernel
theorem dX7_year_51 : decode cX7_year 51 = .ok (.istore 9, 2) := by decide +kernel
theorem dX7_year_53 : decode cX7_year 53 = .ok (.iload 9, 2) := by decide +kernel
theorem dX7_year_55 : decode cX7_year 55 = .ok (.iload_n 2, 1) := by decide +kernel
theorem dX7_year_56 : decode cX7_year 56 = .ok (.if_icmp .ge 138, 3) := by decide +kernel
theorem dX7_year_59 : decode cX7_year 59 = .ok (.bipush 75, 2) := by decide +kernel
theorem dX7_year_61 : decode cX7_year 61 = .ok (.iload 4, 2) := by decide +kernel
theorem dX7_year_63 : decode cX7_year 63 = .ok (.imul, 1) := by decide +kernel
theorem dX7_year_64 : decode cX7_year 64 = .ok (.bipush 74, 2) := by decide +kernel
theorem dX7_year_66 : decode cX7_year 66 = .ok (.iadd, 1) := by decide +kernel
theorem dX7_year_67 : decode cX7_year 67 = .ok (.ldc 142, 2) := by decide +kernel
theorem dX7_year_69 : decode cX7_year 69 = .ok (.irem, 1) := by decide +kernel
theorem dX7_year_70 : decode cX7_year 70 = .ok (.istore 4, 2) := by decide +kernel
theorem dX7_year_72 : decode cX7_year 72 = .ok (.iload 4, 2) := by decide +kernel
theorem dX7_year_74 : decode cX7_year 74 = .ok (.bipush 6, 2) := by decide +kernel
theorem dX7_year_76 : decode cX7_year 76 = .ok (.irem, 1) := by decide +kernel
theorem dX7_year_77 : decode cX7_year 77 = .ok (.istore 10, 2) := by decide +kernel
theorem dX7_year_79 : decode cX7_year 79 = .ok (.iload 4, 2) := by decide +kernel
theorem dX7_year_81 : decode cX7_year 81 = .ok (.bipush 6, 2) := by decide +kernel
theorem dX7_year_83 : decode cX7_year 83 = .ok (.idiv, 1) := by decide +kernel
theorem dX7_year_84 : decode cX7_year 84 = .ok (.bipush 6, 2) := by decide +kernel
theorem dX7_year_86 : decode cX7_year 86 = .ok (.irem, 1) := by decide +kernel
theorem dX7_year_87 : decode cX7_year 87 = .ok (.istore 11, 2) := by decide +kernel
theorem dX7_year_89 : decode cX7_year 89 = .ok (.iload 10, 2) := by decide +kernel
theorem dX7_year_91 : decode cX7_year 91 = .ok (.iload 11, 2) := by decide +kernel
theorem dX7_year_93 : decode cX7_year 93 = .ok (.if_icmp .eq 95, 3) := by decide +kernel
theorem dX7_year_96 : decode cX7_year 96 = .ok (.aload_n 0, 1) := by decide +kernel
theorem dX7_year_97 : decode cX7_year 97 = .ok (.getfield 41, 3) := by decide +kernel
theorem dX7_year_100 : decode cX7_year 100 = .ok (.iload 10, 2) := by decide +kernel
theorem dX7_year_102 : decode cX7_year 102 = .ok (.invokestatic 49, 3) := by decide +kernel
theorem dX7_year_105 : decode cX7_year 105 = .ok (.ifCond .eq 83, 3) := by decide +kernel
theorem dX7_year_108 : decode cX7_year 108 = .ok (.aload_n 0, 1) := by decide +kernel
theorem dX7_year_109 : decode cX7_year 109 = .ok (.getfield 41, 3) := by decide +kernel
theorem dX7_year_112 : decode cX7_year 112 = .ok (.iload 11, 2) := by decide +kernel
theorem dX7_year_114 : decode cX7_year 114 = .ok (.invokestatic 49, 3) := by decide +kernel
theorem dX7_year_117 : decode cX7_year 117 = .ok (.ifCond .eq 71, 3) := by decide +kernel
theorem dX7_year_120 : decode cX7_year 120 = .ok (.aload_n 0, 1) := by decide +kernel
theorem dX7_year_121 : decode cX7_year 121 = .ok (.iload 10, 2) := by decide +kernel
theorem dX7_year_123 : decode cX7_year 123 = .ok (.iload 9, 2) := by decide +kernel
theorem dX7_year_125 : decode cX7_year 125 = .ok (.invokevirtual 80, 3) := by decide +kernel
theorem dX7_year_128 : decode cX7_year 128 = .ok (.aload_n 0, 1) := by decide +kernel
theorem dX7_year_129 : decode cX7_year 129 = .ok (.iload 11, 2) := by decide +kernel
theorem dX7_year_131 : decode cX7_year 131 = .ok (.iload 9, 2) := by decide +kernel
theorem dX7_year_133 : decode cX7_year 133 = .ok (.invokevirtual 80, 3) := by decide +kernel
theorem dX7_year_136 : decode cX7_year 136 = .ok (.if_icmp .ne 52, 3) := by decide +kernel
theorem dX7_year_139 : decode cX7_year 139 = .ok (.iinc 5 1, 3) := by decide +kernel
theorem dX7_year_142 : decode cX7_year 142 = .ok (.iload 6, 2) := by decide +kernel
theorem dX7_year_144 : decode cX7_year 144 = .ok (.iconst 1, 1) := by decide +kernel
theorem dX7_year_145 : decode cX7_year 145 = .ok (.aload_n 0, 1) := by decide +kernel
theorem dX7_year_146 : decode cX7_year 146 = .ok (.iload 10, 2) := by decide +kernel
theorem dX7_year_148 : decode cX7_year 148 = .ok (.iload 9, 2) := by decide +kernel
theorem dX7_year_150 : decode cX7_year 150 = .ok (.invokevirtual 80, 3) := by decide +kernel
theorem dX7_year_153 : decode cX7_year 153 = .ok (.ishl, 1) := by decide +kernel
theorem dX7_year_154 : decode cX7_year 154 = .ok (.ior, 1) := by decide +kernel
theorem dX7_year_155 : decode cX7_year 155 = .ok (.istore 6, 2) := by decide +kernel
theorem dX7_year_157 : decode cX7_year 157 = .ok (.iload 7, 2) := by decide +kernel
theorem dX7_year_159 : decode cX7_year 159 = .ok (.ifCond .lt 21, 3) := by decide +kernel
theorem dX7_year_162 : decode cX7_year 162 = .ok (.iload 9, 2) := by decide +kernel
theorem dX7_year_164 : decode cX7_year 164 = .ok (.iload 7, 2) := by decide +kernel
theorem dX7_year_166 : decode cX7_year 166 = .ok (.isub, 1) := by decide +kernel
theorem dX7_year_167 : decode cX7_year 167 = .ok (.iload 8, 2) := by decide +kernel
theorem dX7_year_169 : decode cX7_year 169 = .ok (.if_icmp .le 11, 3) := by decide +kernel
theorem dX7_year_172 : decode cX7_year 172 = .ok (.iload 9, 2) := by decide +kernel
theorem dX7_year_174 : decode cX7_year 174 = .ok (.iload 7, 2) := by decide +kernel
theorem dX7_year_176 : decode cX7_year 176 = .ok (.isub, 1) := by decide +kernel
theorem dX7_year_177 : decode cX7_year 177 = .ok (.goto 5, 3) := by decide +kernel
theorem dX7_year_180 : decode cX7_year 180 = .ok (.iload 8, 2) := by decide +kernel
theorem dX7_year_182 : decode cX7_year 182 = .ok (.istore 8, 2) := by decide +kernel
theorem dX7_year_184 : decode cX7_year 184 = .ok (.iload 9, 2) := by decide +kernel
theorem dX7_year_186 : decode cX7_year 186 = .ok (.istore 7, 2) := by decide +kernel
theorem dX7_year_188 : decode cX7_year 188 = .ok (.iinc 9 1, 3) := by decide +kernel
theorem dX7_year_191 : decode cX7_year 191 = .ok (.goto (-138), 3) := by decide +kernel
theorem dX7_year_194 : decode cX7_year 194 = .ok (.iload_n 3, 1) := by decide +kernel
theorem dX7_year_195 : decode cX7_year 195 = .ok (.ifCond .ne 8, 3) := by decide +kernel
theorem dX7_year_198 : decode cX7_year 198 = .ok (.iload 5, 2) := by decide +kernel
theorem dX7_year_200 : decode cX7_year 200 = .ok (.goto 18, 3) := by decide +kernel
theorem dX7_year_203 : decode cX7_year 203 = .ok (.iload_n 3, 1) := by decide +kernel
theorem dX7_year_204 : decode cX7_year 204 = .ok (.iconst 1, 1) := by decide +kernel
theorem dX7_year_205 : decode cX7_year 205 = .ok (.if_icmp .ne 11, 3) := by decide +kernel
theorem dX7_year_208 : decode cX7_year 208 = .ok (.iload 6, 2) := by decide +kernel
theorem dX7_year_210 : decode cX7_year 210 = .ok (.invokestatic 70, 3) := by decide +kernel
theorem dX7_year_213 : decode cX7_year 213 = .ok (.goto 5, 3) := by decide +kernel
theorem dX7_year_216 : decode cX7_year 216 = .ok (.iload 8, 2) := by decide +kernel
theorem dX7_year_218 : decode cX7_year 218 = .ok (.ireturn, 1) := by decide +kernel
theorem dX7_image_0 : decode cX7_image 0 = .ok (.iload_n 1, 1) := by decide +kernel
theorem dX7_image_1 : decode cX7_image 1 = .ok (.iconst 0, 1) := by decide +kernel
theorem dX7_image_2 : decode cX7_image 2 = .ok (.iconst 1, 1) := by decide +kernel
theorem dX7_image_3 : decode cX7_image 3 = .ok (.invokestatic 45, 3) := by decide +kernel
theorem dX7_image_6 : decode cX7_image 6 = .ok (.ifCond .ne 6, 3) := by decide +kernel
theorem dX7_image_9 : decode cX7_image 9 = .ok (.bipush (-2), 2) := by decide +kernel
theorem dX7_image_11 : decode cX7_image 11 = .ok (.ireturn, 1) := by decide +kernel
theorem dX7_image_12 : decode cX7_image 12 = .ok (.bipush 100, 2) := by decide +kernel
theorem dX7_image_14 : decode cX7_image 14 = .ok (.iload_n 1, 1) := by decide +kernel
theorem dX7_image_15 : decode cX7_image 15 = .ok (.imul, 1) := by decide +kernel
theorem dX7_image_16 : decode cX7_image 16 = .ok (.istore_n 2, 1) := by decide +kernel
theorem dX7_image_17 : decode cX7_image 17 = .ok (.iconst 0, 1) := by decide +kernel
theorem dX7_image_18 : decode cX7_image 18 = .ok (.istore_n 3, 1) := by decide +kernel
theorem dX7_image_19 : decode cX7_image 19 = .ok (.iload_n 3, 1) := by decide +kernel
theorem dX7_image_20 : decode cX7_image 20 = .ok (.bipush 48, 2) := by decide +kernel
theorem dX7_image_22 : decode cX7_image 22 = .ok (.if_icmp .ge 23, 3) := by decide +kernel
theorem dX7_image_25 : decode cX7_image 25 = .ok (.aload_n 0, 1) := by decide +kernel
theorem dX7_image_26 : decode cX7_image 26 = .ok (.getfield 34, 3) := by decide +kernel
theorem dX7_image_29 : decode cX7_image 29 = .ok (.iload_n 2, 1) := by decide +kernel
theorem dX7_image_30 : decode cX7_image 30 = .ok (.iload_n 3, 1) := by decide +kernel
theorem dX7_image_31 : decode cX7_image 31 = .ok (.iadd, 1) := by decide +kernel
theorem dX7_image_32 : decode cX7_image 32 = .ok (.aload_n 0, 1) := by decide +kernel
theorem dX7_image_33 : decode cX7_image 33 = .ok (.getfield 7, 3) := by decide +kernel
theorem dX7_image_36 : decode cX7_image 36 = .ok (.iload_n 3, 1) := by decide +kernel
theorem dX7_image_37 : decode cX7_image 37 = .ok (.iaload, 1) := by decide +kernel
theorem dX7_image_38 : decode cX7_image 38 = .ok (.iastore, 1) := by decide +kernel
theorem dX7_image_39 : decode cX7_image 39 = .ok (.iinc 3 1, 3) := by decide +kernel
theorem dX7_image_42 : decode cX7_image 42 = .ok (.goto (-23), 3) := by decide +kernel
theorem dX7_image_45 : decode cX7_image 45 = .ok (.iconst 0, 1) := by decide +kernel
theorem dX7_image_46 : decode cX7_image 46 = .ok (.istore_n 3, 1) := by decide +kernel
theorem dX7_image_47 : decode cX7_image 47 = .ok (.iload_n 3, 1) := by decide +kernel
theorem dX7_image_48 : decode cX7_image 48 = .ok (.bipush 6, 2) := by decide +kernel
theorem dX7_image_50 : decode cX7_image 50 = .ok (.if_icmp .ge 77, 3) := by decide +kernel
theorem dX7_image_53 : decode cX7_image 53 = .ok (.aload_n 0, 1) := by decide +kernel
theorem dX7_image_54 : decode cX7_image 54 = .ok (.getfield 34, 3) := by decide +kernel
theorem dX7_image_57 : decode cX7_image 57 = .ok (.iload_n 2, 1) := by decide +kernel
theorem dX7_image_58 : decode cX7_image 58 = .ok (.bipush 48, 2) := by decide +kernel
theorem dX7_image_60 : decode cX7_image 60 = .ok (.iadd, 1) := by decide +kernel
theorem dX7_image_61 : decode cX7_image 61 = .ok (.iload_n 3, 1) := by decide +kernel
theorem dX7_image_62 : decode cX7_image 62 = .ok (.iadd, 1) := by decide +kernel
theorem dX7_image_63 : decode cX7_image 63 = .ok (.aload_n 0, 1) := by decide +kernel
theorem dX7_image_64 : decode cX7_image 64 = .ok (.getfield 13, 3) := by decide +kernel
theorem dX7_image_67 : decode cX7_image 67 = .ok (.iload_n 3, 1) := by decide +kernel
theorem dX7_image_68 : decode cX7_image 68 = .ok (.iaload, 1) := by decide +kernel
theorem dX7_image_69 : decode cX7_image 69 = .ok (.iastore, 1) := by decide +kernel
theorem dX7_image_70 : decode cX7_image 70 = .ok (.aload_n 0, 1) := by decide +kernel
theorem dX7_image_71 : decode cX7_image 71 = .ok (.getfield 34, 3) := by decide +kernel
theorem dX7_image_74 : decode cX7_image 74 = .ok (.iload_n 2, 1) := by decide +kernel
theorem dX7_image_75 : decode cX7_image 75 = .ok (.bipush 54, 2) := by decide +kernel
theorem dX7_image_77 : decode cX7_image 77 = .ok (.iadd, 1) := by decide +kernel
theorem dX7_image_78 : decode cX7_image 78 = .ok (.iload_n 3, 1) := by decide +kernel
theorem dX7_image_79 : decode cX7_image 79 = .ok (.iadd, 1) := by decide +kernel
theorem dX7_image_80 : decode cX7_image 80 = .ok (.aload_n 0, 1) := by decide +kernel
theorem dX7_image_81 : decode cX7_image 81 = .ok (.getfield 16, 3) := by decide +kernel
theorem dX7_image_84 : decode cX7_image 84 = .ok (.iload_n 3, 1) := by decide +kernel
theorem dX7_image_85 : decode cX7_image 85 = .ok (.iaload, 1) := by decide +kernel
theorem dX7_image_86 : decode cX7_image 86 = .ok (.iastore, 1) := by decide +kernel
theorem dX7_image_87 : decode cX7_image 87 = .ok (.aload_n 0, 1) := by decide +kernel
theorem dX7_image_88 : decode cX7_image 88 = .ok (.getfield 34, 3) := by decide +kernel
theorem dX7_image_91 : decode cX7_image 91 = .ok (.iload_n 2, 1) := by decide +kernel
theorem dX7_image_92 : decode cX7_image 92 = .ok (.bipush 60, 2) := by decide +kernel
theorem dX7_image_94 : decode cX7_image 94 = .ok (.iadd, 1) := by decide +kernel
theorem dX7_image_95 : decode cX7_image 95 = .ok (.iload_n 3, 1) := by decide +kernel
theorem dX7_image_96 : decode cX7_image 96 = .ok (.iadd, 1) := by decide +kernel
theorem dX7_image_97 : decode cX7_image 97 = .ok (.aload_n 0, 1) := by decide +kernel
theorem dX7_image_98 : decode cX7_image 98 = .ok (.getfield 19, 3) := by decide +kernel
theorem dX7_image_101 : decode cX7_image 101 = .ok (.iload_n 3, 1) := by decide +kernel
theorem dX7_image_102 : decode cX7_image 102 = .ok (.iaload, 1) := by decide +kernel
theorem dX7_image_103 : decode cX7_image 103 = .ok (.iastore, 1) := by decide +kernel
theorem dX7_image_104 : decode cX7_image 104 = .ok (.aload_n 0, 1) := by decide +kernel
theorem dX7_image_105 : decode cX7_image 105 = .ok (.getfield 34, 3) := by decide +kernel
theorem dX7_image_108 : decode cX7_image 108 = .ok (.iload_n 2, 1) := by decide +kernel
theorem dX7_image_109 : decode cX7_image 109 = .ok (.bipush 66, 2) := by decide +kernel
theorem dX7_image_111 : decode cX7_image 111 = .ok (.iadd, 1) := by decide +kernel
theorem dX7_image_112 : decode cX7_image 112 = .ok (.iload_n 3, 1) := by decide +kernel
theorem dX7_image_113 : decode cX7_image 113 = .ok (.iadd, 1) := by decide +kernel
theorem dX7_image_114 : decode cX7_image 114 = .ok (.aload_n 0, 1) := by decide +kernel
theorem dX7_image_115 : decode cX7_image 115 = .ok (.getfield 22, 3) := by decide +kernel
theorem dX7_image_118 : decode cX7_image 118 = .ok (.iload_n 3, 1) := by decide +kernel
theorem dX7_image_119 : decode cX7_image 119 = .ok (.iaload, 1) := by decide +kernel
theorem dX7_image_120 : decode cX7_image 120 = .ok (.iastore, 1) := by decide +kernel
theorem dX7_image_121 : decode cX7_image 121 = .ok (.iinc 3 1, 3) := by decide +kernel
theorem dX7_image_124 : decode cX7_image 124 = .ok (.goto (-77), 3) := by decide +kernel
theorem dX7_image_127 : decode cX7_image 127 = .ok (.iconst 0, 1) := by decide +kernel
theorem dX7_image_128 : decode cX7_image 128 = .ok (.istore_n 3, 1) := by decide +kernel
theorem dX7_image_129 : decode cX7_image 129 = .ok (.iload_n 3, 1) := by decide +kernel
theorem dX7_image_130 : decode cX7_image 130 = .ok (.bipush 12, 2) := by decide +kernel
theorem dX7_image_132 : decode cX7_image 132 = .ok (.if_icmp .ge 26, 3) := by decide +kernel
theorem dX7_image_135 : decode cX7_image 135 = .ok (.aload_n 0, 1) := by decide +kernel
theorem dX7_image_136 : decode cX7_image 136 = .ok (.getfield 34, 3) := by decide +kernel
theorem dX7_image_139 : decode cX7_image 139 = .ok (.iload_n 2, 1) := by decide +kernel
theorem dX7_image_140 : decode cX7_image 140 = .ok (.bipush 72, 2) := by decide +kernel
theorem dX7_image_142 : decode cX7_image 142 = .ok (.iadd, 1) := by decide +kernel
theorem dX7_image_143 : decode cX7_image 143 = .ok (.iload_n 3, 1) := by decide +kernel
theorem dX7_image_144 : decode cX7_image 144 = .ok (.iadd, 1) := by decide +kernel
theorem dX7_image_145 : decode cX7_image 145 = .ok (.aload_n 0, 1) := by decide +kernel
theorem dX7_image_146 : decode cX7_image 146 = .ok (.getfield 25, 3) := by decide +kernel
theorem dX7_image_149 : decode cX7_image 149 = .ok (.iload_n 3, 1) := by decide +kernel
theorem dX7_image_150 : decode cX7_image 150 = .ok (.iaload, 1) := by decide +kernel
theorem dX7_image_151 : decode cX7_image 151 = .ok (.iastore, 1) := by decide +kernel
theorem dX7_image_152 : decode cX7_image 152 = .ok (.iinc 3 1, 3) := by decide +kernel
theorem dX7_image_155 : decode cX7_image 155 = .ok (.goto (-26), 3) := by decide +kernel
theorem dX7_image_158 : decode cX7_image 158 = .ok (.aload_n 0, 1) := by decide +kernel
theorem dX7_image_159 : decode cX7_image 159 = .ok (.getfield 34, 3) := by decide +kernel
theorem dX7_image_162 : decode cX7_image 162 = .ok (.iload_n 2, 1) := by decide +kernel
theorem dX7_image_163 : decode cX7_image 163 = .ok (.bipush 84, 2) := by decide +kernel
theorem dX7_image_165 : decode cX7_image 165 = .ok (.iadd, 1) := by decide +kernel
theorem dX7_image_166 : decode cX7_image 166 = .ok (.aload_n 0, 1) := by decide +kernel
theorem dX7_image_167 : decode cX7_image 167 = .ok (.getfield 41, 3) := by decide +kernel
theorem dX7_image_170 : decode cX7_image 170 = .ok (.iastore, 1) := by decide +kernel
theorem dX7_image_171 : decode cX7_image 171 = .ok (.aload_n 0, 1) := by decide +kernel
theorem dX7_image_172 : decode cX7_image 172 = .ok (.getfield 34, 3) := by decide +kernel
theorem dX7_image_175 : decode cX7_image 175 = .ok (.iload_n 2, 1) := by decide +kernel
theorem dX7_image_176 : decode cX7_image 176 = .ok (.bipush 85, 2) := by decide +kernel
theorem dX7_image_178 : decode cX7_image 178 = .ok (.iadd, 1) := by decide +kernel
theorem dX7_image_179 : decode cX7_image 179 = .ok (.aload_n 0, 1) := by decide +kernel
theorem dX7_image_180 : decode cX7_image 180 = .ok (.getfield 74, 3) := by decide +kernel
theorem dX7_image_183 : decode cX7_image 183 = .ok (.iastore, 1) := by decide +kernel
theorem dX7_image_184 : decode cX7_image 184 = .ok (.aload_n 0, 1) := by decide +kernel
theorem dX7_image_185 : decode cX7_image 185 = .ok (.getfield 34, 3) := by decide +kernel
theorem dX7_image_188 : decode cX7_image 188 = .ok (.iload_n 2, 1) := by decide +kernel
theorem dX7_image_189 : decode cX7_image 189 = .ok (.bipush 86, 2) := by decide +kernel
theorem dX7_image_191 : decode cX7_image 191 = .ok (.iadd, 1) := by decide +kernel
theorem dX7_image_192 : decode cX7_image 192 = .ok (.aload_n 0, 1) := by decide +kernel
theorem dX7_image_193 : decode cX7_image 193 = .ok (.getfield 128, 3) := by decide +kernel
theorem dX7_image_196 : decode cX7_image 196 = .ok (.iastore, 1) := by decide +kernel
theorem dX7_image_197 : decode cX7_image 197 = .ok (.aload_n 0, 1) := by decide +kernel
theorem dX7_image_198 : decode cX7_image 198 = .ok (.getfield 37, 3) := by decide +kernel
theorem dX7_image_201 : decode cX7_image 201 = .ok (.iload_n 1, 1) := by decide +kernel
theorem dX7_image_202 : decode cX7_image 202 = .ok (.iconst 1, 1) := by decide +kernel
theorem dX7_image_203 : decode cX7_image 203 = .ok (.bastore, 1) := by decide +kernel
theorem dX7_image_204 : decode cX7_image 204 = .ok (.iconst 1, 1) := by decide +kernel
theorem dX7_image_205 : decode cX7_image 205 = .ok (.ireturn, 1) := by decide +kernel
theorem dX7_restore_0 : decode cX7_restore 0 = .ok (.iload_n 1, 1) := by decide +kernel
theorem dX7_restore_1 : decode cX7_restore 1 = .ok (.iconst 0, 1) := by decide +kernel
theorem dX7_restore_2 : decode cX7_restore 2 = .ok (.iconst 1, 1) := by decide +kernel
theorem dX7_restore_3 : decode cX7_restore 3 = .ok (.invokestatic 45, 3) := by decide +kernel
theorem dX7_restore_6 : decode cX7_restore 6 = .ok (.ifCond .ne 6, 3) := by decide +kernel
theorem dX7_restore_9 : decode cX7_restore 9 = .ok (.bipush (-2), 2) := by decide +kernel
theorem dX7_restore_11 : decode cX7_restore 11 = .ok (.ireturn, 1) := by decide +kernel
theorem dX7_restore_12 : decode cX7_restore 12 = .ok (.aload_n 0, 1) := by decide +kernel
theorem dX7_restore_13 : decode cX7_restore 13 = .ok (.getfield 37, 3) := by decide +kernel
theorem dX7_restore_16 : decode cX7_restore 16 = .ok (.iload_n 1, 1) := by decide +kernel
theorem dX7_restore_17 : decode cX7_restore 17 = .ok (.baload, 1) := by decide +kernel
theorem dX7_restore_18 : decode cX7_restore 18 = .ok (.ifCond .ne 6, 3) := by decide +kernel
theorem dX7_restore_21 : decode cX7_restore 21 = .ok (.bipush (-3), 2) := by decide +kernel
theorem dX7_restore_23 : decode cX7_restore 23 = .ok (.ireturn, 1) := by decide +kernel
theorem dX7_restore_24 : decode cX7_restore 24 = .ok (.bipush 100, 2) := by decide +kernel
theorem dX7_restore_26 : decode cX7_restore 26 = .ok (.iload_n 1, 1) := by decide +kernel
theorem dX7_restore_27 : decode cX7_restore 27 = .ok (.imul, 1) := by decide +kernel
theorem dX7_restore_28 : decode cX7_restore 28 = .ok (.istore_n 2, 1) := by decide +kernel
theorem dX7_restore_29 : decode cX7_restore 29 = .ok (.iconst 0, 1) := by decide +kernel
theorem dX7_restore_30 : decode cX7_restore 30 = .ok (.istore_n 3, 1) := by decide +kernel
theorem dX7_restore_31 : decode cX7_restore 31 = .ok (.iload_n 3, 1) := by decide +kernel
theorem dX7_restore_32 : decode cX7_restore 32 = .ok (.bipush 48, 2) := by decide +kernel
theorem dX7_restore_34 : decode cX7_restore 34 = .ok (.if_icmp .ge 23, 3) := by decide +kernel
theorem dX7_restore_37 : decode cX7_restore 37 = .ok (.aload_n 0, 1) := by decide +kernel
theorem dX7_restore_38 : decode cX7_restore 38 = .ok (.getfield 7, 3) := by decide +kernel
theorem dX7_restore_41 : decode cX7_restore 41 = .ok (.iload_n 3, 1) := by decide +kernel
theorem dX7_restore_42 : decode cX7_restore 42 = .ok (.aload_n 0, 1) := by decide +kernel
theorem dX7_restore_43 : decode cX7_restore 43 = .ok (.getfield 34, 3) := by decide +kernel
theorem dX7_restore_46 : decode cX7_restore 46 = .ok (.iload_n 2, 1) := by decide +kernel
theorem dX7_restore_47 : decode cX7_restore 47 = .ok (.iload_n 3, 1) := by decide +kernel
theorem dX7_restore_48 : decode cX7_restore 48 = .ok (.iadd, 1) := by decide +kernel
theorem dX7_restore_49 : decode cX7_restore 49 = .ok (.iaload, 1) := by decide +kernel
theorem dX7_restore_50 : decode cX7_restore 50 = .ok (.iastore, 1) := by decide +kernel
theorem dX7_restore_51 : decode cX7_restore 51 = .ok (.iinc 3 1, 3) := by decide +kernel
theorem dX7_restore_54 : decode cX7_restore 54 = .ok (.goto (-23), 3) := by decide +kernel
theorem dX7_restore_57 : decode cX7_restore 57 = .ok (.iconst 0, 1) := by decide +kernel
theorem dX7_restore_58 : decode cX7_restore 58 = .ok (.istore_n 3, 1) := by decide +kernel
theorem dX7_restore_59 : decode cX7_restore 59 = .ok (.iload_n 3, 1) := by decide +kernel
theorem dX7_restore_60 : decode cX7_restore 60 = .ok (.bipush 6, 2) := by decide +kernel
theorem dX7_restore_62 : decode cX7_restore 62 = .ok (.if_icmp .ge 77, 3) := by decide +kernel
theorem dX7_restore_65 : decode cX7_restore 65 = .ok (.aload_n 0, 1) := by decide +kernel
theorem dX7_restore_66 : decode cX7_restore 66 = .ok (.getfield 13, 3) := by decide +kernel
theorem dX7_restore_69 : decode cX7_restore 69 = .ok (.iload_n 3, 1) := by decide +kernel
theorem dX7_restore_70 : decode cX7_restore 70 = .ok (.aload_n 0, 1) := by decide +kernel
theorem dX7_restore_71 : decode cX7_restore 71 = .ok (.getfield 34, 3) := by decide +kernel
theorem dX7_restore_74 : decode cX7_restore 74 = .ok (.iload_n 2, 1) := by decide +kernel
theorem dX7_restore_75 : decode cX7_restore 75 = .ok (.bipush 48, 2) := by decide +kernel
theorem dX7_restore_77 : decode cX7_restore 77 = .ok (.iadd, 1) := by decide +kernel
theorem dX7_restore_78 : decode cX7_restore 78 = .ok (.iload_n 3, 1) := by decide +kernel
theorem dX7_restore_79 : decode cX7_restore 79 = .ok (.iadd, 1) := by decide +kernel
theorem dX7_restore_80 : decode cX7_restore 80 = .ok (.iaload, 1) := by decide +kernel
theorem dX7_restore_81 : decode cX7_restore 81 = .ok (.iastore, 1) := by decide +kernel
theorem dX7_restore_82 : decode cX7_restore 82 = .ok (.aload_n 0, 1) := by decide +kernel
theorem dX7_restore_83 : decode cX7_restore 83 = .ok (.getfield 16, 3) := by decide +kernel
theorem dX7_restore_86 : decode cX7_restore 86 = .ok (.iload_n 3, 1) := by decide +kernel
theorem dX7_restore_87 : decode cX7_restore 87 = .ok (.aload_n 0, 1) := by decide +kernel
theorem dX7_restore_88 : decode cX7_restore 88 = .ok (.getfield 34, 3) := by decide +kernel
theorem dX7_restore_91 : decode cX7_restore 91 = .ok (.iload_n 2, 1) := by decide +kernel
theorem dX7_restore_92 : decode cX7_restore 92 = .ok (.bipush 54, 2) := by decide +kernel
theorem dX7_restore_94 : decode cX7_restore 94 = .ok (.iadd, 1) := by decide +kernel
theorem dX7_restore_95 : decode cX7_restore 95 = .ok (.iload_n 3, 1) := by decide +kernel
theorem dX7_restore_96 : decode cX7_restore 96 = .ok (.iadd, 1) := by decide +kernel
theorem dX7_restore_97 : decode cX7_restore 97 = .ok (.iaload, 1) := by decide +kernel
theorem dX7_restore_98 : decode cX7_restore 98 = .ok (.iastore, 1) := by decide +kernel
theorem dX7_restore_99 : decode cX7_restore 99 = .ok (.aload_n 0, 1) := by decide +kernel
theorem dX7_restore_100 : decode cX7_restore 100 = .ok (.getfield 19, 3) := by decide +kernel
theorem dX7_restore_103 : decode cX7_restore 103 = .ok (.iload_n 3, 1) := by decide +kernel
theorem dX7_restore_104 : decode cX7_restore 104 = .ok (.aload_n 0, 1) := by decide +kernel
theorem dX7_restore_105 : decode cX7_restore 105 = .ok (.getfield 34, 3) := by decide +kernel
theorem dX7_restore_108 : decode cX7_restore 108 = .ok (.iload_n 2, 1) := by decide +kernel
theorem dX7_restore_109 : decode cX7_restore 109 = .ok (.bipush 60, 2) := by decide +kernel
theorem dX7_restore_111 : decode cX7_restore 111 = .ok (.iadd, 1) := by decide +kernel
theorem dX7_restore_112 : decode cX7_restore 112 = .ok (.iload_n 3, 1) := by decide +kernel
theorem dX7_restore_113 : decode cX7_restore 113 = .ok (.iadd, 1) := by decide +kernel
theorem dX7_restore_114 : decode cX7_restore 114 = .ok (.iaload, 1) := by decide +kernel
theorem dX7_restore_115 : decode cX7_restore 115 = .ok (.iastore, 1) := by decide +kernel
theorem dX7_restore_116 : decode cX7_restore 116 = .ok (.aload_n 0, 1) := by decide +kernel
theorem dX7_restore_117 : decode cX7_restore 117 = .ok (.getfield 22, 3) := by decide +kernel
theorem dX7_restore_120 : decode cX7_restore 120 = .ok (.iload_n 3, 1) := by decide +kernel
theorem dX7_restore_121 : decode cX7_restore 121 = .ok (.aload_n 0, 1) := by decide +kernel
theorem dX7_restore_122 : decode cX7_restore 122 = .ok (.getfield 34, 3) := by decide +kernel
theorem dX7_restore_125 : decode cX7_restore 125 = .ok (.iload_n 2, 1) := by decide +kernel
theorem dX7_restore_126 : decode cX7_restore 126 = .ok (.bipush 66, 2) := by decide +kernel
theorem dX7_restore_128 : decode cX7_restore 128 = .ok (.iadd, 1) := by decide +kernel
theorem dX7_restore_129 : decode cX7_restore 129 = .ok (.iload_n 3, 1) := by decide +kernel
theorem dX7_restore_130 : decode cX7_restore 130 = .ok (.iadd, 1) := by decide +kernel
theorem dX7_restore_131 : decode cX7_restore 131 = .ok (.iaload, 1) := by decide +kernel
theorem dX7_restore_132 : decode cX7_restore 132 = .ok (.iastore, 1) := by decide +kernel
theorem dX7_restore_133 : decode cX7_restore 133 = .ok (.iinc 3 1, 3) := by decide +kernel
theorem dX7_restore_136 : decode cX7_restore 136 = .ok (.goto (-77), 3) := by decide +kernel
theorem dX7_restore_139 : decode cX7_restore 139 = .ok (.iconst 0, 1) := by decide +kernel
theorem dX7_restore_140 : decode cX7_restore 140 = .ok (.istore_n 3, 1) := by decide +kernel
theorem dX7_restore_141 : decode cX7_restore 141 = .ok (.iload_n 3, 1) := by decide +kernel
theorem dX7_restore_142 : decode cX7_restore 142 = .ok (.bipush 12, 2) := by decide +kernel
theorem dX7_restore_144 : decode cX7_restore 144 = .ok (.if_icmp .ge 26, 3) := by decide +kernel
theorem dX7_restore_147 : decode cX7_restore 147 = .ok (.aload_n 0, 1) := by decide +kernel
theorem dX7_restore_148 : decode cX7_restore 148 = .ok (.getfield 25, 3) := by decide +kernel
theorem dX7_restore_151 : decode cX7_restore 151 = .ok (.iload_n 3, 1) := by decide +kernel
theorem dX7_restore_152 : decode cX7_restore 152 = .ok (.aload_n 0, 1) := by decide +kernel
theorem dX7_restore_153 : decode cX7_restore 153 = .ok (.getfield 34, 3) := by decide +kernel
theorem dX7_restore_156 : decode cX7_restore 156 = .ok (.iload_n 2, 1) := by decide +kernel
theorem dX7_restore_157 : decode cX7_restore 157 = .ok (.bipush 72, 2) := by decide +kernel
theorem dX7_restore_159 : decode cX7_restore 159 = .ok (.iadd, 1) := by decide +kernel
theorem dX7_restore_160 : decode cX7_restore 160 = .ok (.iload_n 3, 1) := by decide +kernel
theorem dX7_restore_161 : decode cX7_restore 161 = .ok (.iadd, 1) := by decide +kernel
theorem dX7_restore_162 : decode cX7_restore 162 = .ok (.iaload, 1) := by decide +kernel
theorem dX7_restore_163 : decode cX7_restore 163 = .ok (.iastore, 1) := by decide +kernel
theorem dX7_restore_164 : decode cX7_restore 164 = .ok (.iinc 3 1, 3) := by decide +kernel
theorem dX7_restore_167 : decode cX7_restore 167 = .ok (.goto (-26), 3) := by decide +kernel
theorem dX7_restore_170 : decode cX7_restore 170 = .ok (.aload_n 0, 1) := by decide +kernel
theorem dX7_restore_171 : decode cX7_restore 171 = .ok (.aload_n 0, 1) := by decide +kernel
theorem dX7_restore_172 : decode cX7_restore 172 = .ok (.getfield 34, 3) := by decide +kernel
theorem dX7_restore_175 : decode cX7_restore 175 = .ok (.iload_n 2, 1) := by decide +kernel
theorem dX7_restore_176 : decode cX7_restore 176 = .ok (.bipush 84, 2) := by decide +kernel
theorem dX7_restore_178 : decode cX7_restore 178 = .ok (.iadd, 1) := by decide +kernel
theorem dX7_restore_179 : decode cX7_restore 179 = .ok (.iaload, 1) := by decide +kernel
theorem dX7_restore_180 : decode cX7_restore 180 = .ok (.putfield 41, 3) := by decide +kernel
theorem dX7_restore_183 : decode cX7_restore 183 = .ok (.aload_n 0, 1) := by decide +kernel
theorem dX7_restore_184 : decode cX7_restore 184 = .ok (.aload_n 0, 1) := by decide +kernel
theorem dX7_restore_185 : decode cX7_restore 185 = .ok (.getfield 34, 3) := by decide +kernel
theorem dX7_restore_188 : decode cX7_restore 188 = .ok (.iload_n 2, 1) := by decide +kernel
theorem dX7_restore_189 : decode cX7_restore 189 = .ok (.bipush 85, 2) := by decide +kernel
theorem dX7_restore_191 : decode cX7_restore 191 = .ok (.iadd, 1) := by decide +kernel
theorem dX7_restore_192 : decode cX7_restore 192 = .ok (.iaload, 1) := by decide +kernel
theorem dX7_restore_193 : decode cX7_restore 193 = .ok (.putfield 74, 3) := by decide +kernel
theorem dX7_restore_196 : decode cX7_restore 196 = .ok (.aload_n 0, 1) := by decide +kernel
theorem dX7_restore_197 : decode cX7_restore 197 = .ok (.aload_n 0, 1) := by decide +kernel
theorem dX7_restore_198 : decode cX7_restore 198 = .ok (.getfield 34, 3) := by decide +kernel
theorem dX7_restore_201 : decode cX7_restore 201 = .ok (.iload_n 2, 1) := by decide +kernel
theorem dX7_restore_202 : decode cX7_restore 202 = .ok (.bipush 86, 2) := by decide +kernel
theorem dX7_restore_204 : decode cX7_restore 204 = .ok (.iadd, 1) := by decide +kernel
theorem dX7_restore_205 : decode cX7_restore 205 = .ok (.iaload, 1) := by decide +kernel
theorem dX7_restore_206 : decode cX7_restore 206 = .ok (.putfield 128, 3) := by decide +kernel
theorem dX7_restore_209 : decode cX7_restore 209 = .ok (.iconst 1, 1) := by decide +kernel
theorem dX7_restore_210 : decode cX7_restore 210 = .ok (.ireturn, 1) := by decide +kernel
theorem dX7_told_0 : decode cX7_told 0 = .ok (.iload_n 1, 1) := by decide +kernel
theorem dX7_told_1 : decode cX7_told 1 = .ok (.sipush 1000, 3) := by decide +kernel
theorem dX7_told_4 : decode cX7_told 4 = .ok (.if_icmp .lt 55, 3) := by decide +kernel
theorem dX7_told_7 : decode cX7_told 7 = .ok (.iload_n 1, 1) := by decide +kernel
theorem dX7_told_8 : decode cX7_told 8 = .ok (.sipush 1000, 3) := by decide +kernel
theorem dX7_told_11 : decode cX7_told 11 = .ok (.idiv, 1) := by decide +kernel
theorem dX7_told_12 : decode cX7_told 12 = .ok (.iconst 1, 1) := by decide +kernel
theorem dX7_told_13 : decode cX7_told 13 = .ok (.isub, 1) := by decide +kernel
theorem dX7_told_14 : decode cX7_told 14 = .ok (.istore_n 2, 1) := by decide +kernel
theorem dX7_told_15 : decode cX7_told 15 = .ok (.iload_n 1, 1) := by decide +kernel
theorem dX7_told_16 : decode cX7_told 16 = .ok (.sipush 1000, 3) := by decide +kernel
theorem dX7_told_19 : decode cX7_told 19 = .ok (.irem, 1) := by decide +kernel
theorem dX7_told_20 : decode cX7_told 20 = .ok (.istore_n 3, 1) := by decide +kernel
theorem dX7_told_21 : decode cX7_told 21 = .ok (.aload_n 0, 1) := by decide +kernel
theorem dX7_told_22 : decode cX7_told 22 = .ok (.iload_n 2, 1) := by decide +kernel
theorem dX7_told_23 : decode cX7_told 23 = .ok (.invokevirtual 97, 3) := by decide +kernel
theorem dX7_told_26 : decode cX7_told 26 = .ok (.ifCond .eq 8, 3) := by decide +kernel
theorem dX7_told_29 : decode cX7_told 29 = .ok (.iload_n 3, 1) := by decide +kernel
theorem dX7_told_30 : decode cX7_told 30 = .ok (.iconst 1, 1) := by decide +kernel
theorem dX7_told_31 : decode cX7_told 31 = .ok (.if_icmp .le 8, 3) := by decide +kernel
theorem dX7_told_34 : decode cX7_told 34 = .ok (.bipush (-2), 2) := by decide +kernel
theorem dX7_told_36 : decode cX7_told 36 = .ok (.goto 22, 3) := by decide +kernel
theorem dX7_told_39 : decode cX7_told 39 = .ok (.iload_n 3, 1) := by decide +kernel
theorem dX7_told_40 : decode cX7_told 40 = .ok (.ifCond .ne 12, 3) := by decide +kernel
theorem dX7_told_43 : decode cX7_told 43 = .ok (.aload_n 0, 1) := by decide +kernel
theorem dX7_told_44 : decode cX7_told 44 = .ok (.getfield 19, 3) := by decide +kernel
theorem dX7_told_47 : decode cX7_told 47 = .ok (.iload_n 2, 1) := by decide +kernel
theorem dX7_told_48 : decode cX7_told 48 = .ok (.iaload, 1) := by decide +kernel
theorem dX7_told_49 : decode cX7_told 49 = .ok (.goto 9, 3) := by decide +kernel
theorem dX7_told_52 : decode cX7_told 52 = .ok (.aload_n 0, 1) := by decide +kernel
theorem dX7_told_53 : decode cX7_told 53 = .ok (.getfield 22, 3) := by decide +kernel
theorem dX7_told_56 : decode cX7_told 56 = .ok (.iload_n 2, 1) := by decide +kernel
theorem dX7_told_57 : decode cX7_told 57 = .ok (.iaload, 1) := by decide +kernel
theorem dX7_told_58 : decode cX7_told 58 = .ok (.ireturn, 1) := by decide +kernel
theorem dX7_told_59 : decode cX7_told 59 = .ok (.iload_n 1, 1) := by decide +kernel
theorem dX7_told_60 : decode cX7_told 60 = .ok (.bipush 100, 2) := by decide +kernel
theorem dX7_told_62 : decode cX7_told 62 = .ok (.if_icmp .lt 51, 3) := by decide +kernel
theorem dX7_told_65 : decode cX7_told 65 = .ok (.iload_n 1, 1) := by decide +kernel
theorem dX7_told_66 : decode cX7_told 66 = .ok (.bipush 100, 2) := by decide +kernel
theorem dX7_told_68 : decode cX7_told 68 = .ok (.idiv, 1) := by decide +kernel
theorem dX7_told_69 : decode cX7_told 69 = .ok (.iconst 1, 1) := by decide +kernel
theorem dX7_told_70 : decode cX7_told 70 = .ok (.isub, 1) := by decide +kernel
theorem dX7_told_71 : decode cX7_told 71 = .ok (.istore_n 2, 1) := by decide +kernel
theorem dX7_told_72 : decode cX7_told 72 = .ok (.aload_n 0, 1) := by decide +kernel
theorem dX7_told_73 : decode cX7_told 73 = .ok (.iload_n 2, 1) := by decide +kernel
theorem dX7_told_74 : decode cX7_told 74 = .ok (.invokevirtual 67, 3) := by decide +kernel
theorem dX7_told_77 : decode cX7_told 77 = .ok (.ifCond .eq 33, 3) := by decide +kernel
theorem dX7_told_80 : decode cX7_told 80 = .ok (.iload_n 1, 1) := by decide +kernel
theorem dX7_told_81 : decode cX7_told 81 = .ok (.bipush 100, 2) := by decide +kernel
theorem dX7_told_83 : decode cX7_told 83 = .ok (.irem, 1) := by decide +kernel
theorem dX7_told_84 : decode cX7_told 84 = .ok (.aload_n 0, 1) := by decide +kernel
theorem dX7_told_85 : decode cX7_told 85 = .ok (.getfield 13, 3) := by decide +kernel
theorem dX7_told_88 : decode cX7_told 88 = .ok (.iload_n 2, 1) := by decide +kernel
theorem dX7_told_89 : decode cX7_told 89 = .ok (.iaload, 1) := by decide +kernel
theorem dX7_told_90 : decode cX7_told 90 = .ok (.if_icmp .ge 20, 3) := by decide +kernel
theorem dX7_told_93 : decode cX7_told 93 = .ok (.aload_n 0, 1) := by decide +kernel
theorem dX7_told_94 : decode cX7_told 94 = .ok (.getfield 7, 3) := by decide +kernel
theorem dX7_told_97 : decode cX7_told 97 = .ok (.bipush 8, 2) := by decide +kernel
theorem dX7_told_99 : decode cX7_told 99 = .ok (.iload_n 2, 1) := by decide +kernel
theorem dX7_told_100 : decode cX7_told 100 = .ok (.imul, 1) := by decide +kernel
theorem dX7_told_101 : decode cX7_told 101 = .ok (.iload_n 1, 1) := by decide +kernel
theorem dX7_told_102 : decode cX7_told 102 = .ok (.bipush 100, 2) := by decide +kernel
theorem dX7_told_104 : decode cX7_told 104 = .ok (.irem, 1) := by decide +kernel
theorem dX7_told_105 : decode cX7_told 105 = .ok (.iadd, 1) := by decide +kernel
theorem dX7_told_106 : decode cX7_told 106 = .ok (.iaload, 1) := by decide +kernel
theorem dX7_told_107 : decode cX7_told 107 = .ok (.goto 5, 3) := by decide +kernel
theorem dX7_told_110 : decode cX7_told 110 = .ok (.bipush (-2), 2) := by decide +kernel
theorem dX7_told_112 : decode cX7_told 112 = .ok (.ireturn, 1) := by decide +kernel
theorem dX7_told_113 : decode cX7_told 113 = .ok (.iload_n 1, 1) := by decide +kernel
theorem dX7_told_114 : decode cX7_told 114 = .ok (.bipush 10, 2) := by decide +kernel
theorem dX7_told_116 : decode cX7_told 116 = .ok (.irem, 1) := by decide +kernel
theorem dX7_told_117 : decode cX7_told 117 = .ok (.istore_n 2, 1) := by decide +kernel
theorem dX7_told_118 : decode cX7_told 118 = .ok (.iload_n 1, 1) := by decide +kernel
theorem dX7_told_119 : decode cX7_told 119 = .ok (.bipush 10, 2) := by decide +kernel
theorem dX7_told_121 : decode cX7_told 121 = .ok (.bipush 29, 2) := by decide +kernel
theorem dX7_told_123 : decode cX7_told 123 = .ok (.invokestatic 45, 3) := by decide +kernel
theorem dX7_told_126 : decode cX7_told 126 = .ok (.ifCond .eq 38, 3) := by decide +kernel
theorem dX7_told_129 : decode cX7_told 129 = .ok (.aload_n 0, 1) := by decide +kernel
theorem dX7_told_130 : decode cX7_told 130 = .ok (.iload_n 2, 1) := by decide +kernel
theorem dX7_told_131 : decode cX7_told 131 = .ok (.invokevirtual 67, 3) := by decide +kernel
theorem dX7_told_134 : decode cX7_told 134 = .ok (.ifCond .ne 8, 3) := by decide +kernel
theorem dX7_told_137 : decode cX7_told 137 = .ok (.bipush (-2), 2) := by decide +kernel
theorem dX7_told_139 : decode cX7_told 139 = .ok (.goto 24, 3) := by decide +kernel
theorem dX7_told_142 : decode cX7_told 142 = .ok (.iload_n 1, 1) := by decide +kernel
theorem dX7_told_143 : decode cX7_told 143 = .ok (.bipush 20, 2) := by decide +kernel
theorem dX7_told_145 : decode cX7_told 145 = .ok (.if_icmp .ge 12, 3) := by decide +kernel
theorem dX7_told_148 : decode cX7_told 148 = .ok (.aload_n 0, 1) := by decide +kernel
theorem dX7_told_149 : decode cX7_told 149 = .ok (.getfield 16, 3) := by decide +kernel
theorem dX7_told_152 : decode cX7_told 152 = .ok (.iload_n 2, 1) := by decide +kernel
theorem dX7_told_153 : decode cX7_told 153 = .ok (.iaload, 1) := by decide +kernel
theorem dX7_told_154 : decode cX7_told 154 = .ok (.goto 9, 3) := by decide +kernel
theorem dX7_told_157 : decode cX7_told 157 = .ok (.aload_n 0, 1) := by decide +kernel
theorem dX7_told_158 : decode cX7_told 158 = .ok (.getfield 13, 3) := by decide +kernel
theorem dX7_told_161 : decode cX7_told 161 = .ok (.iload_n 2, 1) := by decide +kernel
theorem dX7_told_162 : decode cX7_told 162 = .ok (.iaload, 1) := by decide +kernel
theorem dX7_told_163 : decode cX7_told 163 = .ok (.ireturn, 1) := by decide +kernel
theorem dX7_told_164 : decode cX7_told 164 = .ok (.iload_n 1, 1) := by decide +kernel
theorem dX7_told_165 : decode cX7_told 165 = .ok (.tableswitch 42 0 2 #[27, 32, 37], 27) := by decide +kernel
theorem dX7_told_192 : decode cX7_told 192 = .ok (.aload_n 0, 1) := by decide +kernel
theorem dX7_told_193 : decode cX7_told 193 = .ok (.getfield 53, 3) := by decide +kernel
theorem dX7_told_196 : decode cX7_told 196 = .ok (.ireturn, 1) := by decide +kernel
theorem dX7_told_197 : decode cX7_told 197 = .ok (.aload_n 0, 1) := by decide +kernel
theorem dX7_told_198 : decode cX7_told 198 = .ok (.getfield 41, 3) := by decide +kernel
theorem dX7_told_201 : decode cX7_told 201 = .ok (.ireturn, 1) := by decide +kernel
theorem dX7_told_202 : decode cX7_told 202 = .ok (.aload_n 0, 1) := by decide +kernel
theorem dX7_told_203 : decode cX7_told 203 = .ok (.getfield 74, 3) := by decide +kernel
theorem dX7_told_206 : decode cX7_told 206 = .ok (.ireturn, 1) := by decide +kernel
theorem dX7_told_207 : decode cX7_told 207 = .ok (.iload_n 1, 1) := by decide +kernel
theorem dX7_told_208 : decode cX7_told 208 = .ok (.iconst 3, 1) := by decide +kernel
theorem dX7_told_209 : decode cX7_told 209 = .ok (.if_icmp .ne 10, 3) := by decide +kernel
theorem dX7_told_212 : decode cX7_told 212 = .ok (.aload_n 0, 1) := by decide +kernel
theorem dX7_told_213 : decode cX7_told 213 = .ok (.getfield 128, 3) := by decide +kernel
theorem dX7_told_216 : decode cX7_told 216 = .ok (.goto 5, 3) := by decide +kernel
theorem dX7_told_219 : decode cX7_told 219 = .ok (.bipush (-2), 2) := by decide +kernel
theorem dX7_told_221 : decode cX7_told 221 = .ok (.ireturn, 1) := by decide +kernel
theorem dJ6_bitCount_0f7a4_0 : decode cJ6_bitCount_0f7a4 0 = .ok (.iload_n 0, 1) := by decide +kernel
theorem dJ6_bitCount_0f7a4_1 : decode cJ6_bitCount_0f7a4 1 = .ok (.iload_n 0, 1) := by decide +kernel
theorem dJ6_bitCount_0f7a4_2 : decode cJ6_bitCount_0f7a4 2 = .ok (.iconst 1, 1) := by decide +kernel
theorem dJ6_bitCount_0f7a4_3 : decode cJ6_bitCount_0f7a4 3 = .ok (.iushr, 1) := by decide +kernel
theorem dJ6_bitCount_0f7a4_4 : decode cJ6_bitCount_0f7a4 4 = .ok (.ldc_w 265, 3) := by decide +kernel
theorem dJ6_bitCount_0f7a4_7 : decode cJ6_bitCount_0f7a4 7 = .ok (.iand, 1) := by decide +kernel
theorem dJ6_bitCount_0f7a4_8 : decode cJ6_bitCount_0f7a4 8 = .ok (.isub, 1) := by decide +kernel
theorem dJ6_bitCount_0f7a4_9 : decode cJ6_bitCount_0f7a4 9 = .ok (.istore_n 0, 1) := by decide +kernel
theorem dJ6_bitCount_0f7a4_10 : decode cJ6_bitCount_0f7a4 10 = .ok (.iload_n 0, 1) := by decide +kernel
theorem dJ6_bitCount_0f7a4_11 : decode cJ6_bitCount_0f7a4 11 = .ok (.ldc_w 266, 3) := by decide +kernel
theorem dJ6_bitCount_0f7a4_14 : decode cJ6_bitCount_0f7a4 14 = .ok (.iand, 1) := by decide +kernel
theorem dJ6_bitCount_0f7a4_15 : decode cJ6_bitCount_0f7a4 15 = .ok (.iload_n 0, 1) := by decide +kernel
theorem dJ6_bitCount_0f7a4_16 : decode cJ6_bitCount_0f7a4 16 = .ok (.iconst 2, 1) := by decide +kernel
theorem dJ6_bitCount_0f7a4_17 : decode cJ6_bitCount_0f7a4 17 = .ok (.iushr, 1) := by decide +kernel
theorem dJ6_bitCount_0f7a4_18 : decode cJ6_bitCount_0f7a4 18 = .ok (.ldc_w 266, 3) := by decide +kernel
theorem dJ6_bitCount_0f7a4_21 : decode cJ6_bitCount_0f7a4 21 = .ok (.iand, 1) := by decide +kernel
theorem dJ6_bitCount_0f7a4_22 : decode cJ6_bitCount_0f7a4 22 = .ok (.iadd, 1) := by decide +kernel
theorem dJ6_bitCount_0f7a4_23 : decode cJ6_bitCount_0f7a4 23 = .ok (.istore_n 0, 1) := by decide +kernel
theorem dJ6_bitCount_0f7a4_24 : decode cJ6_bitCount_0f7a4 24 = .ok (.iload_n 0, 1) := by decide +kernel
theorem dJ6_bitCount_0f7a4_25 : decode cJ6_bitCount_0f7a4 25 = .ok (.iload_n 0, 1) := by decide +kernel
theorem dJ6_bitCount_0f7a4_26 : decode cJ6_bitCount_0f7a4 26 = .ok (.iconst 4, 1) := by decide +kernel
theorem dJ6_bitCount_0f7a4_27 : decode cJ6_bitCount_0f7a4 27 = .ok (.iushr, 1) := by decide +kernel
theorem dJ6_bitCount_0f7a4_28 : decode cJ6_bitCount_0f7a4 28 = .ok (.iadd, 1) := by decide +kernel
end
section
theorem dJ6_bitCount_0f7a4_29 : decode cJ6_bitCount_0f7a4 29 = .ok (.ldc_w 267, 3) := by decide +kernel
theorem dJ6_bitCount_0f7a4_32 : decode cJ6_bitCount_0f7a4 32 = .ok (.iand, 1) := by decide +kernel
theorem dJ6_bitCount_0f7a4_33 : decode cJ6_bitCount_0f7a4 33 = .ok (.istore_n 0, 1) := by decide +kernel
theorem dJ6_bitCount_0f7a4_34 : decode cJ6_bitCount_0f7a4 34 = .ok (.iload_n 0, 1) := by decide +kernel
theorem dJ6_bitCount_0f7a4_35 : decode cJ6_bitCount_0f7a4 35 = .ok (.iload_n 0, 1) := by decide +kernel
theorem dJ6_bitCount_0f7a4_36 : decode cJ6_bitCount_0f7a4 36 = .ok (.bipush 8, 2) := by decide +kernel
theorem dJ6_bitCount_0f7a4_38 : decode cJ6_bitCount_0f7a4 38 = .ok (.iushr, 1) := by decide +kernel
theorem dJ6_bitCount_0f7a4_39 : decode cJ6_bitCount_0f7a4 39 = .ok (.iadd, 1) := by decide +kernel
theorem dJ6_bitCount_0f7a4_40 : decode cJ6_bitCount_0f7a4 40 = .ok (.istore_n 0, 1) := by decide +kernel
theorem dJ6_bitCount_0f7a4_41 : decode cJ6_bitCount_0f7a4 41 = .ok (.iload_n 0, 1) := by decide +kernel
theorem dJ6_bitCount_0f7a4_42 : decode cJ6_bitCount_0f7a4 42 = .ok (.iload_n 0, 1) := by decide +kernel
theorem dJ6_bitCount_0f7a4_43 : decode cJ6_bitCount_0f7a4 43 = .ok (.bipush 16, 2) := by decide +kernel
theorem dJ6_bitCount_0f7a4_45 : decode cJ6_bitCount_0f7a4 45 = .ok (.iushr, 1) := by decide +kernel
theorem dJ6_bitCount_0f7a4_46 : decode cJ6_bitCount_0f7a4 46 = .ok (.iadd, 1) := by decide +kernel
theorem dJ6_bitCount_0f7a4_47 : decode cJ6_bitCount_0f7a4 47 = .ok (.istore_n 0, 1) := by decide +kernel
theorem dJ6_bitCount_0f7a4_48 : decode cJ6_bitCount_0f7a4 48 = .ok (.iload_n 0, 1) := by decide +kernel
theorem dJ6_bitCount_0f7a4_49 : decode cJ6_bitCount_0f7a4 49 = .ok (.bipush 63, 2) := by decide +kernel
theorem dJ6_bitCount_0f7a4_51 : decode cJ6_bitCount_0f7a4 51 = .ok (.iand, 1) := by decide +kernel
theorem dJ6_bitCount_0f7a4_52 : decode cJ6_bitCount_0f7a4 52 = .ok (.ireturn, 1) := by decide +kernel
theorem dJ9_floorMod_7cf53_0 : decode cJ9_floorMod_7cf53 0 = .ok (.iload_n 0, 1) := by decide +kernel
theorem dJ9_floorMod_7cf53_1 : decode cJ9_floorMod_7cf53 1 = .ok (.iload_n 1, 1) := by decide +kernel
theorem dJ9_floorMod_7cf53_2 : decode cJ9_floorMod_7cf53 2 = .ok (.irem, 1) := by decide +kernel
theorem dJ9_floorMod_7cf53_3 : decode cJ9_floorMod_7cf53 3 = .ok (.istore_n 2, 1) := by decide +kernel
theorem dJ9_floorMod_7cf53_4 : decode cJ9_floorMod_7cf53 4 = .ok (.iload_n 0, 1) := by decide +kernel
theorem dJ9_floorMod_7cf53_5 : decode cJ9_floorMod_7cf53 5 = .ok (.iload_n 1, 1) := by decide +kernel
theorem dJ9_floorMod_7cf53_6 : decode cJ9_floorMod_7cf53 6 = .ok (.ixor, 1) := by decide +kernel
theorem dJ9_floorMod_7cf53_7 : decode cJ9_floorMod_7cf53 7 = .ok (.ifCond .ge 11, 3) := by decide +kernel
theorem dJ9_floorMod_7cf53_10 : decode cJ9_floorMod_7cf53 10 = .ok (.iload_n 2, 1) := by decide +kernel
theorem dJ9_floorMod_7cf53_11 : decode cJ9_floorMod_7cf53 11 = .ok (.ifCond .eq 7, 3) := by decide +kernel
theorem dJ9_floorMod_7cf53_14 : decode cJ9_floorMod_7cf53 14 = .ok (.iload_n 2, 1) := by decide +kernel
theorem dJ9_floorMod_7cf53_15 : decode cJ9_floorMod_7cf53 15 = .ok (.iload_n 1, 1) := by decide +kernel
theorem dJ9_floorMod_7cf53_16 : decode cJ9_floorMod_7cf53 16 = .ok (.iadd, 1) := by decide +kernel
theorem dJ9_floorMod_7cf53_17 : decode cJ9_floorMod_7cf53 17 = .ok (.ireturn, 1) := by decide +kernel
theorem dJ9_floorMod_7cf53_18 : decode cJ9_floorMod_7cf53 18 = .ok (.iload_n 2, 1) := by decide +kernel
theorem dJ9_floorMod_7cf53_19 : decode cJ9_floorMod_7cf53 19 = .ok (.ireturn, 1) := by decide +kernel
theorem dJ9_max_7cf53_0 : decode cJ9_max_7cf53 0 = .ok (.iload_n 0, 1) := by decide +kernel
theorem dJ9_max_7cf53_1 : decode cJ9_max_7cf53 1 = .ok (.iload_n 1, 1) := by decide +kernel
theorem dJ9_max_7cf53_2 : decode cJ9_max_7cf53 2 = .ok (.if_icmp .lt 7, 3) := by decide +kernel
theorem dJ9_max_7cf53_5 : decode cJ9_max_7cf53 5 = .ok (.iload_n 0, 1) := by decide +kernel
theorem dJ9_max_7cf53_6 : decode cJ9_max_7cf53 6 = .ok (.goto 4, 3) := by decide +kernel
theorem dJ9_max_7cf53_9 : decode cJ9_max_7cf53 9 = .ok (.iload_n 1, 1) := by decide +kernel
theorem dJ9_max_7cf53_10 : decode cJ9_max_7cf53 10 = .ok (.ireturn, 1) := by decide +kernel
theorem dJ9_min_7cf53_0 : decode cJ9_min_7cf53 0 = .ok (.iload_n 0, 1) := by decide +kernel
theorem dJ9_min_7cf53_1 : decode cJ9_min_7cf53 1 = .ok (.iload_n 1, 1) := by decide +kernel
theorem dJ9_min_7cf53_2 : decode cJ9_min_7cf53 2 = .ok (.if_icmp .gt 7, 3) := by decide +kernel
theorem dJ9_min_7cf53_5 : decode cJ9_min_7cf53 5 = .ok (.iload_n 0, 1) := by decide +kernel
theorem dJ9_min_7cf53_6 : decode cJ9_min_7cf53 6 = .ok (.goto 4, 3) := by decide +kernel
theorem dJ9_min_7cf53_9 : decode cJ9_min_7cf53 9 = .ok (.iload_n 1, 1) := by decide +kernel
theorem dJ9_min_7cf53_10 : decode cJ9_min_7cf53 10 = .ok (.ireturn, 1) := by decide +kernel
theorem dL_law_0 : decode cL_law 0 = .ok (.new 7, 3) := by decide +kernel
theorem dL_law_3 : decode cL_law 3 = .ok (.dup, 1) := by decide +kernel
theorem dL_law_4 : decode cL_law 4 = .ok (.invokespecial 9, 3) := by decide +kernel
theorem dL_law_7 : decode cL_law 7 = .ok (.astore_n 1, 1) := by decide +kernel
theorem dL_law_8 : decode cL_law 8 = .ok (.new 10, 3) := by decide +kernel
theorem dL_law_11 : decode cL_law 11 = .ok (.dup, 1) := by decide +kernel
theorem dL_law_12 : decode cL_law 12 = .ok (.invokespecial 12, 3) := by decide +kernel
theorem dL_law_15 : decode cL_law 15 = .ok (.astore_n 2, 1) := by decide +kernel
theorem dL_law_16 : decode cL_law 16 = .ok (.iconst 0, 1) := by decide +kernel
theorem dL_law_17 : decode cL_law 17 = .ok (.istore_n 3, 1) := by decide +kernel
theorem dL_law_18 : decode cL_law 18 = .ok (.iload_n 3, 1) := by decide +kernel
theorem dL_law_19 : decode cL_law 19 = .ok (.aload_n 0, 1) := by decide +kernel
theorem dL_law_20 : decode cL_law 20 = .ok (.arraylength, 1) := by decide +kernel
theorem dL_law_21 : decode cL_law 21 = .ok (.iconst 4, 1) := by decide +kernel
theorem dL_law_22 : decode cL_law 22 = .ok (.isub, 1) := by decide +kernel
theorem dL_law_23 : decode cL_law 23 = .ok (.if_icmp .gt 1178, 3) := by decide +kernel
theorem dL_law_26 : decode cL_law 26 = .ok (.aload_n 0, 1) := by decide +kernel
theorem dL_law_27 : decode cL_law 27 = .ok (.iload_n 3, 1) := by decide +kernel
theorem dL_law_28 : decode cL_law 28 = .ok (.iaload, 1) := by decide +kernel
theorem dL_law_29 : decode cL_law 29 = .ok (.bipush 63, 2) := by decide +kernel
theorem dL_law_31 : decode cL_law 31 = .ok (.iand, 1) := by decide +kernel
theorem dL_law_32 : decode cL_law 32 = .ok (.tableswitch 1163 0 34 #[156, 179, 192, 215, 248, 271, 284, 317, 350, 393, 436, 469, 492, 535, 568, 601, 614, 637, 680, 723, 756, 779, 802, 815, 838, 871, 904, 917, 940, 963, 1007, 1051, 1094, 1117, 1140], 156) := by decide +kernel
theorem dL_law_188 : decode cL_law 188 = .ok (.aload_n 1, 1) := by decide +kernel
theorem dL_law_189 : decode cL_law 189 = .ok (.aload_n 0, 1) := by decide +kernel
theorem dL_law_190 : decode cL_law 190 = .ok (.iload_n 3, 1) := by decide +kernel
theorem dL_law_191 : decode cL_law 191 = .ok (.iconst 1, 1) := by decide +kernel
theorem dL_law_192 : decode cL_law 192 = .ok (.iadd, 1) := by decide +kernel
theorem dL_law_193 : decode cL_law 193 = .ok (.iaload, 1) := by decide +kernel
theorem dL_law_194 : decode cL_law 194 = .ok (.invokevirtual 13, 3) := by decide +kernel
theorem dL_law_197 : decode cL_law 197 = .ok (.aload_n 2, 1) := by decide +kernel
theorem dL_law_198 : decode cL_law 198 = .ok (.aload_n 0, 1) := by decide +kernel
theorem dL_law_199 : decode cL_law 199 = .ok (.iload_n 3, 1) := by decide +kernel
theorem dL_law_200 : decode cL_law 200 = .ok (.iconst 1, 1) := by decide +kernel
theorem dL_law_201 : decode cL_law 201 = .ok (.iadd, 1) := by decide +kernel
theorem dL_law_202 : decode cL_law 202 = .ok (.iaload, 1) := by decide +kernel
theorem dL_law_203 : decode cL_law 203 = .ok (.invokevirtual 17, 3) := by decide +kernel
theorem dL_law_206 : decode cL_law 206 = .ok (.if_icmp .eq 989, 3) := by decide +kernel
theorem dL_law_209 : decode cL_law 209 = .ok (.iconst 0, 1) := by decide +kernel
theorem dL_law_210 : decode cL_law 210 = .ok (.ireturn, 1) := by decide +kernel
theorem dL_law_211 : decode cL_law 211 = .ok (.aload_n 1, 1) := by decide +kernel
theorem dL_law_212 : decode cL_law 212 = .ok (.invokevirtual 18, 3) := by decide +kernel
theorem dL_law_215 : decode cL_law 215 = .ok (.aload_n 2, 1) := by decide +kernel
theorem dL_law_216 : decode cL_law 216 = .ok (.invokevirtual 22, 3) := by decide +kernel
theorem dL_law_219 : decode cL_law 219 = .ok (.if_icmp .eq 976, 3) := by decide +kernel
theorem dL_law_222 : decode cL_law 222 = .ok (.iconst 0, 1) := by decide +kernel
theorem dL_law_223 : decode cL_law 223 = .ok (.ireturn, 1) := by decide +kernel
theorem dL_law_224 : decode cL_law 224 = .ok (.aload_n 1, 1) := by decide +kernel
theorem dL_law_225 : decode cL_law 225 = .ok (.aload_n 0, 1) := by decide +kernel
theorem dL_law_226 : decode cL_law 226 = .ok (.iload_n 3, 1) := by decide +kernel
theorem dL_law_227 : decode cL_law 227 = .ok (.iconst 1, 1) := by decide +kernel
theorem dL_law_228 : decode cL_law 228 = .ok (.iadd, 1) := by decide +kernel
theorem dL_law_229 : decode cL_law 229 = .ok (.iaload, 1) := by decide +kernel
theorem dL_law_230 : decode cL_law 230 = .ok (.invokevirtual 23, 3) := by decide +kernel
theorem dL_law_233 : decode cL_law 233 = .ok (.aload_n 2, 1) := by decide +kernel
theorem dL_law_234 : decode cL_law 234 = .ok (.aload_n 0, 1) := by decide +kernel
theorem dL_law_235 : decode cL_law 235 = .ok (.iload_n 3, 1) := by decide +kernel
theorem dL_law_236 : decode cL_law 236 = .ok (.iconst 1, 1) := by decide +kernel
theorem dL_law_237 : decode cL_law 237 = .ok (.iadd, 1) := by decide +kernel
theorem dL_law_238 : decode cL_law 238 = .ok (.iaload, 1) := by decide +kernel
theorem dL_law_239 : decode cL_law 239 = .ok (.invokevirtual 26, 3) := by decide +kernel
theorem dL_law_242 : decode cL_law 242 = .ok (.if_icmp .eq 953, 3) := by decide +kernel
theorem dL_law_245 : decode cL_law 245 = .ok (.iconst 0, 1) := by decide +kernel
theorem dL_law_246 : decode cL_law 246 = .ok (.ireturn, 1) := by decide +kernel
theorem dL_law_247 : decode cL_law 247 = .ok (.aload_n 1, 1) := by decide +kernel
theorem dL_law_248 : decode cL_law 248 = .ok (.aload_n 0, 1) := by decide +kernel
theorem dL_law_249 : decode cL_law 249 = .ok (.iload_n 3, 1) := by decide +kernel
theorem dL_law_250 : decode cL_law 250 = .ok (.iconst 1, 1) := by decide +kernel
theorem dL_law_251 : decode cL_law 251 = .ok (.iadd, 1) := by decide +kernel
theorem dL_law_252 : decode cL_law 252 = .ok (.iaload, 1) := by decide +kernel
theorem dL_law_253 : decode cL_law 253 = .ok (.aload_n 0, 1) := by decide +kernel
theorem dL_law_254 : decode cL_law 254 = .ok (.iload_n 3, 1) := by decide +kernel
theorem dL_law_255 : decode cL_law 255 = .ok (.iconst 2, 1) := by decide +kernel
theorem dL_law_256 : decode cL_law 256 = .ok (.iadd, 1) := by decide +kernel
theorem dL_law_257 : decode cL_law 257 = .ok (.iaload, 1) := by decide +kernel
theorem dL_law_258 : decode cL_law 258 = .ok (.invokevirtual 27, 3) := by decide +kernel
theorem dL_law_261 : decode cL_law 261 = .ok (.aload_n 2, 1) := by decide +kernel
theorem dL_law_262 : decode cL_law 262 = .ok (.aload_n 0, 1) := by decide +kernel
theorem dL_law_263 : decode cL_law 263 = .ok (.iload_n 3, 1) := by decide +kernel
theorem dL_law_264 : decode cL_law 264 = .ok (.iconst 1, 1) := by decide +kernel
theorem dL_law_265 : decode cL_law 265 = .ok (.iadd, 1) := by decide +kernel
theorem dL_law_266 : decode cL_law 266 = .ok (.iaload, 1) := by decide +kernel
theorem dL_law_267 : decode cL_law 267 = .ok (.aload_n 0, 1) := by decide +kernel
theorem dL_law_268 : decode cL_law 268 = .ok (.iload_n 3, 1) := by decide +kernel
theorem dL_law_269 : decode cL_law 269 = .ok (.iconst 2, 1) := by decide +kernel
theorem dL_law_270 : decode cL_law 270 = .ok (.iadd, 1) := by decide +kernel
theorem dL_law_271 : decode cL_law 271 = .ok (.iaload, 1) := by decide +kernel
theorem dL_law_272 : decode cL_law 272 = .ok (.invokevirtual 31, 3) := by decide +kernel
theorem dL_law_275 : decode cL_law 275 = .ok (.if_icmp .eq 920, 3) := by decide +kernel
theorem dL_law_278 : decode cL_law 278 = .ok (.iconst 0, 1) := by decide +kernel
theorem dL_law_279 : decode cL_law 279 = .ok (.ireturn, 1) := by decide +kernel
theorem dL_law_280 : decode cL_law 280 = .ok (.aload_n 1, 1) := by decide +kernel
theorem dL_law_281 : decode cL_law 281 = .ok (.aload_n 0, 1) := by decide +kernel
theorem dL_law_282 : decode cL_law 282 = .ok (.iload_n 3, 1) := by decide +kernel
theorem dL_law_283 : decode cL_law 283 = .ok (.iconst 1, 1) := by decide +kernel
theorem dL_law_284 : decode cL_law 284 = .ok (.iadd, 1) := by decide +kernel
theorem dL_law_285 : decode cL_law 285 = .ok (.iaload, 1) := by decide +kernel
theorem dL_law_286 : decode cL_law 286 = .ok (.invokevirtual 32, 3) := by decide +kernel
theorem dL_law_289 : decode cL_law 289 = .ok (.aload_n 2, 1) := by decide +kernel
theorem dL_law_290 : decode cL_law 290 = .ok (.aload_n 0, 1) := by decide +kernel
theorem dL_law_291 : decode cL_law 291 = .ok (.iload_n 3, 1) := by decide +kernel
theorem dL_law_292 : decode cL_law 292 = .ok (.iconst 1, 1) := by decide +kernel
theorem dL_law_293 : decode cL_law 293 = .ok (.iadd, 1) := by decide +kernel
theorem dL_law_294 : decode cL_law 294 = .ok (.iaload, 1) := by decide +kernel
theorem dL_law_295 : decode cL_law 295 = .ok (.invokevirtual 35, 3) := by decide +kernel
theorem dL_law_298 : decode cL_law 298 = .ok (.if_icmp .eq 897, 3) := by decide +kernel
theorem dL_law_301 : decode cL_law 301 = .ok (.iconst 0, 1) := by decide +kernel
theorem dL_law_302 : decode cL_law 302 = .ok (.ireturn, 1) := by decide +kernel
theorem dL_law_303 : decode cL_law 303 = .ok (.aload_n 1, 1) := by decide +kernel
theorem dL_law_304 : decode cL_law 304 = .ok (.invokevirtual 36, 3) := by decide +kernel
theorem dL_law_307 : decode cL_law 307 = .ok (.aload_n 2, 1) := by decide +kernel
theorem dL_law_308 : decode cL_law 308 = .ok (.invokevirtual 39, 3) := by decide +kernel
theorem dL_law_311 : decode cL_law 311 = .ok (.if_icmp .eq 884, 3) := by decide +kernel
theorem dL_law_314 : decode cL_law 314 = .ok (.iconst 0, 1) := by decide +kernel
theorem dL_law_315 : decode cL_law 315 = .ok (.ireturn, 1) := by decide +kernel
theorem dL_law_316 : decode cL_law 316 = .ok (.aload_n 1, 1) := by decide +kernel
theorem dL_law_317 : decode cL_law 317 = .ok (.aload_n 0, 1) := by decide +kernel
theorem dL_law_318 : decode cL_law 318 = .ok (.iload_n 3, 1) := by decide +kernel
theorem dL_law_319 : decode cL_law 319 = .ok (.iconst 1, 1) := by decide +kernel
theorem dL_law_320 : decode cL_law 320 = .ok (.iadd, 1) := by decide +kernel
theorem dL_law_321 : decode cL_law 321 = .ok (.iaload, 1) := by decide +kernel
theorem dL_law_322 : decode cL_law 322 = .ok (.aload_n 0, 1) := by decide +kernel
theorem dL_law_323 : decode cL_law 323 = .ok (.iload_n 3, 1) := by decide +kernel
theorem dL_law_324 : decode cL_law 324 = .ok (.iconst 2, 1) := by decide +kernel
theorem dL_law_325 : decode cL_law 325 = .ok (.iadd, 1) := by decide +kernel
theorem dL_law_326 : decode cL_law 326 = .ok (.iaload, 1) := by decide +kernel
theorem dL_law_327 : decode cL_law 327 = .ok (.invokevirtual 40, 3) := by decide +kernel
theorem dL_law_330 : decode cL_law 330 = .ok (.aload_n 2, 1) := by decide +kernel
theorem dL_law_331 : decode cL_law 331 = .ok (.aload_n 0, 1) := by decide +kernel
theorem dL_law_332 : decode cL_law 332 = .ok (.iload_n 3, 1) := by decide +kernel
theorem dL_law_333 : decode cL_law 333 = .ok (.iconst 1, 1) := by decide +kernel
theorem dL_law_334 : decode cL_law 334 = .ok (.iadd, 1) := by decide +kernel
theorem dL_law_335 : decode cL_law 335 = .ok (.iaload, 1) := by decide +kernel
theorem dL_law_336 : decode cL_law 336 = .ok (.aload_n 0, 1) := by decide +kernel
theorem dL_law_337 : decode cL_law 337 = .ok (.iload_n 3, 1) := by decide +kernel
theorem dL_law_338 : decode cL_law 338 = .ok (.iconst 2, 1) := by decide +kernel
theorem dL_law_339 : decode cL_law 339 = .ok (.iadd, 1) := by decide +kernel
theorem dL_law_340 : decode cL_law 340 = .ok (.iaload, 1) := by decide +kernel
theorem dL_law_341 : decode cL_law 341 = .ok (.invokevirtual 43, 3) := by decide +kernel
theorem dL_law_344 : decode cL_law 344 = .ok (.if_icmp .eq 851, 3) := by decide +kernel
theorem dL_law_347 : decode cL_law 347 = .ok (.iconst 0, 1) := by decide +kernel
theorem dL_law_348 : decode cL_law 348 = .ok (.ireturn, 1) := by decide +kernel
theorem dL_law_349 : decode cL_law 349 = .ok (.aload_n 1, 1) := by decide +kernel
theorem dL_law_350 : decode cL_law 350 = .ok (.aload_n 0, 1) := by decide +kernel
theorem dL_law_351 : decode cL_law 351 = .ok (.iload_n 3, 1) := by decide +kernel
theorem dL_law_352 : decode cL_law 352 = .ok (.iconst 1, 1) := by decide +kernel
theorem dL_law_353 : decode cL_law 353 = .ok (.iadd, 1) := by decide +kernel
theorem dL_law_354 : decode cL_law 354 = .ok (.iaload, 1) := by decide +kernel
theorem dL_law_355 : decode cL_law 355 = .ok (.aload_n 0, 1) := by decide +kernel
theorem dL_law_356 : decode cL_law 356 = .ok (.iload_n 3, 1) := by decide +kernel
theorem dL_law_357 : decode cL_law 357 = .ok (.iconst 2, 1) := by decide +kernel
theorem dL_law_358 : decode cL_law 358 = .ok (.iadd, 1) := by decide +kernel
theorem dL_law_359 : decode cL_law 359 = .ok (.iaload, 1) := by decide +kernel
theorem dL_law_360 : decode cL_law 360 = .ok (.invokevirtual 44, 3) := by decide +kernel
theorem dL_law_363 : decode cL_law 363 = .ok (.aload_n 2, 1) := by decide +kernel
theorem dL_law_364 : decode cL_law 364 = .ok (.aload_n 0, 1) := by decide +kernel
theorem dL_law_365 : decode cL_law 365 = .ok (.iload_n 3, 1) := by decide +kernel
theorem dL_law_366 : decode cL_law 366 = .ok (.iconst 1, 1) := by decide +kernel
theorem dL_law_367 : decode cL_law 367 = .ok (.iadd, 1) := by decide +kernel
theorem dL_law_368 : decode cL_law 368 = .ok (.iaload, 1) := by decide +kernel
theorem dL_law_369 : decode cL_law 369 = .ok (.aload_n 0, 1) := by decide +kernel
theorem dL_law_370 : decode cL_law 370 = .ok (.iload_n 3, 1) := by decide +kernel
theorem dL_law_371 : decode cL_law 371 = .ok (.iconst 2, 1) := by decide +kernel
theorem dL_law_372 : decode cL_law 372 = .ok (.iadd, 1) := by decide +kernel
theorem dL_law_373 : decode cL_law 373 = .ok (.iaload, 1) := by decide +kernel
theorem dL_law_374 : decode cL_law 374 = .ok (.invokevirtual 47, 3) := by decide +kernel
theorem dL_law_377 : decode cL_law 377 = .ok (.if_icmp .eq 818, 3) := by decide +kernel
theorem dL_law_380 : decode cL_law 380 = .ok (.iconst 0, 1) := by decide +kernel
theorem dL_law_381 : decode cL_law 381 = .ok (.ireturn, 1) := by decide +kernel
theorem dL_law_382 : decode cL_law 382 = .ok (.aload_n 1, 1) := by decide +kernel
theorem dL_law_383 : decode cL_law 383 = .ok (.aload_n 0, 1) := by decide +kernel
theorem dL_law_384 : decode cL_law 384 = .ok (.iload_n 3, 1) := by decide +kernel
theorem dL_law_385 : decode cL_law 385 = .ok (.iconst 1, 1) := by decide +kernel
theorem dL_law_386 : decode cL_law 386 = .ok (.iadd, 1) := by decide +kernel
theorem dL_law_387 : decode cL_law 387 = .ok (.iaload, 1) := by decide +kernel
theorem dL_law_388 : decode cL_law 388 = .ok (.aload_n 0, 1) := by decide +kernel
theorem dL_law_389 : decode cL_law 389 = .ok (.iload_n 3, 1) := by decide +kernel
theorem dL_law_390 : decode cL_law 390 = .ok (.iconst 2, 1) := by decide +kernel
theorem dL_law_391 : decode cL_law 391 = .ok (.iadd, 1) := by decide +kernel
theorem dL_law_392 : decode cL_law 392 = .ok (.iaload, 1) := by decide +kernel
theorem dL_law_393 : decode cL_law 393 = .ok (.aload_n 0, 1) := by decide +kernel
theorem dL_law_394 : decode cL_law 394 = .ok (.iload_n 3, 1) := by decide +kernel
theorem dL_law_395 : decode cL_law 395 = .ok (.iconst 3, 1) := by decide +kernel
theorem dL_law_396 : decode cL_law 396 = .ok (.iadd, 1) := by decide +kernel
theorem dL_law_397 : decode cL_law 397 = .ok (.iaload, 1) := by decide +kernel
theorem dL_law_398 : decode cL_law 398 = .ok (.invokevirtual 48, 3) := by decide +kernel
theorem dL_law_401 : decode cL_law 401 = .ok (.aload_n 2, 1) := by decide +kernel
theorem dL_law_402 : decode cL_law 402 = .ok (.aload_n 0, 1) := by decide +kernel
theorem dL_law_403 : decode cL_law 403 = .ok (.iload_n 3, 1) := by decide +kernel
theorem dL_law_404 : decode cL_law 404 = .ok (.iconst 1, 1) := by decide +kernel
theorem dL_law_405 : decode cL_law 405 = .ok (.iadd, 1) := by decide +kernel
theorem dL_law_406 : decode cL_law 406 = .ok (.iaload, 1) := by decide +kernel
theorem dL_law_407 : decode cL_law 407 = .ok (.aload_n 0, 1) := by decide +kernel
theorem dL_law_408 : decode cL_law 408 = .ok (.iload_n 3, 1) := by decide +kernel
theorem dL_law_409 : decode cL_law 409 = .ok (.iconst 2, 1) := by decide +kernel
theorem dL_law_410 : decode cL_law 410 = .ok (.iadd, 1) := by decide +kernel
theorem dL_law_411 : decode cL_law 411 = .ok (.iaload, 1) := by decide +kernel
theorem dL_law_412 : decode cL_law 412 = .ok (.aload_n 0, 1) := by decide +kernel
theorem dL_law_413 : decode cL_law 413 = .ok (.iload_n 3, 1) := by decide +kernel
theorem dL_law_414 : decode cL_law 414 = .ok (.iconst 3, 1) := by decide +kernel
theorem dL_law_415 : decode cL_law 415 = .ok (.iadd, 1) := by decide +kernel
theorem dL_law_416 : decode cL_law 416 = .ok (.iaload, 1) := by decide +kernel
theorem dL_law_417 : decode cL_law 417 = .ok (.invokevirtual 52, 3) := by decide +kernel
theorem dL_law_420 : decode cL_law 420 = .ok (.if_icmp .eq 775, 3) := by decide +kernel
theorem dL_law_423 : decode cL_law 423 = .ok (.iconst 0, 1) := by decide +kernel
theorem dL_law_424 : decode cL_law 424 = .ok (.ireturn, 1) := by decide +kernel
theorem dL_law_425 : decode cL_law 425 = .ok (.aload_n 1, 1) := by decide +kernel
theorem dL_law_426 : decode cL_law 426 = .ok (.aload_n 0, 1) := by decide +kernel
theorem dL_law_427 : decode cL_law 427 = .ok (.iload_n 3, 1) := by decide +kernel
theorem dL_law_428 : decode cL_law 428 = .ok (.iconst 1, 1) := by decide +kernel
theorem dL_law_429 : decode cL_law 429 = .ok (.iadd, 1) := by decide +kernel
theorem dL_law_430 : decode cL_law 430 = .ok (.iaload, 1) := by decide +kernel
theorem dL_law_431 : decode cL_law 431 = .ok (.aload_n 0, 1) := by decide +kernel
theorem dL_law_432 : decode cL_law 432 = .ok (.iload_n 3, 1) := by decide +kernel
theorem dL_law_433 : decode cL_law 433 = .ok (.iconst 2, 1) := by decide +kernel
theorem dL_law_434 : decode cL_law 434 = .ok (.iadd, 1) := by decide +kernel
theorem dL_law_435 : decode cL_law 435 = .ok (.iaload, 1) := by decide +kernel
theorem dL_law_436 : decode cL_law 436 = .ok (.aload_n 0, 1) := by decide +kernel
theorem dL_law_437 : decode cL_law 437 = .ok (.iload_n 3, 1) := by decide +kernel
theorem dL_law_438 : decode cL_law 438 = .ok (.iconst 3, 1) := by decide +kernel
theorem dL_law_439 : decode cL_law 439 = .ok (.iadd, 1) := by decide +kernel
theorem dL_law_440 : decode cL_law 440 = .ok (.iaload, 1) := by decide +kernel
theorem dL_law_441 : decode cL_law 441 = .ok (.invokevirtual 53, 3) := by decide +kernel
theorem dL_law_444 : decode cL_law 444 = .ok (.aload_n 2, 1) := by decide +kernel
theorem dL_law_445 : decode cL_law 445 = .ok (.aload_n 0, 1) := by decide +kernel
theorem dL_law_446 : decode cL_law 446 = .ok (.iload_n 3, 1) := by decide +kernel
theorem dL_law_447 : decode cL_law 447 = .ok (.iconst 1, 1) := by decide +kernel
theorem dL_law_448 : decode cL_law 448 = .ok (.iadd, 1) := by decide +kernel
theorem dL_law_449 : decode cL_law 449 = .ok (.iaload, 1) := by decide +kernel
theorem dL_law_450 : decode cL_law 450 = .ok (.aload_n 0, 1) := by decide +kernel
theorem dL_law_451 : decode cL_law 451 = .ok (.iload_n 3, 1) := by decide +kernel
theorem dL_law_452 : decode cL_law 452 = .ok (.iconst 2, 1) := by decide +kernel
theorem dL_law_453 : decode cL_law 453 = .ok (.iadd, 1) := by decide +kernel
theorem dL_law_454 : decode cL_law 454 = .ok (.iaload, 1) := by decide +kernel
theorem dL_law_455 : decode cL_law 455 = .ok (.aload_n 0, 1) := by decide +kernel
theorem dL_law_456 : decode cL_law 456 = .ok (.iload_n 3, 1) := by decide +kernel
theorem dL_law_457 : decode cL_law 457 = .ok (.iconst 3, 1) := by decide +kernel
theorem dL_law_458 : decode cL_law 458 = .ok (.iadd, 1) := by decide +kernel
theorem dL_law_459 : decode cL_law 459 = .ok (.iaload, 1) := by decide +kernel
theorem dL_law_460 : decode cL_law 460 = .ok (.invokevirtual 56, 3) := by decide +kernel
theorem dL_law_463 : decode cL_law 463 = .ok (.if_icmp .eq 732, 3) := by decide +kernel
theorem dL_law_466 : decode cL_law 466 = .ok (.iconst 0, 1) := by decide +kernel
theorem dL_law_467 : decode cL_law 467 = .ok (.ireturn, 1) := by decide +kernel
theorem dL_law_468 : decode cL_law 468 = .ok (.aload_n 1, 1) := by decide +kernel
theorem dL_law_469 : decode cL_law 469 = .ok (.aload_n 0, 1) := by decide +kernel
theorem dL_law_470 : decode cL_law 470 = .ok (.iload_n 3, 1) := by decide +kernel
theorem dL_law_471 : decode cL_law 471 = .ok (.iconst 1, 1) := by decide +kernel
theorem dL_law_472 : decode cL_law 472 = .ok (.iadd, 1) := by decide +kernel
theorem dL_law_473 : decode cL_law 473 = .ok (.iaload, 1) := by decide +kernel
theorem dL_law_474 : decode cL_law 474 = .ok (.aload_n 0, 1) := by decide +kernel
theorem dL_law_475 : decode cL_law 475 = .ok (.iload_n 3, 1) := by decide +kernel
theorem dL_law_476 : decode cL_law 476 = .ok (.iconst 2, 1) := by decide +kernel
theorem dL_law_477 : decode cL_law 477 = .ok (.iadd, 1) := by decide +kernel
theorem dL_law_478 : decode cL_law 478 = .ok (.iaload, 1) := by decide +kernel
theorem dL_law_479 : decode cL_law 479 = .ok (.invokevirtual 57, 3) := by decide +kernel
theorem dL_law_482 : decode cL_law 482 = .ok (.aload_n 2, 1) := by decide +kernel
theorem dL_law_483 : decode cL_law 483 = .ok (.aload_n 0, 1) := by decide +kernel
theorem dL_law_484 : decode cL_law 484 = .ok (.iload_n 3, 1) := by decide +kernel
theorem dL_law_485 : decode cL_law 485 = .ok (.iconst 1, 1) := by decide +kernel
theorem dL_law_486 : decode cL_law 486 = .ok (.iadd, 1) := by decide +kernel
theorem dL_law_487 : decode cL_law 487 = .ok (.iaload, 1) := by decide +kernel
theorem dL_law_488 : decode cL_law 488 = .ok (.aload_n 0, 1) := by decide +kernel
theorem dL_law_489 : decode cL_law 489 = .ok (.iload_n 3, 1) := by decide +kernel
theorem dL_law_490 : decode cL_law 490 = .ok (.iconst 2, 1) := by decide +kernel
theorem dL_law_491 : decode cL_law 491 = .ok (.iadd, 1) := by decide +kernel
theorem dL_law_492 : decode cL_law 492 = .ok (.iaload, 1) := by decide +kernel
theorem dL_law_493 : decode cL_law 493 = .ok (.invokevirtual 60, 3) := by decide +kernel
theorem dL_law_496 : decode cL_law 496 = .ok (.if_icmp .eq 699, 3) := by decide +kernel
theorem dL_law_499 : decode cL_law 499 = .ok (.iconst 0, 1) := by decide +kernel
theorem dL_law_500 : decode cL_law 500 = .ok (.ireturn, 1) := by decide +kernel
theorem dL_law_501 : decode cL_law 501 = .ok (.aload_n 1, 1) := by decide +kernel
theorem dL_law_502 : decode cL_law 502 = .ok (.aload_n 0, 1) := by decide +kernel
theorem dL_law_503 : decode cL_law 503 = .ok (.iload_n 3, 1) := by decide +kernel
theorem dL_law_504 : decode cL_law 504 = .ok (.iconst 1, 1) := by decide +kernel
theorem dL_law_505 : decode cL_law 505 = .ok (.iadd, 1) := by decide +kernel
theorem dL_law_506 : decode cL_law 506 = .ok (.iaload, 1) := by decide +kernel
theorem dL_law_507 : decode cL_law 507 = .ok (.invokevirtual 61, 3) := by decide +kernel
theorem dL_law_510 : decode cL_law 510 = .ok (.aload_n 2, 1) := by decide +kernel
theorem dL_law_511 : decode cL_law 511 = .ok (.aload_n 0, 1) := by decide +kernel
theorem dL_law_512 : decode cL_law 512 = .ok (.iload_n 3, 1) := by decide +kernel
theorem dL_law_513 : decode cL_law 513 = .ok (.iconst 1, 1) := by decide +kernel
theorem dL_law_514 : decode cL_law 514 = .ok (.iadd, 1) := by decide +kernel
theorem dL_law_515 : decode cL_law 515 = .ok (.iaload, 1) := by decide +kernel
theorem dL_law_516 : decode cL_law 516 = .ok (.invokevirtual 64, 3) := by decide +kernel
theorem dL_law_519 : decode cL_law 519 = .ok (.if_icmp .eq 676, 3) := by decide +kernel
theorem dL_law_522 : decode cL_law 522 = .ok (.iconst 0, 1) := by decide +kernel
theorem dL_law_523 : decode cL_law 523 = .ok (.ireturn, 1) := by decide +kernel
theorem dL_law_524 : decode cL_law 524 = .ok (.aload_n 1, 1) := by decide +kernel
theorem dL_law_525 : decode cL_law 525 = .ok (.aload_n 0, 1) := by decide +kernel
theorem dL_law_526 : decode cL_law 526 = .ok (.iload_n 3, 1) := by decide +kernel
theorem dL_law_527 : decode cL_law 527 = .ok (.iconst 1, 1) := by decide +kernel
theorem dL_law_528 : decode cL_law 528 = .ok (.iadd, 1) := by decide +kernel
theorem dL_law_529 : decode cL_law 529 = .ok (.iaload, 1) := by decide +kernel
theorem dL_law_530 : decode cL_law 530 = .ok (.aload_n 0, 1) := by decide +kernel
theorem dL_law_531 : decode cL_law 531 = .ok (.iload_n 3, 1) := by decide +kernel
theorem dL_law_532 : decode cL_law 532 = .ok (.iconst 2, 1) := by decide +kernel
theorem dL_law_533 : decode cL_law 533 = .ok (.iadd, 1) := by decide +kernel
theorem dL_law_534 : decode cL_law 534 = .ok (.iaload, 1) := by decide +kernel
theorem dL_law_535 : decode cL_law 535 = .ok (.aload_n 0, 1) := by decide +kernel
theorem dL_law_536 : decode cL_law 536 = .ok (.iload_n 3, 1) := by decide +kernel
theorem dL_law_537 : decode cL_law 537 = .ok (.iconst 3, 1) := by decide +kernel
theorem dL_law_538 : decode cL_law 538 = .ok (.iadd, 1) := by decide +kernel
theorem dL_law_539 : decode cL_law 539 = .ok (.iaload, 1) := by decide +kernel
theorem dL_law_540 : decode cL_law 540 = .ok (.invokevirtual 65, 3) := by decide +kernel
theorem dL_law_543 : decode cL_law 543 = .ok (.aload_n 2, 1) := by decide +kernel
theorem dL_law_544 : decode cL_law 544 = .ok (.aload_n 0, 1) := by decide +kernel
theorem dL_law_545 : decode cL_law 545 = .ok (.iload_n 3, 1) := by decide +kernel
theorem dL_law_546 : decode cL_law 546 = .ok (.iconst 1, 1) := by decide +kernel
theorem dL_law_547 : decode cL_law 547 = .ok (.iadd, 1) := by decide +kernel
theorem dL_law_548 : decode cL_law 548 = .ok (.iaload, 1) := by decide +kernel
theorem dL_law_549 : decode cL_law 549 = .ok (.aload_n 0, 1) := by decide +kernel
theorem dL_law_550 : decode cL_law 550 = .ok (.iload_n 3, 1) := by decide +kernel
theorem dL_law_551 : decode cL_law 551 = .ok (.iconst 2, 1) := by decide +kernel
theorem dL_law_552 : decode cL_law 552 = .ok (.iadd, 1) := by decide +kernel
theorem dL_law_553 : decode cL_law 553 = .ok (.iaload, 1) := by decide +kernel
theorem dL_law_554 : decode cL_law 554 = .ok (.aload_n 0, 1) := by decide +kernel
theorem dL_law_555 : decode cL_law 555 = .ok (.iload_n 3, 1) := by decide +kernel
theorem dL_law_556 : decode cL_law 556 = .ok (.iconst 3, 1) := by decide +kernel
theorem dL_law_557 : decode cL_law 557 = .ok (.iadd, 1) := by decide +kernel
theorem dL_law_558 : decode cL_law 558 = .ok (.iaload, 1) := by decide +kernel
theorem dL_law_559 : decode cL_law 559 = .ok (.invokevirtual 68, 3) := by decide +kernel
theorem dL_law_562 : decode cL_law 562 = .ok (.if_icmp .eq 633, 3) := by decide +kernel
theorem dL_law_565 : decode cL_law 565 = .ok (.iconst 0, 1) := by decide +kernel
theorem dL_law_566 : decode cL_law 566 = .ok (.ireturn, 1) := by decide +kernel
theorem dL_law_567 : decode cL_law 567 = .ok (.aload_n 1, 1) := by decide +kernel
theorem dL_law_568 : decode cL_law 568 = .ok (.aload_n 0, 1) := by decide +kernel
theorem dL_law_569 : decode cL_law 569 = .ok (.iload_n 3, 1) := by decide +kernel
theorem dL_law_570 : decode cL_law 570 = .ok (.iconst 1, 1) := by decide +kernel
theorem dL_law_571 : decode cL_law 571 = .ok (.iadd, 1) := by decide +kernel
theorem dL_law_572 : decode cL_law 572 = .ok (.iaload, 1) := by decide +kernel
theorem dL_law_573 : decode cL_law 573 = .ok (.aload_n 0, 1) := by decide +kernel
theorem dL_law_574 : decode cL_law 574 = .ok (.iload_n 3, 1) := by decide +kernel
theorem dL_law_575 : decode cL_law 575 = .ok (.iconst 2, 1) := by decide +kernel
theorem dL_law_576 : decode cL_law 576 = .ok (.iadd, 1) := by decide +kernel
theorem dL_law_577 : decode cL_law 577 = .ok (.iaload, 1) := by decide +kernel
theorem dL_law_578 : decode cL_law 578 = .ok (.invokevirtual 69, 3) := by decide +kernel
theorem dL_law_581 : decode cL_law 581 = .ok (.aload_n 2, 1) := by decide +kernel
theorem dL_law_582 : decode cL_law 582 = .ok (.aload_n 0, 1) := by decide +kernel
theorem dL_law_583 : decode cL_law 583 = .ok (.iload_n 3, 1) := by decide +kernel
theorem dL_law_584 : decode cL_law 584 = .ok (.iconst 1, 1) := by decide +kernel
theorem dL_law_585 : decode cL_law 585 = .ok (.iadd, 1) := by decide +kernel
theorem dL_law_586 : decode cL_law 586 = .ok (.iaload, 1) := by decide +kernel
theorem dL_law_587 : decode cL_law 587 = .ok (.aload_n 0, 1) := by decide +kernel
theorem dL_law_588 : decode cL_law 588 = .ok (.iload_n 3, 1) := by decide +kernel
theorem dL_law_589 : decode cL_law 589 = .ok (.iconst 2, 1) := by decide +kernel
theorem dL_law_590 : decode cL_law 590 = .ok (.iadd, 1) := by decide +kernel
theorem dL_law_591 : decode cL_law 591 = .ok (.iaload, 1) := by decide +kernel
theorem dL_law_592 : decode cL_law 592 = .ok (.invokevirtual 72, 3) := by decide +kernel
theorem dL_law_595 : decode cL_law 595 = .ok (.if_icmp .eq 600, 3) := by decide +kernel
theorem dL_law_598 : decode cL_law 598 = .ok (.iconst 0, 1) := by decide +kernel
theorem dL_law_599 : decode cL_law 599 = .ok (.ireturn, 1) := by decide +kernel
theorem dL_law_600 : decode cL_law 600 = .ok (.aload_n 1, 1) := by decide +kernel
theorem dL_law_601 : decode cL_law 601 = .ok (.aload_n 0, 1) := by decide +kernel
theorem dL_law_602 : decode cL_law 602 = .ok (.iload_n 3, 1) := by decide +kernel
theorem dL_law_603 : decode cL_law 603 = .ok (.iconst 1, 1) := by decide +kernel
theorem dL_law_604 : decode cL_law 604 = .ok (.iadd, 1) := by decide +kernel
theorem dL_law_605 : decode cL_law 605 = .ok (.iaload, 1) := by decide +kernel
theorem dL_law_606 : decode cL_law 606 = .ok (.aload_n 0, 1) := by decide +kernel
theorem dL_law_607 : decode cL_law 607 = .ok (.iload_n 3, 1) := by decide +kernel
theorem dL_law_608 : decode cL_law 608 = .ok (.iconst 2, 1) := by decide +kernel
theorem dL_law_609 : decode cL_law 609 = .ok (.iadd, 1) := by decide +kernel
theorem dL_law_610 : decode cL_law 610 = .ok (.iaload, 1) := by decide +kernel
theorem dL_law_611 : decode cL_law 611 = .ok (.invokevirtual 73, 3) := by decide +kernel
theorem dL_law_614 : decode cL_law 614 = .ok (.aload_n 2, 1) := by decide +kernel
theorem dL_law_615 : decode cL_law 615 = .ok (.aload_n 0, 1) := by decide +kernel
theorem dL_law_616 : decode cL_law 616 = .ok (.iload_n 3, 1) := by decide +kernel
theorem dL_law_617 : decode cL_law 617 = .ok (.iconst 1, 1) := by decide +kernel
theorem dL_law_618 : decode cL_law 618 = .ok (.iadd, 1) := by decide +kernel
theorem dL_law_619 : decode cL_law 619 = .ok (.iaload, 1) := by decide +kernel
theorem dL_law_620 : decode cL_law 620 = .ok (.aload_n 0, 1) := by decide +kernel
theorem dL_law_621 : decode cL_law 621 = .ok (.iload_n 3, 1) := by decide +kernel
theorem dL_law_622 : decode cL_law 622 = .ok (.iconst 2, 1) := by decide +kernel
theorem dL_law_623 : decode cL_law 623 = .ok (.iadd, 1) := by decide +kernel
theorem dL_law_624 : decode cL_law 624 = .ok (.iaload, 1) := by decide +kernel
theorem dL_law_625 : decode cL_law 625 = .ok (.invokevirtual 76, 3) := by decide +kernel
theorem dL_law_628 : decode cL_law 628 = .ok (.if_icmp .eq 567, 3) := by decide +kernel
theorem dL_law_631 : decode cL_law 631 = .ok (.iconst 0, 1) := by decide +kernel
theorem dL_law_632 : decode cL_law 632 = .ok (.ireturn, 1) := by decide +kernel
theorem dL_law_633 : decode cL_law 633 = .ok (.aload_n 1, 1) := by decide +kernel
theorem dL_law_634 : decode cL_law 634 = .ok (.invokevirtual 77, 3) := by decide +kernel
theorem dL_law_637 : decode cL_law 637 = .ok (.aload_n 2, 1) := by decide +kernel
theorem dL_law_638 : decode cL_law 638 = .ok (.invokevirtual 80, 3) := by decide +kernel
theorem dL_law_641 : decode cL_law 641 = .ok (.if_icmp .eq 554, 3) := by decide +kernel
theorem dL_law_644 : decode cL_law 644 = .ok (.iconst 0, 1) := by decide +kernel
theorem dL_law_645 : decode cL_law 645 = .ok (.ireturn, 1) := by decide +kernel
theorem dL_law_646 : decode cL_law 646 = .ok (.aload_n 1, 1) := by decide +kernel
theorem dL_law_647 : decode cL_law 647 = .ok (.aload_n 0, 1) := by decide +kernel
theorem dL_law_648 : decode cL_law 648 = .ok (.iload_n 3, 1) := by decide +kernel
theorem dL_law_649 : decode cL_law 649 = .ok (.iconst 1, 1) := by decide +kernel
theorem dL_law_650 : decode cL_law 650 = .ok (.iadd, 1) := by decide +kernel
theorem dL_law_651 : decode cL_law 651 = .ok (.iaload, 1) := by decide +kernel
theorem dL_law_652 : decode cL_law 652 = .ok (.invokevirtual 81, 3) := by decide +kernel
theorem dL_law_655 : decode cL_law 655 = .ok (.aload_n 2, 1) := by decide +kernel
theorem dL_law_656 : decode cL_law 656 = .ok (.aload_n 0, 1) := by decide +kernel
theorem dL_law_657 : decode cL_law 657 = .ok (.iload_n 3, 1) := by decide +kernel
theorem dL_law_658 : decode cL_law 658 = .ok (.iconst 1, 1) := by decide +kernel
theorem dL_law_659 : decode cL_law 659 = .ok (.iadd, 1) := by decide +kernel
theorem dL_law_660 : decode cL_law 660 = .ok (.iaload, 1) := by decide +kernel
theorem dL_law_661 : decode cL_law 661 = .ok (.invokevirtual 84, 3) := by decide +kernel
theorem dL_law_664 : decode cL_law 664 = .ok (.if_icmp .eq 531, 3) := by decide +kernel
theorem dL_law_667 : decode cL_law 667 = .ok (.iconst 0, 1) := by decide +kernel
theorem dL_law_668 : decode cL_law 668 = .ok (.ireturn, 1) := by decide +kernel
theorem dL_law_669 : decode cL_law 669 = .ok (.aload_n 1, 1) := by decide +kernel
theorem dL_law_670 : decode cL_law 670 = .ok (.aload_n 0, 1) := by decide +kernel
theorem dL_law_671 : decode cL_law 671 = .ok (.iload_n 3, 1) := by decide +kernel
theorem dL_law_672 : decode cL_law 672 = .ok (.iconst 1, 1) := by decide +kernel
theorem dL_law_673 : decode cL_law 673 = .ok (.iadd, 1) := by decide +kernel
theorem dL_law_674 : decode cL_law 674 = .ok (.iaload, 1) := by decide +kernel
theorem dL_law_675 : decode cL_law 675 = .ok (.aload_n 0, 1) := by decide +kernel
theorem dL_law_676 : decode cL_law 676 = .ok (.iload_n 3, 1) := by decide +kernel
theorem dL_law_677 : decode cL_law 677 = .ok (.iconst 2, 1) := by decide +kernel
theorem dL_law_678 : decode cL_law 678 = .ok (.iadd, 1) := by decide +kernel
theorem dL_law_679 : decode cL_law 679 = .ok (.iaload, 1) := by decide +kernel
theorem dL_law_680 : decode cL_law 680 = .ok (.aload_n 0, 1) := by decide +kernel
theorem dL_law_681 : decode cL_law 681 = .ok (.iload_n 3, 1) := by decide +kernel
theorem dL_law_682 : decode cL_law 682 = .ok (.iconst 3, 1) := by decide +kernel
theorem dL_law_683 : decode cL_law 683 = .ok (.iadd, 1) := by decide +kernel
theorem dL_law_684 : decode cL_law 684 = .ok (.iaload, 1) := by decide +kernel
theorem dL_law_685 : decode cL_law 685 = .ok (.invokevirtual 85, 3) := by decide +kernel
theorem dL_law_688 : decode cL_law 688 = .ok (.aload_n 2, 1) := by decide +kernel
theorem dL_law_689 : decode cL_law 689 = .ok (.aload_n 0, 1) := by decide +kernel
theorem dL_law_690 : decode cL_law 690 = .ok (.iload_n 3, 1) := by decide +kernel
theorem dL_law_691 : decode cL_law 691 = .ok (.iconst 1, 1) := by decide +kernel
theorem dL_law_692 : decode cL_law 692 = .ok (.iadd, 1) := by decide +kernel
theorem dL_law_693 : decode cL_law 693 = .ok (.iaload, 1) := by decide +kernel
theorem dL_law_694 : decode cL_law 694 = .ok (.aload_n 0, 1) := by decide +kernel
theorem dL_law_695 : decode cL_law 695 = .ok (.iload_n 3, 1) := by decide +kernel
theorem dL_law_696 : decode cL_law 696 = .ok (.iconst 2, 1) := by decide +kernel
theorem dL_law_697 : decode cL_law 697 = .ok (.iadd, 1) := by decide +kernel
theorem dL_law_698 : decode cL_law 698 = .ok (.iaload, 1) := by decide +kernel
theorem dL_law_699 : decode cL_law 699 = .ok (.aload_n 0, 1) := by decide +kernel
theorem dL_law_700 : decode cL_law 700 = .ok (.iload_n 3, 1) := by decide +kernel
theorem dL_law_701 : decode cL_law 701 = .ok (.iconst 3, 1) := by decide +kernel
theorem dL_law_702 : decode cL_law 702 = .ok (.iadd, 1) := by decide +kernel
theorem dL_law_703 : decode cL_law 703 = .ok (.iaload, 1) := by decide +kernel
theorem dL_law_704 : decode cL_law 704 = .ok (.invokevirtual 88, 3) := by decide +kernel
theorem dL_law_707 : decode cL_law 707 = .ok (.if_icmp .eq 488, 3) := by decide +kernel
theorem dL_law_710 : decode cL_law 710 = .ok (.iconst 0, 1) := by decide +kernel
theorem dL_law_711 : decode cL_law 711 = .ok (.ireturn, 1) := by decide +kernel
theorem dL_law_712 : decode cL_law 712 = .ok (.aload_n 1, 1) := by decide +kernel
theorem dL_law_713 : decode cL_law 713 = .ok (.aload_n 0, 1) := by decide +kernel
theorem dL_law_714 : decode cL_law 714 = .ok (.iload_n 3, 1) := by decide +kernel
theorem dL_law_715 : decode cL_law 715 = .ok (.iconst 1, 1) := by decide +kernel
theorem dL_law_716 : decode cL_law 716 = .ok (.iadd, 1) := by decide +kernel
theorem dL_law_717 : decode cL_law 717 = .ok (.iaload, 1) := by decide +kernel
theorem dL_law_718 : decode cL_law 718 = .ok (.aload_n 0, 1) := by decide +kernel
theorem dL_law_719 : decode cL_law 719 = .ok (.iload_n 3, 1) := by decide +kernel
theorem dL_law_720 : decode cL_law 720 = .ok (.iconst 2, 1) := by decide +kernel
theorem dL_law_721 : decode cL_law 721 = .ok (.iadd, 1) := by decide +kernel
theorem dL_law_722 : decode cL_law 722 = .ok (.iaload, 1) := by decide +kernel
theorem dL_law_723 : decode cL_law 723 = .ok (.aload_n 0, 1) := by decide +kernel
theorem dL_law_724 : decode cL_law 724 = .ok (.iload_n 3, 1) := by decide +kernel
theorem dL_law_725 : decode cL_law 725 = .ok (.iconst 3, 1) := by decide +kernel
theorem dL_law_726 : decode cL_law 726 = .ok (.iadd, 1) := by decide +kernel
theorem dL_law_727 : decode cL_law 727 = .ok (.iaload, 1) := by decide +kernel
theorem dL_law_728 : decode cL_law 728 = .ok (.invokevirtual 89, 3) := by decide +kernel
theorem dL_law_731 : decode cL_law 731 = .ok (.aload_n 2, 1) := by decide +kernel
theorem dL_law_732 : decode cL_law 732 = .ok (.aload_n 0, 1) := by decide +kernel
theorem dL_law_733 : decode cL_law 733 = .ok (.iload_n 3, 1) := by decide +kernel
theorem dL_law_734 : decode cL_law 734 = .ok (.iconst 1, 1) := by decide +kernel
theorem dL_law_735 : decode cL_law 735 = .ok (.iadd, 1) := by decide +kernel
theorem dL_law_736 : decode cL_law 736 = .ok (.iaload, 1) := by decide +kernel
theorem dL_law_737 : decode cL_law 737 = .ok (.aload_n 0, 1) := by decide +kernel
theorem dL_law_738 : decode cL_law 738 = .ok (.iload_n 3, 1) := by decide +kernel
theorem dL_law_739 : decode cL_law 739 = .ok (.iconst 2, 1) := by decide +kernel
theorem dL_law_740 : decode cL_law 740 = .ok (.iadd, 1) := by decide +kernel
theorem dL_law_741 : decode cL_law 741 = .ok (.iaload, 1) := by decide +kernel
theorem dL_law_742 : decode cL_law 742 = .ok (.aload_n 0, 1) := by decide +kernel
theorem dL_law_743 : decode cL_law 743 = .ok (.iload_n 3, 1) := by decide +kernel
theorem dL_law_744 : decode cL_law 744 = .ok (.iconst 3, 1) := by decide +kernel
theorem dL_law_745 : decode cL_law 745 = .ok (.iadd, 1) := by decide +kernel
theorem dL_law_746 : decode cL_law 746 = .ok (.iaload, 1) := by decide +kernel
theorem dL_law_747 : decode cL_law 747 = .ok (.invokevirtual 92, 3) := by decide +kernel
theorem dL_law_750 : decode cL_law 750 = .ok (.if_icmp .eq 445, 3) := by decide +kernel
theorem dL_law_753 : decode cL_law 753 = .ok (.iconst 0, 1) := by decide +kernel
theorem dL_law_754 : decode cL_law 754 = .ok (.ireturn, 1) := by decide +kernel
theorem dL_law_755 : decode cL_law 755 = .ok (.aload_n 1, 1) := by decide +kernel
theorem dL_law_756 : decode cL_law 756 = .ok (.aload_n 0, 1) := by decide +kernel
theorem dL_law_757 : decode cL_law 757 = .ok (.iload_n 3, 1) := by decide +kernel
theorem dL_law_758 : decode cL_law 758 = .ok (.iconst 1, 1) := by decide +kernel
theorem dL_law_759 : decode cL_law 759 = .ok (.iadd, 1) := by decide +kernel
theorem dL_law_760 : decode cL_law 760 = .ok (.iaload, 1) := by decide +kernel
theorem dL_law_761 : decode cL_law 761 = .ok (.aload_n 0, 1) := by decide +kernel
theorem dL_law_762 : decode cL_law 762 = .ok (.iload_n 3, 1) := by decide +kernel
theorem dL_law_763 : decode cL_law 763 = .ok (.iconst 2, 1) := by decide +kernel
theorem dL_law_764 : decode cL_law 764 = .ok (.iadd, 1) := by decide +kernel
theorem dL_law_765 : decode cL_law 765 = .ok (.iaload, 1) := by decide +kernel
theorem dL_law_766 : decode cL_law 766 = .ok (.invokevirtual 93, 3) := by decide +kernel
theorem dL_law_769 : decode cL_law 769 = .ok (.aload_n 2, 1) := by decide +kernel
theorem dL_law_770 : decode cL_law 770 = .ok (.aload_n 0, 1) := by decide +kernel
theorem dL_law_771 : decode cL_law 771 = .ok (.iload_n 3, 1) := by decide +kernel
theorem dL_law_772 : decode cL_law 772 = .ok (.iconst 1, 1) := by decide +kernel
theorem dL_law_773 : decode cL_law 773 = .ok (.iadd, 1) := by decide +kernel
theorem dL_law_774 : decode cL_law 774 = .ok (.iaload, 1) := by decide +kernel
theorem dL_law_775 : decode cL_law 775 = .ok (.aload_n 0, 1) := by decide +kernel
theorem dL_law_776 : decode cL_law 776 = .ok (.iload_n 3, 1) := by decide +kernel
theorem dL_law_777 : decode cL_law 777 = .ok (.iconst 2, 1) := by decide +kernel
theorem dL_law_778 : decode cL_law 778 = .ok (.iadd, 1) := by decide +kernel
theorem dL_law_779 : decode cL_law 779 = .ok (.iaload, 1) := by decide +kernel
theorem dL_law_780 : decode cL_law 780 = .ok (.invokevirtual 96, 3) := by decide +kernel
theorem dL_law_783 : decode cL_law 783 = .ok (.if_icmp .eq 412, 3) := by decide +kernel
theorem dL_law_786 : decode cL_law 786 = .ok (.iconst 0, 1) := by decide +kernel
theorem dL_law_787 : decode cL_law 787 = .ok (.ireturn, 1) := by decide +kernel
theorem dL_law_788 : decode cL_law 788 = .ok (.aload_n 1, 1) := by decide +kernel
theorem dL_law_789 : decode cL_law 789 = .ok (.aload_n 0, 1) := by decide +kernel
theorem dL_law_790 : decode cL_law 790 = .ok (.iload_n 3, 1) := by decide +kernel
theorem dL_law_791 : decode cL_law 791 = .ok (.iconst 1, 1) := by decide +kernel
theorem dL_law_792 : decode cL_law 792 = .ok (.iadd, 1) := by decide +kernel
theorem dL_law_793 : decode cL_law 793 = .ok (.iaload, 1) := by decide +kernel
theorem dL_law_794 : decode cL_law 794 = .ok (.invokevirtual 97, 3) := by decide +kernel
theorem dL_law_797 : decode cL_law 797 = .ok (.aload_n 2, 1) := by decide +kernel
theorem dL_law_798 : decode cL_law 798 = .ok (.aload_n 0, 1) := by decide +kernel
theorem dL_law_799 : decode cL_law 799 = .ok (.iload_n 3, 1) := by decide +kernel
theorem dL_law_800 : decode cL_law 800 = .ok (.iconst 1, 1) := by decide +kernel
theorem dL_law_801 : decode cL_law 801 = .ok (.iadd, 1) := by decide +kernel
theorem dL_law_802 : decode cL_law 802 = .ok (.iaload, 1) := by decide +kernel
theorem dL_law_803 : decode cL_law 803 = .ok (.invokevirtual 100, 3) := by decide +kernel
theorem dL_law_806 : decode cL_law 806 = .ok (.if_icmp .eq 389, 3) := by decide +kernel
theorem dL_law_809 : decode cL_law 809 = .ok (.iconst 0, 1) := by decide +kernel
theorem dL_law_810 : decode cL_law 810 = .ok (.ireturn, 1) := by decide +kernel
theorem dL_law_811 : decode cL_law 811 = .ok (.aload_n 1, 1) := by decide +kernel
theorem dL_law_812 : decode cL_law 812 = .ok (.aload_n 0, 1) := by decide +kernel
theorem dL_law_813 : decode cL_law 813 = .ok (.iload_n 3, 1) := by decide +kernel
theorem dL_law_814 : decode cL_law 814 = .ok (.iconst 1, 1) := by decide +kernel
theorem dL_law_815 : decode cL_law 815 = .ok (.iadd, 1) := by decide +kernel
theorem dL_law_816 : decode cL_law 816 = .ok (.iaload, 1) := by decide +kernel
theorem dL_law_817 : decode cL_law 817 = .ok (.invokevirtual 101, 3) := by decide +kernel
theorem dL_law_820 : decode cL_law 820 = .ok (.aload_n 2, 1) := by decide +kernel
theorem dL_law_821 : decode cL_law 821 = .ok (.aload_n 0, 1) := by decide +kernel
theorem dL_law_822 : decode cL_law 822 = .ok (.iload_n 3, 1) := by decide +kernel
theorem dL_law_823 : decode cL_law 823 = .ok (.iconst 1, 1) := by decide +kernel
theorem dL_law_824 : decode cL_law 824 = .ok (.iadd, 1) := by decide +kernel
theorem dL_law_825 : decode cL_law 825 = .ok (.iaload, 1) := by decide +kernel
theorem dL_law_826 : decode cL_law 826 = .ok (.invokevirtual 104, 3) := by decide +kernel
theorem dL_law_829 : decode cL_law 829 = .ok (.if_icmp .eq 366, 3) := by decide +kernel
theorem dL_law_832 : decode cL_law 832 = .ok (.iconst 0, 1) := by decide +kernel
theorem dL_law_833 : decode cL_law 833 = .ok (.ireturn, 1) := by decide +kernel
theorem dL_law_834 : decode cL_law 834 = .ok (.aload_n 1, 1) := by decide +kernel
theorem dL_law_835 : decode cL_law 835 = .ok (.invokevirtual 105, 3) := by decide +kernel
theorem dL_law_838 : decode cL_law 838 = .ok (.aload_n 2, 1) := by decide +kernel
theorem dL_law_839 : decode cL_law 839 = .ok (.invokevirtual 108, 3) := by decide +kernel
theorem dL_law_842 : decode cL_law 842 = .ok (.if_icmp .eq 353, 3) := by decide +kernel
theorem dL_law_845 : decode cL_law 845 = .ok (.iconst 0, 1) := by decide +kernel
theorem dL_law_846 : decode cL_law 846 = .ok (.ireturn, 1) := by decide +kernel
theorem dL_law_847 : decode cL_law 847 = .ok (.aload_n 1, 1) := by decide +kernel
theorem dL_law_848 : decode cL_law 848 = .ok (.aload_n 0, 1) := by decide +kernel
theorem dL_law_849 : decode cL_law 849 = .ok (.iload_n 3, 1) := by decide +kernel
theorem dL_law_850 : decode cL_law 850 = .ok (.iconst 1, 1) := by decide +kernel
theorem dL_law_851 : decode cL_law 851 = .ok (.iadd, 1) := by decide +kernel
theorem dL_law_852 : decode cL_law 852 = .ok (.iaload, 1) := by decide +kernel
theorem dL_law_853 : decode cL_law 853 = .ok (.invokevirtual 109, 3) := by decide +kernel
theorem dL_law_856 : decode cL_law 856 = .ok (.aload_n 2, 1) := by decide +kernel
theorem dL_law_857 : decode cL_law 857 = .ok (.aload_n 0, 1) := by decide +kernel
theorem dL_law_858 : decode cL_law 858 = .ok (.iload_n 3, 1) := by decide +kernel
theorem dL_law_859 : decode cL_law 859 = .ok (.iconst 1, 1) := by decide +kernel
theorem dL_law_860 : decode cL_law 860 = .ok (.iadd, 1) := by decide +kernel
theorem dL_law_861 : decode cL_law 861 = .ok (.iaload, 1) := by decide +kernel
theorem dL_law_862 : decode cL_law 862 = .ok (.invokevirtual 112, 3) := by decide +kernel
theorem dL_law_865 : decode cL_law 865 = .ok (.if_icmp .eq 330, 3) := by decide +kernel
theorem dL_law_868 : decode cL_law 868 = .ok (.iconst 0, 1) := by decide +kernel
theorem dL_law_869 : decode cL_law 869 = .ok (.ireturn, 1) := by decide +kernel
theorem dL_law_870 : decode cL_law 870 = .ok (.aload_n 1, 1) := by decide +kernel
theorem dL_law_871 : decode cL_law 871 = .ok (.aload_n 0, 1) := by decide +kernel
theorem dL_law_872 : decode cL_law 872 = .ok (.iload_n 3, 1) := by decide +kernel
theorem dL_law_873 : decode cL_law 873 = .ok (.iconst 1, 1) := by decide +kernel
theorem dL_law_874 : decode cL_law 874 = .ok (.iadd, 1) := by decide +kernel
theorem dL_law_875 : decode cL_law 875 = .ok (.iaload, 1) := by decide +kernel
theorem dL_law_876 : decode cL_law 876 = .ok (.aload_n 0, 1) := by decide +kernel
theorem dL_law_877 : decode cL_law 877 = .ok (.iload_n 3, 1) := by decide +kernel
theorem dL_law_878 : decode cL_law 878 = .ok (.iconst 2, 1) := by decide +kernel
theorem dL_law_879 : decode cL_law 879 = .ok (.iadd, 1) := by decide +kernel
theorem dL_law_880 : decode cL_law 880 = .ok (.iaload, 1) := by decide +kernel
theorem dL_law_881 : decode cL_law 881 = .ok (.invokevirtual 113, 3) := by decide +kernel
theorem dL_law_884 : decode cL_law 884 = .ok (.aload_n 2, 1) := by decide +kernel
theorem dL_law_885 : decode cL_law 885 = .ok (.aload_n 0, 1) := by decide +kernel
theorem dL_law_886 : decode cL_law 886 = .ok (.iload_n 3, 1) := by decide +kernel
theorem dL_law_887 : decode cL_law 887 = .ok (.iconst 1, 1) := by decide +kernel
theorem dL_law_888 : decode cL_law 888 = .ok (.iadd, 1) := by decide +kernel
theorem dL_law_889 : decode cL_law 889 = .ok (.iaload, 1) := by decide +kernel
theorem dL_law_890 : decode cL_law 890 = .ok (.aload_n 0, 1) := by decide +kernel
theorem dL_law_891 : decode cL_law 891 = .ok (.iload_n 3, 1) := by decide +kernel
theorem dL_law_892 : decode cL_law 892 = .ok (.iconst 2, 1) := by decide +kernel
theorem dL_law_893 : decode cL_law 893 = .ok (.iadd, 1) := by decide +kernel
theorem dL_law_894 : decode cL_law 894 = .ok (.iaload, 1) := by decide +kernel
theorem dL_law_895 : decode cL_law 895 = .ok (.invokevirtual 116, 3) := by decide +kernel
theorem dL_law_898 : decode cL_law 898 = .ok (.if_icmp .eq 297, 3) := by decide +kernel
theorem dL_law_901 : decode cL_law 901 = .ok (.iconst 0, 1) := by decide +kernel
theorem dL_law_902 : decode cL_law 902 = .ok (.ireturn, 1) := by decide +kernel
theorem dL_law_903 : decode cL_law 903 = .ok (.aload_n 1, 1) := by decide +kernel
theorem dL_law_904 : decode cL_law 904 = .ok (.aload_n 0, 1) := by decide +kernel
theorem dL_law_905 : decode cL_law 905 = .ok (.iload_n 3, 1) := by decide +kernel
theorem dL_law_906 : decode cL_law 906 = .ok (.iconst 1, 1) := by decide +kernel
theorem dL_law_907 : decode cL_law 907 = .ok (.iadd, 1) := by decide +kernel
theorem dL_law_908 : decode cL_law 908 = .ok (.iaload, 1) := by decide +kernel
theorem dL_law_909 : decode cL_law 909 = .ok (.aload_n 0, 1) := by decide +kernel
theorem dL_law_910 : decode cL_law 910 = .ok (.iload_n 3, 1) := by decide +kernel
theorem dL_law_911 : decode cL_law 911 = .ok (.iconst 2, 1) := by decide +kernel
theorem dL_law_912 : decode cL_law 912 = .ok (.iadd, 1) := by decide +kernel
theorem dL_law_913 : decode cL_law 913 = .ok (.iaload, 1) := by decide +kernel
theorem dL_law_914 : decode cL_law 914 = .ok (.invokevirtual 117, 3) := by decide +kernel
theorem dL_law_917 : decode cL_law 917 = .ok (.aload_n 2, 1) := by decide +kernel
theorem dL_law_918 : decode cL_law 918 = .ok (.aload_n 0, 1) := by decide +kernel
theorem dL_law_919 : decode cL_law 919 = .ok (.iload_n 3, 1) := by decide +kernel
theorem dL_law_920 : decode cL_law 920 = .ok (.iconst 1, 1) := by decide +kernel
theorem dL_law_921 : decode cL_law 921 = .ok (.iadd, 1) := by decide +kernel
theorem dL_law_922 : decode cL_law 922 = .ok (.iaload, 1) := by decide +kernel
theorem dL_law_923 : decode cL_law 923 = .ok (.aload_n 0, 1) := by decide +kernel
theorem dL_law_924 : decode cL_law 924 = .ok (.iload_n 3, 1) := by decide +kernel
theorem dL_law_925 : decode cL_law 925 = .ok (.iconst 2, 1) := by decide +kernel
theorem dL_law_926 : decode cL_law 926 = .ok (.iadd, 1) := by decide +kernel
theorem dL_law_927 : decode cL_law 927 = .ok (.iaload, 1) := by decide +kernel
theorem dL_law_928 : decode cL_law 928 = .ok (.invokevirtual 120, 3) := by decide +kernel
theorem dL_law_931 : decode cL_law 931 = .ok (.if_icmp .eq 264, 3) := by decide +kernel
theorem dL_law_934 : decode cL_law 934 = .ok (.iconst 0, 1) := by decide +kernel
theorem dL_law_935 : decode cL_law 935 = .ok (.ireturn, 1) := by decide +kernel
theorem dL_law_936 : decode cL_law 936 = .ok (.aload_n 1, 1) := by decide +kernel
theorem dL_law_937 : decode cL_law 937 = .ok (.invokevirtual 121, 3) := by decide +kernel
theorem dL_law_940 : decode cL_law 940 = .ok (.aload_n 2, 1) := by decide +kernel
theorem dL_law_941 : decode cL_law 941 = .ok (.invokevirtual 124, 3) := by decide +kernel
theorem dL_law_944 : decode cL_law 944 = .ok (.if_icmp .eq 251, 3) := by decide +kernel
theorem dL_law_947 : decode cL_law 947 = .ok (.iconst 0, 1) := by decide +kernel
theorem dL_law_948 : decode cL_law 948 = .ok (.ireturn, 1) := by decide +kernel
theorem dL_law_949 : decode cL_law 949 = .ok (.aload_n 1, 1) := by decide +kernel
theorem dL_law_950 : decode cL_law 950 = .ok (.aload_n 0, 1) := by decide +kernel
theorem dL_law_951 : decode cL_law 951 = .ok (.iload_n 3, 1) := by decide +kernel
theorem dL_law_952 : decode cL_law 952 = .ok (.iconst 1, 1) := by decide +kernel
theorem dL_law_953 : decode cL_law 953 = .ok (.iadd, 1) := by decide +kernel
theorem dL_law_954 : decode cL_law 954 = .ok (.iaload, 1) := by decide +kernel
theorem dL_law_955 : decode cL_law 955 = .ok (.invokevirtual 125, 3) := by decide +kernel
theorem dL_law_958 : decode cL_law 958 = .ok (.aload_n 2, 1) := by decide +kernel
theorem dL_law_959 : decode cL_law 959 = .ok (.aload_n 0, 1) := by decide +kernel
theorem dL_law_960 : decode cL_law 960 = .ok (.iload_n 3, 1) := by decide +kernel
theorem dL_law_961 : decode cL_law 961 = .ok (.iconst 1, 1) := by decide +kernel
theorem dL_law_962 : decode cL_law 962 = .ok (.iadd, 1) := by decide +kernel
theorem dL_law_963 : decode cL_law 963 = .ok (.iaload, 1) := by decide +kernel
theorem dL_law_964 : decode cL_law 964 = .ok (.invokevirtual 128, 3) := by decide +kernel
theorem dL_law_967 : decode cL_law 967 = .ok (.if_icmp .eq 228, 3) := by decide +kernel
theorem dL_law_970 : decode cL_law 970 = .ok (.iconst 0, 1) := by decide +kernel
theorem dL_law_971 : decode cL_law 971 = .ok (.ireturn, 1) := by decide +kernel
theorem dL_law_972 : decode cL_law 972 = .ok (.aload_n 1, 1) := by decide +kernel
theorem dL_law_973 : decode cL_law 973 = .ok (.aload_n 0, 1) := by decide +kernel
theorem dL_law_974 : decode cL_law 974 = .ok (.iload_n 3, 1) := by decide +kernel
theorem dL_law_975 : decode cL_law 975 = .ok (.iconst 1, 1) := by decide +kernel
theorem dL_law_976 : decode cL_law 976 = .ok (.iadd, 1) := by decide +kernel
theorem dL_law_977 : decode cL_law 977 = .ok (.iaload, 1) := by decide +kernel
theorem dL_law_978 : decode cL_law 978 = .ok (.invokevirtual 129, 3) := by decide +kernel
theorem dL_law_981 : decode cL_law 981 = .ok (.aload_n 2, 1) := by decide +kernel
theorem dL_law_982 : decode cL_law 982 = .ok (.aload_n 0, 1) := by decide +kernel
theorem dL_law_983 : decode cL_law 983 = .ok (.iload_n 3, 1) := by decide +kernel
theorem dL_law_984 : decode cL_law 984 = .ok (.iconst 1, 1) := by decide +kernel
theorem dL_law_985 : decode cL_law 985 = .ok (.iadd, 1) := by decide +kernel
theorem dL_law_986 : decode cL_law 986 = .ok (.iaload, 1) := by decide +kernel
theorem dL_law_987 : decode cL_law 987 = .ok (.invokevirtual 132, 3) := by decide +kernel
theorem dL_law_990 : decode cL_law 990 = .ok (.if_icmp .eq 205, 3) := by decide +kernel
theorem dL_law_993 : decode cL_law 993 = .ok (.iconst 0, 1) := by decide +kernel
theorem dL_law_994 : decode cL_law 994 = .ok (.ireturn, 1) := by decide +kernel
theorem dL_law_995 : decode cL_law 995 = .ok (.aload_n 1, 1) := by decide +kernel
theorem dL_law_996 : decode cL_law 996 = .ok (.aload_n 0, 1) := by decide +kernel
theorem dL_law_997 : decode cL_law 997 = .ok (.iload_n 3, 1) := by decide +kernel
theorem dL_law_998 : decode cL_law 998 = .ok (.iconst 1, 1) := by decide +kernel
theorem dL_law_999 : decode cL_law 999 = .ok (.iadd, 1) := by decide +kernel
theorem dL_law_1000 : decode cL_law 1000 = .ok (.iaload, 1) := by decide +kernel
theorem dL_law_1001 : decode cL_law 1001 = .ok (.aload_n 0, 1) := by decide +kernel
theorem dL_law_1002 : decode cL_law 1002 = .ok (.iload_n 3, 1) := by decide +kernel
theorem dL_law_1003 : decode cL_law 1003 = .ok (.iconst 2, 1) := by decide +kernel
theorem dL_law_1004 : decode cL_law 1004 = .ok (.iadd, 1) := by decide +kernel
theorem dL_law_1005 : decode cL_law 1005 = .ok (.iaload, 1) := by decide +kernel
theorem dL_law_1006 : decode cL_law 1006 = .ok (.aload_n 0, 1) := by decide +kernel
theorem dL_law_1007 : decode cL_law 1007 = .ok (.iload_n 3, 1) := by decide +kernel
theorem dL_law_1008 : decode cL_law 1008 = .ok (.iconst 3, 1) := by decide +kernel
theorem dL_law_1009 : decode cL_law 1009 = .ok (.iadd, 1) := by decide +kernel
theorem dL_law_1010 : decode cL_law 1010 = .ok (.iaload, 1) := by decide +kernel
theorem dL_law_1011 : decode cL_law 1011 = .ok (.invokevirtual 133, 3) := by decide +kernel
theorem dL_law_1014 : decode cL_law 1014 = .ok (.aload_n 2, 1) := by decide +kernel
theorem dL_law_1015 : decode cL_law 1015 = .ok (.aload_n 0, 1) := by decide +kernel
theorem dL_law_1016 : decode cL_law 1016 = .ok (.iload_n 3, 1) := by decide +kernel
theorem dL_law_1017 : decode cL_law 1017 = .ok (.iconst 1, 1) := by decide +kernel
theorem dL_law_1018 : decode cL_law 1018 = .ok (.iadd, 1) := by decide +kernel
theorem dL_law_1019 : decode cL_law 1019 = .ok (.iaload, 1) := by decide +kernel
theorem dL_law_1020 : decode cL_law 1020 = .ok (.aload_n 0, 1) := by decide +kernel
theorem dL_law_1021 : decode cL_law 1021 = .ok (.iload_n 3, 1) := by decide +kernel
theorem dL_law_1022 : decode cL_law 1022 = .ok (.iconst 2, 1) := by decide +kernel
theorem dL_law_1023 : decode cL_law 1023 = .ok (.iadd, 1) := by decide +kernel
theorem dL_law_1024 : decode cL_law 1024 = .ok (.iaload, 1) := by decide +kernel
theorem dL_law_1025 : decode cL_law 1025 = .ok (.aload_n 0, 1) := by decide +kernel
theorem dL_law_1026 : decode cL_law 1026 = .ok (.iload_n 3, 1) := by decide +kernel
theorem dL_law_1027 : decode cL_law 1027 = .ok (.iconst 3, 1) := by decide +kernel
theorem dL_law_1028 : decode cL_law 1028 = .ok (.iadd, 1) := by decide +kernel
theorem dL_law_1029 : decode cL_law 1029 = .ok (.iaload, 1) := by decide +kernel
theorem dL_law_1030 : decode cL_law 1030 = .ok (.invokevirtual 137, 3) := by decide +kernel
theorem dL_law_1033 : decode cL_law 1033 = .ok (.lcmp, 1) := by decide +kernel
theorem dL_law_1034 : decode cL_law 1034 = .ok (.ifCond .eq 161, 3) := by decide +kernel
theorem dL_law_1037 : decode cL_law 1037 = .ok (.iconst 0, 1) := by decide +kernel
theorem dL_law_1038 : decode cL_law 1038 = .ok (.ireturn, 1) := by decide +kernel
theorem dL_law_1039 : decode cL_law 1039 = .ok (.aload_n 1, 1) := by decide +kernel
theorem dL_law_1040 : decode cL_law 1040 = .ok (.aload_n 0, 1) := by decide +kernel
theorem dL_law_1041 : decode cL_law 1041 = .ok (.iload_n 3, 1) := by decide +kernel
theorem dL_law_1042 : decode cL_law 1042 = .ok (.iconst 1, 1) := by decide +kernel
theorem dL_law_1043 : decode cL_law 1043 = .ok (.iadd, 1) := by decide +kernel
theorem dL_law_1044 : decode cL_law 1044 = .ok (.iaload, 1) := by decide +kernel
theorem dL_law_1045 : decode cL_law 1045 = .ok (.aload_n 0, 1) := by decide +kernel
theorem dL_law_1046 : decode cL_law 1046 = .ok (.iload_n 3, 1) := by decide +kernel
theorem dL_law_1047 : decode cL_law 1047 = .ok (.iconst 2, 1) := by decide +kernel
theorem dL_law_1048 : decode cL_law 1048 = .ok (.iadd, 1) := by decide +kernel
theorem dL_law_1049 : decode cL_law 1049 = .ok (.iaload, 1) := by decide +kernel
theorem dL_law_1050 : decode cL_law 1050 = .ok (.aload_n 0, 1) := by decide +kernel
theorem dL_law_1051 : decode cL_law 1051 = .ok (.iload_n 3, 1) := by decide +kernel
theorem dL_law_1052 : decode cL_law 1052 = .ok (.iconst 3, 1) := by decide +kernel
theorem dL_law_1053 : decode cL_law 1053 = .ok (.iadd, 1) := by decide +kernel
theorem dL_law_1054 : decode cL_law 1054 = .ok (.iaload, 1) := by decide +kernel
theorem dL_law_1055 : decode cL_law 1055 = .ok (.invokevirtual 138, 3) := by decide +kernel
theorem dL_law_1058 : decode cL_law 1058 = .ok (.aload_n 2, 1) := by decide +kernel
theorem dL_law_1059 : decode cL_law 1059 = .ok (.aload_n 0, 1) := by decide +kernel
theorem dL_law_1060 : decode cL_law 1060 = .ok (.iload_n 3, 1) := by decide +kernel
theorem dL_law_1061 : decode cL_law 1061 = .ok (.iconst 1, 1) := by decide +kernel
theorem dL_law_1062 : decode cL_law 1062 = .ok (.iadd, 1) := by decide +kernel
theorem dL_law_1063 : decode cL_law 1063 = .ok (.iaload, 1) := by decide +kernel
theorem dL_law_1064 : decode cL_law 1064 = .ok (.aload_n 0, 1) := by decide +kernel
theorem dL_law_1065 : decode cL_law 1065 = .ok (.iload_n 3, 1) := by decide +kernel
theorem dL_law_1066 : decode cL_law 1066 = .ok (.iconst 2, 1) := by decide +kernel
theorem dL_law_1067 : decode cL_law 1067 = .ok (.iadd, 1) := by decide +kernel
theorem dL_law_1068 : decode cL_law 1068 = .ok (.iaload, 1) := by decide +kernel
theorem dL_law_1069 : decode cL_law 1069 = .ok (.aload_n 0, 1) := by decide +kernel
theorem dL_law_1070 : decode cL_law 1070 = .ok (.iload_n 3, 1) := by decide +kernel
theorem dL_law_1071 : decode cL_law 1071 = .ok (.iconst 3, 1) := by decide +kernel
theorem dL_law_1072 : decode cL_law 1072 = .ok (.iadd, 1) := by decide +kernel
theorem dL_law_1073 : decode cL_law 1073 = .ok (.iaload, 1) := by decide +kernel
theorem dL_law_1074 : decode cL_law 1074 = .ok (.invokevirtual 141, 3) := by decide +kernel
theorem dL_law_1077 : decode cL_law 1077 = .ok (.lcmp, 1) := by decide +kernel
theorem dL_law_1078 : decode cL_law 1078 = .ok (.ifCond .eq 117, 3) := by decide +kernel
theorem dL_law_1081 : decode cL_law 1081 = .ok (.iconst 0, 1) := by decide +kernel
theorem dL_law_1082 : decode cL_law 1082 = .ok (.ireturn, 1) := by decide +kernel
theorem dL_law_1083 : decode cL_law 1083 = .ok (.aload_n 1, 1) := by decide +kernel
theorem dL_law_1084 : decode cL_law 1084 = .ok (.aload_n 0, 1) := by decide +kernel
theorem dL_law_1085 : decode cL_law 1085 = .ok (.iload_n 3, 1) := by decide +kernel
theorem dL_law_1086 : decode cL_law 1086 = .ok (.iconst 1, 1) := by decide +kernel
theorem dL_law_1087 : decode cL_law 1087 = .ok (.iadd, 1) := by decide +kernel
theorem dL_law_1088 : decode cL_law 1088 = .ok (.iaload, 1) := by decide +kernel
theorem dL_law_1089 : decode cL_law 1089 = .ok (.aload_n 0, 1) := by decide +kernel
theorem dL_law_1090 : decode cL_law 1090 = .ok (.iload_n 3, 1) := by decide +kernel
theorem dL_law_1091 : decode cL_law 1091 = .ok (.iconst 2, 1) := by decide +kernel
theorem dL_law_1092 : decode cL_law 1092 = .ok (.iadd, 1) := by decide +kernel
theorem dL_law_1093 : decode cL_law 1093 = .ok (.iaload, 1) := by decide +kernel
theorem dL_law_1094 : decode cL_law 1094 = .ok (.aload_n 0, 1) := by decide +kernel
theorem dL_law_1095 : decode cL_law 1095 = .ok (.iload_n 3, 1) := by decide +kernel
theorem dL_law_1096 : decode cL_law 1096 = .ok (.iconst 3, 1) := by decide +kernel
theorem dL_law_1097 : decode cL_law 1097 = .ok (.iadd, 1) := by decide +kernel
theorem dL_law_1098 : decode cL_law 1098 = .ok (.iaload, 1) := by decide +kernel
theorem dL_law_1099 : decode cL_law 1099 = .ok (.invokevirtual 142, 3) := by decide +kernel
theorem dL_law_1102 : decode cL_law 1102 = .ok (.aload_n 2, 1) := by decide +kernel
theorem dL_law_1103 : decode cL_law 1103 = .ok (.aload_n 0, 1) := by decide +kernel
theorem dL_law_1104 : decode cL_law 1104 = .ok (.iload_n 3, 1) := by decide +kernel
theorem dL_law_1105 : decode cL_law 1105 = .ok (.iconst 1, 1) := by decide +kernel
theorem dL_law_1106 : decode cL_law 1106 = .ok (.iadd, 1) := by decide +kernel
theorem dL_law_1107 : decode cL_law 1107 = .ok (.iaload, 1) := by decide +kernel
theorem dL_law_1108 : decode cL_law 1108 = .ok (.aload_n 0, 1) := by decide +kernel
theorem dL_law_1109 : decode cL_law 1109 = .ok (.iload_n 3, 1) := by decide +kernel
theorem dL_law_1110 : decode cL_law 1110 = .ok (.iconst 2, 1) := by decide +kernel
theorem dL_law_1111 : decode cL_law 1111 = .ok (.iadd, 1) := by decide +kernel
theorem dL_law_1112 : decode cL_law 1112 = .ok (.iaload, 1) := by decide +kernel
theorem dL_law_1113 : decode cL_law 1113 = .ok (.aload_n 0, 1) := by decide +kernel
theorem dL_law_1114 : decode cL_law 1114 = .ok (.iload_n 3, 1) := by decide +kernel
theorem dL_law_1115 : decode cL_law 1115 = .ok (.iconst 3, 1) := by decide +kernel
theorem dL_law_1116 : decode cL_law 1116 = .ok (.iadd, 1) := by decide +kernel
theorem dL_law_1117 : decode cL_law 1117 = .ok (.iaload, 1) := by decide +kernel
theorem dL_law_1118 : decode cL_law 1118 = .ok (.invokevirtual 145, 3) := by decide +kernel
theorem dL_law_1121 : decode cL_law 1121 = .ok (.if_icmp .eq 74, 3) := by decide +kernel
theorem dL_law_1124 : decode cL_law 1124 = .ok (.iconst 0, 1) := by decide +kernel
theorem dL_law_1125 : decode cL_law 1125 = .ok (.ireturn, 1) := by decide +kernel
theorem dL_law_1126 : decode cL_law 1126 = .ok (.aload_n 1, 1) := by decide +kernel
theorem dL_law_1127 : decode cL_law 1127 = .ok (.aload_n 0, 1) := by decide +kernel
theorem dL_law_1128 : decode cL_law 1128 = .ok (.iload_n 3, 1) := by decide +kernel
theorem dL_law_1129 : decode cL_law 1129 = .ok (.iconst 1, 1) := by decide +kernel
theorem dL_law_1130 : decode cL_law 1130 = .ok (.iadd, 1) := by decide +kernel
theorem dL_law_1131 : decode cL_law 1131 = .ok (.iaload, 1) := by decide +kernel
theorem dL_law_1132 : decode cL_law 1132 = .ok (.invokevirtual 146, 3) := by decide +kernel
theorem dL_law_1135 : decode cL_law 1135 = .ok (.aload_n 2, 1) := by decide +kernel
theorem dL_law_1136 : decode cL_law 1136 = .ok (.aload_n 0, 1) := by decide +kernel
theorem dL_law_1137 : decode cL_law 1137 = .ok (.iload_n 3, 1) := by decide +kernel
theorem dL_law_1138 : decode cL_law 1138 = .ok (.iconst 1, 1) := by decide +kernel
theorem dL_law_1139 : decode cL_law 1139 = .ok (.iadd, 1) := by decide +kernel
theorem dL_law_1140 : decode cL_law 1140 = .ok (.iaload, 1) := by decide +kernel
theorem dL_law_1141 : decode cL_law 1141 = .ok (.invokevirtual 149, 3) := by decide +kernel
theorem dL_law_1144 : decode cL_law 1144 = .ok (.if_icmp .eq 51, 3) := by decide +kernel
theorem dL_law_1147 : decode cL_law 1147 = .ok (.iconst 0, 1) := by decide +kernel
theorem dL_law_1148 : decode cL_law 1148 = .ok (.ireturn, 1) := by decide +kernel
theorem dL_law_1149 : decode cL_law 1149 = .ok (.aload_n 1, 1) := by decide +kernel
theorem dL_law_1150 : decode cL_law 1150 = .ok (.aload_n 0, 1) := by decide +kernel
theorem dL_law_1151 : decode cL_law 1151 = .ok (.iload_n 3, 1) := by decide +kernel
theorem dL_law_1152 : decode cL_law 1152 = .ok (.iconst 1, 1) := by decide +kernel
theorem dL_law_1153 : decode cL_law 1153 = .ok (.iadd, 1) := by decide +kernel
theorem dL_law_1154 : decode cL_law 1154 = .ok (.iaload, 1) := by decide +kernel
theorem dL_law_1155 : decode cL_law 1155 = .ok (.invokevirtual 150, 3) := by decide +kernel
theorem dL_law_1158 : decode cL_law 1158 = .ok (.aload_n 2, 1) := by decide +kernel
theorem dL_law_1159 : decode cL_law 1159 = .ok (.aload_n 0, 1) := by decide +kernel
theorem dL_law_1160 : decode cL_law 1160 = .ok (.iload_n 3, 1) := by decide +kernel
theorem dL_law_1161 : decode cL_law 1161 = .ok (.iconst 1, 1) := by decide +kernel
theorem dL_law_1162 : decode cL_law 1162 = .ok (.iadd, 1) := by decide +kernel
theorem dL_law_1163 : decode cL_law 1163 = .ok (.iaload, 1) := by decide +kernel
theorem dL_law_1164 : decode cL_law 1164 = .ok (.invokevirtual 153, 3) := by decide +kernel
theorem dL_law_1167 : decode cL_law 1167 = .ok (.if_icmp .eq 28, 3) := by decide +kernel
theorem dL_law_1170 : decode cL_law 1170 = .ok (.iconst 0, 1) := by decide +kernel
theorem dL_law_1171 : decode cL_law 1171 = .ok (.ireturn, 1) := by decide +kernel
theorem dL_law_1172 : decode cL_law 1172 = .ok (.aload_n 1, 1) := by decide +kernel
theorem dL_law_1173 : decode cL_law 1173 = .ok (.aload_n 0, 1) := by decide +kernel
theorem dL_law_1174 : decode cL_law 1174 = .ok (.iload_n 3, 1) := by decide +kernel
theorem dL_law_1175 : decode cL_law 1175 = .ok (.iconst 1, 1) := by decide +kernel
theorem dL_law_1176 : decode cL_law 1176 = .ok (.iadd, 1) := by decide +kernel
theorem dL_law_1177 : decode cL_law 1177 = .ok (.iaload, 1) := by decide +kernel
theorem dL_law_1178 : decode cL_law 1178 = .ok (.invokevirtual 154, 3) := by decide +kernel
theorem dL_law_1181 : decode cL_law 1181 = .ok (.aload_n 2, 1) := by decide +kernel
theorem dL_law_1182 : decode cL_law 1182 = .ok (.aload_n 0, 1) := by decide +kernel
theorem dL_law_1183 : decode cL_law 1183 = .ok (.iload_n 3, 1) := by decide +kernel
theorem dL_law_1184 : decode cL_law 1184 = .ok (.iconst 1, 1) := by decide +kernel
theorem dL_law_1185 : decode cL_law 1185 = .ok (.iadd, 1) := by decide +kernel
theorem dL_law_1186 : decode cL_law 1186 = .ok (.iaload, 1) := by decide +kernel
theorem dL_law_1187 : decode cL_law 1187 = .ok (.invokevirtual 157, 3) := by decide +kernel
theorem dL_law_1190 : decode cL_law 1190 = .ok (.if_icmp .eq 5, 3) := by decide +kernel
theorem dL_law_1193 : decode cL_law 1193 = .ok (.iconst 0, 1) := by decide +kernel
theorem dL_law_1194 : decode cL_law 1194 = .ok (.ireturn, 1) := by decide +kernel
theorem dL_law_1195 : decode cL_law 1195 = .ok (.iinc 3 4, 3) := by decide +kernel
theorem dL_law_1198 : decode cL_law 1198 = .ok (.goto (-1180), 3) := by decide +kernel
theorem dL_law_1201 : decode cL_law 1201 = .ok (.iconst 1, 1) := by decide +kernel
theorem dL_law_1202 : decode cL_law 1202 = .ok (.ireturn, 1) := by decide +kernel
end
section
/-! ===== ints as zI z ===== -/
def zI (z : Int) : Int32 := Int32.ofInt z
abbrev inR (z : Int) : Prop := -2147483648 ≤ z ∧ z < 2147483648
theorem zI_toInt {z : Int} (h : inR z) : (zI z).toInt = z := Int32.toInt_ofInt_of_le (Int.le_trans (by decide) h.1) (Int.lt_of_lt_of_le h.2 (by decide))
theorem zI_of (x : Int32) : ∃ z : Int, inR z ∧ x = zI z := ⟨x.toInt, ⟨Int.le_trans (by decide) x.le_toInt, Int.lt_of_lt_of_le x.toInt_lt (by decide)⟩, (Int32.ofInt_toInt x).symm⟩
theorem zI_add (a b : Int) : zI a + zI b = zI (a + b) := (Int32.ofInt_add a b).symm
theorem zI_sub (a b : Int) : zI a - zI b = zI (a - b) := (Int32.ofInt_sub a b).symm
theorem zI_mul (a b : Int) : zI a * zI b = zI (a * b) := (Int32.ofInt_mul a b).symm
theorem zI_nat (n : Nat) : zI (n : Int) = nI n := Int32.ofInt_eq_ofNat
theorem zI_lt {a b : Int} (ha : inR a) (hb : inR b) : zI a < zI b ↔ a < b := by rw [Int32.lt_iff_toInt_lt, zI_toInt ha, zI_toInt hb]
theorem zI_le {a b : Int} (ha : inR a) (hb : inR b) : zI a ≤ zI b ↔ a ≤ b := by rw [Int32.le_iff_toInt_le, zI_toInt ha, zI_toInt hb]
theorem zI_eq {a b : Int} (ha : inR a) (hb : inR b) : zI a = zI b ↔ a = b := by rw [← Int32.toInt_inj, zI_toInt ha, zI_toInt hb]
theorem zI_0 : zI 0 = 0 := by decide
theorem zI_1 : zI 1 = 1 := by decide
theorem zI_eq0 {a : Int} (ha : inR a) : zI a = 0 ↔ a = 0 := by rw [← zI_0]; exact zI_eq ha (by decide)
theorem zI_lt0 {a : Int} (ha : inR a) : zI a < 0 ↔ a < 0 := by rw [← zI_0]; exact zI_lt ha (by decide)
theorem zI_0le {a : Int} (ha : inR a) : 0 ≤ zI a ↔ 0 ≤ a := by rw [← zI_0]; exact zI_le (by decide) ha
theorem zI_le0 {a : Int} (ha : inR a) : zI a ≤ 0 ↔ a ≤ 0 := by rw [← zI_0]; exact zI_le ha (by decide)
theorem zI_0lt {a : Int} (ha : inR a) : 0 < zI a ↔ 0 < a := by rw [← zI_0]; exact zI_lt (by decide) ha
theorem zI_clamp {z : Int} (h : inR z) : (zI z).toNatClampNeg = z.toNat := Int32.toNatClampNeg_ofInt_of_le (Int.le_trans (by decide) h.1) (Int.lt_of_lt_of_le h.2 (by decide))
theorem zI_clampN {n : Nat} (h : n < 2147483648) : (zI (n : Int)).toNatClampNeg = n := by
  rw [zI_clamp ⟨by omega, by omega⟩]; exact Int.toNat_natCast n
theorem zI_in {j n : Nat} (h : j < n) (hn : n < 2147483648) : vp_in (zI (j : Int)) n := by
  rw [vp_in_iff, zI_toInt ⟨by omega, by omega⟩]
  omega
theorem zI_div {a b : Int} (ha : inR a) (hb : inR b) : zI a / zI b = zI (a.tdiv b) :=
  (Int32.ofInt_tdiv (Int.le_trans (by decide) ha.1) (Int.le_trans (Int.le_sub_one_of_lt ha.2) (by decide)) (Int.le_trans (by decide) hb.1) (Int.le_trans (Int.le_sub_one_of_lt hb.2) (by decide))).symm
theorem zI_rem {a b : Int} (ha : inR a) (hb : inR b) : zI a - zI a / zI b * zI b = zI (a.tmod b) := by
  rw [zI_div ha hb, zI_mul, zI_sub]
  congr 1
  have := Int.mul_tdiv_add_tmod a b
  rw [Int.mul_comm] at this
  omega
theorem nI_bv (n : Nat) : (nI n).toBitVec = BitVec.ofNat 32 n := rfl
theorem zI_and (a b : Nat) : zI (a : Int) &&& zI (b : Int) = zI ((a &&& b : Nat) : Int) := by
  rw [zI_nat, zI_nat, zI_nat]
  apply Int32.toBitVec.inj
  show (nI a).toBitVec &&& (nI b).toBitVec = (nI (a &&& b)).toBitVec
  rw [nI_bv, nI_bv, nI_bv, ← BitVec.ofNat_and]
theorem zI_or (a b : Nat) : zI (a : Int) ||| zI (b : Int) = zI ((a ||| b : Nat) : Int) := by
  rw [zI_nat, zI_nat, zI_nat]
  apply Int32.toBitVec.inj
  show (nI a).toBitVec ||| (nI b).toBitVec = (nI (a ||| b)).toBitVec
  rw [nI_bv, nI_bv, nI_bv, ← BitVec.ofNat_or]
theorem zI_shc : ∀ n, n < 32 → ((nI n &&& 31).toBitVec.smod 32).toNat = n := by decide +kernel
theorem zI_shl {a p : Nat} (hp : p < 31) (h : a * 2 ^ p < 2147483648) : zI (a : Int) <<< (zI (p : Int) &&& 31) = zI ((a * 2 ^ p : Nat) : Int) := by
  rw [zI_nat, zI_nat, zI_nat]
  exact pk_shlN _ p (zI_shc p (by omega)) (by omega)
theorem zI_shr {a p : Nat} (hp : p < 31) (h : a < 2147483648) : zI (a : Int) >>> (zI (p : Int) &&& 31) = zI ((a / 2 ^ p : Nat) : Int) := by
  rw [zI_nat, zI_nat, zI_nat]
  exact pk_shrN (by omega) _ p (zI_shc p (by omega))
end
section
/-! ===== EV: the walk of a method over plain data ===== -/
def TB : List Cond := lw_tbl.filter goodWord
theorem TB_in {w : Cond} (h : w ∈ lw_tbl) (hg : goodWord w = true) : w ∈ TB := List.mem_filter.mpr ⟨h, hg⟩
theorem TB_good {w : Cond} (h : w ∈ TB) : (w.onTables && w.keeps) = true ∨ ∃ ty, w = .arrayClass ty := good_of_word (List.mem_filter.mp h).2
def NBt : List (String × Nat × MethodName × String) := [(RX6, 9, yX3_init, RX6), (RX6, 18, yX1_init, RX6), (RX6, 29, yX2_init, RX6), (RX1, 9, yX0_init, RX6), (RX1, 18, yX4_init, RX6), (RX1, 25, yX5_init, RX6), (RX0, 34, yX6_isOneOf, RX6), (RX0, 80, yX6_bornDay, RX6), (RX2, 63, yX6_isOneOf, RX6), (RX3, 19, yX6_isOneOf, RX6), (RX4, 35, yX6_isOneOf, RX6), (RX5, 28, yX6_isOneOf, RX6)]
/-- class numbers, slots; the classes of int[], boolean[], Land[] -/
abbrev GG : Type := va_G × ClassId × ClassId × ClassId
abbrev Hp : Type := Nat → Option va_E
abbrev MD : Type := MethodName × ByteArray × Nat × Option FieldType
def tysG (G : GG) : List (ClassId × FieldType) := [(G.2.1, .int), (G.2.2.1, .boolean), (G.2.2.2, .object RX1)]
def hset (h : Hp) (a : Nat) (e : va_E) : Hp := fun q => if q = a then some e else h q
theorem hset_s (h : Hp) (a : Nat) (e : va_E) : hset h a e a = some e := by simp [hset]
theorem hset_n (h : Hp) {a b : Nat} (e : va_E) (hb : b ≠ a) : hset h a e b = h b := by simp [hset, hb]
theorem hset_hset (h : Hp) (a : Nat) (e e' : va_E) : hset (hset h a e) a e' = hset h a e' := by
  funext q
  by_cases hq : q = a
  · subst hq; simp [hset]
  · simp [hset, hq]
theorem hset_self {h : Hp} {a : Nat} {e : va_E} (ha : h a = some e) : hset h a e = h := by
  funext q
  by_cases hq : q = a
  · subst hq; simp [hset, ha]
  · simp [hset, hq]
theorem hset_swap (h : Hp) {a b : Nat} (e e' : va_E) (hab : a ≠ b) : hset (hset h a e) b e' = hset (hset h b e') a e := by
  funext q
  by_cases h1 : q = a
  · subst h1; simp [hset, hab]
  · by_cases h2 : q = b
    · subst h2; simp [hset, h1]
    · simp [hset, h1, h2]
def dmH (h : Hp) : Nat → Prop := fun q => (h q).isSome = true
def Cx (G : GG) (U : State) : Prop := va_K G.1 vwCl (tysG G) U ∧ (∀ q ∈ NBt, va_Nw (.methodLinkNest q.1 q.2.1 q.2.2.1 q.2.2.2) U) ∧ va_AO RX1 U
theorem Cx.warm {G : GG} {s U : State} (hW : s.WarmedH U.vm) (h : Cx G s) : Cx G U := ⟨va_K.moved hW.alike h.1, fun q hq => va_Nw.warmM hW (h.2.1 q hq), va_AO.moved hW.alike h.2.2⟩
theorem Cx.call {G : GG} {U : State} {g : JFrame} {mk : MethodId} {a : Array Value} (h : Cx G U) : Cx G (U.calling g mk a) :=
  ⟨va_K.moved (u := U) (U := U.calling g mk a) (Vm.Alike.refl U.vm) h.1, fun q hq => va_Nw.same (u := U) (U := U.calling g mk a) rfl rfl (h.2.1 q hq), va_AO.moved (u := U) (U := U.calling g mk a) (Vm.Alike.refl U.vm) h.2.2⟩
/-- the heap holds the cells of h -/
def Rl (G : GG) (h : Hp) (H : Heap) : Prop := ∃ ws : va_W, va_P G.1 vwCl ws H ∧ va_D (dmH h) ws ∧ ∀ (a : Nat) (e : va_E), h a = some e → ∃ k : Nat, ws[k]? = some (a, e)
theorem Rl.set {G : GG} {h : Hp} {H1 : Heap} {ws : va_W} {k a : Nat} {e0 e : va_E} (hD : va_D (dmH h) ws) (hc : ∀ (a : Nat) (e : va_E), h a = some e → ∃ k : Nat, ws[k]? = some (a, e)) (hk : ws[k]? = some (a, e0)) (hP : va_P G.1 vwCl (ws.set k (a, e)) H1) : Rl G (hset h a e) H1 := by
  have hlt : k < ws.length := (List.getElem?_eq_some_iff.mp hk).1
  refine ⟨_, hP, (hD.set hk).weaken (fun j q _ hq => ?_), fun b e' hb => ?_⟩
  · show (hset h a e q.1).isSome = true
    unfold hset
    by_cases hqa : q.1 = a
    · rw [if_pos hqa]; rfl
    · rw [if_neg hqa]; exact hq
  · unfold hset at hb
    by_cases hba : b = a
    · rw [if_pos hba] at hb
      cases hb
      subst hba
      exact ⟨k, List.getElem?_set_self hlt⟩
    · rw [if_neg hba] at hb
      obtain ⟨j, hj⟩ := hc b e' hb
      have hjk : k ≠ j := fun x => by
        subst x
        rw [hk] at hj
        cases hj
        exact hba rfl
      exact ⟨j, by rw [List.getElem?_set_ne hjk]; exact hj⟩
theorem Rl.push {G : GG} {h : Hp} {H1 : Heap} {A : Nat → Prop} {ws : va_W} {q : Nat} {e : va_E} (hD : va_D (dmH h) ws) (hc : ∀ (a : Nat) (e : va_E), h a = some e → ∃ k : Nat, ws[k]? = some (a, e)) (hP : va_P G.1 vwCl (ws ++ [(q, e)]) H1) (hD2 : va_D A (ws ++ [(q, e)])) : h q = none ∧ A q ∧ Rl G (hset h q e) H1 := by
  have hlast : (ws ++ [(q, e)])[ws.length]? = some (q, e) := by simp
  have hnone : h q = none := by
    cases hq : h q with
    | none => rfl
    | some e' =>
      obtain ⟨k, hk⟩ := hc q e' hq
      have hlt : k < ws.length := (List.getElem?_eq_some_iff.mp hk).1
      have h1 : (ws ++ [(q, e)])[k]? = some (q, e') := by rw [List.getElem?_append_left hlt]; exact hk
      have := hD2.1 k ws.length _ _ h1 hlast rfl
      omega
  refine ⟨hnone, hD2.2 _ _ hlast, _, hP, ⟨hD2.1, fun k x hx => ?_⟩, fun b e' hb => ?_⟩
  · show (hset h q e x.1).isSome = true
    unfold hset
    by_cases hxq : x.1 = q
    · rw [if_pos hxq]; rfl
    · rw [if_neg hxq]
      by_cases hl : k < ws.length
      · rw [List.getElem?_append_left hl] at hx
        exact hD.2 k x hx
      · rw [List.getElem?_append_right (by omega)] at hx
        have hz : k - ws.length < 1 := (List.getElem?_eq_some_iff.mp hx).1
        rw [show k - ws.length = 0 by omega] at hx
        cases hx
        exact absurd rfl hxq
  · unfold hset at hb
    by_cases hbq : b = q
    · rw [if_pos hbq] at hb
      cases hb
      subst hbq
      exact ⟨_, hlast⟩
    · rw [if_neg hbq] at hb
      obtain ⟨j, hj⟩ := hc b e' hb
      exact ⟨j, by rw [List.getElem?_append_left (List.getElem?_eq_some_iff.mp hj).1]; exact hj⟩
/-- the locals: a list of options, none is unknown; longs are not held there -/
def hasL (ls : Array Slot) (nL : Nat) (lv : List (Option Value)) : Prop := ls.size = nL ∧ lv_wf ls ∧ ∀ (i : Nat) (v : Value), lv[i]? = some (some v) → ls[i]? = some (.val v) ∧ v.category = 1
def lvl (lv : List (Option Value)) : List (Nat × Value) := (List.range lv.length).filterMap (fun j => (lv[j]?.join).map (fun v => (j, v)))
theorem lvl_mem {lv : List (Option Value)} {i : Nat} {v : Value} : (i, v) ∈ lvl lv ↔ lv[i]? = some (some v) := by
  unfold lvl
  rw [List.mem_filterMap]
  constructor
  · rintro ⟨j, -, hj⟩
    cases hz : lv[j]? with
    | none => rw [hz] at hj; simp at hj
    | some o =>
      rw [hz] at hj
      cases o with
      | none => simp at hj
      | some w =>
        simp at hj
        obtain ⟨rfl, rfl⟩ := hj
        exact hz
  · intro h
    refine ⟨i, List.mem_range.mpr (List.getElem?_eq_some_iff.mp h).1, ?_⟩
    rw [h]; rfl
theorem hasL.has {ls : Array Slot} {nL : Nat} {lv : List (Option Value)} (h : hasL ls nL lv) : lv_has ls nL (lvl lv) := ⟨h.1, h.2.1, fun q hq => (h.2.2 q.1 q.2 (lvl_mem.mp hq)).1⟩
theorem hasL.at {ls : Array Slot} {nL : Nat} {lv : List (Option Value)} (h : hasL ls nL lv) {i : Nat} {v : Value} (hi : lv[i]? = some (some v)) : ls[i]? = some (.val v) := (h.2.2 i v hi).1
theorem hasL.lt {ls : Array Slot} {nL : Nat} {lv : List (Option Value)} (h : hasL ls nL lv) {i : Nat} {v : Value} (hi : lv[i]? = some (some v)) : i < nL := by
  have := lv_lt (h.at hi)
  rw [← h.1]; exact this
/-- what a store leaves -/
theorem hasL.set {ls ls' : Array Slot} {nL : Nat} {lv : List (Option Value)} {i : Nat} {v : Value} (h : hasL ls nL lv) (hv : v.category = 1) (h' : lv_has ls' nL ((i, v) :: (lvl lv).filter (fun q => !(q.1 == i) && !(q.1 + 1 == i && q.2.category == 2)))) : hasL ls' nL (lv.set i (some v)) := by
  refine ⟨h'.1, h'.2.1, fun j w hj => ?_⟩
  by_cases hij : i = j
  · subst hij
    have hlt : i < lv.length := by
      have := (List.getElem?_eq_some_iff.mp hj).1
      simpa using this
    rw [List.getElem?_set_self hlt] at hj
    cases hj
    exact ⟨h'.2.2 (i, v) List.mem_cons_self, hv⟩
  · rw [List.getElem?_set_ne hij] at hj
    have hc := (h.2.2 j w hj).2
    refine ⟨h'.2.2 (j, w) (List.mem_cons_of_mem _ (List.mem_filter.mpr ⟨lvl_mem.mpr hj, ?_⟩)), hc⟩
    have h1 : (j == i) = false := by simp [Ne.symm hij]
    have h2 : (w.category == 2) = false := by simp [hc]
    show (!(j == i) && !(j + 1 == i && w.category == 2)) = true
    rw [h1, h2]; simp
def MC (G : GG) (M : MD) (A : Nat → Prop) (p : Program) (s : State) (m : MethodId) (args : Array Value) (meth : Method) (c : Code) : Prop :=
  p.tables.exec = Jvm.exec ∧ c.code = M.2.1 ∧ c.maxLocals = M.2.2.1 ∧ meth.sig.returnType = M.2.2.2 ∧ s.vm.findClass M.1.cls = some m.cls ∧ meth.locks = false ∧ (∀ w ∈ TB, w.before args s = true) ∧ meth.name = M.1.name ∧ Cx G s ∧ ∀ q : Nat, s.heap.size ≤ q → A q
/-- a method's end: its answer and the cells behind it -/
def EQ (G : GG) (Q : Option Value → Hp → Prop) (A : Nat → Prop) : Array Value → State → Outcome → State → Prop := fun _ st o t => (∃ (v : Option Value) (h' : Hp), o = .returned v ∧ Q v h' ∧ Rl G h' t.heap ∧ ∀ q : Nat, (h' q).isSome = true → A q) ∧ va_F A st t
def rmD (d mc ms : Nat) : Room := { frames := d, cells := mc, slots := ms, locals := 64 * d }
def EV (G : GG) (l : Launch) (M : MD) (d : Nat) (Q : Option Value → Hp → Prop) (pc : Nat) (lv : List (Option Value)) (st : List Value) (h : Hp) (kc ks : Nat) : Prop :=
  ∀ (p : Program) (e : Env) (s : State) (m : MethodId) (args : Array Value) (below : List Frame) (meth : Method) (c : Code) (A : Nat → Prop) (mc ms : Nat) (H : Heap) (locs : List Loc) (cells slots : Nat) (ls : Array Slot),
    MC G M A p s m args meth c → va_S A s.heap H locs → Rl G h H → (∀ q : Nat, (h q).isSome = true → A q) → hasL ls M.2.2.1 lv → cells + kc ≤ mc → slots + ks ≤ ms →
    W p l e (rmD d mc ms) s m args below meth c H locs cells slots (MQ below (EQ G Q A) args s mc ms A) (F0 m pc ls st)
def hA (h : Hp) (sz : Nat) : Nat → Prop := fun q => (h q).isSome = true ∨ sz ≤ q
def TBw (M : MD) : List Cond := Cond.code M.1 M.2.1 M.2.2.1 M.2.2.2 :: TB
/-- a method's contract, on the cells h -/
def CT (G : GG) (l : Launch) (M : MD) (d mc ms : Nat) (as : List Value) (h : Hp) (Q : Option Value → Hp → Prop) : Prop :=
  ∀ sz : Nat, Met l M.1 (TBw M) (rmD d mc ms) (va_Pc as (fun U => U.heap.size = sz ∧ Cx G U ∧ Rl G h U.heap)) (EQ G Q (hA h sz)) mc ms (hA h sz)
theorem lva_mem : ∀ (as : List Value) (k i : Nat) (v : Value), (∀ v ∈ as, v.category = 1) → as[i]? = some v → (k + i, v) ∈ lv_args k as
  | [], k, i, v, _, h => by simp at h
  | a :: as, k, i, v, hc, h => by
    have ha : a.category = 1 := hc a List.mem_cons_self
    cases i with
    | zero =>
      simp at h
      subst h
      exact List.mem_cons_self
    | succ i =>
      simp at h
      have := lva_mem as (k + 1) i v (fun w hw => hc w (List.mem_cons_of_mem _ hw)) h
      unfold lv_args
      rw [if_neg (by omega)]
      refine List.mem_cons_of_mem _ ?_
      rw [show k + (i + 1) = k + 1 + i by omega]
      exact this
theorem lgs_len : ∀ (as : List Value), (∀ v ∈ as, v.category = 1) → (lg_sl as).length = as.length
  | [], _ => rfl
  | a :: as, hc => by
    have ha : a.category = 1 := hc a List.mem_cons_self
    have ih := lgs_len as (fun w hw => hc w (List.mem_cons_of_mem _ hw))
    unfold lg_sl at ih ⊢
    rw [List.flatMap_cons, List.length_append, ih, if_neg (by omega)]
    simp only [List.length_cons, List.length_nil]; omega
theorem CT.of {G : GG} {l : Launch} {M : MD} {d mc ms : Nat} {as : List Value} {h : Hp} {Q : Option Value → Hp → Prop} (hy : plainName M.1.cls = true) (hn : as.length ≤ M.2.2.1) (hcat : ∀ v ∈ as, v.category = 1)
    (k : EV G l M d Q 0 (as.map some ++ List.replicate (M.2.2.1 - as.length) none) [] h mc ms) : CT G l M d mc ms as h Q := by
  intro sz
  refine Met.ofW (cc := M.2.1) (maxL := M.2.2.1) (ret := M.2.2.2) hy rfl ?_
  intro p e s m args below meth c s₁ B hml hv
  obtain ⟨rfl, hsz, hC, hR⟩ := hv
  have hts0 := atoms_spec (ws := TBw M) B.pre
  have hl := lv_entry as (n := M.2.2.1) (by rw [lgs_len as hcat]; exact hn)
  rw [lg_entry_eq]
  subst hsz
  refine k p e s m _ below meth c (hA h s.heap.size) mc ms s.heap [] 0 0 _ ⟨B.exec, B.bytes, hml, B.returns, findClass_of_methodNamed B.named, B.notSynchronized, fun w hw => hts0 w (List.mem_cons_of_mem _ hw), (name_of_methodNamed B.named B.method).1, hC, fun q hq => Or.inr hq⟩ va_S.rf hR (fun q hq => Or.inl hq) ⟨hl.1, hl.2.1, fun i v hi => ?_⟩ (by omega) (by omega)
  by_cases hia : i < as.length
  · rw [List.getElem?_append_left (by simpa using hia), List.getElem?_map] at hi
    cases hz : as[i]? with
    | none => rw [hz] at hi; simp at hi
    | some w =>
      rw [hz] at hi
      simp at hi
      subst hi
      have h1 := lva_mem as 0 i w hcat hz
      rw [Nat.zero_add] at h1
      exact ⟨hl.2.2 _ h1, hcat w (List.mem_of_getElem? hz)⟩
  · rw [List.getElem?_append_right (by simpa using hia)] at hi
    have := List.eq_of_mem_replicate (List.mem_of_getElem? hi)
    cases this
end
section
/-! ===== rows of EV: instructions that leave the heap ===== -/
section EVR
variable {G : GG} {l : Launch} {M : MD} {d : Nat} {Q : Option Value → Hp → Prop} {pc : Nat} {lv lv' : List (Option Value)} {st : List Value} {h : Hp} {kc ks : Nat}
theorem EV.same {pc' : Nat} {st' : List Value} (f : ∀ (p : Program) (e : Env) (R : Room) (s : State) (m : MethodId) (args : Array Value) (below : List Frame) (meth : Method) (c : Code) (H : Heap) (locs : List Loc) (cells slots : Nat) (Z : State → Prop) (ls : Array Slot), p.tables.exec = Jvm.exec → c.code = M.2.1 → hasL ls M.2.2.1 lv →
    W p l e R s m args below meth c H locs cells slots Z (F0 m pc' ls st') → W p l e R s m args below meth c H locs cells slots Z (F0 m pc ls st))
    (k : EV G l M d Q pc' lv st' h kc ks) : EV G l M d Q pc lv st h kc ks := by
  intro p e s m args below meth c A mc ms H locs cells slots ls hC hS hR hD hl h1 h2
  exact f _ _ _ _ _ _ _ _ _ _ _ _ _ _ _ hC.1 hC.2.1 hl (k _ _ _ _ _ _ _ _ _ _ _ _ _ _ _ _ hC hS hR hD hl h1 h2)
theorem EV.link {pc' : Nat} {st' : List Value} (f : ∀ (p : Program) (e : Env) (R : Room) (s : State) (m : MethodId) (args : Array Value) (below : List Frame) (meth : Method) (c : Code) (H : Heap) (locs : List Loc) (cells slots : Nat) (Z : State → Prop) (ls : Array Slot), p.tables.exec = Jvm.exec → c.code = M.2.1 → s.vm.findClass M.1.cls = some m.cls → (∀ w ∈ TB, w.before args s = true) →
    W p l e R s m args below meth c H locs cells slots Z (F0 m pc' ls st') → W p l e R s m args below meth c H locs cells slots Z (F0 m pc ls st))
    (k : EV G l M d Q pc' lv st' h kc ks) : EV G l M d Q pc lv st h kc ks := by
  intro p e s m args below meth c A mc ms H locs cells slots ls hC hS hR hD hl h1 h2
  exact f _ _ _ _ _ _ _ _ _ _ _ _ _ _ _ hC.1 hC.2.1 hC.2.2.2.2.1 hC.2.2.2.2.2.2.1 (k _ _ _ _ _ _ _ _ _ _ _ _ _ _ _ _ hC hS hR hD hl h1 h2)
theorem EV.store {pc' : Nat} {st' : List Value} {i : Nat} {v : Value} (hi : i < M.2.2.1) (hv : v.category = 1) (hl : lv.set i (some v) = lv')
    (f : ∀ (p : Program) (e : Env) (R : Room) (s : State) (m : MethodId) (args : Array Value) (below : List Frame) (meth : Method) (c : Code) (H : Heap) (locs : List Loc) (cells slots : Nat) (Z : State → Prop) (ls : Array Slot), p.tables.exec = Jvm.exec → c.code = M.2.1 → lv_has ls M.2.2.1 (lvl lv) →
    (∀ ls' : Array Slot, lv_has ls' M.2.2.1 ((i, v) :: (lvl lv).filter (fun q => !(q.1 == i) && !(q.1 + 1 == i && q.2.category == 2))) → W p l e R s m args below meth c H locs cells slots Z (F0 m pc' ls' st')) → W p l e R s m args below meth c H locs cells slots Z (F0 m pc ls st))
    (k : EV G l M d Q pc' lv' st' h kc ks) : EV G l M d Q pc lv st h kc ks := by
  intro p e s m args below meth c A mc ms H locs cells slots ls hC hS hR hD hls h1 h2
  refine f _ _ _ _ _ _ _ _ _ _ _ _ _ _ _ hC.1 hC.2.1 hls.has (fun ls' hx => ?_)
  have hls' : hasL ls' M.2.2.1 lv' := hl ▸ hls.set hv hx
  exact k _ _ _ _ _ _ _ _ _ _ _ _ _ _ _ _ hC hS hR hD hls' h1 h2
theorem EV.if2 {t1 t2 : Nat} {st' : List Value} {P : Prop} (f : ∀ (p : Program) (e : Env) (R : Room) (s : State) (m : MethodId) (args : Array Value) (below : List Frame) (meth : Method) (c : Code) (H : Heap) (locs : List Loc) (cells slots : Nat) (Z : State → Prop) (ls : Array Slot), p.tables.exec = Jvm.exec → c.code = M.2.1 →
    (P → W p l e R s m args below meth c H locs cells slots Z (F0 m t1 ls st')) → (¬ P → W p l e R s m args below meth c H locs cells slots Z (F0 m t2 ls st')) → W p l e R s m args below meth c H locs cells slots Z (F0 m pc ls st))
    (k1 : P → EV G l M d Q t1 lv st' h kc ks) (k2 : ¬ P → EV G l M d Q t2 lv st' h kc ks) : EV G l M d Q pc lv st h kc ks := by
  intro p e s m args below meth c A mc ms H locs cells slots ls hC hS hR hD hl h1 h2
  exact f _ _ _ _ _ _ _ _ _ _ _ _ _ _ _ hC.1 hC.2.1 (fun hp => k1 hp _ _ _ _ _ _ _ _ _ _ _ _ _ _ _ _ hC hS hR hD hl h1 h2) (fun hp => k2 hp _ _ _ _ _ _ _ _ _ _ _ _ _ _ _ _ hC hS hR hD hl h1 h2)
theorem EV.lvs (hl : lv = lv') (k : EV G l M d Q pc lv' st h kc ks) : EV G l M d Q pc lv st h kc ks := hl ▸ k
theorem EV.pcs {pc' : Nat} (hp : pc = pc') (k : EV G l M d Q pc' lv st h kc ks) : EV G l M d Q pc lv st h kc ks := hp ▸ k
theorem EV.sts {st' : List Value} (hp : st = st') (k : EV G l M d Q pc lv st' h kc ks) : EV G l M d Q pc lv st h kc ks := hp ▸ k
theorem EV.hps {h' : Hp} (hp : h = h') (k : EV G l M d Q pc lv st h' kc ks) : EV G l M d Q pc lv st h kc ks := hp ▸ k
theorem EV.iconst {n : Int} (dg : decode M.2.1 pc = .ok (.iconst n, 1)) (k : EV G l M d Q (pc + 1) lv (.int (zI n) :: st) h kc ks) : EV G l M d Q pc lv st h kc ks :=
  EV.same (fun _ _ _ _ _ _ _ _ _ _ _ _ _ _ _ hx hb _ kk => lv_iconst hx hb dg rfl kk) k
theorem EV.bipush {n : Int} (dg : decode M.2.1 pc = .ok (.bipush n, 2)) (hv : (Int8.ofInt n).toInt32 = zI n) (k : EV G l M d Q (pc + 2) lv (.int (zI n) :: st) h kc ks) : EV G l M d Q pc lv st h kc ks :=
  EV.same (fun _ _ _ _ _ _ _ _ _ _ _ _ _ _ _ hx hb _ kk => lv_bipush hx hb dg hv kk) k
theorem EV.sipush {n : Int} (dg : decode M.2.1 pc = .ok (.sipush n, 3)) (hv : (Int16.ofInt n).toInt32 = zI n) (k : EV G l M d Q (pc + 3) lv (.int (zI n) :: st) h kc ks) : EV G l M d Q pc lv st h kc ks :=
  EV.same (fun _ _ _ _ _ _ _ _ _ _ _ _ _ _ _ hx hb _ kk => lv_sipush hx hb dg hv kk) k
theorem EV.ldc {i : Nat} {n : Int} (dg : decode M.2.1 pc = .ok (.ldc i, 2)) (hw : Cond.constant M.1.cls i (zI n) ∈ TB) (k : EV G l M d Q (pc + 2) lv (.int (zI n) :: st) h kc ks) : EV G l M d Q pc lv st h kc ks :=
  EV.link (fun _ _ _ _ _ _ _ _ _ _ _ _ _ _ _ hx hb ho hts kk => lv_ldc hx hb ho (hts _ hw) dg kk) k
theorem EV.ldcw {i : Nat} {n : Int} (dg : decode M.2.1 pc = .ok (.ldc_w i, 3)) (hw : Cond.constant M.1.cls i (zI n) ∈ TB) (k : EV G l M d Q (pc + 3) lv (.int (zI n) :: st) h kc ks) : EV G l M d Q pc lv st h kc ks :=
  EV.link (fun _ _ _ _ _ _ _ _ _ _ _ _ _ _ _ hx hb ho hts kk => lv_ldcw hx hb ho (hts _ hw) dg kk) k
theorem EV.ldc2 {i : Nat} {n : Int64} (dg : decode M.2.1 pc = .ok (.ldc2_w i, 3)) (hw : Cond.constantLong M.1.cls i n ∈ TB) (k : EV G l M d Q (pc + 3) lv (.long n :: st) h kc ks) : EV G l M d Q pc lv st h kc ks :=
  EV.link (fun _ _ _ _ _ _ _ _ _ _ _ _ _ _ _ hx hb ho hts kk => lv_ldc2 hx hb ho (hts _ hw) dg kk) k
theorem EV.iload_n {q : Fin 4} {i : Nat} {x : Int32} (dg : decode M.2.1 pc = .ok (.iload_n q, 1)) (hi : (q : Nat) = i) (hk : lv[i]? = some (some (.int x))) (k : EV G l M d Q (pc + 1) lv (.int x :: st) h kc ks) : EV G l M d Q pc lv st h kc ks :=
  EV.same (fun _ _ _ _ _ _ _ _ _ _ _ _ _ _ _ hx hb hl kk => lv_iload_n hx hb dg hi (hl.at hk) kk) k
theorem EV.iload {i : Nat} {x : Int32} (dg : decode M.2.1 pc = .ok (.iload i, 2)) (hk : lv[i]? = some (some (.int x))) (k : EV G l M d Q (pc + 2) lv (.int x :: st) h kc ks) : EV G l M d Q pc lv st h kc ks :=
  EV.same (fun _ _ _ _ _ _ _ _ _ _ _ _ _ _ _ hx hb hl kk => lv_iload hx hb dg (hl.at hk) kk) k
theorem EV.aload_n {q : Fin 4} {i a : Nat} (dg : decode M.2.1 pc = .ok (.aload_n q, 1)) (hi : (q : Nat) = i) (hk : lv[i]? = some (some (.ref a))) (k : EV G l M d Q (pc + 1) lv (.ref a :: st) h kc ks) : EV G l M d Q pc lv st h kc ks :=
  EV.same (fun _ _ _ _ _ _ _ _ _ _ _ _ _ _ _ hx hb hl kk => lv_aload_n hx hb dg hi (hl.at hk) kk) k
theorem EV.aload {i a : Nat} (dg : decode M.2.1 pc = .ok (.aload i, 2)) (hk : lv[i]? = some (some (.ref a))) (k : EV G l M d Q (pc + 2) lv (.ref a :: st) h kc ks) : EV G l M d Q pc lv st h kc ks :=
  EV.same (fun _ _ _ _ _ _ _ _ _ _ _ _ _ _ _ hx hb hl kk => lv_aload hx hb dg (hl.at hk) kk) k
theorem EV.aload_nN {q : Fin 4} {i : Nat} (dg : decode M.2.1 pc = .ok (.aload_n q, 1)) (hi : (q : Nat) = i) (hk : lv[i]? = some (some .null)) (k : EV G l M d Q (pc + 1) lv (.null :: st) h kc ks) : EV G l M d Q pc lv st h kc ks :=
  EV.same (fun _ _ _ _ _ _ _ _ _ _ _ _ _ _ _ hx hb hl kk => lv_aload_nN hx hb dg hi (hl.at hk) kk) k
theorem EV.istore_n {q : Fin 4} {i : Nat} {x : Int32} (dg : decode M.2.1 pc = .ok (.istore_n q, 1)) (hi : (q : Nat) = i) (hn : i < M.2.2.1) (hl : lv.set i (some (.int x)) = lv') (k : EV G l M d Q (pc + 1) lv' st h kc ks) : EV G l M d Q pc lv (.int x :: st) h kc ks :=
  EV.store hn rfl hl (fun _ _ _ _ _ _ _ _ _ _ _ _ _ _ _ hx hb hl kk => lv_istore_n hx hb dg hi hl hn rfl kk) k
theorem EV.istore {i : Nat} {x : Int32} (dg : decode M.2.1 pc = .ok (.istore i, 2)) (hn : i < M.2.2.1) (hl : lv.set i (some (.int x)) = lv') (k : EV G l M d Q (pc + 2) lv' st h kc ks) : EV G l M d Q pc lv (.int x :: st) h kc ks :=
  EV.store hn rfl hl (fun _ _ _ _ _ _ _ _ _ _ _ _ _ _ _ hx hb hl kk => lv_istore hx hb dg hl hn rfl kk) k
theorem EV.astore_n {q : Fin 4} {i a : Nat} (dg : decode M.2.1 pc = .ok (.astore_n q, 1)) (hi : (q : Nat) = i) (hn : i < M.2.2.1) (hl : lv.set i (some (.ref a)) = lv') (k : EV G l M d Q (pc + 1) lv' st h kc ks) : EV G l M d Q pc lv (.ref a :: st) h kc ks :=
  EV.store hn rfl hl (fun _ _ _ _ _ _ _ _ _ _ _ _ _ _ _ hx hb hl kk => lv_astore_n hx hb dg hi hl hn rfl kk) k
theorem EV.astore {i a : Nat} (dg : decode M.2.1 pc = .ok (.astore i, 2)) (hn : i < M.2.2.1) (hl : lv.set i (some (.ref a)) = lv') (k : EV G l M d Q (pc + 2) lv' st h kc ks) : EV G l M d Q pc lv (.ref a :: st) h kc ks :=
  EV.store hn rfl hl (fun _ _ _ _ _ _ _ _ _ _ _ _ _ _ _ hx hb hl kk => lv_astore hx hb dg hl hn rfl kk) k
theorem EV.astore_nN {q : Fin 4} {i : Nat} (dg : decode M.2.1 pc = .ok (.astore_n q, 1)) (hi : (q : Nat) = i) (hn : i < M.2.2.1) (hl : lv.set i (some .null) = lv') (k : EV G l M d Q (pc + 1) lv' st h kc ks) : EV G l M d Q pc lv (.null :: st) h kc ks :=
  EV.store hn rfl hl (fun _ _ _ _ _ _ _ _ _ _ _ _ _ _ _ hx hb hl kk => lv_astore_nN hx hb dg hi hl hn rfl kk) k
theorem EV.iinc {i : Nat} {n x : Int} (dg : decode M.2.1 pc = .ok (.iinc i n, 3)) (hk : lv[i]? = some (some (.int (zI x)))) (hn : i < M.2.2.1) (hl : lv.set i (some (.int (zI (x + n)))) = lv') (k : EV G l M d Q (pc + 3) lv' st h kc ks) : EV G l M d Q pc lv st h kc ks := by
  obtain ⟨j, hj⟩ := List.getElem?_of_mem (lvl_mem.mpr hk)
  exact EV.store hn rfl hl (fun _ _ _ _ _ _ _ _ _ _ _ _ _ _ _ hx hb hl kk => lv_iinc hx hb dg hl hj (by rw [show Int32.ofInt n = zI n from rfl, zI_add]) hn rfl kk) k
theorem EV.iadd {x y : Int} (dg : decode M.2.1 pc = .ok (.iadd, 1)) (k : EV G l M d Q (pc + 1) lv (.int (zI (x + y)) :: st) h kc ks) : EV G l M d Q pc lv (.int (zI y) :: .int (zI x) :: st) h kc ks :=
  EV.same (fun _ _ _ _ _ _ _ _ _ _ _ _ _ _ _ hx hb _ kk => lv_iadd hx hb dg (by rw [zI_add]; exact kk)) k
theorem EV.isub {x y : Int} (dg : decode M.2.1 pc = .ok (.isub, 1)) (k : EV G l M d Q (pc + 1) lv (.int (zI (x - y)) :: st) h kc ks) : EV G l M d Q pc lv (.int (zI y) :: .int (zI x) :: st) h kc ks :=
  EV.same (fun _ _ _ _ _ _ _ _ _ _ _ _ _ _ _ hx hb _ kk => lv_isub hx hb dg (by rw [zI_sub]; exact kk)) k
theorem EV.imul {x y : Int} (dg : decode M.2.1 pc = .ok (.imul, 1)) (k : EV G l M d Q (pc + 1) lv (.int (zI (x * y)) :: st) h kc ks) : EV G l M d Q pc lv (.int (zI y) :: .int (zI x) :: st) h kc ks :=
  EV.same (fun _ _ _ _ _ _ _ _ _ _ _ _ _ _ _ hx hb _ kk => lv_imul hx hb dg (by rw [zI_mul]; exact kk)) k
theorem EV.idiv {x y : Int} (dg : decode M.2.1 pc = .ok (.idiv, 1)) (hr : inR x ∧ inR y ∧ y ≠ 0) (k : EV G l M d Q (pc + 1) lv (.int (zI (x.tdiv y)) :: st) h kc ks) : EV G l M d Q pc lv (.int (zI y) :: .int (zI x) :: st) h kc ks :=
  EV.same (fun _ _ _ _ _ _ _ _ _ _ _ _ _ _ _ hx hb _ kk => lv_idiv hx hb dg (fun z => hr.2.2 ((zI_eq0 hr.2.1).mp z)) (by rw [zI_div hr.1 hr.2.1]; exact kk)) k
theorem EV.irem {x y : Int} (dg : decode M.2.1 pc = .ok (.irem, 1)) (hr : inR x ∧ inR y ∧ y ≠ 0) (k : EV G l M d Q (pc + 1) lv (.int (zI (x.tmod y)) :: st) h kc ks) : EV G l M d Q pc lv (.int (zI y) :: .int (zI x) :: st) h kc ks :=
  EV.same (fun _ _ _ _ _ _ _ _ _ _ _ _ _ _ _ hx hb _ kk => lv_irem hx hb dg (fun z => hr.2.2 ((zI_eq0 hr.2.1).mp z)) (by rw [zI_rem hr.1 hr.2.1]; exact kk)) k
/-- the same with any words of 32 bits -/
theorem EV.iandW {x y : Int32} (dg : decode M.2.1 pc = .ok (.iand, 1)) (k : EV G l M d Q (pc + 1) lv (.int (x &&& y) :: st) h kc ks) : EV G l M d Q pc lv (.int y :: .int x :: st) h kc ks :=
  EV.same (fun _ _ _ _ _ _ _ _ _ _ _ _ _ _ _ hx hb _ kk => lv_iand hx hb dg kk) k
theorem EV.iorW {x y : Int32} (dg : decode M.2.1 pc = .ok (.ior, 1)) (k : EV G l M d Q (pc + 1) lv (.int (x ||| y) :: st) h kc ks) : EV G l M d Q pc lv (.int y :: .int x :: st) h kc ks :=
  EV.same (fun _ _ _ _ _ _ _ _ _ _ _ _ _ _ _ hx hb _ kk => lv_ior hx hb dg kk) k
theorem EV.ixorW {x y : Int32} (dg : decode M.2.1 pc = .ok (.ixor, 1)) (k : EV G l M d Q (pc + 1) lv (.int (x ^^^ y) :: st) h kc ks) : EV G l M d Q pc lv (.int y :: .int x :: st) h kc ks :=
  EV.same (fun _ _ _ _ _ _ _ _ _ _ _ _ _ _ _ hx hb _ kk => lv_ixor hx hb dg kk) k
theorem EV.iushrW {x y : Int32} (dg : decode M.2.1 pc = .ok (.iushr, 1)) (k : EV G l M d Q (pc + 1) lv (.int ((x.toUInt32 >>> (y.toUInt32 &&& Int32.toUInt32 31)).toInt32) :: st) h kc ks) : EV G l M d Q pc lv (.int y :: .int x :: st) h kc ks :=
  EV.same (fun _ _ _ _ _ _ _ _ _ _ _ _ _ _ _ hx hb _ kk => lv_iushr hx hb dg rfl kk) k
theorem EV.ishlW {x y : Int32} (dg : decode M.2.1 pc = .ok (.ishl, 1)) (k : EV G l M d Q (pc + 1) lv (.int (x <<< (y &&& 31)) :: st) h kc ks) : EV G l M d Q pc lv (.int y :: .int x :: st) h kc ks :=
  EV.same (fun _ _ _ _ _ _ _ _ _ _ _ _ _ _ _ hx hb _ kk => lv_ishl hx hb dg kk) k
theorem EV.ishrW {x y : Int32} (dg : decode M.2.1 pc = .ok (.ishr, 1)) (k : EV G l M d Q (pc + 1) lv (.int (x >>> (y &&& 31)) :: st) h kc ks) : EV G l M d Q pc lv (.int y :: .int x :: st) h kc ks :=
  EV.same (fun _ _ _ _ _ _ _ _ _ _ _ _ _ _ _ hx hb _ kk => lv_ishr hx hb dg kk) k
theorem EV.i2l {x : Int32} (dg : decode M.2.1 pc = .ok (.i2l, 1)) (k : EV G l M d Q (pc + 1) lv (.long x.toInt64 :: st) h kc ks) : EV G l M d Q pc lv (.int x :: st) h kc ks :=
  EV.same (fun _ _ _ _ _ _ _ _ _ _ _ _ _ _ _ hx hb _ kk => lv_i2l hx hb dg rfl kk) k
theorem EV.dup {v : Value} (dg : decode M.2.1 pc = .ok (.dup, 1)) (hv : v.category = 1) (k : EV G l M d Q (pc + 1) lv (v :: v :: st) h kc ks) : EV G l M d Q pc lv (v :: st) h kc ks :=
  EV.same (fun _ _ _ _ _ _ _ _ _ _ _ _ _ _ _ hx hb _ kk => lv_dup hx hb dg hv kk) k
theorem EV.dup2 {v w : Value} (dg : decode M.2.1 pc = .ok (.dup2, 1)) (hv : v.category = 1) (hw : w.category = 1) (k : EV G l M d Q (pc + 1) lv (v :: w :: v :: w :: st) h kc ks) : EV G l M d Q pc lv (v :: w :: st) h kc ks :=
  EV.same (fun _ _ _ _ _ _ _ _ _ _ _ _ _ _ _ hx hb _ kk => lv_dup2_11 hx hb dg hv hw kk) k
theorem EV.pop {v : Value} (dg : decode M.2.1 pc = .ok (.pop, 1)) (hv : v.category = 1) (k : EV G l M d Q (pc + 1) lv st h kc ks) : EV G l M d Q pc lv (v :: st) h kc ks :=
  EV.same (fun _ _ _ _ _ _ _ _ _ _ _ _ _ _ _ hx hb _ kk => lv_pop hx hb dg hv kk) k
theorem EV.goto {off : Int} {t : Nat} (dg : decode M.2.1 pc = .ok (.goto off, 3)) (ht : (pc : Int) + off = (t : Int)) (k : EV G l M d Q t lv st h kc ks) : EV G l M d Q pc lv st h kc ks :=
  EV.same (fun _ _ _ _ _ _ _ _ _ _ _ _ _ _ _ hx hb _ kk => lv_goto hx hb dg ht kk) k
theorem EV.nonnull {off : Int} {t a : Nat} (dg : decode M.2.1 pc = .ok (.ifnonnull off, 3)) (ht : (pc : Int) + off = (t : Int)) (k : EV G l M d Q t lv st h kc ks) : EV G l M d Q pc lv (.ref a :: st) h kc ks :=
  EV.same (fun _ _ _ _ _ _ _ _ _ _ _ _ _ _ _ hx hb _ kk => lv_ifnonnull hx hb dg ht kk) k
theorem EV.nonnullN {off : Int} (dg : decode M.2.1 pc = .ok (.ifnonnull off, 3)) (k : EV G l M d Q (pc + 3) lv st h kc ks) : EV G l M d Q pc lv (.null :: st) h kc ks :=
  EV.same (fun _ _ _ _ _ _ _ _ _ _ _ _ _ _ _ hx hb _ kk => lv_ifnonnullN hx hb dg kk) k
theorem EV.isnull {off : Int} {a : Nat} (dg : decode M.2.1 pc = .ok (.ifnull off, 3)) (k : EV G l M d Q (pc + 3) lv st h kc ks) : EV G l M d Q pc lv (.ref a :: st) h kc ks :=
  EV.same (fun _ _ _ _ _ _ _ _ _ _ _ _ _ _ _ hx hb _ kk => lv_ifnull hx hb dg kk) k
theorem EV.ifeq {off : Int} {t : Nat} {x : Int} (dg : decode M.2.1 pc = .ok (.ifCond .eq off, 3)) (ht : (pc : Int) + off = (t : Int)) (hr : inR x) (k1 : x = 0 → EV G l M d Q t lv st h kc ks) (k2 : x ≠ 0 → EV G l M d Q (pc + 3) lv st h kc ks) : EV G l M d Q pc lv (.int (zI x) :: st) h kc ks :=
  EV.if2 (fun _ _ _ _ _ _ _ _ _ _ _ _ _ _ _ hx hb a b => lv_if_eq hx hb dg ht (fun z => a ((zI_eq0 hr).mp z)) (fun z => b (fun y => z ((zI_eq0 hr).mpr y)))) k1 k2
theorem EV.ifne {off : Int} {t : Nat} {x : Int} (dg : decode M.2.1 pc = .ok (.ifCond .ne off, 3)) (ht : (pc : Int) + off = (t : Int)) (hr : inR x) (k1 : x ≠ 0 → EV G l M d Q t lv st h kc ks) (k2 : x = 0 → EV G l M d Q (pc + 3) lv st h kc ks) : EV G l M d Q pc lv (.int (zI x) :: st) h kc ks :=
  EV.if2 (P := x ≠ 0) (fun _ _ _ _ _ _ _ _ _ _ _ _ _ _ _ hx hb a b => lv_if_ne hx hb dg ht (fun z => a (fun y => z ((zI_eq0 hr).mpr y))) (fun z => b (fun y => y ((zI_eq0 hr).mp z)))) k1 (fun z => k2 (Classical.not_not.mp z))
theorem EV.iflt {off : Int} {t : Nat} {x : Int} (dg : decode M.2.1 pc = .ok (.ifCond .lt off, 3)) (ht : (pc : Int) + off = (t : Int)) (hr : inR x) (k1 : x < 0 → EV G l M d Q t lv st h kc ks) (k2 : 0 ≤ x → EV G l M d Q (pc + 3) lv st h kc ks) : EV G l M d Q pc lv (.int (zI x) :: st) h kc ks :=
  EV.if2 (fun _ _ _ _ _ _ _ _ _ _ _ _ _ _ _ hx hb a b => lv_if_lt hx hb dg ht (fun z => a ((zI_lt0 hr).mp z)) (fun z => b (fun y => z ((zI_lt0 hr).mpr y)))) k1 (fun z => k2 (Int.not_lt.mp z))
theorem EV.ifge {off : Int} {t : Nat} {x : Int} (dg : decode M.2.1 pc = .ok (.ifCond .ge off, 3)) (ht : (pc : Int) + off = (t : Int)) (hr : inR x) (k1 : 0 ≤ x → EV G l M d Q t lv st h kc ks) (k2 : x < 0 → EV G l M d Q (pc + 3) lv st h kc ks) : EV G l M d Q pc lv (.int (zI x) :: st) h kc ks :=
  EV.if2 (fun _ _ _ _ _ _ _ _ _ _ _ _ _ _ _ hx hb a b => lv_if_ge hx hb dg ht (fun z => a ((zI_0le hr).mp z)) (fun z => b (fun y => z ((zI_0le hr).mpr y)))) k1 (fun z => k2 (Int.not_le.mp z))
theorem EV.ifle {off : Int} {t : Nat} {x : Int} (dg : decode M.2.1 pc = .ok (.ifCond .le off, 3)) (ht : (pc : Int) + off = (t : Int)) (hr : inR x) (k1 : x ≤ 0 → EV G l M d Q t lv st h kc ks) (k2 : 0 < x → EV G l M d Q (pc + 3) lv st h kc ks) : EV G l M d Q pc lv (.int (zI x) :: st) h kc ks :=
  EV.if2 (fun _ _ _ _ _ _ _ _ _ _ _ _ _ _ _ hx hb a b => lv_if_le hx hb dg ht (fun z => a ((zI_le0 hr).mp z)) (fun z => b (fun y => z ((zI_le0 hr).mpr y)))) k1 (fun z => k2 (Int.not_le.mp z))
theorem EV.icmp_eq {off : Int} {t : Nat} {x y : Int} (dg : decode M.2.1 pc = .ok (.if_icmp .eq off, 3)) (ht : (pc : Int) + off = (t : Int)) (hr : inR x ∧ inR y) (k1 : x = y → EV G l M d Q t lv st h kc ks) (k2 : x ≠ y → EV G l M d Q (pc + 3) lv st h kc ks) : EV G l M d Q pc lv (.int (zI y) :: .int (zI x) :: st) h kc ks :=
  EV.if2 (fun _ _ _ _ _ _ _ _ _ _ _ _ _ _ _ hx hb a b => lv_icmp_eq hx hb dg ht (fun z => a ((zI_eq hr.1 hr.2).mp z)) (fun z => b (fun y => z ((zI_eq hr.1 hr.2).mpr y)))) k1 k2
theorem EV.icmp_ne {off : Int} {t : Nat} {x y : Int} (dg : decode M.2.1 pc = .ok (.if_icmp .ne off, 3)) (ht : (pc : Int) + off = (t : Int)) (hr : inR x ∧ inR y) (k1 : x ≠ y → EV G l M d Q t lv st h kc ks) (k2 : x = y → EV G l M d Q (pc + 3) lv st h kc ks) : EV G l M d Q pc lv (.int (zI y) :: .int (zI x) :: st) h kc ks :=
  EV.if2 (P := x ≠ y) (fun _ _ _ _ _ _ _ _ _ _ _ _ _ _ _ hx hb a b => lv_icmp_ne hx hb dg ht (fun z => a (fun y => z ((zI_eq hr.1 hr.2).mpr y))) (fun z => b (fun y => y ((zI_eq hr.1 hr.2).mp z)))) k1 (fun z => k2 (Classical.not_not.mp z))
theorem EV.icmp_lt {off : Int} {t : Nat} {x y : Int} (dg : decode M.2.1 pc = .ok (.if_icmp .lt off, 3)) (ht : (pc : Int) + off = (t : Int)) (hr : inR x ∧ inR y) (k1 : x < y → EV G l M d Q t lv st h kc ks) (k2 : y ≤ x → EV G l M d Q (pc + 3) lv st h kc ks) : EV G l M d Q pc lv (.int (zI y) :: .int (zI x) :: st) h kc ks :=
  EV.if2 (fun _ _ _ _ _ _ _ _ _ _ _ _ _ _ _ hx hb a b => lv_icmp_lt hx hb dg ht (fun z => a ((zI_lt hr.1 hr.2).mp z)) (fun z => b (fun y => z ((zI_lt hr.1 hr.2).mpr y)))) k1 (fun z => k2 (Int.not_lt.mp z))
theorem EV.icmp_ge {off : Int} {t : Nat} {x y : Int} (dg : decode M.2.1 pc = .ok (.if_icmp .ge off, 3)) (ht : (pc : Int) + off = (t : Int)) (hr : inR x ∧ inR y) (k1 : y ≤ x → EV G l M d Q t lv st h kc ks) (k2 : x < y → EV G l M d Q (pc + 3) lv st h kc ks) : EV G l M d Q pc lv (.int (zI y) :: .int (zI x) :: st) h kc ks :=
  EV.if2 (fun _ _ _ _ _ _ _ _ _ _ _ _ _ _ _ hx hb a b => lv_icmp_ge hx hb dg ht (fun z => a ((zI_le hr.2 hr.1).mp z)) (fun z => b (fun y => z ((zI_le hr.2 hr.1).mpr y)))) k1 (fun z => k2 (Int.not_le.mp z))
theorem EV.icmp_gt {off : Int} {t : Nat} {x y : Int} (dg : decode M.2.1 pc = .ok (.if_icmp .gt off, 3)) (ht : (pc : Int) + off = (t : Int)) (hr : inR x ∧ inR y) (k1 : y < x → EV G l M d Q t lv st h kc ks) (k2 : x ≤ y → EV G l M d Q (pc + 3) lv st h kc ks) : EV G l M d Q pc lv (.int (zI y) :: .int (zI x) :: st) h kc ks :=
  EV.if2 (fun _ _ _ _ _ _ _ _ _ _ _ _ _ _ _ hx hb a b => lv_icmp_gt hx hb dg ht (fun z => a ((zI_lt hr.2 hr.1).mp z)) (fun z => b (fun y => z ((zI_lt hr.2 hr.1).mpr y)))) k1 (fun z => k2 (Int.not_lt.mp z))
theorem EV.icmp_le {off : Int} {t : Nat} {x y : Int} (dg : decode M.2.1 pc = .ok (.if_icmp .le off, 3)) (ht : (pc : Int) + off = (t : Int)) (hr : inR x ∧ inR y) (k1 : x ≤ y → EV G l M d Q t lv st h kc ks) (k2 : y < x → EV G l M d Q (pc + 3) lv st h kc ks) : EV G l M d Q pc lv (.int (zI y) :: .int (zI x) :: st) h kc ks :=
  EV.if2 (fun _ _ _ _ _ _ _ _ _ _ _ _ _ _ _ hx hb a b => lv_icmp_le hx hb dg ht (fun z => a ((zI_le hr.1 hr.2).mp z)) (fun z => b (fun y => z ((zI_le hr.1 hr.2).mpr y)))) k1 (fun z => k2 (Int.not_le.mp z))
/-! returns -/
theorem EV.iret {x : Int32} (hr : M.2.2.2 = some .int) (dg : decode M.2.1 pc = .ok (.ireturn, 1)) (hq : Q (some (.int x)) h) : EV G l M d Q pc lv [.int x] h kc ks := by
  intro p e s m args below meth c A mc ms H locs cells slots ls hC hS hR hD hl h1 h2
  refine W.widen (k := mc) (n := ms) (by omega) (by omega) ?_
  exact W.iret hC.1 hC.2.1 (hC.2.2.2.1.trans hr) (fun t ht hW => ⟨⟨_, h, rfl, hq, by rw [ht]; exact hR, hD⟩, hS.F ht⟩) hS.2.2 dg hC.2.2.2.2.2.1
theorem EV.zret {x : Int32} (hr : M.2.2.2 = some .boolean) (hn : narrow .boolean (.int x) = .int x) (dg : decode M.2.1 pc = .ok (.ireturn, 1)) (hq : Q (some (.int x)) h) : EV G l M d Q pc lv [.int x] h kc ks := by
  intro p e s m args below meth c A mc ms H locs cells slots ls hC hS hR hD hl h1 h2
  refine W.widen (k := mc) (n := ms) (by omega) (by omega) ?_
  exact W.zret hC.1 hC.2.1 (hC.2.2.2.1.trans hr) hn (fun t ht hW => ⟨⟨_, h, rfl, hq, by rw [ht]; exact hR, hD⟩, hS.F ht⟩) hS.2.2 dg hC.2.2.2.2.2.1
theorem EV.lret {x : Int64} (hr : M.2.2.2 = some .long) (dg : decode M.2.1 pc = .ok (.lreturn, 1)) (hq : Q (some (.long x)) h) : EV G l M d Q pc lv [.long x] h kc ks := by
  intro p e s m args below meth c A mc ms H locs cells slots ls hC hS hR hD hl h1 h2
  refine W.widen (k := mc) (n := ms) (by omega) (by omega) ?_
  exact W.lret hC.1 hC.2.1 (hC.2.2.2.1.trans hr) (fun t ht hW => ⟨⟨_, h, rfl, hq, by rw [ht]; exact hR, hD⟩, hS.F ht⟩) hS.2.2 dg hC.2.2.2.2.2.1
theorem EV.vret (hr : M.2.2.2 = none) (dg : decode M.2.1 pc = .ok (.return_, 1)) (hq : Q none h) : EV G l M d Q pc lv [] h kc ks := by
  intro p e s m args below meth c A mc ms H locs cells slots ls hC hS hR hD hl h1 h2
  refine W.widen (k := mc) (n := ms) (by omega) (by omega) ?_
  exact W.vret hC.1 hC.2.1 (hC.2.2.2.1.trans hr) (fun t ht hW => ⟨⟨_, h, rfl, hq, by rw [ht]; exact hR, hD⟩, hS.F ht⟩) hS.2.2 dg hC.2.2.2.2.2.1
end EVR
end
section
/-! ===== rows of EV: the heap ===== -/
/-- a field by its link: class number ci of vwCl, place k -/
def FL (own : String) (index ci k : Nat) : Prop := ∃ (C : String) (T : u_T) (N : Nat), vwCl[ci]? = some (C, T, N) ∧ k < N ∧ (∀ w ∈ u_ws C T N, w ∈ TB) ∧ Cond.fieldLink own index (T k).1 (T k).2.1 (T k).2.2.1 ∈ TB
def FP (own : String) (index ci k : Nat) (ty : FieldType) : Prop := ∃ (C : String) (T : u_T) (N : Nat) (tyf : Nat → FieldType), vwCl[ci]? = some (C, T, N) ∧ k < N ∧ (∀ w ∈ u_ws C T N, w ∈ TB) ∧ Cond.fieldLink own index (T k).1 (T k).2.1 (T k).2.2.1 ∈ TB ∧
  (∀ j, j < N → parseFieldDescriptor (T j).2.2.1 = some (tyf j)) ∧ (∀ a, a < N → ∀ b, b < N → a ≠ b → (T a).2.1 ≠ (T b).2.1) ∧ (T k).2.2.2 = false ∧ parseFieldDescriptor (T k).2.2.1 = some ty
def FPF (own : String) (index ci k : Nat) (ty : FieldType) : Prop := ∃ (C : String) (T : u_T) (N : Nat) (tyf : Nat → FieldType), vwCl[ci]? = some (C, T, N) ∧ k < N ∧ (∀ w ∈ u_ws C T N, w ∈ TB) ∧ Cond.fieldLink own index (T k).1 (T k).2.1 (T k).2.2.1 ∈ TB ∧
  (∀ j, j < N → parseFieldDescriptor (T j).2.2.1 = some (tyf j)) ∧ (∀ a, a < N → ∀ b, b < N → a ≠ b → (T a).2.1 ≠ (T b).2.1) ∧ (T k).2.2.2 = true ∧ (T k).1 = own ∧ parseFieldDescriptor (T k).2.2.1 = some ty
def FN (own : String) (index ci N : Nat) (tyf : Nat → FieldType) : Prop := ∃ (C : String) (T : u_T), vwCl[ci]? = some (C, T, N) ∧ (∀ w ∈ u_ws C T N, w ∈ TB) ∧ (∀ j, j < N → parseFieldDescriptor (T j).2.2.1 = some (tyf j)) ∧ Cond.classLink own index C ∈ TB ∧ Cond.instantiable C N ∈ TB ∧ Cond.initialized C ∈ TB
/-- cells: an array of ints, of booleans, of Lands; an object -/
def arI (G : GG) (n : Nat) (g : Nat → Int) : va_E := .inl (G.2.1, n, .inl (fun j => zI (g j)))
def arZ (G : GG) (n : Nat) (g : Nat → Int) : va_E := .inl (G.2.2.1, n, .inl (fun j => zI (g j)))
def arL (G : GG) (n : Nat) (f : Nat → Option Nat) : va_E := .inl (G.2.2.2, n, .inr (.inr (.inr (.inr f))))
def obj (ci : Nat) (fs : List Value) : va_E := .inr (ci, fs)
def uI (g : Nat → Int) (k : Nat) (v : Int) : Nat → Int := fun j => if j = k then v else g j
theorem uI_s (g : Nat → Int) (k : Nat) (v : Int) : uI g k v k = v := by simp [uI]
theorem uI_n (g : Nat → Int) {k j : Nat} (v : Int) (hj : j ≠ k) : uI g k v j = g j := by simp [uI, hj]
theorem upd_zI (g : Nat → Int) (k : Nat) (v : Int) : upd (fun j => zI (g j)) k (zI v) = fun j => zI (uI g k v j) := by
  funext j
  unfold upd uI
  by_cases hj : j = k
  · rw [if_pos hj, if_pos hj]
  · rw [if_neg hj, if_neg hj]
section EVH
variable {G : GG} {l : Launch} {M : MD} {d : Nat} {Q : Option Value → Hp → Prop} {pc : Nat} {lv : List (Option Value)} {st : List Value} {h : Hp} {kc ks : Nat} {a : Nat}
theorem EV.getf {index ci k : Nat} {fs : List Value} {v : Value} (fl : FL M.1.cls index ci k) (dg : decode M.2.1 pc = .ok (.getfield index, 3)) (ha : h a = some (obj ci fs)) (hv : fs[k]? = some v) (kk : EV G l M d Q (pc + 3) lv (v :: st) h kc ks) : EV G l M d Q pc lv (.ref a :: st) h kc ks := by
  intro p e s m args below meth c A mc ms H locs cells slots ls hC hS hR hD hl h1 h2
  obtain ⟨C, T, N, hc, hk, hin, hlk⟩ := fl
  obtain ⟨ws, hP, hDw, hcm⟩ := hR
  obtain ⟨q0, he⟩ := hcm a _ ha
  exact va_get (Ts := TB) hC.1 hC.2.1 hC.2.2.2.2.2.2.1 hin hC.2.2.2.2.1 hC.2.2.2.2.2.2.2.2.1.1 hP q0 he hc k hk (hC.2.2.2.2.2.2.1 _ hlk) (fun _ x => x) hv dg (kk _ _ _ _ _ _ _ _ _ _ _ _ _ _ _ _ hC hS ⟨ws, hP, hDw, hcm⟩ hD hl h1 h2)
theorem EV.putf {index ci k : Nat} {fs fs' : List Value} {v : Value} {ty : FieldType} (fl : FP M.1.cls index ci k ty) (dg : decode M.2.1 pc = .ok (.putfield index, 3)) (ha : h a = some (obj ci fs)) (hkl : k < fs.length) (hn : narrow ty v = v) (hf : fits ty v = true) (hfs : fs.set k v = fs') (kk : EV G l M d Q (pc + 3) lv st (hset h a (obj ci fs')) kc ks) : EV G l M d Q pc lv (v :: .ref a :: st) h kc ks := by
  intro p e s m args below meth c A mc ms H locs cells slots ls hC hS hR hD hl h1 h2
  obtain ⟨C, T, N, tyf, hc, hk, hin, hlk, hty, hnm, hfin, hd⟩ := fl
  obtain ⟨ws, hP, hDw, hcm⟩ := hR
  obtain ⟨q0, he⟩ := hcm a _ ha
  subst hfs
  refine va_put (Ts := TB) hC.1 hC.2.1 hC.2.2.2.2.2.2.1 hin tyf hty hnm hC.2.2.2.2.1 hC.2.2.2.2.2.2.2.2.1.1 hP (hDw.weaken fun _ q _ x => hD q.1 x) hS q0 he hc k hk (hC.2.2.2.2.2.2.1 _ hlk) (fun _ x => x) hfin hd hn hf hkl dg (fun H1 locs1 hP1 hD1 hS1 => ?_)
  exact kk _ _ _ _ _ _ _ _ _ _ _ _ _ _ _ _ hC hS1 (Rl.set hDw hcm he hP1) (fun q hq => by
    unfold hset at hq
    by_cases hqa : q = a
    · rw [hqa]; exact hD a (by rw [ha]; rfl)
    · rw [if_neg hqa] at hq; exact hD q hq) hl h1 h2
theorem EV.putF {index ci k : Nat} {fs fs' : List Value} {v : Value} {ty : FieldType} (fl : FPF M.1.cls index ci k ty) (hnm0 : M.1.name = "<init>") (dg : decode M.2.1 pc = .ok (.putfield index, 3)) (ha : h a = some (obj ci fs)) (hkl : k < fs.length) (hn : narrow ty v = v) (hf : fits ty v = true) (hfs : fs.set k v = fs') (kk : EV G l M d Q (pc + 3) lv st (hset h a (obj ci fs')) kc ks) : EV G l M d Q pc lv (v :: .ref a :: st) h kc ks := by
  intro p e s m args below meth c A mc ms H locs cells slots ls hC hS hR hD hl h1 h2
  obtain ⟨C, T, N, tyf, hc, hk, hin, hlk, hty, hnm, hfin, hown, hd⟩ := fl
  obtain ⟨ws, hP, hDw, hcm⟩ := hR
  obtain ⟨q0, he⟩ := hcm a _ ha
  subst hfs
  refine va_putF (Ts := TB) hC.1 hC.2.1 hC.2.2.2.2.2.2.1 hin tyf hty hnm hC.2.2.2.2.1 hC.2.2.2.2.2.2.2.2.1.1 hP (hDw.weaken fun _ q _ x => hD q.1 x) hS q0 he hc k hk (hC.2.2.2.2.2.2.1 _ hlk) (fun _ x => x) hfin (hC.2.2.2.2.2.2.2.1.trans hnm0) hown hd hn hf hkl dg (fun H1 locs1 hP1 hD1 hS1 => ?_)
  exact kk _ _ _ _ _ _ _ _ _ _ _ _ _ _ _ _ hC hS1 (Rl.set hDw hcm he hP1) (fun q hq => by
    unfold hset at hq
    by_cases hqa : q = a
    · rw [hqa]; exact hD a (by rw [ha]; rfl)
    · rw [if_neg hqa] at hq; exact hD q hq) hl h1 h2
theorem EV.iald {n : Nat} {g : Nat → Int} {i : Int} (dg : decode M.2.1 pc = .ok (.iaload, 1)) (ha : h a = some (arI G n g)) (j : Nat) (hj : i = (j : Int)) (hn : j < n ∧ n < 2147483648) (kk : EV G l M d Q (pc + 1) lv (.int (zI (g j)) :: st) h kc ks) : EV G l M d Q pc lv (.int (zI i) :: .ref a :: st) h kc ks := by
  intro p e s m args below meth c A mc ms H locs cells slots ls hC hS hR hD hl h1 h2
  obtain ⟨ws, hP, hDw, hcm⟩ := hR
  obtain ⟨q0, he⟩ := hcm a _ ha
  subst hj
  refine va_iald hC.1 hC.2.1 hC.2.2.2.2.2.2.2.2.1.1 hP q0 0 he rfl (zI_in hn.1 hn.2) dg ?_
  rw [zI_clampN (by omega)]
  exact kk _ _ _ _ _ _ _ _ _ _ _ _ _ _ _ _ hC hS ⟨ws, hP, hDw, hcm⟩ hD hl h1 h2
theorem EV.zald {n : Nat} {g : Nat → Int} {i : Int} (dg : decode M.2.1 pc = .ok (.baload, 1)) (ha : h a = some (arZ G n g)) (j : Nat) (hj : i = (j : Int)) (hn : j < n ∧ n < 2147483648) (kk : EV G l M d Q (pc + 1) lv (.int (zI (g j)) :: st) h kc ks) : EV G l M d Q pc lv (.int (zI i) :: .ref a :: st) h kc ks := by
  intro p e s m args below meth c A mc ms H locs cells slots ls hC hS hR hD hl h1 h2
  obtain ⟨ws, hP, hDw, hcm⟩ := hR
  obtain ⟨q0, he⟩ := hcm a _ ha
  subst hj
  refine va_zald hC.1 hC.2.1 hC.2.2.2.2.2.2.2.2.1.1 hP q0 1 he rfl (zI_in hn.1 hn.2) dg ?_
  rw [zI_clampN (by omega)]
  exact kk _ _ _ _ _ _ _ _ _ _ _ _ _ _ _ _ hC hS ⟨ws, hP, hDw, hcm⟩ hD hl h1 h2
theorem EV.aald {n : Nat} {f : Nat → Option Nat} {i : Int} (dg : decode M.2.1 pc = .ok (.aaload, 1)) (ha : h a = some (arL G n f)) (j : Nat) (hj : i = (j : Int)) (hn : j < n ∧ n < 2147483648) (kk : EV G l M d Q (pc + 1) lv (va_rf (f j) :: st) h kc ks) : EV G l M d Q pc lv (.int (zI i) :: .ref a :: st) h kc ks := by
  intro p e s m args below meth c A mc ms H locs cells slots ls hC hS hR hD hl h1 h2
  obtain ⟨ws, hP, hDw, hcm⟩ := hR
  obtain ⟨q0, he⟩ := hcm a _ ha
  subst hj
  refine va_aldq (C := RX1) hC.1 hC.2.1 hC.2.2.2.2.2.2.2.2.1.1 hP q0 2 he rfl (zI_in hn.1 hn.2) dg ?_
  rw [zI_clampN (by omega)]
  exact kk _ _ _ _ _ _ _ _ _ _ _ _ _ _ _ _ hC hS ⟨ws, hP, hDw, hcm⟩ hD hl h1 h2
theorem hD_set {A : Nat → Prop} {e0 e : va_E} (ha : h a = some e0) (hD : ∀ q : Nat, (h q).isSome = true → A q) : ∀ q : Nat, (hset h a e q).isSome = true → A q := fun q hq => by
  unfold hset at hq
  by_cases hqa : q = a
  · rw [hqa]; exact hD a (by rw [ha]; rfl)
  · rw [if_neg hqa] at hq; exact hD q hq
theorem EV.iast {n : Nat} {g : Nat → Int} {i v : Int} (dg : decode M.2.1 pc = .ok (.iastore, 1)) (ha : h a = some (arI G n g)) (j : Nat) (hj : i = (j : Int)) (hn : j < n ∧ n < 2147483648) (kk : EV G l M d Q (pc + 1) lv st (hset h a (arI G n (uI g j v))) kc ks) : EV G l M d Q pc lv (.int (zI v) :: .int (zI i) :: .ref a :: st) h kc ks := by
  intro p e s m args below meth c A mc ms H locs cells slots ls hC hS hR hD hl h1 h2
  obtain ⟨ws, hP, hDw, hcm⟩ := hR
  obtain ⟨q0, he⟩ := hcm a _ ha
  subst hj
  refine va_iast hC.1 hC.2.1 hC.2.2.2.2.2.2.2.2.1.1 hP (hDw.weaken fun _ q _ x => hD q.1 x) hS q0 0 he rfl (zI_in hn.1 hn.2) dg (fun H1 locs1 hP1 hD1 hS1 => ?_)
  rw [zI_clampN (by omega), upd_zI] at hP1
  exact kk _ _ _ _ _ _ _ _ _ _ _ _ _ _ _ _ hC hS1 (Rl.set hDw hcm he hP1) (hD_set ha hD) hl h1 h2
theorem EV.zast {n : Nat} {g : Nat → Int} {i v : Int} (dg : decode M.2.1 pc = .ok (.bastore, 1)) (ha : h a = some (arZ G n g)) (hv : vp_nar .boolean (zI v) = zI v) (j : Nat) (hj : i = (j : Int)) (hn : j < n ∧ n < 2147483648) (kk : EV G l M d Q (pc + 1) lv st (hset h a (arZ G n (uI g j v))) kc ks) : EV G l M d Q pc lv (.int (zI v) :: .int (zI i) :: .ref a :: st) h kc ks := by
  intro p e s m args below meth c A mc ms H locs cells slots ls hC hS hR hD hl h1 h2
  obtain ⟨ws, hP, hDw, hcm⟩ := hR
  obtain ⟨q0, he⟩ := hcm a _ ha
  subst hj
  refine va_zast hC.1 hC.2.1 hC.2.2.2.2.2.2.2.2.1.1 hP (hDw.weaken fun _ q _ x => hD q.1 x) hS q0 1 he rfl (zI_in hn.1 hn.2) dg (fun H1 locs1 hP1 hD1 hS1 => ?_)
  rw [hv, zI_clampN (by omega), upd_zI] at hP1
  exact kk _ _ _ _ _ _ _ _ _ _ _ _ _ _ _ _ hC hS1 (Rl.set hDw hcm he hP1) (hD_set ha hD) hl h1 h2
theorem EV.aast {n v : Nat} {f : Nat → Option Nat} {i : Int} {fs : List Value} (dg : decode M.2.1 pc = .ok (.aastore, 1)) (ha : h a = some (arL G n f)) (hv : h v = some (obj 1 fs)) (j : Nat) (hj : i = (j : Int)) (hn : j < n ∧ n < 2147483648) (kk : EV G l M d Q (pc + 1) lv st (hset h a (arL G n (va_up f j (some v)))) kc ks) : EV G l M d Q pc lv (.ref v :: .int (zI i) :: .ref a :: st) h kc ks := by
  intro p e s m args below meth c A mc ms H locs cells slots ls hC hS hR hD hl h1 h2
  obtain ⟨ws, hP, hDw, hcm⟩ := hR
  obtain ⟨q0, he⟩ := hcm a _ ha
  obtain ⟨q1, he1⟩ := hcm v _ hv
  subst hj
  refine va_astq (r := (RX1, TX1, 3)) hC.1 hC.2.1 hC.2.2.2.2.2.2.2.2.1.1 hP (hDw.weaken fun _ q _ x => hD q.1 x) hS q0 2 q1 1 he rfl he1 rfl (zI_in hn.1 hn.2) dg (fun H1 locs1 hP1 hD1 hS1 => ?_)
  rw [zI_clampN (by omega)] at hP1
  exact kk _ _ _ _ _ _ _ _ _ _ _ _ _ _ _ _ hC hS1 (Rl.set hDw hcm he hP1) (hD_set ha hD) hl h1 h2
theorem hD_new {A : Nat → Prop} {q : Nat} {e : va_E} (hq : A q) (hD : ∀ q : Nat, (h q).isSome = true → A q) : ∀ x : Nat, (hset h q e x).isSome = true → A x := fun x hx => by
  unfold hset at hx
  by_cases hqa : x = q
  · rw [hqa]; exact hq
  · rw [if_neg hqa] at hx; exact hD x hx
theorem Cx.arr {G : GG} {s : State} {cA : ClassId} {ty : FieldType} {t : Nat} (hC : Cx G s) (ht : (tysG G)[t]? = some (cA, ty)) {c2 : ClassId} (hK2 : va_K G.1 vwCl (tysG G ++ [(c2, ty)]) s) : c2 = cA := by
  have h1 := (hC.1.2 t _ ht).2
  have h2 := (hK2.2 (tysG G).length (c2, ty) (by simp)).2
  cases ty with
  | object C =>
    obtain ⟨_, _, _, _, _, e1⟩ := h1
    obtain ⟨_, _, _, _, _, e2⟩ := h2
    exact Option.some.inj (e2.symm.trans e1)
  | _ => exact Option.some.inj (Eq.trans (Eq.symm h2) h1)
theorem EV.newI {n : Int} {N : Nat} (hw : Cond.arrayClass .int ∈ TB) (dg : decode M.2.1 pc = .ok (.newarray .int, 2)) (hj : n = (N : Int)) (hN : N < 1000) (hc1 : 1 ≤ kc) (hc2 : N ≤ ks) (kk : ∀ q : Nat, h q = none → EV G l M d Q (pc + 2) lv (.ref q :: st) (hset h q (arI G N (fun _ => 0))) (kc - 1) (ks - N)) : EV G l M d Q pc lv (.int (zI n) :: st) h kc ks := by
  intro p e s m args below meth c A mc ms H locs cells slots ls hC hS hR hD hl h1 h2
  obtain ⟨ws, hP, hDw, hcm⟩ := hR
  subst hj
  refine va_newa (atype := .int) (ty := .int) (a0 := (N, .inl (fun _ => (0 : Int32)))) (N' := N) hC.1 hC.2.1 (hC.2.2.2.2.2.2.1 _ hw) rfl hC.2.2.2.2.2.2.2.2.1.1 hP (hDw.weaken fun _ q _ x => hD q.1 x) hS hC.2.2.2.2.2.2.2.2.2 (fun cA => rfl) (by rw [zI_lt0 ⟨by omega, by omega⟩]; omega) (zI_clampN (by omega)) (by show N * 4 ≤ _; omega) (by show cells + 1 ≤ mc; omega) (by show slots + N ≤ ms; omega) dg (fun q cA H1 hK1 hP1 hD1 hS1 => ?_)
  have hcA : cA = G.2.1 := Cx.arr (t := 0) hC.2.2.2.2.2.2.2.2.1 rfl hK1
  subst hcA
  obtain ⟨z1, z2, z3⟩ := Rl.push hDw hcm hP1 hD1
  exact kk q z1 _ _ _ _ _ _ _ _ _ _ _ _ _ _ _ _ hC hS1 z3 (hD_new z2 hD) hl (by omega) (by omega)
theorem EV.newZ {n : Int} {N : Nat} (hw : Cond.arrayClass .boolean ∈ TB) (dg : decode M.2.1 pc = .ok (.newarray .boolean, 2)) (hj : n = (N : Int)) (hN : N < 1000) (hc1 : 1 ≤ kc) (hc2 : N ≤ ks) (kk : ∀ q : Nat, h q = none → EV G l M d Q (pc + 2) lv (.ref q :: st) (hset h q (arZ G N (fun _ => 0))) (kc - 1) (ks - N)) : EV G l M d Q pc lv (.int (zI n) :: st) h kc ks := by
  intro p e s m args below meth c A mc ms H locs cells slots ls hC hS hR hD hl h1 h2
  obtain ⟨ws, hP, hDw, hcm⟩ := hR
  subst hj
  refine va_newa (atype := .boolean) (ty := .boolean) (a0 := (N, .inl (fun _ => (0 : Int32)))) (N' := N) hC.1 hC.2.1 (hC.2.2.2.2.2.2.1 _ hw) rfl hC.2.2.2.2.2.2.2.2.1.1 hP (hDw.weaken fun _ q _ x => hD q.1 x) hS hC.2.2.2.2.2.2.2.2.2 (fun cA => rfl) (by rw [zI_lt0 ⟨by omega, by omega⟩]; omega) (zI_clampN (by omega)) (by show N * 1 ≤ _; omega) (by show cells + 1 ≤ mc; omega) (by show slots + N ≤ ms; omega) dg (fun q cA H1 hK1 hP1 hD1 hS1 => ?_)
  have hcA : cA = G.2.2.1 := Cx.arr (t := 1) hC.2.2.2.2.2.2.2.2.1 rfl hK1
  subst hcA
  obtain ⟨z1, z2, z3⟩ := Rl.push hDw hcm hP1 hD1
  exact kk q z1 _ _ _ _ _ _ _ _ _ _ _ _ _ _ _ _ hC hS1 z3 (hD_new z2 hD) hl (by omega) (by omega)
theorem EV.newL {n : Int} {N index : Nat} (hw : Cond.classLink M.1.cls index RX1 ∈ TB) (dg : decode M.2.1 pc = .ok (.anewarray index, 3)) (hj : n = (N : Int)) (hN : N < 1000) (hc1 : 1 ≤ kc) (hc2 : N ≤ ks) (kk : ∀ q : Nat, h q = none → EV G l M d Q (pc + 3) lv (.ref q :: st) (hset h q (arL G N (fun _ => none))) (kc - 1) (ks - N)) : EV G l M d Q pc lv (.int (zI n) :: st) h kc ks := by
  intro p e s m args below meth c A mc ms H locs cells slots ls hC hS hR hD hl h1 h2
  obtain ⟨ws, hP, hDw, hcm⟩ := hR
  subst hj
  refine va_newq (N' := N) hC.1 hC.2.1 hC.2.2.2.2.1 (hC.2.2.2.2.2.2.1 _ hw) hC.2.2.2.2.2.2.2.2.1.2.2 hC.2.2.2.2.2.2.2.2.1.1 hP (hDw.weaken fun _ q _ x => hD q.1 x) hS hC.2.2.2.2.2.2.2.2.2 (by rw [zI_lt0 ⟨by omega, by omega⟩]; omega) (zI_clampN (by omega)) (by omega) (by show cells + 1 ≤ mc; omega) (by show slots + N ≤ ms; omega) dg (fun q cA H1 hK1 hP1 hD1 hS1 => ?_)
  have hcA : cA = G.2.2.2 := Cx.arr (t := 2) hC.2.2.2.2.2.2.2.2.1 rfl hK1
  subst hcA
  obtain ⟨z1, z2, z3⟩ := Rl.push hDw hcm hP1 hD1
  exact kk q z1 _ _ _ _ _ _ _ _ _ _ _ _ _ _ _ _ hC hS1 z3 (hD_new z2 hD) hl (by omega) (by omega)
theorem EV.new {index ci N : Nat} {tyf : Nat → FieldType} {fs : List Value} (fl : FN M.1.cls index ci N tyf) (dg : decode M.2.1 pc = .ok (.new index, 3)) (hfs : ∀ j, j < N → defaultValue (tyf j) = vp_V fs j) (hc1 : 1 ≤ kc) (hc2 : N ≤ ks) (kk : ∀ q : Nat, h q = none → EV G l M d Q (pc + 3) lv (.ref q :: st) (hset h q (obj ci fs)) (kc - 1) (ks - N)) : EV G l M d Q pc lv st h kc ks := by
  intro p e s m args below meth c A mc ms H locs cells slots ls hC hS hR hD hl h1 h2
  obtain ⟨C, T, hc, hin, hty, w1, w2, w3⟩ := fl
  obtain ⟨ws, hP, hDw, hcm⟩ := hR
  have hts := hC.2.2.2.2.2.2.1
  refine va_new (Ts := TB) (C := C) (T := T) (N := N) (ci := ci) (fs := fs) hC.1 hC.2.1 hts hin tyf hty hC.2.2.2.2.1 (hts _ w1) (hts _ w2) (hts _ w3) hC.2.2.2.2.2.2.2.2.1.1 hP (hDw.weaken fun _ q _ x => hD q.1 x) hS hC.2.2.2.2.2.2.2.2.2 hc hfs (by show cells + 1 ≤ mc; omega) (by show slots + N ≤ ms; omega) dg (fun q H1 hP1 hD1 hS1 => ?_)
  obtain ⟨z1, z2, z3⟩ := Rl.push hDw hcm hP1 hD1
  exact kk q z1 _ _ _ _ _ _ _ _ _ _ _ _ _ _ _ _ hC hS1 z3 (hD_new z2 hD) hl (by omega) (by omega)
theorem EV.objInit {index : Nat} (w1 : Cond.methodLink M.1.cls index objectInit ∈ TB) (w2 : Cond.instanceMethod objectInit ∈ TB) (w3 : Cond.code objectInit ⟨#[0xb1]⟩ 1 none ∈ TB) (dg : decode M.2.1 pc = .ok (.invokespecial index, 3)) (hst : (st.map fun v => v.category).sum ≤ 8) (kk : EV G l M (d + 1) Q (pc + 3) lv st h kc ks) : EV G l M (d + 1) Q pc lv (.ref a :: st) h kc ks := by
  intro p e s m args below meth c A mc ms H locs cells slots ls hC hS hR hD hl h1 h2
  have hts := hC.2.2.2.2.2.2.1
  exact W.objInit hC.1 hC.2.1 hC.2.2.2.2.1 (hts _ w1) (hts _ w2) (hts _ w3) rfl (by rw [hC.2.2.1]; exact hl.1) rfl dg (by show 1 ≤ d + 1; omega) (by show 2 * 0 + _ + 12 ≤ 64 * (d + 1); omega) (kk _ _ _ _ _ _ _ _ _ _ _ _ _ _ _ _ hC hS hR hD hl h1 h2)
end EVH
end
section
/-! ===== rows of EV: calls ===== -/
theorem TBw_good (M : MD) (hc : Cond.code M.1 M.2.1 M.2.2.1 M.2.2.2 ∈ TB) : GoodIn TB (TBw M) := fun w hw => by
  rcases List.mem_cons.mp hw with rfl | hw
  · exact ⟨hc, TB_good hc⟩
  · exact ⟨hw, TB_good hw⟩
/-- what a callee must have: its code, its class, few locals; n: its arguments behind the receiver -/
def CO (M : MD) (n : Nat) : Prop := Cond.code M.1 M.2.1 M.2.2.1 M.2.2.2 ∈ TB ∧ Cond.initialized M.1.cls ∈ TB ∧ (M.1.cls ≠ "java/lang/invoke/MethodHandle" ∧ M.1.cls ≠ "java/lang/invoke/VarHandle" ∧ (parseMethodDescriptor M.1.desc).map (fun d => d.parameters.length) = some n) ∧ M.2.2.1 ≤ 40
section EVC
variable {G : GG} {l : Launch} {M M' : MD} {d : Nat} {Q Q' : Option Value → Hp → Prop} {pc idx n mc' ms' : Nat} {lv : List (Option Value)} {st rest as : List Value} {h : Hp} {kc ks : Nat} {b : Nat}
theorem EV.ret_of {p : Program} {e : Env} {R : Room} {s : State} {m : MethodId} {args : Array Value} {below : List Frame} {meth : Method} {c : Code} {A : Nat → Prop} {H : Heap} {locs : List Loc} {cells slots : Nat} {ls : Array Slot} {Z : State → Prop} {av : Array Value} {st0 : List Value}
    (hr : va_Run p l e R s m args below meth c H locs cells slots mc' ms' (F0 m pc ls st0) rest (EQ G Q' (hA h H.size) av) (hA h H.size)) (hS : va_S A s.heap H locs) (hAs : ∀ q : Nat, s.heap.size ≤ q → A q) (hD : ∀ q : Nat, (h q).isSome = true → A q)
    (kk : ∀ (v : Option Value) (h' : Hp) (H1 : Heap) (locs1 : List Loc), Q' v h' → Rl G h' H1 → (∀ q : Nat, (h' q).isSome = true → A q) → va_S A s.heap H1 locs1 → W p l e R s m args below meth c H1 locs1 (cells + mc') (slots + ms') Z (F0 m (pc + 3) ls (v.toList ++ rest))) : W p l e R s m args below meth c H locs cells slots Z (F0 m pc ls st0) := by
  have hsub : ∀ q : Nat, hA h H.size q → A q := fun q hq => hq.elim (hD q) (fun z => hAs q (Nat.le_trans hS.1 z))
  intro T hT X
  obtain ⟨v, st₀, t, T', L, h0, X', hL, e1, e2, ⟨⟨v', h', hv, hq, hRl, hdm⟩, hz, hk⟩, st'⟩ := hr T hT X
  cases hv
  rw [h0] at hz hk
  obtain ⟨t2, a1, b1⟩ := kk v h' T'.heap (locs ++ L) hq (by rw [e1]; exact hRl) (fun q x => hsub q (hdm q x))
    ⟨Nat.le_trans hS.1 (by rw [e1]; exact hz), fun q g1 g2 => by rw [e1, hk q (Nat.lt_of_lt_of_le g1 hS.1) (fun z => g2 (hsub q z))]; exact hS.2.1 q g1 g2, fun q hq2 => by
      rcases List.mem_append.mp hq2 with x | x
      · exact hS.2.2 q x
      · exact hsub _ (hL q x)⟩ T' rfl X'
  exact ⟨t2, st' t2 a1, b1⟩
theorem EV.pre {s : State} {H : Heap} (hC : Cx G s) (hR : Rl G h H) : PreS s H (va_Pc as (fun U => U.heap.size = H.size ∧ Cx G U ∧ Rl G h U.heap)) as :=
  ⟨fun a U g mk hp => ⟨hp.1, hp.2.1, hp.2.2.1.call, hp.2.2.2⟩, fun U hU hW => ⟨rfl, by rw [hU], hC.warm hW, by rw [hU]; exact hR⟩⟩
theorem EV.callS (w1 : Cond.methodLink M.1.cls idx M'.1 ∈ TB) (w2 : Cond.static M'.1 ∈ TB) (w3 : CO M' n) (dg : decode M.2.1 pc = .ok (.invokestatic idx, 3)) (ct : CT G l M' d mc' ms' as h Q') (hn : as.length = n) (hst : st = as.reverse ++ rest) (hW : (rest.map fun v => v.category).sum ≤ 8) (hc1 : mc' ≤ kc) (hc2 : ms' ≤ ks)
    (kk : ∀ (v : Option Value) (h' : Hp), Q' v h' → EV G l M (d + 1) Q (pc + 3) lv (v.toList ++ rest) h' (kc - mc') (ks - ms')) : EV G l M (d + 1) Q pc lv st h kc ks := by
  intro p e s m args below meth c A mc ms H locs cells slots ls hC hS hR hD hl h1 h2
  have hts := hC.2.2.2.2.2.2.1
  have hm := w3.2.2.2
  subst hst
  refine EV.ret_of (st0 := as.reverse ++ rest) (va_runS (Ts := TB) (As := as) (rest := rest) (g := F0 m pc ls (as.reverse ++ rest)) ⟨hC.1, hC.2.1, hC.2.2.1, hC.2.2.2.2.1, hts⟩ (ct H.size) ⟨callB_of (ws' := TB) n hts (TBw_good M' w3.1) rfl rfl rfl (hts _ w3.2.1) (hts _ w1) w3.2.2.1 ⟨Nat.le_refl _, by show 8 + (M'.2.2.1 + 11) + 64 * d ≤ 64 * (d + 1); omega⟩, hts _ w2⟩ (EV.pre hC.2.2.2.2.2.2.2.2.1 hR) rfl hn hl.1 rfl (by show 2 * 0 + _ ≤ 8; omega) dg ⟨by show cells + mc' ≤ mc; omega, by show slots + ms' ≤ ms; omega⟩) hS hC.2.2.2.2.2.2.2.2.2 hD (fun v h' H1 locs1 hq hR1 hD1 hS1 => ?_)
  exact kk v h' hq _ _ _ _ _ _ _ _ _ _ _ _ _ _ _ _ hC hS1 hR1 hD1 hl (by omega) (by omega)
theorem EV.callSN {host : String} (w1 : (M.1.cls, idx, M'.1, host) ∈ NBt) (w2 : Cond.static M'.1 ∈ TB) (w3 : CO M' n) (dg : decode M.2.1 pc = .ok (.invokestatic idx, 3)) (ct : CT G l M' d mc' ms' as h Q') (hn : as.length = n) (hst : st = as.reverse ++ rest) (hW : (rest.map fun v => v.category).sum ≤ 8) (hc1 : mc' ≤ kc) (hc2 : ms' ≤ ks)
    (kk : ∀ (v : Option Value) (h' : Hp), Q' v h' → EV G l M (d + 1) Q (pc + 3) lv (v.toList ++ rest) h' (kc - mc') (ks - ms')) : EV G l M (d + 1) Q pc lv st h kc ks := by
  intro p e s m args below meth c A mc ms H locs cells slots ls hC hS hR hD hl h1 h2
  have hts := hC.2.2.2.2.2.2.1
  have hm := w3.2.2.2
  subst hst
  refine EV.ret_of (st0 := as.reverse ++ rest) (va_runSN (Ts := TB) (As := as) (rest := rest) (g := F0 m pc ls (as.reverse ++ rest)) ⟨hC.1, hC.2.1, hC.2.2.1, hC.2.2.2.2.1, hts⟩ (ct H.size) ⟨va_cnB (Ts := TB) (ws' := TB) n hts (TBw_good M' w3.1) rfl rfl rfl (hC.2.2.2.2.2.2.2.2.1.2.1 _ w1) (hts _ w3.2.1) w3.2.2.1 ⟨Nat.le_refl _, by show 8 + (M'.2.2.1 + 11) + 64 * d ≤ 64 * (d + 1); omega⟩, hts _ w2, trivial⟩ (EV.pre hC.2.2.2.2.2.2.2.2.1 hR) rfl hn hl.1 rfl (by show 2 * 0 + _ ≤ 8; omega) dg ⟨by show cells + mc' ≤ mc; omega, by show slots + ms' ≤ ms; omega⟩) hS hC.2.2.2.2.2.2.2.2.2 hD (fun v h' H1 locs1 hq hR1 hD1 hS1 => ?_)
  exact kk v h' hq _ _ _ _ _ _ _ _ _ _ _ _ _ _ _ _ hC hS1 hR1 hD1 hl (by omega) (by omega)
theorem EV.preV {s : State} {H : Heap} {ci : Nat} {fs : List Value} {r : vw_C} (hC : Cx G s) (hR : Rl G h H) (hb : h b = some (obj ci fs)) (hc : vwCl[ci]? = some r) : PreV s H r.1 b (va_Pc (.ref b :: as) (fun U => U.heap.size = H.size ∧ Cx G U ∧ Rl G h U.heap)) as := by
  refine ⟨fun a U g mk hp => ⟨hp.1, hp.2.1, hp.2.2.1.call, hp.2.2.2⟩, ?_, fun U hU hW => ⟨rfl, by rw [hU], hC.warm hW, by rw [hU]; exact hR⟩⟩
  obtain ⟨ws, hP, hDw, hcm⟩ := hR
  obtain ⟨q0, he⟩ := hcm b _ hb
  exact va_recv hC.1 hP hc he
theorem EV.callV {ci : Nat} {fs : List Value} {r : vw_C} (w1 : Cond.methodLink M.1.cls idx M'.1 ∈ TB) (w2 : Cond.instanceMethod M'.1 ∈ TB) (w4 : Cond.selects r.1 M'.1 M'.1 ∈ TB) (hc : vwCl[ci]? = some r) (w3 : CO M' n) (dg : decode M.2.1 pc = .ok (.invokevirtual idx, 3)) (hb : h b = some (obj ci fs)) (ct : CT G l M' d mc' ms' (.ref b :: as) h Q') (hn : as.length = n) (hst : st = as.reverse ++ .ref b :: rest) (hW : (rest.map fun v => v.category).sum ≤ 8) (hc1 : mc' ≤ kc) (hc2 : ms' ≤ ks)
    (kk : ∀ (v : Option Value) (h' : Hp), Q' v h' → EV G l M (d + 1) Q (pc + 3) lv (v.toList ++ rest) h' (kc - mc') (ks - ms')) : EV G l M (d + 1) Q pc lv st h kc ks := by
  intro p e s m args below meth c A mc ms H locs cells slots ls hC hS hR hD hl h1 h2
  have hts := hC.2.2.2.2.2.2.1
  have hm := w3.2.2.2
  subst hst
  refine EV.ret_of (st0 := as.reverse ++ .ref b :: rest) (va_runV (Ts := TB) (As := as) (C := r.1) (b := b) (rest := rest) (g := F0 m pc ls (as.reverse ++ .ref b :: rest)) ⟨hC.1, hC.2.1, hC.2.2.1, hC.2.2.2.2.1, hts⟩ (ct H.size) ⟨callB_of (ws' := TB) n hts (TBw_good M' w3.1) rfl rfl rfl (hts _ w3.2.1) (hts _ w1) w3.2.2.1 ⟨Nat.le_refl _, by show 8 + (M'.2.2.1 + 11) + 64 * d ≤ 64 * (d + 1); omega⟩, hts _ w2, hts _ w4⟩ (EV.preV hC.2.2.2.2.2.2.2.2.1 hR hb hc) rfl hn hl.1 rfl (by show 2 * 0 + _ ≤ 8; omega) dg ⟨by show cells + mc' ≤ mc; omega, by show slots + ms' ≤ ms; omega⟩) hS hC.2.2.2.2.2.2.2.2.2 hD (fun v h' H1 locs1 hq hR1 hD1 hS1 => ?_)
  exact kk v h' hq _ _ _ _ _ _ _ _ _ _ _ _ _ _ _ _ hC hS1 hR1 hD1 hl (by omega) (by omega)
theorem EV.callIN {host : String} (hret : M'.2.2.2 = none) (hnm : M'.1.name = "<init>") (w1 : (M.1.cls, idx, M'.1, host) ∈ NBt) (w2 : Cond.instanceMethod M'.1 ∈ TB) (w3 : CO M' n) (dg : decode M.2.1 pc = .ok (.invokespecial idx, 3)) (ct : CT G l M' d mc' ms' (.ref b :: as) h Q') (hn : as.length = n) (hst : st = as.reverse ++ .ref b :: rest) (hW : (rest.map fun v => v.category).sum ≤ 8) (hc1 : mc' ≤ kc) (hc2 : ms' ≤ ks)
    (kk : ∀ (v : Option Value) (h' : Hp), Q' v h' → EV G l M (d + 1) Q (pc + 3) lv (v.toList ++ rest) h' (kc - mc') (ks - ms')) : EV G l M (d + 1) Q pc lv st h kc ks := by
  intro p e s m args below meth c A mc ms H locs cells slots ls hC hS hR hD hl h1 h2
  have hts := hC.2.2.2.2.2.2.1
  subst hst
  obtain ⟨y, cc, nL, ret⟩ := M'
  obtain rfl : ret = none := hret
  have hm : nL ≤ 40 := w3.2.2.2
  refine EV.ret_of (st0 := as.reverse ++ .ref b :: rest) (va_runIN (Ts := TB) (As := as) (b := b) (rest := rest) (g := F0 m pc ls (as.reverse ++ .ref b :: rest)) ⟨hC.1, hC.2.1, hC.2.2.1, hC.2.2.2.2.1, hts⟩ (ct H.size) ⟨va_cnB (Ts := TB) (ws' := TB) n hts (TBw_good _ w3.1) rfl rfl rfl (hC.2.2.2.2.2.2.2.2.1.2.1 _ w1) (hts _ w3.2.1) w3.2.2.1 ⟨Nat.le_refl _, by show 8 + (nL + 11) + 64 * d ≤ 64 * (d + 1); omega⟩, hnm, hts _ w2⟩ (EV.pre (as := .ref b :: as) hC.2.2.2.2.2.2.2.2.1 hR) rfl hn hl.1 rfl (by show 2 * 0 + _ ≤ 8; omega) dg ⟨by show cells + mc' ≤ mc; omega, by show slots + ms' ≤ ms; omega⟩) hS hC.2.2.2.2.2.2.2.2.2 hD (fun v h' H1 locs1 hq hR1 hD1 hS1 => ?_)
  exact kk v h' hq _ _ _ _ _ _ _ _ _ _ _ _ _ _ _ _ hC hS1 hR1 hD1 hl (by omega) (by omega)
/-! reads: the answer is a value, the cells stay -/
theorem EV.callSr {v : Value} (w1 : Cond.methodLink M.1.cls idx M'.1 ∈ TB) (w2 : Cond.static M'.1 ∈ TB) (w3 : CO M' n) (dg : decode M.2.1 pc = .ok (.invokestatic idx, 3)) (ct : CT G l M' d 0 0 as h (fun o h' => o = some v ∧ h' = h)) (hn : as.length = n) (hst : st = as.reverse ++ rest) (hW : (rest.map fun v => v.category).sum ≤ 8)
    (kk : EV G l M (d + 1) Q (pc + 3) lv (v :: rest) h kc ks) : EV G l M (d + 1) Q pc lv st h kc ks :=
  EV.callS w1 w2 w3 dg ct hn hst hW (Nat.zero_le _) (Nat.zero_le _) (fun o h' hq => by obtain ⟨rfl, rfl⟩ := hq; exact kk)
theorem EV.callSNr {v : Value} {host : String} (w1 : (M.1.cls, idx, M'.1, host) ∈ NBt) (w2 : Cond.static M'.1 ∈ TB) (w3 : CO M' n) (dg : decode M.2.1 pc = .ok (.invokestatic idx, 3)) (ct : CT G l M' d 0 0 as h (fun o h' => o = some v ∧ h' = h)) (hn : as.length = n) (hst : st = as.reverse ++ rest) (hW : (rest.map fun v => v.category).sum ≤ 8)
    (kk : EV G l M (d + 1) Q (pc + 3) lv (v :: rest) h kc ks) : EV G l M (d + 1) Q pc lv st h kc ks :=
  EV.callSN w1 w2 w3 dg ct hn hst hW (Nat.zero_le _) (Nat.zero_le _) (fun o h' hq => by obtain ⟨rfl, rfl⟩ := hq; exact kk)
theorem EV.callVr {v : Value} {ci : Nat} {fs : List Value} {r : vw_C} (w1 : Cond.methodLink M.1.cls idx M'.1 ∈ TB) (w2 : Cond.instanceMethod M'.1 ∈ TB) (w4 : Cond.selects r.1 M'.1 M'.1 ∈ TB) (hc : vwCl[ci]? = some r) (w3 : CO M' n) (dg : decode M.2.1 pc = .ok (.invokevirtual idx, 3)) (hb : h b = some (obj ci fs)) (ct : CT G l M' d 0 0 (.ref b :: as) h (fun o h' => o = some v ∧ h' = h)) (hn : as.length = n) (hst : st = as.reverse ++ .ref b :: rest) (hW : (rest.map fun v => v.category).sum ≤ 8)
    (kk : EV G l M (d + 1) Q (pc + 3) lv (v :: rest) h kc ks) : EV G l M (d + 1) Q pc lv st h kc ks :=
  EV.callV w1 w2 w4 hc w3 dg hb ct hn hst hW (Nat.zero_le _) (Nat.zero_le _) (fun o h' hq => by obtain ⟨rfl, rfl⟩ := hq; exact kk)
/-- System.arraycopy of ints -/
def cpI (f g : Nat → Int) (sp dp n : Nat) : Nat → Int := fun k => if dp ≤ k ∧ k < dp + n then f (sp + (k - dp)) else g k
theorem EV.copyI {a0 a n0 n1 : Nat} {f g : Nat → Int} {sp dp n : Int} (w1 : Cond.methodLink M.1.cls idx arraycopyName ∈ TB) (w2 : Cond.native arraycopyName ∈ TB) (w3 : Cond.static arraycopyName ∈ TB) (w4 : Cond.initialized "java/lang/System" ∈ TB) (dg : decode M.2.1 pc = .ok (.invokestatic idx, 3)) (ha0 : h a0 = some (arI G n0 f)) (ha : h a = some (arI G n1 g)) (i j k : Nat) (hi : sp = (i : Int)) (hj : dp = (j : Int)) (hk : n = (k : Int)) (hs : i + k ≤ n0 ∧ j + k ≤ n1 ∧ n0 < 1000 ∧ n1 < 1000) (hW : (rest.map fun v => v.category).sum ≤ 8)
    (kk : EV G l M (d + 1) Q (pc + 3) lv rest (hset h a (arI G n1 (cpI f g i j k))) kc ks) : EV G l M (d + 1) Q pc lv (.int (zI n) :: .int (zI dp) :: .ref a :: .int (zI sp) :: .ref a0 :: rest) h kc ks := by
  intro p e s m args below meth c A mc ms H locs cells slots ls hC hS hR hD hl h1 h2
  have hts := hC.2.2.2.2.2.2.1
  obtain ⟨ws, hP, hDw, hcm⟩ := hR
  obtain ⟨q0, he0⟩ := hcm a0 _ ha0
  obtain ⟨q1, he1⟩ := hcm a _ ha
  subst hi; subst hj; subst hk
  have hnf : nativeFrameWords "java/lang/System" "arraycopy" 5 ≤ 40 := by decide
  refine va_copyi hC.1 hC.2.1 (by rw [hC.2.2.1]; exact hl.1.symm) hC.2.2.2.2.1 (hts _ w1) (hts _ w2) (hts _ w3) (hts _ w4) hC.2.2.2.2.2.2.2.2.1.1 hP (hDw.weaken fun _ q _ x => hD q.1 x) hS q0 q1 0 0 he0 he1 rfl rfl rfl (by rw [zI_lt0 ⟨by omega, by omega⟩]; omega) (by rw [zI_lt0 ⟨by omega, by omega⟩]; omega) (by rw [zI_lt0 ⟨by omega, by omega⟩]; omega) (by rw [zI_clampN (by omega), zI_clampN (by omega)]; omega) (by rw [zI_clampN (by omega), zI_clampN (by omega)]; omega) (fun _ _ => rfl) (by show 1 ≤ d + 1; omega) (by show _ + (nativeFrameWords "java/lang/System" "arraycopy" 5 + 11) ≤ 64 * (d + 1); omega) dg (fun H1 locs1 hP1 hD1 hS1 => ?_)
  rw [zI_clampN (by omega), zI_clampN (by omega), zI_clampN (by omega)] at hP1
  have e1 : va_cpy (fun j => zI (f j)) (fun j => zI (g j)) i j k = fun q => zI (cpI f g i j k q) := by
    funext q
    unfold va_cpy cpI
    by_cases hq : j ≤ q ∧ q < j + k
    · rw [if_pos hq, if_pos hq]
    · rw [if_neg hq, if_neg hq]
  rw [e1] at hP1
  exact kk _ _ _ _ _ _ _ _ _ _ _ _ _ _ _ _ hC hS1 (Rl.set hDw hcm he1 hP1) (hD_set ha hD) hl h1 h2
theorem EV.tabIn {dflt lo hi : Int} {offs : Array Int} {len : Nat} {x off : Int} {t : Nat} (dg : decode M.2.1 pc = .ok (.tableswitch dflt lo hi offs, len)) (hr : inR x) (h1 : lo ≤ x ∧ x ≤ hi) (ho : offs[(x - lo).toNat]? = some off) (ht : (pc : Int) + off = (t : Int)) (k : EV G l M d Q t lv st h kc ks) : EV G l M d Q pc lv (.int (zI x) :: st) h kc ks :=
  EV.same (fun _ _ _ _ _ _ _ _ _ _ _ _ _ _ _ hx hb _ kk => lv_tableIn hx hb dg (by rw [zI_toInt hr]; omega) (by rw [zI_toInt hr]; omega) (by rw [zI_toInt hr]; exact ho) ht kk) k
theorem EV.tabOut {dflt lo hi : Int} {offs : Array Int} {len : Nat} {x : Int} {t : Nat} (dg : decode M.2.1 pc = .ok (.tableswitch dflt lo hi offs, len)) (hr : inR x) (h1 : x < lo ∨ hi < x) (ht : (pc : Int) + dflt = (t : Int)) (k : EV G l M d Q t lv st h kc ks) : EV G l M d Q pc lv (.int (zI x) :: st) h kc ks :=
  EV.same (fun _ _ _ _ _ _ _ _ _ _ _ _ _ _ _ hx hb _ kk => lv_tableOut hx hb dg (by rw [zI_toInt hr]; exact h1) ht kk) k
end EVC
end
section
/-! ===== the tables' words: by program (tools/mklinks.py) ===== -/
theorem in_X0 : ∀ w ∈ u_ws RX0 TX0 5, w ∈ TB := by decide +kernel
theorem in_X1 : ∀ w ∈ u_ws RX1 TX1 3, w ∈ TB := by decide +kernel
theorem in_X2 : ∀ w ∈ u_ws RX2 TX2 7, w ∈ TB := by decide +kernel
theorem in_X3 : ∀ w ∈ u_ws RX3 TX3 2, w ∈ TB := by decide +kernel
theorem in_X4 : ∀ w ∈ u_ws RX4 TX4 3, w ∈ TB := by decide +kernel
theorem in_X5 : ∀ w ∈ u_ws RX5 TX5 3, w ∈ TB := by decide +kernel
theorem in_X6 : ∀ w ∈ u_ws RX6 TX6 4, w ∈ TB := by decide +kernel
theorem in_X7 : ∀ w ∈ u_ws RX7 TX7 14, w ∈ TB := by decide +kernel
abbrev mX6_init : MD := (yX6_init, cX6_init, 1, none)
theorem co_X6_init : CO mX6_init 0 := ⟨TB_in (List.mem_of_getElem? (i := 50) (by decide +kernel)) (by decide +kernel), TB_in (List.mem_of_getElem? (i := 35) (by decide +kernel)) (by decide +kernel), by decide +kernel, by decide +kernel⟩
abbrev mX3_init : MD := (yX3_init, cX3_init, 1, none)
theorem co_X3_init : CO mX3_init 0 := ⟨TB_in (List.mem_of_getElem? (i := 58) (by decide +kernel)) (by decide +kernel), TB_in (List.mem_of_getElem? (i := 36) (by decide +kernel)) (by decide +kernel), by decide +kernel, by decide +kernel⟩
abbrev mX1_init : MD := (yX1_init, cX1_init, 1, none)
theorem co_X1_init : CO mX1_init 0 := ⟨TB_in (List.mem_of_getElem? (i := 75) (by decide +kernel)) (by decide +kernel), TB_in (List.mem_of_getElem? (i := 37) (by decide +kernel)) (by decide +kernel), by decide +kernel, by decide +kernel⟩
abbrev mX0_init : MD := (yX0_init, cX0_init, 1, none)
theorem co_X0_init : CO mX0_init 0 := ⟨TB_in (List.mem_of_getElem? (i := 81) (by decide +kernel)) (by decide +kernel), TB_in (List.mem_of_getElem? (i := 38) (by decide +kernel)) (by decide +kernel), by decide +kernel, by decide +kernel⟩
abbrev mX4_init : MD := (yX4_init, cX4_init, 1, none)
theorem co_X4_init : CO mX4_init 0 := ⟨TB_in (List.mem_of_getElem? (i := 104) (by decide +kernel)) (by decide +kernel), TB_in (List.mem_of_getElem? (i := 39) (by decide +kernel)) (by decide +kernel), by decide +kernel, by decide +kernel⟩
abbrev mX5_init : MD := (yX5_init, cX5_init, 1, none)
theorem co_X5_init : CO mX5_init 0 := ⟨TB_in (List.mem_of_getElem? (i := 122) (by decide +kernel)) (by decide +kernel), TB_in (List.mem_of_getElem? (i := 40) (by decide +kernel)) (by decide +kernel), by decide +kernel, by decide +kernel⟩
abbrev mX2_init : MD := (yX2_init, cX2_init, 1, none)
theorem co_X2_init : CO mX2_init 0 := ⟨TB_in (List.mem_of_getElem? (i := 155) (by decide +kernel)) (by decide +kernel), TB_in (List.mem_of_getElem? (i := 41) (by decide +kernel)) (by decide +kernel), by decide +kernel, by decide +kernel⟩
abbrev mX6_say : MD := (yX6_say, cX6_say, 2, (some .int))
theorem co_X6_say : CO mX6_say 1 := ⟨TB_in (List.mem_of_getElem? (i := 196) (by decide +kernel)) (by decide +kernel), TB_in (List.mem_of_getElem? (i := 35) (by decide +kernel)) (by decide +kernel), by decide +kernel, by decide +kernel⟩
abbrev mX3_add : MD := (yX3_add, cX3_add, 2, (some .boolean))
theorem co_X3_add : CO mX3_add 1 := ⟨TB_in (List.mem_of_getElem? (i := 200) (by decide +kernel)) (by decide +kernel), TB_in (List.mem_of_getElem? (i := 36) (by decide +kernel)) (by decide +kernel), by decide +kernel, by decide +kernel⟩
abbrev mX6_isOneOf : MD := (yX6_isOneOf, cX6_isOneOf, 2, (some .boolean))
theorem co_X6_isOneOf : CO mX6_isOneOf 2 := ⟨TB_in (List.mem_of_getElem? (i := 203) (by decide +kernel)) (by decide +kernel), TB_in (List.mem_of_getElem? (i := 35) (by decide +kernel)) (by decide +kernel), by decide +kernel, by decide +kernel⟩
abbrev mX6_wipe : MD := (yX6_wipe, cX6_wipe, 2, (some .int))
theorem co_X6_wipe : CO mX6_wipe 0 := ⟨TB_in (List.mem_of_getElem? (i := 207) (by decide +kernel)) (by decide +kernel), TB_in (List.mem_of_getElem? (i := 35) (by decide +kernel)) (by decide +kernel), by decide +kernel, by decide +kernel⟩
abbrev mX6_fault : MD := (yX6_fault, cX6_fault, 2, (some .int))
theorem co_X6_fault : CO mX6_fault 1 := ⟨TB_in (List.mem_of_getElem? (i := 211) (by decide +kernel)) (by decide +kernel), TB_in (List.mem_of_getElem? (i := 35) (by decide +kernel)) (by decide +kernel), by decide +kernel, by decide +kernel⟩
abbrev mX3_orderFault : MD := (yX3_orderFault, cX3_orderFault, 4, (some .int))
theorem co_X3_orderFault : CO mX3_orderFault 0 := ⟨TB_in (List.mem_of_getElem? (i := 216) (by decide +kernel)) (by decide +kernel), TB_in (List.mem_of_getElem? (i := 36) (by decide +kernel)) (by decide +kernel), by decide +kernel, by decide +kernel⟩
abbrev mX3_signAt : MD := (yX3_signAt, cX3_signAt, 2, (some .int))
theorem co_X3_signAt : CO mX3_signAt 1 := ⟨TB_in (List.mem_of_getElem? (i := 220) (by decide +kernel)) (by decide +kernel), TB_in (List.mem_of_getElem? (i := 36) (by decide +kernel)) (by decide +kernel), by decide +kernel, by decide +kernel⟩
abbrev mX3_planFault : MD := (yX3_planFault, cX3_planFault, 7, (some .int))
theorem co_X3_planFault : CO mX3_planFault 0 := ⟨TB_in (List.mem_of_getElem? (i := 224) (by decide +kernel)) (by decide +kernel), TB_in (List.mem_of_getElem? (i := 36) (by decide +kernel)) (by decide +kernel), by decide +kernel, by decide +kernel⟩
abbrev mX6_born : MD := (yX6_born, cX6_born, 3, (some .int))
theorem co_X6_born : CO mX6_born 2 := ⟨TB_in (List.mem_of_getElem? (i := 228) (by decide +kernel)) (by decide +kernel), TB_in (List.mem_of_getElem? (i := 35) (by decide +kernel)) (by decide +kernel), by decide +kernel, by decide +kernel⟩
abbrev mX6_isBirth : MD := (yX6_isBirth, cX6_isBirth, 1, (some .boolean))
theorem co_X6_isBirth : CO mX6_isBirth 1 := ⟨TB_in (List.mem_of_getElem? (i := 231) (by decide +kernel)) (by decide +kernel), TB_in (List.mem_of_getElem? (i := 35) (by decide +kernel)) (by decide +kernel), by decide +kernel, by decide +kernel⟩
abbrev mX0_settle : MD := (yX0_settle, cX0_settle, 5, none)
theorem co_X0_settle : CO mX0_settle 3 := ⟨TB_in (List.mem_of_getElem? (i := 235) (by decide +kernel)) (by decide +kernel), TB_in (List.mem_of_getElem? (i := 38) (by decide +kernel)) (by decide +kernel), by decide +kernel, by decide +kernel⟩
abbrev mX6_exile : MD := (yX6_exile, cX6_exile, 2, (some .int))
theorem co_X6_exile : CO mX6_exile 1 := ⟨TB_in (List.mem_of_getElem? (i := 242) (by decide +kernel)) (by decide +kernel), TB_in (List.mem_of_getElem? (i := 35) (by decide +kernel)) (by decide +kernel), by decide +kernel, by decide +kernel⟩
abbrev mX6_isThere : MD := (yX6_isThere, cX6_isThere, 2, (some .boolean))
theorem co_X6_isThere : CO mX6_isThere 1 := ⟨TB_in (List.mem_of_getElem? (i := 246) (by decide +kernel)) (by decide +kernel), TB_in (List.mem_of_getElem? (i := 35) (by decide +kernel)) (by decide +kernel), by decide +kernel, by decide +kernel⟩
abbrev mX0_isThere : MD := (yX0_isThere, cX0_isThere, 2, (some .boolean))
theorem co_X0_isThere : CO mX0_isThere 1 := ⟨TB_in (List.mem_of_getElem? (i := 250) (by decide +kernel)) (by decide +kernel), TB_in (List.mem_of_getElem? (i := 38) (by decide +kernel)) (by decide +kernel), by decide +kernel, by decide +kernel⟩
abbrev mJ6_bitCount_0f7a4 : MD := (yJ6_bitCount_0f7a4, cJ6_bitCount_0f7a4, 1, (some .int))
theorem co_J6_bitCount_0f7a4 : CO mJ6_bitCount_0f7a4 1 := ⟨TB_in (List.mem_of_getElem? (i := 253) (by decide +kernel)) (by decide +kernel), TB_in (List.mem_of_getElem? (i := 43) (by decide +kernel)) (by decide +kernel), by decide +kernel, by decide +kernel⟩
abbrev mX6_plan : MD := (yX6_plan, cX6_plan, 1, (some .int))
theorem co_X6_plan : CO mX6_plan 0 := ⟨TB_in (List.mem_of_getElem? (i := 260) (by decide +kernel)) (by decide +kernel), TB_in (List.mem_of_getElem? (i := 35) (by decide +kernel)) (by decide +kernel), by decide +kernel, by decide +kernel⟩
abbrev mX4_read : MD := (yX4_read, cX4_read, 5, none)
theorem co_X4_read : CO mX4_read 1 := ⟨TB_in (List.mem_of_getElem? (i := 264) (by decide +kernel)) (by decide +kernel), TB_in (List.mem_of_getElem? (i := 39) (by decide +kernel)) (by decide +kernel), by decide +kernel, by decide +kernel⟩
abbrev mX6_today : MD := (yX6_today, cX6_today, 3, (some .int))
theorem co_X6_today : CO mX6_today 2 := ⟨TB_in (List.mem_of_getElem? (i := 270) (by decide +kernel)) (by decide +kernel), TB_in (List.mem_of_getElem? (i := 35) (by decide +kernel)) (by decide +kernel), by decide +kernel, by decide +kernel⟩
abbrev mX6_isDate : MD := (yX6_isDate, cX6_isDate, 1, (some .boolean))
theorem co_X6_isDate : CO mX6_isDate 1 := ⟨TB_in (List.mem_of_getElem? (i := 273) (by decide +kernel)) (by decide +kernel), TB_in (List.mem_of_getElem? (i := 35) (by decide +kernel)) (by decide +kernel), by decide +kernel, by decide +kernel⟩
abbrev mX0_dayOn : MD := (yX0_dayOn, cX0_dayOn, 4, (some .int))
theorem co_X0_dayOn : CO mX0_dayOn 2 := ⟨TB_in (List.mem_of_getElem? (i := 277) (by decide +kernel)) (by decide +kernel), TB_in (List.mem_of_getElem? (i := 38) (by decide +kernel)) (by decide +kernel), by decide +kernel, by decide +kernel⟩
abbrev mJ9_floorMod_7cf53 : MD := (yJ9_floorMod_7cf53, cJ9_floorMod_7cf53, 3, (some .int))
theorem co_J9_floorMod_7cf53 : CO mJ9_floorMod_7cf53 2 := ⟨TB_in (List.mem_of_getElem? (i := 280) (by decide +kernel)) (by decide +kernel), TB_in (List.mem_of_getElem? (i := 44) (by decide +kernel)) (by decide +kernel), by decide +kernel, by decide +kernel⟩
abbrev mX6_same : MD := (yX6_same, cX6_same, 3, (some .int))
theorem co_X6_same : CO mX6_same 2 := ⟨TB_in (List.mem_of_getElem? (i := 284) (by decide +kernel)) (by decide +kernel), TB_in (List.mem_of_getElem? (i := 35) (by decide +kernel)) (by decide +kernel), by decide +kernel, by decide +kernel⟩
abbrev mX0_having : MD := (yX0_having, cX0_having, 5, (some .int))
theorem co_X0_having : CO mX0_having 2 := ⟨TB_in (List.mem_of_getElem? (i := 288) (by decide +kernel)) (by decide +kernel), TB_in (List.mem_of_getElem? (i := 38) (by decide +kernel)) (by decide +kernel), by decide +kernel, by decide +kernel⟩
abbrev mX6_next : MD := (yX6_next, cX6_next, 5, (some .int))
theorem co_X6_next : CO mX6_next 3 := ⟨TB_in (List.mem_of_getElem? (i := 293) (by decide +kernel)) (by decide +kernel), TB_in (List.mem_of_getElem? (i := 35) (by decide +kernel)) (by decide +kernel), by decide +kernel, by decide +kernel⟩
abbrev mX6_meet : MD := (yX6_meet, cX6_meet, 6, (some .int))
theorem co_X6_meet : CO mX6_meet 3 := ⟨TB_in (List.mem_of_getElem? (i := 297) (by decide +kernel)) (by decide +kernel), TB_in (List.mem_of_getElem? (i := 35) (by decide +kernel)) (by decide +kernel), by decide +kernel, by decide +kernel⟩
abbrev mX6_isSetOfThere : MD := (yX6_isSetOfThere, cX6_isSetOfThere, 2, (some .boolean))
theorem co_X6_isSetOfThere : CO mX6_isSetOfThere 1 := ⟨TB_in (List.mem_of_getElem? (i := 301) (by decide +kernel)) (by decide +kernel), TB_in (List.mem_of_getElem? (i := 35) (by decide +kernel)) (by decide +kernel), by decide +kernel, by decide +kernel⟩
abbrev mX0_commonDay : MD := (yX0_commonDay, cX0_commonDay, 6, (some .int))
theorem co_X0_commonDay : CO mX0_commonDay 2 := ⟨TB_in (List.mem_of_getElem? (i := 305) (by decide +kernel)) (by decide +kernel), TB_in (List.mem_of_getElem? (i := 38) (by decide +kernel)) (by decide +kernel), by decide +kernel, by decide +kernel⟩
abbrev mX6_shared : MD := (yX6_shared, cX6_shared, 3, (some .int))
theorem co_X6_shared : CO mX6_shared 2 := ⟨TB_in (List.mem_of_getElem? (i := 309) (by decide +kernel)) (by decide +kernel), TB_in (List.mem_of_getElem? (i := 35) (by decide +kernel)) (by decide +kernel), by decide +kernel, by decide +kernel⟩
abbrev mX6_areTwoThere : MD := (yX6_areTwoThere, cX6_areTwoThere, 3, (some .boolean))
theorem co_X6_areTwoThere : CO mX6_areTwoThere 2 := ⟨TB_in (List.mem_of_getElem? (i := 313) (by decide +kernel)) (by decide +kernel), TB_in (List.mem_of_getElem? (i := 35) (by decide +kernel)) (by decide +kernel), by decide +kernel, by decide +kernel⟩
abbrev mX0_sharedDates : MD := (yX0_sharedDates, cX0_sharedDates, 6, (some .int))
theorem co_X0_sharedDates : CO mX0_sharedDates 3 := ⟨TB_in (List.mem_of_getElem? (i := 317) (by decide +kernel)) (by decide +kernel), TB_in (List.mem_of_getElem? (i := 38) (by decide +kernel)) (by decide +kernel), by decide +kernel, by decide +kernel⟩
abbrev mX0_share : MD := (yX0_share, cX0_share, 4, (some .boolean))
theorem co_X0_share : CO mX0_share 3 := ⟨TB_in (List.mem_of_getElem? (i := 321) (by decide +kernel)) (by decide +kernel), TB_in (List.mem_of_getElem? (i := 38) (by decide +kernel)) (by decide +kernel), by decide +kernel, by decide +kernel⟩
abbrev mX6_never : MD := (yX6_never, cX6_never, 2, (some .int))
theorem co_X6_never : CO mX6_never 1 := ⟨TB_in (List.mem_of_getElem? (i := 325) (by decide +kernel)) (by decide +kernel), TB_in (List.mem_of_getElem? (i := 35) (by decide +kernel)) (by decide +kernel), by decide +kernel, by decide +kernel⟩
abbrev mX6_pairs : MD := (yX6_pairs, cX6_pairs, 6, (some .int))
theorem co_X6_pairs : CO mX6_pairs 2 := ⟨TB_in (List.mem_of_getElem? (i := 329) (by decide +kernel)) (by decide +kernel), TB_in (List.mem_of_getElem? (i := 35) (by decide +kernel)) (by decide +kernel), by decide +kernel, by decide +kernel⟩
abbrev mX6_isPair : MD := (yX6_isPair, cX6_isPair, 4, (some .boolean))
theorem co_X6_isPair : CO mX6_isPair 3 := ⟨TB_in (List.mem_of_getElem? (i := 333) (by decide +kernel)) (by decide +kernel), TB_in (List.mem_of_getElem? (i := 35) (by decide +kernel)) (by decide +kernel), by decide +kernel, by decide +kernel⟩
abbrev mX0_areTwins : MD := (yX0_areTwins, cX0_areTwins, 3, (some .boolean))
theorem co_X0_areTwins : CO mX0_areTwins 2 := ⟨TB_in (List.mem_of_getElem? (i := 337) (by decide +kernel)) (by decide +kernel), TB_in (List.mem_of_getElem? (i := 38) (by decide +kernel)) (by decide +kernel), by decide +kernel, by decide +kernel⟩
abbrev mX0_isDelayed : MD := (yX0_isDelayed, cX0_isDelayed, 5, (some .boolean))
theorem co_X0_isDelayed : CO mX0_isDelayed 3 := ⟨TB_in (List.mem_of_getElem? (i := 341) (by decide +kernel)) (by decide +kernel), TB_in (List.mem_of_getElem? (i := 38) (by decide +kernel)) (by decide +kernel), by decide +kernel, by decide +kernel⟩
abbrev mX0_everShare : MD := (yX0_everShare, cX0_everShare, 4, (some .boolean))
theorem co_X0_everShare : CO mX0_everShare 2 := ⟨TB_in (List.mem_of_getElem? (i := 345) (by decide +kernel)) (by decide +kernel), TB_in (List.mem_of_getElem? (i := 38) (by decide +kernel)) (by decide +kernel), by decide +kernel, by decide +kernel⟩
abbrev mX6_market : MD := (yX6_market, cX6_market, 4, (some .int))
theorem co_X6_market : CO mX6_market 3 := ⟨TB_in (List.mem_of_getElem? (i := 349) (by decide +kernel)) (by decide +kernel), TB_in (List.mem_of_getElem? (i := 35) (by decide +kernel)) (by decide +kernel), by decide +kernel, by decide +kernel⟩
abbrev mX6_countMarkets : MD := (yX6_countMarkets, cX6_countMarkets, 5, (some .int))
theorem co_X6_countMarkets : CO mX6_countMarkets 2 := ⟨TB_in (List.mem_of_getElem? (i := 353) (by decide +kernel)) (by decide +kernel), TB_in (List.mem_of_getElem? (i := 35) (by decide +kernel)) (by decide +kernel), by decide +kernel, by decide +kernel⟩
abbrev mX6_isMarket : MD := (yX6_isMarket, cX6_isMarket, 4, (some .boolean))
theorem co_X6_isMarket : CO mX6_isMarket 3 := ⟨TB_in (List.mem_of_getElem? (i := 357) (by decide +kernel)) (by decide +kernel), TB_in (List.mem_of_getElem? (i := 35) (by decide +kernel)) (by decide +kernel), by decide +kernel, by decide +kernel⟩
abbrev mX6_firstMarket : MD := (yX6_firstMarket, cX6_firstMarket, 4, (some .int))
theorem co_X6_firstMarket : CO mX6_firstMarket 2 := ⟨TB_in (List.mem_of_getElem? (i := 361) (by decide +kernel)) (by decide +kernel), TB_in (List.mem_of_getElem? (i := 35) (by decide +kernel)) (by decide +kernel), by decide +kernel, by decide +kernel⟩
abbrev mX6_longestWithoutMarket : MD := (yX6_longestWithoutMarket, cX6_longestWithoutMarket, 7, (some .int))
theorem co_X6_longestWithoutMarket : CO mX6_longestWithoutMarket 2 := ⟨TB_in (List.mem_of_getElem? (i := 365) (by decide +kernel)) (by decide +kernel), TB_in (List.mem_of_getElem? (i := 35) (by decide +kernel)) (by decide +kernel), by decide +kernel, by decide +kernel⟩
abbrev mJ9_max_7cf53 : MD := (yJ9_max_7cf53, cJ9_max_7cf53, 2, (some .int))
theorem co_J9_max_7cf53 : CO mJ9_max_7cf53 2 := ⟨TB_in (List.mem_of_getElem? (i := 368) (by decide +kernel)) (by decide +kernel), TB_in (List.mem_of_getElem? (i := 44) (by decide +kernel)) (by decide +kernel), by decide +kernel, by decide +kernel⟩
abbrev mX6_can : MD := (yX6_can, cX6_can, 3, (some .int))
theorem co_X6_can : CO mX6_can 2 := ⟨TB_in (List.mem_of_getElem? (i := 372) (by decide +kernel)) (by decide +kernel), TB_in (List.mem_of_getElem? (i := 35) (by decide +kernel)) (by decide +kernel), by decide +kernel, by decide +kernel⟩
abbrev mX1_isDoable : MD := (yX1_isDoable, cX1_isDoable, 3, (some .boolean))
theorem co_X1_isDoable : CO mX1_isDoable 2 := ⟨TB_in (List.mem_of_getElem? (i := 376) (by decide +kernel)) (by decide +kernel), TB_in (List.mem_of_getElem? (i := 37) (by decide +kernel)) (by decide +kernel), by decide +kernel, by decide +kernel⟩
abbrev mX4_peopleOf : MD := (yX4_peopleOf, cX4_peopleOf, 2, (some .int))
theorem co_X4_peopleOf : CO mX4_peopleOf 1 := ⟨TB_in (List.mem_of_getElem? (i := 380) (by decide +kernel)) (by decide +kernel), TB_in (List.mem_of_getElem? (i := 39) (by decide +kernel)) (by decide +kernel), by decide +kernel, by decide +kernel⟩
abbrev mX4_dayOf : MD := (yX4_dayOf, cX4_dayOf, 2, (some .int))
theorem co_X4_dayOf : CO mX4_dayOf 1 := ⟨TB_in (List.mem_of_getElem? (i := 384) (by decide +kernel)) (by decide +kernel), TB_in (List.mem_of_getElem? (i := 39) (by decide +kernel)) (by decide +kernel), by decide +kernel, by decide +kernel⟩
abbrev mX0_allHave : MD := (yX0_allHave, cX0_allHave, 5, (some .boolean))
theorem co_X0_allHave : CO mX0_allHave 3 := ⟨TB_in (List.mem_of_getElem? (i := 388) (by decide +kernel)) (by decide +kernel), TB_in (List.mem_of_getElem? (i := 38) (by decide +kernel)) (by decide +kernel), by decide +kernel, by decide +kernel⟩
abbrev mX6_month : MD := (yX6_month, cX6_month, 3, (some .int))
theorem co_X6_month : CO mX6_month 2 := ⟨TB_in (List.mem_of_getElem? (i := 392) (by decide +kernel)) (by decide +kernel), TB_in (List.mem_of_getElem? (i := 35) (by decide +kernel)) (by decide +kernel), by decide +kernel, by decide +kernel⟩
abbrev mX2_settle : MD := (yX2_settle, cX2_settle, 4, none)
theorem co_X2_settle : CO mX2_settle 2 := ⟨TB_in (List.mem_of_getElem? (i := 396) (by decide +kernel)) (by decide +kernel), TB_in (List.mem_of_getElem? (i := 41) (by decide +kernel)) (by decide +kernel), by decide +kernel, by decide +kernel⟩
abbrev mJ9_min_7cf53 : MD := (yJ9_min_7cf53, cJ9_min_7cf53, 2, (some .int))
theorem co_J9_min_7cf53 : CO mJ9_min_7cf53 2 := ⟨TB_in (List.mem_of_getElem? (i := 399) (by decide +kernel)) (by decide +kernel), TB_in (List.mem_of_getElem? (i := 44) (by decide +kernel)) (by decide +kernel), by decide +kernel, by decide +kernel⟩
abbrev mX2_collect : MD := (yX2_collect, cX2_collect, 6, none)
theorem co_X2_collect : CO mX2_collect 3 := ⟨TB_in (List.mem_of_getElem? (i := 404) (by decide +kernel)) (by decide +kernel), TB_in (List.mem_of_getElem? (i := 41) (by decide +kernel)) (by decide +kernel), by decide +kernel, by decide +kernel⟩
abbrev mX2_search : MD := (yX2_search, cX2_search, 5, none)
theorem co_X2_search : CO mX2_search 3 := ⟨TB_in (List.mem_of_getElem? (i := 408) (by decide +kernel)) (by decide +kernel), TB_in (List.mem_of_getElem? (i := 41) (by decide +kernel)) (by decide +kernel), by decide +kernel, by decide +kernel⟩
abbrev mX2_keep : MD := (yX2_keep, cX2_keep, 2, none)
theorem co_X2_keep : CO mX2_keep 1 := ⟨TB_in (List.mem_of_getElem? (i := 413) (by decide +kernel)) (by decide +kernel), TB_in (List.mem_of_getElem? (i := 41) (by decide +kernel)) (by decide +kernel), by decide +kernel, by decide +kernel⟩
abbrev mX2_isFree : MD := (yX2_isFree, cX2_isFree, 4, (some .boolean))
theorem co_X2_isFree : CO mX2_isFree 2 := ⟨TB_in (List.mem_of_getElem? (i := 420) (by decide +kernel)) (by decide +kernel), TB_in (List.mem_of_getElem? (i := 41) (by decide +kernel)) (by decide +kernel), by decide +kernel, by decide +kernel⟩
abbrev mX2_dateOf : MD := (yX2_dateOf, cX2_dateOf, 2, (some .int))
theorem co_X2_dateOf : CO mX2_dateOf 1 := ⟨TB_in (List.mem_of_getElem? (i := 424) (by decide +kernel)) (by decide +kernel), TB_in (List.mem_of_getElem? (i := 41) (by decide +kernel)) (by decide +kernel), by decide +kernel, by decide +kernel⟩
abbrev mX6_barred : MD := (yX6_barred, cX6_barred, 3, (some .int))
theorem co_X6_barred : CO mX6_barred 0 := ⟨TB_in (List.mem_of_getElem? (i := 428) (by decide +kernel)) (by decide +kernel), TB_in (List.mem_of_getElem? (i := 35) (by decide +kernel)) (by decide +kernel), by decide +kernel, by decide +kernel⟩
abbrev mX1_isBarred : MD := (yX1_isBarred, cX1_isBarred, 2, (some .boolean))
theorem co_X1_isBarred : CO mX1_isBarred 1 := ⟨TB_in (List.mem_of_getElem? (i := 432) (by decide +kernel)) (by decide +kernel), TB_in (List.mem_of_getElem? (i := 37) (by decide +kernel)) (by decide +kernel), by decide +kernel, by decide +kernel⟩
abbrev mX0_everAllHave : MD := (yX0_everAllHave, cX0_everAllHave, 4, (some .boolean))
theorem co_X0_everAllHave : CO mX0_everAllHave 2 := ⟨TB_in (List.mem_of_getElem? (i := 436) (by decide +kernel)) (by decide +kernel), TB_in (List.mem_of_getElem? (i := 38) (by decide +kernel)) (by decide +kernel), by decide +kernel, by decide +kernel⟩
abbrev mX6_why : MD := (yX6_why, cX6_why, 3, (some .int))
theorem co_X6_why : CO mX6_why 1 := ⟨TB_in (List.mem_of_getElem? (i := 441) (by decide +kernel)) (by decide +kernel), TB_in (List.mem_of_getElem? (i := 35) (by decide +kernel)) (by decide +kernel), by decide +kernel, by decide +kernel⟩
abbrev mX0_whyNever : MD := (yX0_whyNever, cX0_whyNever, 6, (some .int))
theorem co_X0_whyNever : CO mX0_whyNever 2 := ⟨TB_in (List.mem_of_getElem? (i := 447) (by decide +kernel)) (by decide +kernel), TB_in (List.mem_of_getElem? (i := 38) (by decide +kernel)) (by decide +kernel), by decide +kernel, by decide +kernel⟩
abbrev mX6_common : MD := (yX6_common, cX6_common, 10, (some .int))
theorem co_X6_common : CO mX6_common 3 := ⟨TB_in (List.mem_of_getElem? (i := 452) (by decide +kernel)) (by decide +kernel), TB_in (List.mem_of_getElem? (i := 35) (by decide +kernel)) (by decide +kernel), by decide +kernel, by decide +kernel⟩
abbrev mX6_wedding : MD := (yX6_wedding, cX6_wedding, 8, (some .int))
theorem co_X6_wedding : CO mX6_wedding 3 := ⟨TB_in (List.mem_of_getElem? (i := 456) (by decide +kernel)) (by decide +kernel), TB_in (List.mem_of_getElem? (i := 35) (by decide +kernel)) (by decide +kernel), by decide +kernel, by decide +kernel⟩
abbrev mX6_weddingCost : MD := (yX6_weddingCost, cX6_weddingCost, 6, (some .int))
theorem co_X6_weddingCost : CO mX6_weddingCost 3 := ⟨TB_in (List.mem_of_getElem? (i := 460) (by decide +kernel)) (by decide +kernel), TB_in (List.mem_of_getElem? (i := 35) (by decide +kernel)) (by decide +kernel), by decide +kernel, by decide +kernel⟩
abbrev mX0_cost : MD := (yX0_cost, cX0_cost, 3, (some .int))
theorem co_X0_cost : CO mX0_cost 2 := ⟨TB_in (List.mem_of_getElem? (i := 464) (by decide +kernel)) (by decide +kernel), TB_in (List.mem_of_getElem? (i := 38) (by decide +kernel)) (by decide +kernel), by decide +kernel, by decide +kernel⟩
abbrev mX6_best : MD := (yX6_best, cX6_best, 8, (some .int))
theorem co_X6_best : CO mX6_best 2 := ⟨TB_in (List.mem_of_getElem? (i := 469) (by decide +kernel)) (by decide +kernel), TB_in (List.mem_of_getElem? (i := 35) (by decide +kernel)) (by decide +kernel), by decide +kernel, by decide +kernel⟩
abbrev mX0_fewestShared : MD := (yX0_fewestShared, cX0_fewestShared, 8, (some .int))
theorem co_X0_fewestShared : CO mX0_fewestShared 3 := ⟨TB_in (List.mem_of_getElem? (i := 473) (by decide +kernel)) (by decide +kernel), TB_in (List.mem_of_getElem? (i := 38) (by decide +kernel)) (by decide +kernel), by decide +kernel, by decide +kernel⟩
abbrev mX6_bornDay : MD := (yX6_bornDay, cX6_bornDay, 5, (some .int))
theorem co_X6_bornDay : CO mX6_bornDay 4 := ⟨TB_in (List.mem_of_getElem? (i := 477) (by decide +kernel)) (by decide +kernel), TB_in (List.mem_of_getElem? (i := 35) (by decide +kernel)) (by decide +kernel), by decide +kernel, by decide +kernel⟩
abbrev mX6_feast : MD := (yX6_feast, cX6_feast, 2, (some .int))
theorem co_X6_feast : CO mX6_feast 1 := ⟨TB_in (List.mem_of_getElem? (i := 483) (by decide +kernel)) (by decide +kernel), TB_in (List.mem_of_getElem? (i := 35) (by decide +kernel)) (by decide +kernel), by decide +kernel, by decide +kernel⟩
abbrev mX0_feastOn : MD := (yX0_feastOn, cX0_feastOn, 5, (some .int))
theorem co_X0_feastOn : CO mX0_feastOn 1 := ⟨TB_in (List.mem_of_getElem? (i := 487) (by decide +kernel)) (by decide +kernel), TB_in (List.mem_of_getElem? (i := 38) (by decide +kernel)) (by decide +kernel), by decide +kernel, by decide +kernel⟩
abbrev mX6_feasts : MD := (yX6_feasts, cX6_feasts, 4, (some .int))
theorem co_X6_feasts : CO mX6_feasts 1 := ⟨TB_in (List.mem_of_getElem? (i := 491) (by decide +kernel)) (by decide +kernel), TB_in (List.mem_of_getElem? (i := 35) (by decide +kernel)) (by decide +kernel), by decide +kernel, by decide +kernel⟩
abbrev mX6_poor : MD := (yX6_poor, cX6_poor, 3, (some .int))
theorem co_X6_poor : CO mX6_poor 0 := ⟨TB_in (List.mem_of_getElem? (i := 495) (by decide +kernel)) (by decide +kernel), TB_in (List.mem_of_getElem? (i := 35) (by decide +kernel)) (by decide +kernel), by decide +kernel, by decide +kernel⟩
abbrev mX6_twins : MD := (yX6_twins, cX6_twins, 2, (some .int))
theorem co_X6_twins : CO mX6_twins 1 := ⟨TB_in (List.mem_of_getElem? (i := 499) (by decide +kernel)) (by decide +kernel), TB_in (List.mem_of_getElem? (i := 35) (by decide +kernel)) (by decide +kernel), by decide +kernel, by decide +kernel⟩
abbrev mX6_oneOrder : MD := (yX6_oneOrder, cX6_oneOrder, 3, (some .int))
theorem co_X6_oneOrder : CO mX6_oneOrder 2 := ⟨TB_in (List.mem_of_getElem? (i := 503) (by decide +kernel)) (by decide +kernel), TB_in (List.mem_of_getElem? (i := 35) (by decide +kernel)) (by decide +kernel), by decide +kernel, by decide +kernel⟩
abbrev mX0_datesApart : MD := (yX0_datesApart, cX0_datesApart, 3, (some .int))
theorem co_X0_datesApart : CO mX0_datesApart 0 := ⟨TB_in (List.mem_of_getElem? (i := 507) (by decide +kernel)) (by decide +kernel), TB_in (List.mem_of_getElem? (i := 38) (by decide +kernel)) (by decide +kernel), by decide +kernel, by decide +kernel⟩
abbrev mX0_costOfAll : MD := (yX0_costOfAll, cX0_costOfAll, 4, (some .int))
theorem co_X0_costOfAll : CO mX0_costOfAll 1 := ⟨TB_in (List.mem_of_getElem? (i := 512) (by decide +kernel)) (by decide +kernel), TB_in (List.mem_of_getElem? (i := 38) (by decide +kernel)) (by decide +kernel), by decide +kernel, by decide +kernel⟩
abbrev mX6_seen : MD := (yX6_seen, cX6_seen, 3, (some .int))
theorem co_X6_seen : CO mX6_seen 2 := ⟨TB_in (List.mem_of_getElem? (i := 517) (by decide +kernel)) (by decide +kernel), TB_in (List.mem_of_getElem? (i := 35) (by decide +kernel)) (by decide +kernel), by decide +kernel, by decide +kernel⟩
abbrev mX5_add : MD := (yX5_add, cX5_add, 3, (some .boolean))
theorem co_X5_add : CO mX5_add 2 := ⟨TB_in (List.mem_of_getElem? (i := 521) (by decide +kernel)) (by decide +kernel), TB_in (List.mem_of_getElem? (i := 40) (by decide +kernel)) (by decide +kernel), by decide +kernel, by decide +kernel⟩
abbrev mX6_forget : MD := (yX6_forget, cX6_forget, 2, (some .int))
theorem co_X6_forget : CO mX6_forget 0 := ⟨TB_in (List.mem_of_getElem? (i := 526) (by decide +kernel)) (by decide +kernel), TB_in (List.mem_of_getElem? (i := 35) (by decide +kernel)) (by decide +kernel), by decide +kernel, by decide +kernel⟩
abbrev mX6_whose : MD := (yX6_whose, cX6_whose, 5, (some .int))
theorem co_X6_whose : CO mX6_whose 1 := ⟨TB_in (List.mem_of_getElem? (i := 530) (by decide +kernel)) (by decide +kernel), TB_in (List.mem_of_getElem? (i := 35) (by decide +kernel)) (by decide +kernel), by decide +kernel, by decide +kernel⟩
abbrev mX1_fitsSights : MD := (yX1_fitsSights, cX1_fitsSights, 4, (some .boolean))
theorem co_X1_fitsSights : CO mX1_fitsSights 2 := ⟨TB_in (List.mem_of_getElem? (i := 534) (by decide +kernel)) (by decide +kernel), TB_in (List.mem_of_getElem? (i := 37) (by decide +kernel)) (by decide +kernel), by decide +kernel, by decide +kernel⟩
abbrev mX5_dateOf : MD := (yX5_dateOf, cX5_dateOf, 2, (some .int))
theorem co_X5_dateOf : CO mX5_dateOf 1 := ⟨TB_in (List.mem_of_getElem? (i := 539) (by decide +kernel)) (by decide +kernel), TB_in (List.mem_of_getElem? (i := 40) (by decide +kernel)) (by decide +kernel), by decide +kernel, by decide +kernel⟩
abbrev mX5_wasShut : MD := (yX5_wasShut, cX5_wasShut, 2, (some .boolean))
theorem co_X5_wasShut : CO mX5_wasShut 1 := ⟨TB_in (List.mem_of_getElem? (i := 544) (by decide +kernel)) (by decide +kernel), TB_in (List.mem_of_getElem? (i := 40) (by decide +kernel)) (by decide +kernel), by decide +kernel, by decide +kernel⟩
abbrev mX6_sure : MD := (yX6_sure, cX6_sure, 6, (some .int))
theorem co_X6_sure : CO mX6_sure 1 := ⟨TB_in (List.mem_of_getElem? (i := 548) (by decide +kernel)) (by decide +kernel), TB_in (List.mem_of_getElem? (i := 35) (by decide +kernel)) (by decide +kernel), by decide +kernel, by decide +kernel⟩
abbrev mX6_chance : MD := (yX6_chance, cX6_chance, 4, (some .long))
theorem co_X6_chance : CO mX6_chance 3 := ⟨TB_in (List.mem_of_getElem? (i := 552) (by decide +kernel)) (by decide +kernel), TB_in (List.mem_of_getElem? (i := 35) (by decide +kernel)) (by decide +kernel), by decide +kernel, by decide +kernel⟩
abbrev mX6_chanceOfDay : MD := (yX6_chanceOfDay, cX6_chanceOfDay, 8, (some .long))
theorem co_X6_chanceOfDay : CO mX6_chanceOfDay 3 := ⟨TB_in (List.mem_of_getElem? (i := 557) (by decide +kernel)) (by decide +kernel), TB_in (List.mem_of_getElem? (i := 35) (by decide +kernel)) (by decide +kernel), by decide +kernel, by decide +kernel⟩
abbrev mX6_greatestFactor : MD := (yX6_greatestFactor, cX6_greatestFactor, 3, (some .int))
theorem co_X6_greatestFactor : CO mX6_greatestFactor 2 := ⟨TB_in (List.mem_of_getElem? (i := 561) (by decide +kernel)) (by decide +kernel), TB_in (List.mem_of_getElem? (i := 35) (by decide +kernel)) (by decide +kernel), by decide +kernel, by decide +kernel⟩
abbrev mX6_shares : MD := (yX6_shares, cX6_shares, 4, (some .long))
theorem co_X6_shares : CO mX6_shares 3 := ⟨TB_in (List.mem_of_getElem? (i := 565) (by decide +kernel)) (by decide +kernel), TB_in (List.mem_of_getElem? (i := 35) (by decide +kernel)) (by decide +kernel), by decide +kernel, by decide +kernel⟩
abbrev mX6_year : MD := (yX6_year, cX6_year, 12, (some .int))
theorem co_X6_year : CO mX6_year 3 := ⟨TB_in (List.mem_of_getElem? (i := 569) (by decide +kernel)) (by decide +kernel), TB_in (List.mem_of_getElem? (i := 35) (by decide +kernel)) (by decide +kernel), by decide +kernel, by decide +kernel⟩
abbrev mX6_image : MD := (yX6_image, cX6_image, 3, (some .int))
theorem co_X6_image : CO mX6_image 1 := ⟨TB_in (List.mem_of_getElem? (i := 575) (by decide +kernel)) (by decide +kernel), TB_in (List.mem_of_getElem? (i := 35) (by decide +kernel)) (by decide +kernel), by decide +kernel, by decide +kernel⟩
abbrev mX1_become : MD := (yX1_become, cX1_become, 2, none)
theorem co_X1_become : CO mX1_become 1 := ⟨TB_in (List.mem_of_getElem? (i := 579) (by decide +kernel)) (by decide +kernel), TB_in (List.mem_of_getElem? (i := 37) (by decide +kernel)) (by decide +kernel), by decide +kernel, by decide +kernel⟩
abbrev mX0_become : MD := (yX0_become, cX0_become, 2, none)
theorem co_X0_become : CO mX0_become 1 := ⟨TB_in (List.mem_of_getElem? (i := 583) (by decide +kernel)) (by decide +kernel), TB_in (List.mem_of_getElem? (i := 38) (by decide +kernel)) (by decide +kernel), by decide +kernel, by decide +kernel⟩
abbrev mX4_become : MD := (yX4_become, cX4_become, 2, none)
theorem co_X4_become : CO mX4_become 1 := ⟨TB_in (List.mem_of_getElem? (i := 588) (by decide +kernel)) (by decide +kernel), TB_in (List.mem_of_getElem? (i := 39) (by decide +kernel)) (by decide +kernel), by decide +kernel, by decide +kernel⟩
abbrev mX5_become : MD := (yX5_become, cX5_become, 2, none)
theorem co_X5_become : CO mX5_become 1 := ⟨TB_in (List.mem_of_getElem? (i := 593) (by decide +kernel)) (by decide +kernel), TB_in (List.mem_of_getElem? (i := 40) (by decide +kernel)) (by decide +kernel), by decide +kernel, by decide +kernel⟩
abbrev mX6_restore : MD := (yX6_restore, cX6_restore, 3, (some .int))
theorem co_X6_restore : CO mX6_restore 1 := ⟨TB_in (List.mem_of_getElem? (i := 598) (by decide +kernel)) (by decide +kernel), TB_in (List.mem_of_getElem? (i := 35) (by decide +kernel)) (by decide +kernel), by decide +kernel, by decide +kernel⟩
abbrev mX6_told : MD := (yX6_told, cX6_told, 2, (some .int))
theorem co_X6_told : CO mX6_told 1 := ⟨TB_in (List.mem_of_getElem? (i := 602) (by decide +kernel)) (by decide +kernel), TB_in (List.mem_of_getElem? (i := 35) (by decide +kernel)) (by decide +kernel), by decide +kernel, by decide +kernel⟩
abbrev mX6_toldOfPerson : MD := (yX6_toldOfPerson, cX6_toldOfPerson, 5, (some .int))
theorem co_X6_toldOfPerson : CO mX6_toldOfPerson 1 := ⟨TB_in (List.mem_of_getElem? (i := 606) (by decide +kernel)) (by decide +kernel), TB_in (List.mem_of_getElem? (i := 35) (by decide +kernel)) (by decide +kernel), by decide +kernel, by decide +kernel⟩
abbrev mX0_birthOf : MD := (yX0_birthOf, cX0_birthOf, 2, (some .int))
theorem co_X0_birthOf : CO mX0_birthOf 1 := ⟨TB_in (List.mem_of_getElem? (i := 610) (by decide +kernel)) (by decide +kernel), TB_in (List.mem_of_getElem? (i := 38) (by decide +kernel)) (by decide +kernel), by decide +kernel, by decide +kernel⟩
abbrev mX0_sizeOf : MD := (yX0_sizeOf, cX0_sizeOf, 2, (some .int))
theorem co_X0_sizeOf : CO mX0_sizeOf 1 := ⟨TB_in (List.mem_of_getElem? (i := 614) (by decide +kernel)) (by decide +kernel), TB_in (List.mem_of_getElem? (i := 38) (by decide +kernel)) (by decide +kernel), by decide +kernel, by decide +kernel⟩
abbrev mX0_dayAt : MD := (yX0_dayAt, cX0_dayAt, 3, (some .int))
theorem co_X0_dayAt : CO mX0_dayAt 2 := ⟨TB_in (List.mem_of_getElem? (i := 618) (by decide +kernel)) (by decide +kernel), TB_in (List.mem_of_getElem? (i := 38) (by decide +kernel)) (by decide +kernel), by decide +kernel, by decide +kernel⟩
abbrev mX6_toldOfWork : MD := (yX6_toldOfWork, cX6_toldOfWork, 4, (some .int))
theorem co_X6_toldOfWork : CO mX6_toldOfWork 1 := ⟨TB_in (List.mem_of_getElem? (i := 622) (by decide +kernel)) (by decide +kernel), TB_in (List.mem_of_getElem? (i := 35) (by decide +kernel)) (by decide +kernel), by decide +kernel, by decide +kernel⟩
abbrev mX7_init : MD := (yX7_init, cX7_init, 1, none)
theorem co_X7_init : CO mX7_init 0 := ⟨TB_in (List.mem_of_getElem? (i := 627) (by decide +kernel)) (by decide +kernel), TB_in (List.mem_of_getElem? (i := 42) (by decide +kernel)) (by decide +kernel), by decide +kernel, by decide +kernel⟩
abbrev mX7_say : MD := (yX7_say, cX7_say, 2, (some .int))
theorem co_X7_say : CO mX7_say 1 := ⟨TB_in (List.mem_of_getElem? (i := 676) (by decide +kernel)) (by decide +kernel), TB_in (List.mem_of_getElem? (i := 42) (by decide +kernel)) (by decide +kernel), by decide +kernel, by decide +kernel⟩
abbrev mX7_in : MD := (yX7_in, cX7_in, 3, (some .boolean))
theorem co_X7_in : CO mX7_in 3 := ⟨TB_in (List.mem_of_getElem? (i := 679) (by decide +kernel)) (by decide +kernel), TB_in (List.mem_of_getElem? (i := 42) (by decide +kernel)) (by decide +kernel), by decide +kernel, by decide +kernel⟩
abbrev mX7_wipe : MD := (yX7_wipe, cX7_wipe, 2, (some .int))
theorem co_X7_wipe : CO mX7_wipe 0 := ⟨TB_in (List.mem_of_getElem? (i := 683) (by decide +kernel)) (by decide +kernel), TB_in (List.mem_of_getElem? (i := 42) (by decide +kernel)) (by decide +kernel), by decide +kernel, by decide +kernel⟩
abbrev mX7_fault : MD := (yX7_fault, cX7_fault, 2, (some .int))
theorem co_X7_fault : CO mX7_fault 1 := ⟨TB_in (List.mem_of_getElem? (i := 687) (by decide +kernel)) (by decide +kernel), TB_in (List.mem_of_getElem? (i := 42) (by decide +kernel)) (by decide +kernel), by decide +kernel, by decide +kernel⟩
abbrev mX7_orderFault : MD := (yX7_orderFault, cX7_orderFault, 4, (some .int))
theorem co_X7_orderFault : CO mX7_orderFault 0 := ⟨TB_in (List.mem_of_getElem? (i := 691) (by decide +kernel)) (by decide +kernel), TB_in (List.mem_of_getElem? (i := 42) (by decide +kernel)) (by decide +kernel), by decide +kernel, by decide +kernel⟩
abbrev mX7_isDay : MD := (yX7_isDay, cX7_isDay, 1, (some .boolean))
theorem co_X7_isDay : CO mX7_isDay 1 := ⟨TB_in (List.mem_of_getElem? (i := 694) (by decide +kernel)) (by decide +kernel), TB_in (List.mem_of_getElem? (i := 42) (by decide +kernel)) (by decide +kernel), by decide +kernel, by decide +kernel⟩
abbrev mX7_has : MD := (yX7_has, cX7_has, 2, (some .boolean))
theorem co_X7_has : CO mX7_has 2 := ⟨TB_in (List.mem_of_getElem? (i := 697) (by decide +kernel)) (by decide +kernel), TB_in (List.mem_of_getElem? (i := 42) (by decide +kernel)) (by decide +kernel), by decide +kernel, by decide +kernel⟩
abbrev mX7_planFault : MD := (yX7_planFault, cX7_planFault, 6, (some .int))
theorem co_X7_planFault : CO mX7_planFault 0 := ⟨TB_in (List.mem_of_getElem? (i := 701) (by decide +kernel)) (by decide +kernel), TB_in (List.mem_of_getElem? (i := 42) (by decide +kernel)) (by decide +kernel), by decide +kernel, by decide +kernel⟩
abbrev mX7_born : MD := (yX7_born, cX7_born, 4, (some .int))
theorem co_X7_born : CO mX7_born 2 := ⟨TB_in (List.mem_of_getElem? (i := 705) (by decide +kernel)) (by decide +kernel), TB_in (List.mem_of_getElem? (i := 42) (by decide +kernel)) (by decide +kernel), by decide +kernel, by decide +kernel⟩
abbrev mX7_exile : MD := (yX7_exile, cX7_exile, 2, (some .int))
theorem co_X7_exile : CO mX7_exile 1 := ⟨TB_in (List.mem_of_getElem? (i := 709) (by decide +kernel)) (by decide +kernel), TB_in (List.mem_of_getElem? (i := 42) (by decide +kernel)) (by decide +kernel), by decide +kernel, by decide +kernel⟩
abbrev mX7_isThere : MD := (yX7_isThere, cX7_isThere, 2, (some .boolean))
theorem co_X7_isThere : CO mX7_isThere 1 := ⟨TB_in (List.mem_of_getElem? (i := 713) (by decide +kernel)) (by decide +kernel), TB_in (List.mem_of_getElem? (i := 42) (by decide +kernel)) (by decide +kernel), by decide +kernel, by decide +kernel⟩
abbrev mX7_bits : MD := (yX7_bits, cX7_bits, 3, (some .int))
theorem co_X7_bits : CO mX7_bits 1 := ⟨TB_in (List.mem_of_getElem? (i := 716) (by decide +kernel)) (by decide +kernel), TB_in (List.mem_of_getElem? (i := 42) (by decide +kernel)) (by decide +kernel), by decide +kernel, by decide +kernel⟩
abbrev mX7_plan : MD := (yX7_plan, cX7_plan, 3, (some .int))
theorem co_X7_plan : CO mX7_plan 0 := ⟨TB_in (List.mem_of_getElem? (i := 720) (by decide +kernel)) (by decide +kernel), TB_in (List.mem_of_getElem? (i := 42) (by decide +kernel)) (by decide +kernel), by decide +kernel, by decide +kernel⟩
abbrev mX7_today : MD := (yX7_today, cX7_today, 3, (some .int))
theorem co_X7_today : CO mX7_today 2 := ⟨TB_in (List.mem_of_getElem? (i := 724) (by decide +kernel)) (by decide +kernel), TB_in (List.mem_of_getElem? (i := 42) (by decide +kernel)) (by decide +kernel), by decide +kernel, by decide +kernel⟩
abbrev mX7_isDate : MD := (yX7_isDate, cX7_isDate, 1, (some .boolean))
theorem co_X7_isDate : CO mX7_isDate 1 := ⟨TB_in (List.mem_of_getElem? (i := 727) (by decide +kernel)) (by decide +kernel), TB_in (List.mem_of_getElem? (i := 42) (by decide +kernel)) (by decide +kernel), by decide +kernel, by decide +kernel⟩
abbrev mX7_dayOf : MD := (yX7_dayOf, cX7_dayOf, 4, (some .int))
theorem co_X7_dayOf : CO mX7_dayOf 2 := ⟨TB_in (List.mem_of_getElem? (i := 731) (by decide +kernel)) (by decide +kernel), TB_in (List.mem_of_getElem? (i := 42) (by decide +kernel)) (by decide +kernel), by decide +kernel, by decide +kernel⟩
abbrev mX7_same : MD := (yX7_same, cX7_same, 3, (some .int))
theorem co_X7_same : CO mX7_same 2 := ⟨TB_in (List.mem_of_getElem? (i := 735) (by decide +kernel)) (by decide +kernel), TB_in (List.mem_of_getElem? (i := 42) (by decide +kernel)) (by decide +kernel), by decide +kernel, by decide +kernel⟩
abbrev mX7_having : MD := (yX7_having, cX7_having, 6, (some .int))
theorem co_X7_having : CO mX7_having 3 := ⟨TB_in (List.mem_of_getElem? (i := 739) (by decide +kernel)) (by decide +kernel), TB_in (List.mem_of_getElem? (i := 42) (by decide +kernel)) (by decide +kernel), by decide +kernel, by decide +kernel⟩
abbrev mX7_next : MD := (yX7_next, cX7_next, 5, (some .int))
theorem co_X7_next : CO mX7_next 3 := ⟨TB_in (List.mem_of_getElem? (i := 743) (by decide +kernel)) (by decide +kernel), TB_in (List.mem_of_getElem? (i := 42) (by decide +kernel)) (by decide +kernel), by decide +kernel, by decide +kernel⟩
abbrev mX7_meet : MD := (yX7_meet, cX7_meet, 6, (some .int))
theorem co_X7_meet : CO mX7_meet 3 := ⟨TB_in (List.mem_of_getElem? (i := 747) (by decide +kernel)) (by decide +kernel), TB_in (List.mem_of_getElem? (i := 42) (by decide +kernel)) (by decide +kernel), by decide +kernel, by decide +kernel⟩
abbrev mX7_areThere : MD := (yX7_areThere, cX7_areThere, 2, (some .boolean))
theorem co_X7_areThere : CO mX7_areThere 1 := ⟨TB_in (List.mem_of_getElem? (i := 751) (by decide +kernel)) (by decide +kernel), TB_in (List.mem_of_getElem? (i := 42) (by decide +kernel)) (by decide +kernel), by decide +kernel, by decide +kernel⟩
abbrev mX7_oneDay : MD := (yX7_oneDay, cX7_oneDay, 5, (some .int))
theorem co_X7_oneDay : CO mX7_oneDay 2 := ⟨TB_in (List.mem_of_getElem? (i := 755) (by decide +kernel)) (by decide +kernel), TB_in (List.mem_of_getElem? (i := 42) (by decide +kernel)) (by decide +kernel), by decide +kernel, by decide +kernel⟩
abbrev mX7_shared : MD := (yX7_shared, cX7_shared, 3, (some .int))
theorem co_X7_shared : CO mX7_shared 2 := ⟨TB_in (List.mem_of_getElem? (i := 759) (by decide +kernel)) (by decide +kernel), TB_in (List.mem_of_getElem? (i := 42) (by decide +kernel)) (by decide +kernel), by decide +kernel, by decide +kernel⟩
abbrev mX7_sharedBy : MD := (yX7_sharedBy, cX7_sharedBy, 6, (some .int))
theorem co_X7_sharedBy : CO mX7_sharedBy 3 := ⟨TB_in (List.mem_of_getElem? (i := 763) (by decide +kernel)) (by decide +kernel), TB_in (List.mem_of_getElem? (i := 42) (by decide +kernel)) (by decide +kernel), by decide +kernel, by decide +kernel⟩
abbrev mX7_never : MD := (yX7_never, cX7_never, 5, (some .int))
theorem co_X7_never : CO mX7_never 1 := ⟨TB_in (List.mem_of_getElem? (i := 767) (by decide +kernel)) (by decide +kernel), TB_in (List.mem_of_getElem? (i := 42) (by decide +kernel)) (by decide +kernel), by decide +kernel, by decide +kernel⟩
abbrev mX7_market : MD := (yX7_market, cX7_market, 10, (some .int))
theorem co_X7_market : CO mX7_market 3 := ⟨TB_in (List.mem_of_getElem? (i := 771) (by decide +kernel)) (by decide +kernel), TB_in (List.mem_of_getElem? (i := 42) (by decide +kernel)) (by decide +kernel), by decide +kernel, by decide +kernel⟩
abbrev mX7_can : MD := (yX7_can, cX7_can, 3, (some .int))
theorem co_X7_can : CO mX7_can 2 := ⟨TB_in (List.mem_of_getElem? (i := 775) (by decide +kernel)) (by decide +kernel), TB_in (List.mem_of_getElem? (i := 42) (by decide +kernel)) (by decide +kernel), by decide +kernel, by decide +kernel⟩
abbrev mX7_isWork : MD := (yX7_isWork, cX7_isWork, 2, (some .boolean))
theorem co_X7_isWork : CO mX7_isWork 1 := ⟨TB_in (List.mem_of_getElem? (i := 779) (by decide +kernel)) (by decide +kernel), TB_in (List.mem_of_getElem? (i := 42) (by decide +kernel)) (by decide +kernel), by decide +kernel, by decide +kernel⟩
abbrev mX7_canBe : MD := (yX7_canBe, cX7_canBe, 3, (some .boolean))
theorem co_X7_canBe : CO mX7_canBe 2 := ⟨TB_in (List.mem_of_getElem? (i := 783) (by decide +kernel)) (by decide +kernel), TB_in (List.mem_of_getElem? (i := 42) (by decide +kernel)) (by decide +kernel), by decide +kernel, by decide +kernel⟩
abbrev mX7_month : MD := (yX7_month, cX7_month, 4, (some .int))
theorem co_X7_month : CO mX7_month 2 := ⟨TB_in (List.mem_of_getElem? (i := 787) (by decide +kernel)) (by decide +kernel), TB_in (List.mem_of_getElem? (i := 42) (by decide +kernel)) (by decide +kernel), by decide +kernel, by decide +kernel⟩
abbrev mX7_canMonth : MD := (yX7_canMonth, cX7_canMonth, 5, (some .boolean))
theorem co_X7_canMonth : CO mX7_canMonth 2 := ⟨TB_in (List.mem_of_getElem? (i := 791) (by decide +kernel)) (by decide +kernel), TB_in (List.mem_of_getElem? (i := 42) (by decide +kernel)) (by decide +kernel), by decide +kernel, by decide +kernel⟩
abbrev mX7_fitsAhead : MD := (yX7_fitsAhead, cX7_fitsAhead, 5, (some .boolean))
theorem co_X7_fitsAhead : CO mX7_fitsAhead 2 := ⟨TB_in (List.mem_of_getElem? (i := 795) (by decide +kernel)) (by decide +kernel), TB_in (List.mem_of_getElem? (i := 42) (by decide +kernel)) (by decide +kernel), by decide +kernel, by decide +kernel⟩
abbrev mX7_barred : MD := (yX7_barred, cX7_barred, 3, (some .int))
theorem co_X7_barred : CO mX7_barred 0 := ⟨TB_in (List.mem_of_getElem? (i := 799) (by decide +kernel)) (by decide +kernel), TB_in (List.mem_of_getElem? (i := 42) (by decide +kernel)) (by decide +kernel), by decide +kernel, by decide +kernel⟩
abbrev mX7_isBarred : MD := (yX7_isBarred, cX7_isBarred, 4, (some .boolean))
theorem co_X7_isBarred : CO mX7_isBarred 1 := ⟨TB_in (List.mem_of_getElem? (i := 803) (by decide +kernel)) (by decide +kernel), TB_in (List.mem_of_getElem? (i := 42) (by decide +kernel)) (by decide +kernel), by decide +kernel, by decide +kernel⟩
abbrev mX7_why : MD := (yX7_why, cX7_why, 4, (some .int))
theorem co_X7_why : CO mX7_why 1 := ⟨TB_in (List.mem_of_getElem? (i := 807) (by decide +kernel)) (by decide +kernel), TB_in (List.mem_of_getElem? (i := 42) (by decide +kernel)) (by decide +kernel), by decide +kernel, by decide +kernel⟩
abbrev mX7_haveAtOnce : MD := (yX7_haveAtOnce, cX7_haveAtOnce, 5, (some .boolean))
theorem co_X7_haveAtOnce : CO mX7_haveAtOnce 2 := ⟨TB_in (List.mem_of_getElem? (i := 811) (by decide +kernel)) (by decide +kernel), TB_in (List.mem_of_getElem? (i := 42) (by decide +kernel)) (by decide +kernel), by decide +kernel, by decide +kernel⟩
abbrev mX7_common : MD := (yX7_common, cX7_common, 10, (some .int))
theorem co_X7_common : CO mX7_common 3 := ⟨TB_in (List.mem_of_getElem? (i := 815) (by decide +kernel)) (by decide +kernel), TB_in (List.mem_of_getElem? (i := 42) (by decide +kernel)) (by decide +kernel), by decide +kernel, by decide +kernel⟩
abbrev mX7_wedding : MD := (yX7_wedding, cX7_wedding, 10, (some .int))
theorem co_X7_wedding : CO mX7_wedding 3 := ⟨TB_in (List.mem_of_getElem? (i := 820) (by decide +kernel)) (by decide +kernel), TB_in (List.mem_of_getElem? (i := 42) (by decide +kernel)) (by decide +kernel), by decide +kernel, by decide +kernel⟩
abbrev mX7_costOf : MD := (yX7_costOf, cX7_costOf, 3, (some .int))
theorem co_X7_costOf : CO mX7_costOf 2 := ⟨TB_in (List.mem_of_getElem? (i := 824) (by decide +kernel)) (by decide +kernel), TB_in (List.mem_of_getElem? (i := 42) (by decide +kernel)) (by decide +kernel), by decide +kernel, by decide +kernel⟩
abbrev mX7_best : MD := (yX7_best, cX7_best, 10, (some .int))
theorem co_X7_best : CO mX7_best 2 := ⟨TB_in (List.mem_of_getElem? (i := 828) (by decide +kernel)) (by decide +kernel), TB_in (List.mem_of_getElem? (i := 42) (by decide +kernel)) (by decide +kernel), by decide +kernel, by decide +kernel⟩
abbrev mX7_turned : MD := (yX7_turned, cX7_turned, 4, (some .int))
theorem co_X7_turned : CO mX7_turned 2 := ⟨TB_in (List.mem_of_getElem? (i := 831) (by decide +kernel)) (by decide +kernel), TB_in (List.mem_of_getElem? (i := 42) (by decide +kernel)) (by decide +kernel), by decide +kernel, by decide +kernel⟩
abbrev mX7_feast : MD := (yX7_feast, cX7_feast, 2, (some .int))
theorem co_X7_feast : CO mX7_feast 1 := ⟨TB_in (List.mem_of_getElem? (i := 835) (by decide +kernel)) (by decide +kernel), TB_in (List.mem_of_getElem? (i := 42) (by decide +kernel)) (by decide +kernel), by decide +kernel, by decide +kernel⟩
abbrev mX7_feastOn : MD := (yX7_feastOn, cX7_feastOn, 6, (some .int))
theorem co_X7_feastOn : CO mX7_feastOn 1 := ⟨TB_in (List.mem_of_getElem? (i := 839) (by decide +kernel)) (by decide +kernel), TB_in (List.mem_of_getElem? (i := 42) (by decide +kernel)) (by decide +kernel), by decide +kernel, by decide +kernel⟩
abbrev mX7_feasts : MD := (yX7_feasts, cX7_feasts, 4, (some .int))
theorem co_X7_feasts : CO mX7_feasts 1 := ⟨TB_in (List.mem_of_getElem? (i := 843) (by decide +kernel)) (by decide +kernel), TB_in (List.mem_of_getElem? (i := 42) (by decide +kernel)) (by decide +kernel), by decide +kernel, by decide +kernel⟩
abbrev mX7_poor : MD := (yX7_poor, cX7_poor, 4, (some .int))
theorem co_X7_poor : CO mX7_poor 0 := ⟨TB_in (List.mem_of_getElem? (i := 847) (by decide +kernel)) (by decide +kernel), TB_in (List.mem_of_getElem? (i := 42) (by decide +kernel)) (by decide +kernel), by decide +kernel, by decide +kernel⟩
abbrev mX7_twins : MD := (yX7_twins, cX7_twins, 5, (some .int))
theorem co_X7_twins : CO mX7_twins 1 := ⟨TB_in (List.mem_of_getElem? (i := 851) (by decide +kernel)) (by decide +kernel), TB_in (List.mem_of_getElem? (i := 42) (by decide +kernel)) (by decide +kernel), by decide +kernel, by decide +kernel⟩
abbrev mX7_goesWith : MD := (yX7_goesWith, cX7_goesWith, 6, (some .boolean))
theorem co_X7_goesWith : CO mX7_goesWith 3 := ⟨TB_in (List.mem_of_getElem? (i := 855) (by decide +kernel)) (by decide +kernel), TB_in (List.mem_of_getElem? (i := 42) (by decide +kernel)) (by decide +kernel), by decide +kernel, by decide +kernel⟩
abbrev mX7_oneOrder : MD := (yX7_oneOrder, cX7_oneOrder, 6, (some .int))
theorem co_X7_oneOrder : CO mX7_oneOrder 2 := ⟨TB_in (List.mem_of_getElem? (i := 859) (by decide +kernel)) (by decide +kernel), TB_in (List.mem_of_getElem? (i := 42) (by decide +kernel)) (by decide +kernel), by decide +kernel, by decide +kernel⟩
abbrev mX7_seen : MD := (yX7_seen, cX7_seen, 3, (some .int))
theorem co_X7_seen : CO mX7_seen 2 := ⟨TB_in (List.mem_of_getElem? (i := 863) (by decide +kernel)) (by decide +kernel), TB_in (List.mem_of_getElem? (i := 42) (by decide +kernel)) (by decide +kernel), by decide +kernel, by decide +kernel⟩
abbrev mX7_forget : MD := (yX7_forget, cX7_forget, 2, (some .int))
theorem co_X7_forget : CO mX7_forget 0 := ⟨TB_in (List.mem_of_getElem? (i := 867) (by decide +kernel)) (by decide +kernel), TB_in (List.mem_of_getElem? (i := 42) (by decide +kernel)) (by decide +kernel), by decide +kernel, by decide +kernel⟩
abbrev mX7_whose : MD := (yX7_whose, cX7_whose, 5, (some .int))
theorem co_X7_whose : CO mX7_whose 1 := ⟨TB_in (List.mem_of_getElem? (i := 871) (by decide +kernel)) (by decide +kernel), TB_in (List.mem_of_getElem? (i := 42) (by decide +kernel)) (by decide +kernel), by decide +kernel, by decide +kernel⟩
abbrev mX7_isWell : MD := (yX7_isWell, cX7_isWell, 5, (some .boolean))
theorem co_X7_isWell : CO mX7_isWell 2 := ⟨TB_in (List.mem_of_getElem? (i := 875) (by decide +kernel)) (by decide +kernel), TB_in (List.mem_of_getElem? (i := 42) (by decide +kernel)) (by decide +kernel), by decide +kernel, by decide +kernel⟩
abbrev mX7_sure : MD := (yX7_sure, cX7_sure, 6, (some .int))
theorem co_X7_sure : CO mX7_sure 1 := ⟨TB_in (List.mem_of_getElem? (i := 879) (by decide +kernel)) (by decide +kernel), TB_in (List.mem_of_getElem? (i := 42) (by decide +kernel)) (by decide +kernel), by decide +kernel, by decide +kernel⟩
abbrev mX7_chance : MD := (yX7_chance, cX7_chance, 4, (some .long))
theorem co_X7_chance : CO mX7_chance 3 := ⟨TB_in (List.mem_of_getElem? (i := 883) (by decide +kernel)) (by decide +kernel), TB_in (List.mem_of_getElem? (i := 42) (by decide +kernel)) (by decide +kernel), by decide +kernel, by decide +kernel⟩
abbrev mX7_newly : MD := (yX7_newly, cX7_newly, 7, (some .long))
theorem co_X7_newly : CO mX7_newly 3 := ⟨TB_in (List.mem_of_getElem? (i := 887) (by decide +kernel)) (by decide +kernel), TB_in (List.mem_of_getElem? (i := 42) (by decide +kernel)) (by decide +kernel), by decide +kernel, by decide +kernel⟩
abbrev mX7_shares : MD := (yX7_shares, cX7_shares, 4, (some .long))
theorem co_X7_shares : CO mX7_shares 3 := ⟨TB_in (List.mem_of_getElem? (i := 892) (by decide +kernel)) (by decide +kernel), TB_in (List.mem_of_getElem? (i := 42) (by decide +kernel)) (by decide +kernel), by decide +kernel, by decide +kernel⟩
abbrev mX7_year : MD := (yX7_year, cX7_year, 12, (some .int))
theorem co_X7_year : CO mX7_year 3 := ⟨TB_in (List.mem_of_getElem? (i := 896) (by decide +kernel)) (by decide +kernel), TB_in (List.mem_of_getElem? (i := 42) (by decide +kernel)) (by decide +kernel), by decide +kernel, by decide +kernel⟩
abbrev mX7_image : MD := (yX7_image, cX7_image, 4, (some .int))
theorem co_X7_image : CO mX7_image 1 := ⟨TB_in (List.mem_of_getElem? (i := 901) (by decide +kernel)) (by decide +kernel), TB_in (List.mem_of_getElem? (i := 42) (by decide +kernel)) (by decide +kernel), by decide +kernel, by decide +kernel⟩
abbrev mX7_restore : MD := (yX7_restore, cX7_restore, 4, (some .int))
theorem co_X7_restore : CO mX7_restore 1 := ⟨TB_in (List.mem_of_getElem? (i := 905) (by decide +kernel)) (by decide +kernel), TB_in (List.mem_of_getElem? (i := 42) (by decide +kernel)) (by decide +kernel), by decide +kernel, by decide +kernel⟩
abbrev mX7_told : MD := (yX7_told, cX7_told, 4, (some .int))
theorem co_X7_told : CO mX7_told 1 := ⟨TB_in (List.mem_of_getElem? (i := 909) (by decide +kernel)) (by decide +kernel), TB_in (List.mem_of_getElem? (i := 42) (by decide +kernel)) (by decide +kernel), by decide +kernel, by decide +kernel⟩
theorem se_X6_isThere : Cond.selects RX6 yX6_isThere yX6_isThere ∈ TB := TB_in (List.mem_of_getElem? (i := 0) (by decide +kernel)) (by decide +kernel)
theorem se_X6_isSetOfThere : Cond.selects RX6 yX6_isSetOfThere yX6_isSetOfThere ∈ TB := TB_in (List.mem_of_getElem? (i := 1) (by decide +kernel)) (by decide +kernel)
theorem se_X6_areTwoThere : Cond.selects RX6 yX6_areTwoThere yX6_areTwoThere ∈ TB := TB_in (List.mem_of_getElem? (i := 2) (by decide +kernel)) (by decide +kernel)
theorem se_X6_pairs : Cond.selects RX6 yX6_pairs yX6_pairs ∈ TB := TB_in (List.mem_of_getElem? (i := 3) (by decide +kernel)) (by decide +kernel)
theorem se_X6_isPair : Cond.selects RX6 yX6_isPair yX6_isPair ∈ TB := TB_in (List.mem_of_getElem? (i := 4) (by decide +kernel)) (by decide +kernel)
theorem se_X0_isDelayed : Cond.selects RX0 yX0_isDelayed yX0_isDelayed ∈ TB := TB_in (List.mem_of_getElem? (i := 5) (by decide +kernel)) (by decide +kernel)
theorem se_X6_countMarkets : Cond.selects RX6 yX6_countMarkets yX6_countMarkets ∈ TB := TB_in (List.mem_of_getElem? (i := 6) (by decide +kernel)) (by decide +kernel)
theorem se_X6_isMarket : Cond.selects RX6 yX6_isMarket yX6_isMarket ∈ TB := TB_in (List.mem_of_getElem? (i := 7) (by decide +kernel)) (by decide +kernel)
theorem se_X6_firstMarket : Cond.selects RX6 yX6_firstMarket yX6_firstMarket ∈ TB := TB_in (List.mem_of_getElem? (i := 8) (by decide +kernel)) (by decide +kernel)
theorem se_X6_longestWithoutMarket : Cond.selects RX6 yX6_longestWithoutMarket yX6_longestWithoutMarket ∈ TB := TB_in (List.mem_of_getElem? (i := 9) (by decide +kernel)) (by decide +kernel)
theorem se_X2_collect : Cond.selects RX2 yX2_collect yX2_collect ∈ TB := TB_in (List.mem_of_getElem? (i := 10) (by decide +kernel)) (by decide +kernel)
theorem se_X2_keep : Cond.selects RX2 yX2_keep yX2_keep ∈ TB := TB_in (List.mem_of_getElem? (i := 11) (by decide +kernel)) (by decide +kernel)
theorem se_X2_isFree : Cond.selects RX2 yX2_isFree yX2_isFree ∈ TB := TB_in (List.mem_of_getElem? (i := 12) (by decide +kernel)) (by decide +kernel)
theorem se_X6_weddingCost : Cond.selects RX6 yX6_weddingCost yX6_weddingCost ∈ TB := TB_in (List.mem_of_getElem? (i := 13) (by decide +kernel)) (by decide +kernel)
theorem se_X6_toldOfPerson : Cond.selects RX6 yX6_toldOfPerson yX6_toldOfPerson ∈ TB := TB_in (List.mem_of_getElem? (i := 14) (by decide +kernel)) (by decide +kernel)
theorem se_X6_toldOfWork : Cond.selects RX6 yX6_toldOfWork yX6_toldOfWork ∈ TB := TB_in (List.mem_of_getElem? (i := 15) (by decide +kernel)) (by decide +kernel)
theorem se_X7_orderFault : Cond.selects RX7 yX7_orderFault yX7_orderFault ∈ TB := TB_in (List.mem_of_getElem? (i := 16) (by decide +kernel)) (by decide +kernel)
theorem se_X7_planFault : Cond.selects RX7 yX7_planFault yX7_planFault ∈ TB := TB_in (List.mem_of_getElem? (i := 17) (by decide +kernel)) (by decide +kernel)
theorem se_X7_isThere : Cond.selects RX7 yX7_isThere yX7_isThere ∈ TB := TB_in (List.mem_of_getElem? (i := 18) (by decide +kernel)) (by decide +kernel)
theorem se_X7_dayOf : Cond.selects RX7 yX7_dayOf yX7_dayOf ∈ TB := TB_in (List.mem_of_getElem? (i := 19) (by decide +kernel)) (by decide +kernel)
theorem se_X7_having : Cond.selects RX7 yX7_having yX7_having ∈ TB := TB_in (List.mem_of_getElem? (i := 20) (by decide +kernel)) (by decide +kernel)
theorem se_X7_areThere : Cond.selects RX7 yX7_areThere yX7_areThere ∈ TB := TB_in (List.mem_of_getElem? (i := 21) (by decide +kernel)) (by decide +kernel)
theorem se_X7_oneDay : Cond.selects RX7 yX7_oneDay yX7_oneDay ∈ TB := TB_in (List.mem_of_getElem? (i := 22) (by decide +kernel)) (by decide +kernel)
theorem se_X7_sharedBy : Cond.selects RX7 yX7_sharedBy yX7_sharedBy ∈ TB := TB_in (List.mem_of_getElem? (i := 23) (by decide +kernel)) (by decide +kernel)
theorem se_X7_isWork : Cond.selects RX7 yX7_isWork yX7_isWork ∈ TB := TB_in (List.mem_of_getElem? (i := 24) (by decide +kernel)) (by decide +kernel)
theorem se_X7_canBe : Cond.selects RX7 yX7_canBe yX7_canBe ∈ TB := TB_in (List.mem_of_getElem? (i := 25) (by decide +kernel)) (by decide +kernel)
theorem se_X7_canMonth : Cond.selects RX7 yX7_canMonth yX7_canMonth ∈ TB := TB_in (List.mem_of_getElem? (i := 26) (by decide +kernel)) (by decide +kernel)
theorem se_X7_fitsAhead : Cond.selects RX7 yX7_fitsAhead yX7_fitsAhead ∈ TB := TB_in (List.mem_of_getElem? (i := 27) (by decide +kernel)) (by decide +kernel)
theorem se_X7_isBarred : Cond.selects RX7 yX7_isBarred yX7_isBarred ∈ TB := TB_in (List.mem_of_getElem? (i := 28) (by decide +kernel)) (by decide +kernel)
theorem se_X7_haveAtOnce : Cond.selects RX7 yX7_haveAtOnce yX7_haveAtOnce ∈ TB := TB_in (List.mem_of_getElem? (i := 29) (by decide +kernel)) (by decide +kernel)
theorem se_X7_costOf : Cond.selects RX7 yX7_costOf yX7_costOf ∈ TB := TB_in (List.mem_of_getElem? (i := 30) (by decide +kernel)) (by decide +kernel)
theorem se_X7_feastOn : Cond.selects RX7 yX7_feastOn yX7_feastOn ∈ TB := TB_in (List.mem_of_getElem? (i := 31) (by decide +kernel)) (by decide +kernel)
theorem se_X7_goesWith : Cond.selects RX7 yX7_goesWith yX7_goesWith ∈ TB := TB_in (List.mem_of_getElem? (i := 32) (by decide +kernel)) (by decide +kernel)
theorem se_X7_isWell : Cond.selects RX7 yX7_isWell yX7_isWell ∈ TB := TB_in (List.mem_of_getElem? (i := 33) (by decide +kernel)) (by decide +kernel)
theorem in_SYS : Cond.initialized "java/lang/System" ∈ TB := TB_in (List.mem_of_getElem? (i := 45) (by decide +kernel)) (by decide +kernel)
theorem cl_L_7 : Cond.classLink RL 7 RX6 ∈ TB := TB_in (List.mem_of_getElem? (i := 46) (by decide +kernel)) (by decide +kernel)
theorem fn_L_7 : FN RL 7 6 4 tyX6 := ⟨RX6, TX6, rfl, in_X6, tyX6_ok, TB_in (List.mem_of_getElem? (i := 46) (by decide +kernel)) (by decide +kernel), TB_in (List.mem_of_getElem? (i := 47) (by decide +kernel)) (by decide +kernel), TB_in (List.mem_of_getElem? (i := 35) (by decide +kernel)) (by decide +kernel)⟩
theorem ml_L_9 : Cond.methodLink RL 9 yX6_init ∈ TB := TB_in (List.mem_of_getElem? (i := 48) (by decide +kernel)) (by decide +kernel)
theorem im_X6_init : Cond.instanceMethod yX6_init ∈ TB := TB_in (List.mem_of_getElem? (i := 49) (by decide +kernel)) (by decide +kernel)
theorem ml_X6_1 : Cond.methodLink RX6 1 objectInit ∈ TB := TB_in (List.mem_of_getElem? (i := 51) (by decide +kernel)) (by decide +kernel)
theorem im_OBJ : Cond.instanceMethod objectInit ∈ TB := TB_in (List.mem_of_getElem? (i := 52) (by decide +kernel)) (by decide +kernel)
theorem cd_OBJ : Cond.code objectInit ⟨#[0xb1]⟩ 1 none ∈ TB := TB_in (List.mem_of_getElem? (i := 53) (by decide +kernel)) (by decide +kernel)
theorem cl_X6_7 : Cond.classLink RX6 7 RX3 ∈ TB := TB_in (List.mem_of_getElem? (i := 54) (by decide +kernel)) (by decide +kernel)
theorem fn_X6_7 : FN RX6 7 3 2 tyX3 := ⟨RX3, TX3, rfl, in_X3, tyX3_ok, TB_in (List.mem_of_getElem? (i := 54) (by decide +kernel)) (by decide +kernel), TB_in (List.mem_of_getElem? (i := 55) (by decide +kernel)) (by decide +kernel), TB_in (List.mem_of_getElem? (i := 36) (by decide +kernel)) (by decide +kernel)⟩
theorem im_X3_init : Cond.instanceMethod yX3_init ∈ TB := TB_in (List.mem_of_getElem? (i := 57) (by decide +kernel)) (by decide +kernel)
theorem ml_X3_3 : Cond.methodLink RX3 3 objectInit ∈ TB := TB_in (List.mem_of_getElem? (i := 59) (by decide +kernel)) (by decide +kernel)
theorem fl_X3_9 : FL RX3 9 3 0 := ⟨RX3, TX3, 2, rfl, by decide, in_X3, TB_in (List.mem_of_getElem? (i := 60) (by decide +kernel)) (by decide +kernel)⟩
theorem fq_X3_9 : FPF RX3 9 3 0 (.array .int) := ⟨RX3, TX3, 2, tyX3, rfl, by decide, in_X3, TB_in (List.mem_of_getElem? (i := 60) (by decide +kernel)) (by decide +kernel), tyX3_ok, nmX3, rfl, rfl, by decide +kernel⟩
theorem fl_X3_15 : FL RX3 15 3 1 := ⟨RX3, TX3, 2, rfl, by decide, in_X3, TB_in (List.mem_of_getElem? (i := 61) (by decide +kernel)) (by decide +kernel)⟩
theorem fp_X3_15 : FP RX3 15 3 1 .int := ⟨RX3, TX3, 2, tyX3, rfl, by decide, in_X3, TB_in (List.mem_of_getElem? (i := 61) (by decide +kernel)) (by decide +kernel), tyX3_ok, nmX3, rfl, by decide +kernel⟩
theorem fl_X6_38 : FL RX6 38 3 1 := ⟨RX3, TX3, 2, rfl, by decide, in_X3, TB_in (List.mem_of_getElem? (i := 62) (by decide +kernel)) (by decide +kernel)⟩
theorem fp_X6_38 : FP RX6 38 3 1 .int := ⟨RX3, TX3, 2, tyX3, rfl, by decide, in_X3, TB_in (List.mem_of_getElem? (i := 62) (by decide +kernel)) (by decide +kernel), tyX3_ok, nmX3, rfl, by decide +kernel⟩
theorem fl_X0_38 : FL RX0 38 3 1 := ⟨RX3, TX3, 2, rfl, by decide, in_X3, TB_in (List.mem_of_getElem? (i := 63) (by decide +kernel)) (by decide +kernel)⟩
theorem fp_X0_38 : FP RX0 38 3 1 .int := ⟨RX3, TX3, 2, tyX3, rfl, by decide, in_X3, TB_in (List.mem_of_getElem? (i := 63) (by decide +kernel)) (by decide +kernel), tyX3_ok, nmX3, rfl, by decide +kernel⟩
theorem fl_X4_28 : FL RX4 28 3 1 := ⟨RX3, TX3, 2, rfl, by decide, in_X3, TB_in (List.mem_of_getElem? (i := 64) (by decide +kernel)) (by decide +kernel)⟩
theorem fp_X4_28 : FP RX4 28 3 1 .int := ⟨RX3, TX3, 2, tyX3, rfl, by decide, in_X3, TB_in (List.mem_of_getElem? (i := 64) (by decide +kernel)) (by decide +kernel), tyX3_ok, nmX3, rfl, by decide +kernel⟩
theorem ac_int : Cond.arrayClass .int ∈ TB := TB_in (List.mem_of_getElem? (i := 70) (by decide +kernel)) (by decide +kernel)
theorem cl_X6_16 : Cond.classLink RX6 16 RX1 ∈ TB := TB_in (List.mem_of_getElem? (i := 71) (by decide +kernel)) (by decide +kernel)
theorem fn_X6_16 : FN RX6 16 1 3 tyX1 := ⟨RX1, TX1, rfl, in_X1, tyX1_ok, TB_in (List.mem_of_getElem? (i := 71) (by decide +kernel)) (by decide +kernel), TB_in (List.mem_of_getElem? (i := 72) (by decide +kernel)) (by decide +kernel), TB_in (List.mem_of_getElem? (i := 37) (by decide +kernel)) (by decide +kernel)⟩
theorem im_X1_init : Cond.instanceMethod yX1_init ∈ TB := TB_in (List.mem_of_getElem? (i := 74) (by decide +kernel)) (by decide +kernel)
theorem ml_X1_1 : Cond.methodLink RX1 1 objectInit ∈ TB := TB_in (List.mem_of_getElem? (i := 76) (by decide +kernel)) (by decide +kernel)
theorem cl_X1_7 : Cond.classLink RX1 7 RX0 ∈ TB := TB_in (List.mem_of_getElem? (i := 77) (by decide +kernel)) (by decide +kernel)
theorem fn_X1_7 : FN RX1 7 0 5 tyX0 := ⟨RX0, TX0, rfl, in_X0, tyX0_ok, TB_in (List.mem_of_getElem? (i := 77) (by decide +kernel)) (by decide +kernel), TB_in (List.mem_of_getElem? (i := 78) (by decide +kernel)) (by decide +kernel), TB_in (List.mem_of_getElem? (i := 38) (by decide +kernel)) (by decide +kernel)⟩
theorem im_X0_init : Cond.instanceMethod yX0_init ∈ TB := TB_in (List.mem_of_getElem? (i := 80) (by decide +kernel)) (by decide +kernel)
theorem ml_X0_3 : Cond.methodLink RX0 3 objectInit ∈ TB := TB_in (List.mem_of_getElem? (i := 82) (by decide +kernel)) (by decide +kernel)
theorem fl_X0_24 : FL RX0 24 0 0 := ⟨RX0, TX0, 5, rfl, by decide, in_X0, TB_in (List.mem_of_getElem? (i := 83) (by decide +kernel)) (by decide +kernel)⟩
theorem fp_X0_24 : FP RX0 24 0 0 .int := ⟨RX0, TX0, 5, tyX0, rfl, by decide, in_X0, TB_in (List.mem_of_getElem? (i := 83) (by decide +kernel)) (by decide +kernel), tyX0_ok, nmX0, rfl, by decide +kernel⟩
theorem fl_X6_72 : FL RX6 72 0 0 := ⟨RX0, TX0, 5, rfl, by decide, in_X0, TB_in (List.mem_of_getElem? (i := 84) (by decide +kernel)) (by decide +kernel)⟩
theorem fp_X6_72 : FP RX6 72 0 0 .int := ⟨RX0, TX0, 5, tyX0, rfl, by decide, in_X0, TB_in (List.mem_of_getElem? (i := 84) (by decide +kernel)) (by decide +kernel), tyX0_ok, nmX0, rfl, by decide +kernel⟩
theorem fl_X0_9 : FL RX0 9 0 1 := ⟨RX0, TX0, 5, rfl, by decide, in_X0, TB_in (List.mem_of_getElem? (i := 85) (by decide +kernel)) (by decide +kernel)⟩
theorem fq_X0_9 : FPF RX0 9 0 1 (.array .int) := ⟨RX0, TX0, 5, tyX0, rfl, by decide, in_X0, TB_in (List.mem_of_getElem? (i := 85) (by decide +kernel)) (by decide +kernel), tyX0_ok, nmX0, rfl, rfl, by decide +kernel⟩
theorem fl_X0_15 : FL RX0 15 0 2 := ⟨RX0, TX0, 5, rfl, by decide, in_X0, TB_in (List.mem_of_getElem? (i := 86) (by decide +kernel)) (by decide +kernel)⟩
theorem fq_X0_15 : FPF RX0 15 0 2 (.array .int) := ⟨RX0, TX0, 5, tyX0, rfl, by decide, in_X0, TB_in (List.mem_of_getElem? (i := 86) (by decide +kernel)) (by decide +kernel), tyX0_ok, nmX0, rfl, rfl, by decide +kernel⟩
theorem fl_X0_18 : FL RX0 18 0 3 := ⟨RX0, TX0, 5, rfl, by decide, in_X0, TB_in (List.mem_of_getElem? (i := 87) (by decide +kernel)) (by decide +kernel)⟩
theorem fq_X0_18 : FPF RX0 18 0 3 (.array .int) := ⟨RX0, TX0, 5, tyX0, rfl, by decide, in_X0, TB_in (List.mem_of_getElem? (i := 87) (by decide +kernel)) (by decide +kernel), tyX0_ok, nmX0, rfl, rfl, by decide +kernel⟩
theorem fl_X0_21 : FL RX0 21 0 4 := ⟨RX0, TX0, 5, rfl, by decide, in_X0, TB_in (List.mem_of_getElem? (i := 88) (by decide +kernel)) (by decide +kernel)⟩
theorem fq_X0_21 : FPF RX0 21 0 4 (.array .int) := ⟨RX0, TX0, 5, tyX0, rfl, by decide, in_X0, TB_in (List.mem_of_getElem? (i := 88) (by decide +kernel)) (by decide +kernel), tyX0_ok, nmX0, rfl, rfl, by decide +kernel⟩
theorem cl_X1_16 : Cond.classLink RX1 16 RX4 ∈ TB := TB_in (List.mem_of_getElem? (i := 100) (by decide +kernel)) (by decide +kernel)
theorem fn_X1_16 : FN RX1 16 4 3 tyX4 := ⟨RX4, TX4, rfl, in_X4, tyX4_ok, TB_in (List.mem_of_getElem? (i := 100) (by decide +kernel)) (by decide +kernel), TB_in (List.mem_of_getElem? (i := 101) (by decide +kernel)) (by decide +kernel), TB_in (List.mem_of_getElem? (i := 39) (by decide +kernel)) (by decide +kernel)⟩
theorem im_X4_init : Cond.instanceMethod yX4_init ∈ TB := TB_in (List.mem_of_getElem? (i := 103) (by decide +kernel)) (by decide +kernel)
theorem ml_X4_3 : Cond.methodLink RX4 3 objectInit ∈ TB := TB_in (List.mem_of_getElem? (i := 105) (by decide +kernel)) (by decide +kernel)
theorem fl_X4_18 : FL RX4 18 4 0 := ⟨RX4, TX4, 3, rfl, by decide, in_X4, TB_in (List.mem_of_getElem? (i := 106) (by decide +kernel)) (by decide +kernel)⟩
theorem fp_X4_18 : FP RX4 18 4 0 .int := ⟨RX4, TX4, 3, tyX4, rfl, by decide, in_X4, TB_in (List.mem_of_getElem? (i := 106) (by decide +kernel)) (by decide +kernel), tyX4_ok, nmX4, rfl, by decide +kernel⟩
theorem fl_X2_33 : FL RX2 33 4 0 := ⟨RX4, TX4, 3, rfl, by decide, in_X4, TB_in (List.mem_of_getElem? (i := 107) (by decide +kernel)) (by decide +kernel)⟩
theorem fp_X2_33 : FP RX2 33 4 0 .int := ⟨RX4, TX4, 3, tyX4, rfl, by decide, in_X4, TB_in (List.mem_of_getElem? (i := 107) (by decide +kernel)) (by decide +kernel), tyX4_ok, nmX4, rfl, by decide +kernel⟩
theorem fl_X6_91 : FL RX6 91 4 0 := ⟨RX4, TX4, 3, rfl, by decide, in_X4, TB_in (List.mem_of_getElem? (i := 108) (by decide +kernel)) (by decide +kernel)⟩
theorem fp_X6_91 : FP RX6 91 4 0 .int := ⟨RX4, TX4, 3, tyX4, rfl, by decide, in_X4, TB_in (List.mem_of_getElem? (i := 108) (by decide +kernel)) (by decide +kernel), tyX4_ok, nmX4, rfl, by decide +kernel⟩
theorem fl_X4_9 : FL RX4 9 4 1 := ⟨RX4, TX4, 3, rfl, by decide, in_X4, TB_in (List.mem_of_getElem? (i := 109) (by decide +kernel)) (by decide +kernel)⟩
theorem fq_X4_9 : FPF RX4 9 4 1 (.array .int) := ⟨RX4, TX4, 3, tyX4, rfl, by decide, in_X4, TB_in (List.mem_of_getElem? (i := 109) (by decide +kernel)) (by decide +kernel), tyX4_ok, nmX4, rfl, rfl, by decide +kernel⟩
theorem fl_X4_15 : FL RX4 15 4 2 := ⟨RX4, TX4, 3, rfl, by decide, in_X4, TB_in (List.mem_of_getElem? (i := 110) (by decide +kernel)) (by decide +kernel)⟩
theorem fq_X4_15 : FPF RX4 15 4 2 (.array .int) := ⟨RX4, TX4, 3, tyX4, rfl, by decide, in_X4, TB_in (List.mem_of_getElem? (i := 110) (by decide +kernel)) (by decide +kernel), tyX4_ok, nmX4, rfl, rfl, by decide +kernel⟩
theorem cl_X1_23 : Cond.classLink RX1 23 RX5 ∈ TB := TB_in (List.mem_of_getElem? (i := 118) (by decide +kernel)) (by decide +kernel)
theorem fn_X1_23 : FN RX1 23 5 3 tyX5 := ⟨RX5, TX5, rfl, in_X5, tyX5_ok, TB_in (List.mem_of_getElem? (i := 118) (by decide +kernel)) (by decide +kernel), TB_in (List.mem_of_getElem? (i := 119) (by decide +kernel)) (by decide +kernel), TB_in (List.mem_of_getElem? (i := 40) (by decide +kernel)) (by decide +kernel)⟩
theorem im_X5_init : Cond.instanceMethod yX5_init ∈ TB := TB_in (List.mem_of_getElem? (i := 121) (by decide +kernel)) (by decide +kernel)
theorem ml_X5_3 : Cond.methodLink RX5 3 objectInit ∈ TB := TB_in (List.mem_of_getElem? (i := 123) (by decide +kernel)) (by decide +kernel)
theorem fl_X5_18 : FL RX5 18 5 0 := ⟨RX5, TX5, 3, rfl, by decide, in_X5, TB_in (List.mem_of_getElem? (i := 124) (by decide +kernel)) (by decide +kernel)⟩
theorem fp_X5_18 : FP RX5 18 5 0 .int := ⟨RX5, TX5, 3, tyX5, rfl, by decide, in_X5, TB_in (List.mem_of_getElem? (i := 124) (by decide +kernel)) (by decide +kernel), tyX5_ok, nmX5, rfl, by decide +kernel⟩
theorem fl_X1_59 : FL RX1 59 5 0 := ⟨RX5, TX5, 3, rfl, by decide, in_X5, TB_in (List.mem_of_getElem? (i := 125) (by decide +kernel)) (by decide +kernel)⟩
theorem fp_X1_59 : FP RX1 59 5 0 .int := ⟨RX5, TX5, 3, tyX5, rfl, by decide, in_X5, TB_in (List.mem_of_getElem? (i := 125) (by decide +kernel)) (by decide +kernel), tyX5_ok, nmX5, rfl, by decide +kernel⟩
theorem fl_X6_187 : FL RX6 187 5 0 := ⟨RX5, TX5, 3, rfl, by decide, in_X5, TB_in (List.mem_of_getElem? (i := 126) (by decide +kernel)) (by decide +kernel)⟩
theorem fp_X6_187 : FP RX6 187 5 0 .int := ⟨RX5, TX5, 3, tyX5, rfl, by decide, in_X5, TB_in (List.mem_of_getElem? (i := 126) (by decide +kernel)) (by decide +kernel), tyX5_ok, nmX5, rfl, by decide +kernel⟩
theorem fl_X5_9 : FL RX5 9 5 1 := ⟨RX5, TX5, 3, rfl, by decide, in_X5, TB_in (List.mem_of_getElem? (i := 127) (by decide +kernel)) (by decide +kernel)⟩
theorem fq_X5_9 : FPF RX5 9 5 1 (.array .int) := ⟨RX5, TX5, 3, tyX5, rfl, by decide, in_X5, TB_in (List.mem_of_getElem? (i := 127) (by decide +kernel)) (by decide +kernel), tyX5_ok, nmX5, rfl, rfl, by decide +kernel⟩
theorem fl_X5_15 : FL RX5 15 5 2 := ⟨RX5, TX5, 3, rfl, by decide, in_X5, TB_in (List.mem_of_getElem? (i := 128) (by decide +kernel)) (by decide +kernel)⟩
theorem fq_X5_15 : FPF RX5 15 5 2 (.array .int) := ⟨RX5, TX5, 3, tyX5, rfl, by decide, in_X5, TB_in (List.mem_of_getElem? (i := 128) (by decide +kernel)) (by decide +kernel), tyX5_ok, nmX5, rfl, rfl, by decide +kernel⟩
theorem fl_X1_10 : FL RX1 10 1 0 := ⟨RX1, TX1, 3, rfl, by decide, in_X1, TB_in (List.mem_of_getElem? (i := 136) (by decide +kernel)) (by decide +kernel)⟩
theorem fq_X1_10 : FPF RX1 10 1 0 (.object "WeekOrders$Folk") := ⟨RX1, TX1, 3, tyX1, rfl, by decide, in_X1, TB_in (List.mem_of_getElem? (i := 136) (by decide +kernel)) (by decide +kernel), tyX1_ok, nmX1, rfl, rfl, by decide +kernel⟩
theorem fl_X6_56 : FL RX6 56 1 0 := ⟨RX1, TX1, 3, rfl, by decide, in_X1, TB_in (List.mem_of_getElem? (i := 137) (by decide +kernel)) (by decide +kernel)⟩
theorem fl_X1_19 : FL RX1 19 1 1 := ⟨RX1, TX1, 3, rfl, by decide, in_X1, TB_in (List.mem_of_getElem? (i := 138) (by decide +kernel)) (by decide +kernel)⟩
theorem fq_X1_19 : FPF RX1 19 1 1 (.object "WeekOrders$Plan") := ⟨RX1, TX1, 3, tyX1, rfl, by decide, in_X1, TB_in (List.mem_of_getElem? (i := 138) (by decide +kernel)) (by decide +kernel), tyX1_ok, nmX1, rfl, rfl, by decide +kernel⟩
theorem fl_X2_27 : FL RX2 27 1 1 := ⟨RX1, TX1, 3, rfl, by decide, in_X1, TB_in (List.mem_of_getElem? (i := 139) (by decide +kernel)) (by decide +kernel)⟩
theorem fl_X6_81 : FL RX6 81 1 1 := ⟨RX1, TX1, 3, rfl, by decide, in_X1, TB_in (List.mem_of_getElem? (i := 140) (by decide +kernel)) (by decide +kernel)⟩
theorem fl_X1_26 : FL RX1 26 1 2 := ⟨RX1, TX1, 3, rfl, by decide, in_X1, TB_in (List.mem_of_getElem? (i := 141) (by decide +kernel)) (by decide +kernel)⟩
theorem fq_X1_26 : FPF RX1 26 1 2 (.object "WeekOrders$Sights") := ⟨RX1, TX1, 3, tyX1, rfl, by decide, in_X1, TB_in (List.mem_of_getElem? (i := 141) (by decide +kernel)) (by decide +kernel), tyX1_ok, nmX1, rfl, rfl, by decide +kernel⟩
theorem fl_X6_179 : FL RX6 179 1 2 := ⟨RX1, TX1, 3, rfl, by decide, in_X1, TB_in (List.mem_of_getElem? (i := 142) (by decide +kernel)) (by decide +kernel)⟩
theorem cl_X6_27 : Cond.classLink RX6 27 RX2 ∈ TB := TB_in (List.mem_of_getElem? (i := 151) (by decide +kernel)) (by decide +kernel)
theorem fn_X6_27 : FN RX6 27 2 7 tyX2 := ⟨RX2, TX2, rfl, in_X2, tyX2_ok, TB_in (List.mem_of_getElem? (i := 151) (by decide +kernel)) (by decide +kernel), TB_in (List.mem_of_getElem? (i := 152) (by decide +kernel)) (by decide +kernel), TB_in (List.mem_of_getElem? (i := 41) (by decide +kernel)) (by decide +kernel)⟩
theorem im_X2_init : Cond.instanceMethod yX2_init ∈ TB := TB_in (List.mem_of_getElem? (i := 154) (by decide +kernel)) (by decide +kernel)
theorem ml_X2_3 : Cond.methodLink RX2 3 objectInit ∈ TB := TB_in (List.mem_of_getElem? (i := 156) (by decide +kernel)) (by decide +kernel)
theorem fl_X2_45 : FL RX2 45 2 0 := ⟨RX2, TX2, 7, rfl, by decide, in_X2, TB_in (List.mem_of_getElem? (i := 157) (by decide +kernel)) (by decide +kernel)⟩
theorem fp_X2_45 : FP RX2 45 2 0 .int := ⟨RX2, TX2, 7, tyX2, rfl, by decide, in_X2, TB_in (List.mem_of_getElem? (i := 157) (by decide +kernel)) (by decide +kernel), tyX2_ok, nmX2, rfl, by decide +kernel⟩
theorem fl_X2_48 : FL RX2 48 2 1 := ⟨RX2, TX2, 7, rfl, by decide, in_X2, TB_in (List.mem_of_getElem? (i := 158) (by decide +kernel)) (by decide +kernel)⟩
theorem fp_X2_48 : FP RX2 48 2 1 .int := ⟨RX2, TX2, 7, tyX2, rfl, by decide, in_X2, TB_in (List.mem_of_getElem? (i := 158) (by decide +kernel)) (by decide +kernel), tyX2_ok, nmX2, rfl, by decide +kernel⟩
theorem fl_X6_143 : FL RX6 143 2 1 := ⟨RX2, TX2, 7, rfl, by decide, in_X2, TB_in (List.mem_of_getElem? (i := 159) (by decide +kernel)) (by decide +kernel)⟩
theorem fp_X6_143 : FP RX6 143 2 1 .int := ⟨RX2, TX2, 7, tyX2, rfl, by decide, in_X2, TB_in (List.mem_of_getElem? (i := 159) (by decide +kernel)) (by decide +kernel), tyX2_ok, nmX2, rfl, by decide +kernel⟩
theorem fl_X2_9 : FL RX2 9 2 2 := ⟨RX2, TX2, 7, rfl, by decide, in_X2, TB_in (List.mem_of_getElem? (i := 160) (by decide +kernel)) (by decide +kernel)⟩
theorem fq_X2_9 : FPF RX2 9 2 2 (.array .int) := ⟨RX2, TX2, 7, tyX2, rfl, by decide, in_X2, TB_in (List.mem_of_getElem? (i := 160) (by decide +kernel)) (by decide +kernel), tyX2_ok, nmX2, rfl, rfl, by decide +kernel⟩
theorem fl_X2_15 : FL RX2 15 2 3 := ⟨RX2, TX2, 7, rfl, by decide, in_X2, TB_in (List.mem_of_getElem? (i := 161) (by decide +kernel)) (by decide +kernel)⟩
theorem fq_X2_15 : FPF RX2 15 2 3 (.array .int) := ⟨RX2, TX2, 7, tyX2, rfl, by decide, in_X2, TB_in (List.mem_of_getElem? (i := 161) (by decide +kernel)) (by decide +kernel), tyX2_ok, nmX2, rfl, rfl, by decide +kernel⟩
theorem fl_X2_18 : FL RX2 18 2 4 := ⟨RX2, TX2, 7, rfl, by decide, in_X2, TB_in (List.mem_of_getElem? (i := 162) (by decide +kernel)) (by decide +kernel)⟩
theorem fq_X2_18 : FPF RX2 18 2 4 (.array .int) := ⟨RX2, TX2, 7, tyX2, rfl, by decide, in_X2, TB_in (List.mem_of_getElem? (i := 162) (by decide +kernel)) (by decide +kernel), tyX2_ok, nmX2, rfl, rfl, by decide +kernel⟩
theorem fl_X2_21 : FL RX2 21 2 5 := ⟨RX2, TX2, 7, rfl, by decide, in_X2, TB_in (List.mem_of_getElem? (i := 163) (by decide +kernel)) (by decide +kernel)⟩
theorem fq_X2_21 : FPF RX2 21 2 5 (.array .int) := ⟨RX2, TX2, 7, tyX2, rfl, by decide, in_X2, TB_in (List.mem_of_getElem? (i := 163) (by decide +kernel)) (by decide +kernel), tyX2_ok, nmX2, rfl, rfl, by decide +kernel⟩
theorem fl_X2_24 : FL RX2 24 2 6 := ⟨RX2, TX2, 7, rfl, by decide, in_X2, TB_in (List.mem_of_getElem? (i := 164) (by decide +kernel)) (by decide +kernel)⟩
theorem fq_X2_24 : FPF RX2 24 2 6 (.array .int) := ⟨RX2, TX2, 7, tyX2, rfl, by decide, in_X2, TB_in (List.mem_of_getElem? (i := 164) (by decide +kernel)) (by decide +kernel), tyX2_ok, nmX2, rfl, rfl, by decide +kernel⟩
theorem fl_X6_10 : FL RX6 10 6 0 := ⟨RX6, TX6, 4, rfl, by decide, in_X6, TB_in (List.mem_of_getElem? (i := 180) (by decide +kernel)) (by decide +kernel)⟩
theorem fq_X6_10 : FPF RX6 10 6 0 (.object "WeekOrders$Pad") := ⟨RX6, TX6, 4, tyX6, rfl, by decide, in_X6, TB_in (List.mem_of_getElem? (i := 180) (by decide +kernel)) (by decide +kernel), tyX6_ok, nmX6, rfl, rfl, by decide +kernel⟩
theorem fl_X6_19 : FL RX6 19 6 1 := ⟨RX6, TX6, 4, rfl, by decide, in_X6, TB_in (List.mem_of_getElem? (i := 181) (by decide +kernel)) (by decide +kernel)⟩
theorem fq_X6_19 : FPF RX6 19 6 1 (.object "WeekOrders$Land") := ⟨RX6, TX6, 4, tyX6, rfl, by decide, in_X6, TB_in (List.mem_of_getElem? (i := 181) (by decide +kernel)) (by decide +kernel), tyX6_ok, nmX6, rfl, rfl, by decide +kernel⟩
theorem fl_X6_23 : FL RX6 23 6 2 := ⟨RX6, TX6, 4, rfl, by decide, in_X6, TB_in (List.mem_of_getElem? (i := 182) (by decide +kernel)) (by decide +kernel)⟩
theorem fq_X6_23 : FPF RX6 23 6 2 (.array (.object "WeekOrders$Land")) := ⟨RX6, TX6, 4, tyX6, rfl, by decide, in_X6, TB_in (List.mem_of_getElem? (i := 182) (by decide +kernel)) (by decide +kernel), tyX6_ok, nmX6, rfl, rfl, by decide +kernel⟩
theorem fl_X6_30 : FL RX6 30 6 3 := ⟨RX6, TX6, 4, rfl, by decide, in_X6, TB_in (List.mem_of_getElem? (i := 183) (by decide +kernel)) (by decide +kernel)⟩
theorem fq_X6_30 : FPF RX6 30 6 3 (.object "WeekOrders$Month") := ⟨RX6, TX6, 4, tyX6, rfl, by decide, in_X6, TB_in (List.mem_of_getElem? (i := 183) (by decide +kernel)) (by decide +kernel), tyX6_ok, nmX6, rfl, rfl, by decide +kernel⟩
theorem ml_L_13 : Cond.methodLink RL 13 yX6_say ∈ TB := TB_in (List.mem_of_getElem? (i := 193) (by decide +kernel)) (by decide +kernel)
theorem im_X6_say : Cond.instanceMethod yX6_say ∈ TB := TB_in (List.mem_of_getElem? (i := 194) (by decide +kernel)) (by decide +kernel)
theorem se_X6_say : Cond.selects RX6 yX6_say yX6_say ∈ TB := TB_in (List.mem_of_getElem? (i := 195) (by decide +kernel)) (by decide +kernel)
theorem ml_X6_34 : Cond.methodLink RX6 34 yX3_add ∈ TB := TB_in (List.mem_of_getElem? (i := 197) (by decide +kernel)) (by decide +kernel)
theorem im_X3_add : Cond.instanceMethod yX3_add ∈ TB := TB_in (List.mem_of_getElem? (i := 198) (by decide +kernel)) (by decide +kernel)
theorem se_X3_add : Cond.selects RX3 yX3_add yX3_add ∈ TB := TB_in (List.mem_of_getElem? (i := 199) (by decide +kernel)) (by decide +kernel)
theorem sm_X6_isOneOf : Cond.static yX6_isOneOf ∈ TB := TB_in (List.mem_of_getElem? (i := 202) (by decide +kernel)) (by decide +kernel)
theorem ml_L_18 : Cond.methodLink RL 18 yX6_wipe ∈ TB := TB_in (List.mem_of_getElem? (i := 204) (by decide +kernel)) (by decide +kernel)
theorem im_X6_wipe : Cond.instanceMethod yX6_wipe ∈ TB := TB_in (List.mem_of_getElem? (i := 205) (by decide +kernel)) (by decide +kernel)
theorem se_X6_wipe : Cond.selects RX6 yX6_wipe yX6_wipe ∈ TB := TB_in (List.mem_of_getElem? (i := 206) (by decide +kernel)) (by decide +kernel)
theorem ml_L_23 : Cond.methodLink RL 23 yX6_fault ∈ TB := TB_in (List.mem_of_getElem? (i := 208) (by decide +kernel)) (by decide +kernel)
theorem im_X6_fault : Cond.instanceMethod yX6_fault ∈ TB := TB_in (List.mem_of_getElem? (i := 209) (by decide +kernel)) (by decide +kernel)
theorem se_X6_fault : Cond.selects RX6 yX6_fault yX6_fault ∈ TB := TB_in (List.mem_of_getElem? (i := 210) (by decide +kernel)) (by decide +kernel)
theorem ml_X6_42 : Cond.methodLink RX6 42 yX6_isOneOf ∈ TB := TB_in (List.mem_of_getElem? (i := 212) (by decide +kernel)) (by decide +kernel)
theorem ml_X6_46 : Cond.methodLink RX6 46 yX3_orderFault ∈ TB := TB_in (List.mem_of_getElem? (i := 213) (by decide +kernel)) (by decide +kernel)
theorem im_X3_orderFault : Cond.instanceMethod yX3_orderFault ∈ TB := TB_in (List.mem_of_getElem? (i := 214) (by decide +kernel)) (by decide +kernel)
theorem se_X3_orderFault : Cond.selects RX3 yX3_orderFault yX3_orderFault ∈ TB := TB_in (List.mem_of_getElem? (i := 215) (by decide +kernel)) (by decide +kernel)
theorem ml_X3_23 : Cond.methodLink RX3 23 yX3_signAt ∈ TB := TB_in (List.mem_of_getElem? (i := 217) (by decide +kernel)) (by decide +kernel)
theorem im_X3_signAt : Cond.instanceMethod yX3_signAt ∈ TB := TB_in (List.mem_of_getElem? (i := 218) (by decide +kernel)) (by decide +kernel)
theorem se_X3_signAt : Cond.selects RX3 yX3_signAt yX3_signAt ∈ TB := TB_in (List.mem_of_getElem? (i := 219) (by decide +kernel)) (by decide +kernel)
theorem ml_X6_50 : Cond.methodLink RX6 50 yX3_planFault ∈ TB := TB_in (List.mem_of_getElem? (i := 221) (by decide +kernel)) (by decide +kernel)
theorem im_X3_planFault : Cond.instanceMethod yX3_planFault ∈ TB := TB_in (List.mem_of_getElem? (i := 222) (by decide +kernel)) (by decide +kernel)
theorem se_X3_planFault : Cond.selects RX3 yX3_planFault yX3_planFault ∈ TB := TB_in (List.mem_of_getElem? (i := 223) (by decide +kernel)) (by decide +kernel)
theorem ml_L_27 : Cond.methodLink RL 27 yX6_born ∈ TB := TB_in (List.mem_of_getElem? (i := 225) (by decide +kernel)) (by decide +kernel)
theorem im_X6_born : Cond.instanceMethod yX6_born ∈ TB := TB_in (List.mem_of_getElem? (i := 226) (by decide +kernel)) (by decide +kernel)
theorem se_X6_born : Cond.selects RX6 yX6_born yX6_born ∈ TB := TB_in (List.mem_of_getElem? (i := 227) (by decide +kernel)) (by decide +kernel)
theorem ml_X6_53 : Cond.methodLink RX6 53 yX6_isBirth ∈ TB := TB_in (List.mem_of_getElem? (i := 229) (by decide +kernel)) (by decide +kernel)
theorem sm_X6_isBirth : Cond.static yX6_isBirth ∈ TB := TB_in (List.mem_of_getElem? (i := 230) (by decide +kernel)) (by decide +kernel)
theorem ml_X6_60 : Cond.methodLink RX6 60 yX0_settle ∈ TB := TB_in (List.mem_of_getElem? (i := 232) (by decide +kernel)) (by decide +kernel)
theorem im_X0_settle : Cond.instanceMethod yX0_settle ∈ TB := TB_in (List.mem_of_getElem? (i := 233) (by decide +kernel)) (by decide +kernel)
theorem se_X0_settle : Cond.selects RX0 yX0_settle yX0_settle ∈ TB := TB_in (List.mem_of_getElem? (i := 234) (by decide +kernel)) (by decide +kernel)
theorem ml_X0_43 : Cond.methodLink RX0 43 yX3_signAt ∈ TB := TB_in (List.mem_of_getElem? (i := 237) (by decide +kernel)) (by decide +kernel)
theorem ml_X6_66 : Cond.methodLink RX6 66 yX6_wipe ∈ TB := TB_in (List.mem_of_getElem? (i := 238) (by decide +kernel)) (by decide +kernel)
theorem ml_L_32 : Cond.methodLink RL 32 yX6_exile ∈ TB := TB_in (List.mem_of_getElem? (i := 239) (by decide +kernel)) (by decide +kernel)
theorem im_X6_exile : Cond.instanceMethod yX6_exile ∈ TB := TB_in (List.mem_of_getElem? (i := 240) (by decide +kernel)) (by decide +kernel)
theorem se_X6_exile : Cond.selects RX6 yX6_exile yX6_exile ∈ TB := TB_in (List.mem_of_getElem? (i := 241) (by decide +kernel)) (by decide +kernel)
theorem ml_X6_69 : Cond.methodLink RX6 69 yX6_isThere ∈ TB := TB_in (List.mem_of_getElem? (i := 243) (by decide +kernel)) (by decide +kernel)
theorem im_X6_isThere : Cond.instanceMethod yX6_isThere ∈ TB := TB_in (List.mem_of_getElem? (i := 245) (by decide +kernel)) (by decide +kernel)
theorem ml_X6_232 : Cond.methodLink RX6 232 yX0_isThere ∈ TB := TB_in (List.mem_of_getElem? (i := 247) (by decide +kernel)) (by decide +kernel)
theorem im_X0_isThere : Cond.instanceMethod yX0_isThere ∈ TB := TB_in (List.mem_of_getElem? (i := 248) (by decide +kernel)) (by decide +kernel)
theorem se_X0_isThere : Cond.selects RX0 yX0_isThere yX0_isThere ∈ TB := TB_in (List.mem_of_getElem? (i := 249) (by decide +kernel)) (by decide +kernel)
theorem ml_X6_75 : Cond.methodLink RX6 75 yJ6_bitCount_0f7a4 ∈ TB := TB_in (List.mem_of_getElem? (i := 251) (by decide +kernel)) (by decide +kernel)
theorem sm_J6_bitCount_0f7a4 : Cond.static yJ6_bitCount_0f7a4 ∈ TB := TB_in (List.mem_of_getElem? (i := 252) (by decide +kernel)) (by decide +kernel)
theorem ct_J6_265 : Cond.constant RJ6 265 (zI 1431655765) ∈ TB := TB_in (List.mem_of_getElem? (i := 254) (by decide +kernel)) (by decide +kernel)
theorem ct_J6_266 : Cond.constant RJ6 266 (zI 858993459) ∈ TB := TB_in (List.mem_of_getElem? (i := 255) (by decide +kernel)) (by decide +kernel)
theorem ct_J6_267 : Cond.constant RJ6 267 (zI 252645135) ∈ TB := TB_in (List.mem_of_getElem? (i := 256) (by decide +kernel)) (by decide +kernel)
theorem ml_L_36 : Cond.methodLink RL 36 yX6_plan ∈ TB := TB_in (List.mem_of_getElem? (i := 257) (by decide +kernel)) (by decide +kernel)
theorem im_X6_plan : Cond.instanceMethod yX6_plan ∈ TB := TB_in (List.mem_of_getElem? (i := 258) (by decide +kernel)) (by decide +kernel)
theorem se_X6_plan : Cond.selects RX6 yX6_plan yX6_plan ∈ TB := TB_in (List.mem_of_getElem? (i := 259) (by decide +kernel)) (by decide +kernel)
theorem ml_X6_85 : Cond.methodLink RX6 85 yX4_read ∈ TB := TB_in (List.mem_of_getElem? (i := 261) (by decide +kernel)) (by decide +kernel)
theorem im_X4_read : Cond.instanceMethod yX4_read ∈ TB := TB_in (List.mem_of_getElem? (i := 262) (by decide +kernel)) (by decide +kernel)
theorem se_X4_read : Cond.selects RX4 yX4_read yX4_read ∈ TB := TB_in (List.mem_of_getElem? (i := 263) (by decide +kernel)) (by decide +kernel)
theorem ml_X4_31 : Cond.methodLink RX4 31 yX3_signAt ∈ TB := TB_in (List.mem_of_getElem? (i := 265) (by decide +kernel)) (by decide +kernel)
theorem ml_L_40 : Cond.methodLink RL 40 yX6_today ∈ TB := TB_in (List.mem_of_getElem? (i := 267) (by decide +kernel)) (by decide +kernel)
theorem im_X6_today : Cond.instanceMethod yX6_today ∈ TB := TB_in (List.mem_of_getElem? (i := 268) (by decide +kernel)) (by decide +kernel)
theorem se_X6_today : Cond.selects RX6 yX6_today yX6_today ∈ TB := TB_in (List.mem_of_getElem? (i := 269) (by decide +kernel)) (by decide +kernel)
theorem ml_X6_92 : Cond.methodLink RX6 92 yX6_isDate ∈ TB := TB_in (List.mem_of_getElem? (i := 271) (by decide +kernel)) (by decide +kernel)
theorem sm_X6_isDate : Cond.static yX6_isDate ∈ TB := TB_in (List.mem_of_getElem? (i := 272) (by decide +kernel)) (by decide +kernel)
theorem ml_X6_95 : Cond.methodLink RX6 95 yX0_dayOn ∈ TB := TB_in (List.mem_of_getElem? (i := 274) (by decide +kernel)) (by decide +kernel)
theorem im_X0_dayOn : Cond.instanceMethod yX0_dayOn ∈ TB := TB_in (List.mem_of_getElem? (i := 275) (by decide +kernel)) (by decide +kernel)
theorem se_X0_dayOn : Cond.selects RX0 yX0_dayOn yX0_dayOn ∈ TB := TB_in (List.mem_of_getElem? (i := 276) (by decide +kernel)) (by decide +kernel)
theorem ml_X0_47 : Cond.methodLink RX0 47 yJ9_floorMod_7cf53 ∈ TB := TB_in (List.mem_of_getElem? (i := 278) (by decide +kernel)) (by decide +kernel)
theorem sm_J9_floorMod_7cf53 : Cond.static yJ9_floorMod_7cf53 ∈ TB := TB_in (List.mem_of_getElem? (i := 279) (by decide +kernel)) (by decide +kernel)
theorem ml_L_44 : Cond.methodLink RL 44 yX6_same ∈ TB := TB_in (List.mem_of_getElem? (i := 281) (by decide +kernel)) (by decide +kernel)
theorem im_X6_same : Cond.instanceMethod yX6_same ∈ TB := TB_in (List.mem_of_getElem? (i := 282) (by decide +kernel)) (by decide +kernel)
theorem se_X6_same : Cond.selects RX6 yX6_same yX6_same ∈ TB := TB_in (List.mem_of_getElem? (i := 283) (by decide +kernel)) (by decide +kernel)
theorem ml_X6_99 : Cond.methodLink RX6 99 yX0_having ∈ TB := TB_in (List.mem_of_getElem? (i := 285) (by decide +kernel)) (by decide +kernel)
theorem im_X0_having : Cond.instanceMethod yX0_having ∈ TB := TB_in (List.mem_of_getElem? (i := 286) (by decide +kernel)) (by decide +kernel)
theorem se_X0_having : Cond.selects RX0 yX0_having yX0_having ∈ TB := TB_in (List.mem_of_getElem? (i := 287) (by decide +kernel)) (by decide +kernel)
theorem ml_X0_53 : Cond.methodLink RX0 53 yX0_dayOn ∈ TB := TB_in (List.mem_of_getElem? (i := 289) (by decide +kernel)) (by decide +kernel)
theorem ml_L_48 : Cond.methodLink RL 48 yX6_next ∈ TB := TB_in (List.mem_of_getElem? (i := 290) (by decide +kernel)) (by decide +kernel)
theorem im_X6_next : Cond.instanceMethod yX6_next ∈ TB := TB_in (List.mem_of_getElem? (i := 291) (by decide +kernel)) (by decide +kernel)
theorem se_X6_next : Cond.selects RX6 yX6_next yX6_next ∈ TB := TB_in (List.mem_of_getElem? (i := 292) (by decide +kernel)) (by decide +kernel)
theorem ml_L_53 : Cond.methodLink RL 53 yX6_meet ∈ TB := TB_in (List.mem_of_getElem? (i := 294) (by decide +kernel)) (by decide +kernel)
theorem im_X6_meet : Cond.instanceMethod yX6_meet ∈ TB := TB_in (List.mem_of_getElem? (i := 295) (by decide +kernel)) (by decide +kernel)
theorem se_X6_meet : Cond.selects RX6 yX6_meet yX6_meet ∈ TB := TB_in (List.mem_of_getElem? (i := 296) (by decide +kernel)) (by decide +kernel)
theorem ml_X6_102 : Cond.methodLink RX6 102 yX6_isSetOfThere ∈ TB := TB_in (List.mem_of_getElem? (i := 298) (by decide +kernel)) (by decide +kernel)
theorem im_X6_isSetOfThere : Cond.instanceMethod yX6_isSetOfThere ∈ TB := TB_in (List.mem_of_getElem? (i := 300) (by decide +kernel)) (by decide +kernel)
theorem ml_X6_105 : Cond.methodLink RX6 105 yX0_commonDay ∈ TB := TB_in (List.mem_of_getElem? (i := 302) (by decide +kernel)) (by decide +kernel)
theorem im_X0_commonDay : Cond.instanceMethod yX0_commonDay ∈ TB := TB_in (List.mem_of_getElem? (i := 303) (by decide +kernel)) (by decide +kernel)
theorem se_X0_commonDay : Cond.selects RX0 yX0_commonDay yX0_commonDay ∈ TB := TB_in (List.mem_of_getElem? (i := 304) (by decide +kernel)) (by decide +kernel)
theorem ml_L_57 : Cond.methodLink RL 57 yX6_shared ∈ TB := TB_in (List.mem_of_getElem? (i := 306) (by decide +kernel)) (by decide +kernel)
theorem im_X6_shared : Cond.instanceMethod yX6_shared ∈ TB := TB_in (List.mem_of_getElem? (i := 307) (by decide +kernel)) (by decide +kernel)
theorem se_X6_shared : Cond.selects RX6 yX6_shared yX6_shared ∈ TB := TB_in (List.mem_of_getElem? (i := 308) (by decide +kernel)) (by decide +kernel)
theorem ml_X6_108 : Cond.methodLink RX6 108 yX6_areTwoThere ∈ TB := TB_in (List.mem_of_getElem? (i := 310) (by decide +kernel)) (by decide +kernel)
theorem im_X6_areTwoThere : Cond.instanceMethod yX6_areTwoThere ∈ TB := TB_in (List.mem_of_getElem? (i := 312) (by decide +kernel)) (by decide +kernel)
theorem ml_X6_111 : Cond.methodLink RX6 111 yX0_sharedDates ∈ TB := TB_in (List.mem_of_getElem? (i := 314) (by decide +kernel)) (by decide +kernel)
theorem im_X0_sharedDates : Cond.instanceMethod yX0_sharedDates ∈ TB := TB_in (List.mem_of_getElem? (i := 315) (by decide +kernel)) (by decide +kernel)
theorem se_X0_sharedDates : Cond.selects RX0 yX0_sharedDates yX0_sharedDates ∈ TB := TB_in (List.mem_of_getElem? (i := 316) (by decide +kernel)) (by decide +kernel)
theorem ml_X0_56 : Cond.methodLink RX0 56 yX0_share ∈ TB := TB_in (List.mem_of_getElem? (i := 318) (by decide +kernel)) (by decide +kernel)
theorem im_X0_share : Cond.instanceMethod yX0_share ∈ TB := TB_in (List.mem_of_getElem? (i := 319) (by decide +kernel)) (by decide +kernel)
theorem se_X0_share : Cond.selects RX0 yX0_share yX0_share ∈ TB := TB_in (List.mem_of_getElem? (i := 320) (by decide +kernel)) (by decide +kernel)
theorem ml_L_61 : Cond.methodLink RL 61 yX6_never ∈ TB := TB_in (List.mem_of_getElem? (i := 322) (by decide +kernel)) (by decide +kernel)
theorem im_X6_never : Cond.instanceMethod yX6_never ∈ TB := TB_in (List.mem_of_getElem? (i := 323) (by decide +kernel)) (by decide +kernel)
theorem se_X6_never : Cond.selects RX6 yX6_never yX6_never ∈ TB := TB_in (List.mem_of_getElem? (i := 324) (by decide +kernel)) (by decide +kernel)
theorem ml_X6_115 : Cond.methodLink RX6 115 yX6_pairs ∈ TB := TB_in (List.mem_of_getElem? (i := 326) (by decide +kernel)) (by decide +kernel)
theorem im_X6_pairs : Cond.instanceMethod yX6_pairs ∈ TB := TB_in (List.mem_of_getElem? (i := 328) (by decide +kernel)) (by decide +kernel)
theorem ml_X6_222 : Cond.methodLink RX6 222 yX6_isPair ∈ TB := TB_in (List.mem_of_getElem? (i := 330) (by decide +kernel)) (by decide +kernel)
theorem im_X6_isPair : Cond.instanceMethod yX6_isPair ∈ TB := TB_in (List.mem_of_getElem? (i := 332) (by decide +kernel)) (by decide +kernel)
theorem ml_X6_226 : Cond.methodLink RX6 226 yX0_areTwins ∈ TB := TB_in (List.mem_of_getElem? (i := 334) (by decide +kernel)) (by decide +kernel)
theorem im_X0_areTwins : Cond.instanceMethod yX0_areTwins ∈ TB := TB_in (List.mem_of_getElem? (i := 335) (by decide +kernel)) (by decide +kernel)
theorem se_X0_areTwins : Cond.selects RX0 yX0_areTwins yX0_areTwins ∈ TB := TB_in (List.mem_of_getElem? (i := 336) (by decide +kernel)) (by decide +kernel)
theorem ml_X0_87 : Cond.methodLink RX0 87 yX0_isDelayed ∈ TB := TB_in (List.mem_of_getElem? (i := 338) (by decide +kernel)) (by decide +kernel)
theorem im_X0_isDelayed : Cond.instanceMethod yX0_isDelayed ∈ TB := TB_in (List.mem_of_getElem? (i := 340) (by decide +kernel)) (by decide +kernel)
theorem ml_X6_229 : Cond.methodLink RX6 229 yX0_everShare ∈ TB := TB_in (List.mem_of_getElem? (i := 342) (by decide +kernel)) (by decide +kernel)
theorem im_X0_everShare : Cond.instanceMethod yX0_everShare ∈ TB := TB_in (List.mem_of_getElem? (i := 343) (by decide +kernel)) (by decide +kernel)
theorem se_X0_everShare : Cond.selects RX0 yX0_everShare yX0_everShare ∈ TB := TB_in (List.mem_of_getElem? (i := 344) (by decide +kernel)) (by decide +kernel)
theorem ml_L_65 : Cond.methodLink RL 65 yX6_market ∈ TB := TB_in (List.mem_of_getElem? (i := 346) (by decide +kernel)) (by decide +kernel)
theorem im_X6_market : Cond.instanceMethod yX6_market ∈ TB := TB_in (List.mem_of_getElem? (i := 347) (by decide +kernel)) (by decide +kernel)
theorem se_X6_market : Cond.selects RX6 yX6_market yX6_market ∈ TB := TB_in (List.mem_of_getElem? (i := 348) (by decide +kernel)) (by decide +kernel)
theorem ml_X6_119 : Cond.methodLink RX6 119 yX6_countMarkets ∈ TB := TB_in (List.mem_of_getElem? (i := 350) (by decide +kernel)) (by decide +kernel)
theorem im_X6_countMarkets : Cond.instanceMethod yX6_countMarkets ∈ TB := TB_in (List.mem_of_getElem? (i := 352) (by decide +kernel)) (by decide +kernel)
theorem ml_X6_128 : Cond.methodLink RX6 128 yX6_isMarket ∈ TB := TB_in (List.mem_of_getElem? (i := 354) (by decide +kernel)) (by decide +kernel)
theorem im_X6_isMarket : Cond.instanceMethod yX6_isMarket ∈ TB := TB_in (List.mem_of_getElem? (i := 356) (by decide +kernel)) (by decide +kernel)
theorem ml_X6_122 : Cond.methodLink RX6 122 yX6_firstMarket ∈ TB := TB_in (List.mem_of_getElem? (i := 358) (by decide +kernel)) (by decide +kernel)
theorem im_X6_firstMarket : Cond.instanceMethod yX6_firstMarket ∈ TB := TB_in (List.mem_of_getElem? (i := 360) (by decide +kernel)) (by decide +kernel)
theorem ml_X6_125 : Cond.methodLink RX6 125 yX6_longestWithoutMarket ∈ TB := TB_in (List.mem_of_getElem? (i := 362) (by decide +kernel)) (by decide +kernel)
theorem im_X6_longestWithoutMarket : Cond.instanceMethod yX6_longestWithoutMarket ∈ TB := TB_in (List.mem_of_getElem? (i := 364) (by decide +kernel)) (by decide +kernel)
theorem ml_X6_132 : Cond.methodLink RX6 132 yJ9_max_7cf53 ∈ TB := TB_in (List.mem_of_getElem? (i := 366) (by decide +kernel)) (by decide +kernel)
theorem sm_J9_max_7cf53 : Cond.static yJ9_max_7cf53 ∈ TB := TB_in (List.mem_of_getElem? (i := 367) (by decide +kernel)) (by decide +kernel)
theorem ml_L_69 : Cond.methodLink RL 69 yX6_can ∈ TB := TB_in (List.mem_of_getElem? (i := 369) (by decide +kernel)) (by decide +kernel)
theorem im_X6_can : Cond.instanceMethod yX6_can ∈ TB := TB_in (List.mem_of_getElem? (i := 370) (by decide +kernel)) (by decide +kernel)
theorem se_X6_can : Cond.selects RX6 yX6_can yX6_can ∈ TB := TB_in (List.mem_of_getElem? (i := 371) (by decide +kernel)) (by decide +kernel)
theorem ml_X6_137 : Cond.methodLink RX6 137 yX1_isDoable ∈ TB := TB_in (List.mem_of_getElem? (i := 373) (by decide +kernel)) (by decide +kernel)
theorem im_X1_isDoable : Cond.instanceMethod yX1_isDoable ∈ TB := TB_in (List.mem_of_getElem? (i := 374) (by decide +kernel)) (by decide +kernel)
theorem se_X1_isDoable : Cond.selects RX1 yX1_isDoable yX1_isDoable ∈ TB := TB_in (List.mem_of_getElem? (i := 375) (by decide +kernel)) (by decide +kernel)
theorem ml_X1_40 : Cond.methodLink RX1 40 yX4_peopleOf ∈ TB := TB_in (List.mem_of_getElem? (i := 377) (by decide +kernel)) (by decide +kernel)
theorem im_X4_peopleOf : Cond.instanceMethod yX4_peopleOf ∈ TB := TB_in (List.mem_of_getElem? (i := 378) (by decide +kernel)) (by decide +kernel)
theorem se_X4_peopleOf : Cond.selects RX4 yX4_peopleOf yX4_peopleOf ∈ TB := TB_in (List.mem_of_getElem? (i := 379) (by decide +kernel)) (by decide +kernel)
theorem ml_X1_44 : Cond.methodLink RX1 44 yX4_dayOf ∈ TB := TB_in (List.mem_of_getElem? (i := 381) (by decide +kernel)) (by decide +kernel)
theorem im_X4_dayOf : Cond.instanceMethod yX4_dayOf ∈ TB := TB_in (List.mem_of_getElem? (i := 382) (by decide +kernel)) (by decide +kernel)
theorem se_X4_dayOf : Cond.selects RX4 yX4_dayOf yX4_dayOf ∈ TB := TB_in (List.mem_of_getElem? (i := 383) (by decide +kernel)) (by decide +kernel)
theorem ml_X1_47 : Cond.methodLink RX1 47 yX0_allHave ∈ TB := TB_in (List.mem_of_getElem? (i := 385) (by decide +kernel)) (by decide +kernel)
theorem im_X0_allHave : Cond.instanceMethod yX0_allHave ∈ TB := TB_in (List.mem_of_getElem? (i := 386) (by decide +kernel)) (by decide +kernel)
theorem se_X0_allHave : Cond.selects RX0 yX0_allHave yX0_allHave ∈ TB := TB_in (List.mem_of_getElem? (i := 387) (by decide +kernel)) (by decide +kernel)
theorem ml_L_73 : Cond.methodLink RL 73 yX6_month ∈ TB := TB_in (List.mem_of_getElem? (i := 389) (by decide +kernel)) (by decide +kernel)
theorem im_X6_month : Cond.instanceMethod yX6_month ∈ TB := TB_in (List.mem_of_getElem? (i := 390) (by decide +kernel)) (by decide +kernel)
theorem se_X6_month : Cond.selects RX6 yX6_month yX6_month ∈ TB := TB_in (List.mem_of_getElem? (i := 391) (by decide +kernel)) (by decide +kernel)
theorem ml_X6_140 : Cond.methodLink RX6 140 yX2_settle ∈ TB := TB_in (List.mem_of_getElem? (i := 393) (by decide +kernel)) (by decide +kernel)
theorem im_X2_settle : Cond.instanceMethod yX2_settle ∈ TB := TB_in (List.mem_of_getElem? (i := 394) (by decide +kernel)) (by decide +kernel)
theorem se_X2_settle : Cond.selects RX2 yX2_settle yX2_settle ∈ TB := TB_in (List.mem_of_getElem? (i := 395) (by decide +kernel)) (by decide +kernel)
theorem ml_X2_39 : Cond.methodLink RX2 39 yJ9_min_7cf53 ∈ TB := TB_in (List.mem_of_getElem? (i := 397) (by decide +kernel)) (by decide +kernel)
theorem sm_J9_min_7cf53 : Cond.static yJ9_min_7cf53 ∈ TB := TB_in (List.mem_of_getElem? (i := 398) (by decide +kernel)) (by decide +kernel)
theorem ml_X2_51 : Cond.methodLink RX2 51 yX4_peopleOf ∈ TB := TB_in (List.mem_of_getElem? (i := 400) (by decide +kernel)) (by decide +kernel)
theorem ml_X2_55 : Cond.methodLink RX2 55 yX2_collect ∈ TB := TB_in (List.mem_of_getElem? (i := 401) (by decide +kernel)) (by decide +kernel)
theorem im_X2_collect : Cond.instanceMethod yX2_collect ∈ TB := TB_in (List.mem_of_getElem? (i := 403) (by decide +kernel)) (by decide +kernel)
theorem ml_X2_67 : Cond.methodLink RX2 67 yX1_isDoable ∈ TB := TB_in (List.mem_of_getElem? (i := 405) (by decide +kernel)) (by decide +kernel)
theorem ml_X2_59 : Cond.methodLink RX2 59 yX2_search ∈ TB := TB_in (List.mem_of_getElem? (i := 406) (by decide +kernel)) (by decide +kernel)
theorem sm_X2_search : Cond.static yX2_search ∈ TB := TB_in (List.mem_of_getElem? (i := 407) (by decide +kernel)) (by decide +kernel)
theorem ml_X2_70 : Cond.methodLink RX2 70 yX2_keep ∈ TB := TB_in (List.mem_of_getElem? (i := 410) (by decide +kernel)) (by decide +kernel)
theorem im_X2_keep : Cond.instanceMethod yX2_keep ∈ TB := TB_in (List.mem_of_getElem? (i := 412) (by decide +kernel)) (by decide +kernel)
theorem ml_X2_77 : Cond.methodLink RX2 77 arraycopyName ∈ TB := TB_in (List.mem_of_getElem? (i := 414) (by decide +kernel)) (by decide +kernel)
theorem sm_COPY : Cond.static arraycopyName ∈ TB := TB_in (List.mem_of_getElem? (i := 415) (by decide +kernel)) (by decide +kernel)
theorem nm_COPY : Cond.native arraycopyName ∈ TB := TB_in (List.mem_of_getElem? (i := 416) (by decide +kernel)) (by decide +kernel)
theorem ml_X2_74 : Cond.methodLink RX2 74 yX2_isFree ∈ TB := TB_in (List.mem_of_getElem? (i := 417) (by decide +kernel)) (by decide +kernel)
theorem im_X2_isFree : Cond.instanceMethod yX2_isFree ∈ TB := TB_in (List.mem_of_getElem? (i := 419) (by decide +kernel)) (by decide +kernel)
theorem ml_X6_146 : Cond.methodLink RX6 146 yX2_dateOf ∈ TB := TB_in (List.mem_of_getElem? (i := 421) (by decide +kernel)) (by decide +kernel)
theorem im_X2_dateOf : Cond.instanceMethod yX2_dateOf ∈ TB := TB_in (List.mem_of_getElem? (i := 422) (by decide +kernel)) (by decide +kernel)
theorem se_X2_dateOf : Cond.selects RX2 yX2_dateOf yX2_dateOf ∈ TB := TB_in (List.mem_of_getElem? (i := 423) (by decide +kernel)) (by decide +kernel)
theorem ml_L_77 : Cond.methodLink RL 77 yX6_barred ∈ TB := TB_in (List.mem_of_getElem? (i := 425) (by decide +kernel)) (by decide +kernel)
theorem im_X6_barred : Cond.instanceMethod yX6_barred ∈ TB := TB_in (List.mem_of_getElem? (i := 426) (by decide +kernel)) (by decide +kernel)
theorem se_X6_barred : Cond.selects RX6 yX6_barred yX6_barred ∈ TB := TB_in (List.mem_of_getElem? (i := 427) (by decide +kernel)) (by decide +kernel)
theorem ml_X6_149 : Cond.methodLink RX6 149 yX1_isBarred ∈ TB := TB_in (List.mem_of_getElem? (i := 429) (by decide +kernel)) (by decide +kernel)
theorem im_X1_isBarred : Cond.instanceMethod yX1_isBarred ∈ TB := TB_in (List.mem_of_getElem? (i := 430) (by decide +kernel)) (by decide +kernel)
theorem se_X1_isBarred : Cond.selects RX1 yX1_isBarred yX1_isBarred ∈ TB := TB_in (List.mem_of_getElem? (i := 431) (by decide +kernel)) (by decide +kernel)
theorem ml_X1_51 : Cond.methodLink RX1 51 yX0_everAllHave ∈ TB := TB_in (List.mem_of_getElem? (i := 433) (by decide +kernel)) (by decide +kernel)
theorem im_X0_everAllHave : Cond.instanceMethod yX0_everAllHave ∈ TB := TB_in (List.mem_of_getElem? (i := 434) (by decide +kernel)) (by decide +kernel)
theorem se_X0_everAllHave : Cond.selects RX0 yX0_everAllHave yX0_everAllHave ∈ TB := TB_in (List.mem_of_getElem? (i := 435) (by decide +kernel)) (by decide +kernel)
theorem ml_X0_60 : Cond.methodLink RX0 60 yX0_allHave ∈ TB := TB_in (List.mem_of_getElem? (i := 437) (by decide +kernel)) (by decide +kernel)
theorem ml_L_81 : Cond.methodLink RL 81 yX6_why ∈ TB := TB_in (List.mem_of_getElem? (i := 438) (by decide +kernel)) (by decide +kernel)
theorem im_X6_why : Cond.instanceMethod yX6_why ∈ TB := TB_in (List.mem_of_getElem? (i := 439) (by decide +kernel)) (by decide +kernel)
theorem se_X6_why : Cond.selects RX6 yX6_why yX6_why ∈ TB := TB_in (List.mem_of_getElem? (i := 440) (by decide +kernel)) (by decide +kernel)
theorem ml_X6_152 : Cond.methodLink RX6 152 yX4_peopleOf ∈ TB := TB_in (List.mem_of_getElem? (i := 442) (by decide +kernel)) (by decide +kernel)
theorem ml_X6_155 : Cond.methodLink RX6 155 yX4_dayOf ∈ TB := TB_in (List.mem_of_getElem? (i := 443) (by decide +kernel)) (by decide +kernel)
theorem ml_X6_158 : Cond.methodLink RX6 158 yX0_whyNever ∈ TB := TB_in (List.mem_of_getElem? (i := 444) (by decide +kernel)) (by decide +kernel)
theorem im_X0_whyNever : Cond.instanceMethod yX0_whyNever ∈ TB := TB_in (List.mem_of_getElem? (i := 445) (by decide +kernel)) (by decide +kernel)
theorem se_X0_whyNever : Cond.selects RX0 yX0_whyNever yX0_whyNever ∈ TB := TB_in (List.mem_of_getElem? (i := 446) (by decide +kernel)) (by decide +kernel)
theorem ml_X0_63 : Cond.methodLink RX0 63 yX0_everAllHave ∈ TB := TB_in (List.mem_of_getElem? (i := 448) (by decide +kernel)) (by decide +kernel)
theorem ml_L_85 : Cond.methodLink RL 85 yX6_common ∈ TB := TB_in (List.mem_of_getElem? (i := 449) (by decide +kernel)) (by decide +kernel)
theorem im_X6_common : Cond.instanceMethod yX6_common ∈ TB := TB_in (List.mem_of_getElem? (i := 450) (by decide +kernel)) (by decide +kernel)
theorem se_X6_common : Cond.selects RX6 yX6_common yX6_common ∈ TB := TB_in (List.mem_of_getElem? (i := 451) (by decide +kernel)) (by decide +kernel)
theorem ml_L_89 : Cond.methodLink RL 89 yX6_wedding ∈ TB := TB_in (List.mem_of_getElem? (i := 453) (by decide +kernel)) (by decide +kernel)
theorem im_X6_wedding : Cond.instanceMethod yX6_wedding ∈ TB := TB_in (List.mem_of_getElem? (i := 454) (by decide +kernel)) (by decide +kernel)
theorem se_X6_wedding : Cond.selects RX6 yX6_wedding yX6_wedding ∈ TB := TB_in (List.mem_of_getElem? (i := 455) (by decide +kernel)) (by decide +kernel)
theorem ml_X6_161 : Cond.methodLink RX6 161 yX6_weddingCost ∈ TB := TB_in (List.mem_of_getElem? (i := 457) (by decide +kernel)) (by decide +kernel)
theorem im_X6_weddingCost : Cond.instanceMethod yX6_weddingCost ∈ TB := TB_in (List.mem_of_getElem? (i := 459) (by decide +kernel)) (by decide +kernel)
theorem ml_X6_164 : Cond.methodLink RX6 164 yX0_cost ∈ TB := TB_in (List.mem_of_getElem? (i := 461) (by decide +kernel)) (by decide +kernel)
theorem im_X0_cost : Cond.instanceMethod yX0_cost ∈ TB := TB_in (List.mem_of_getElem? (i := 462) (by decide +kernel)) (by decide +kernel)
theorem se_X0_cost : Cond.selects RX0 yX0_cost yX0_cost ∈ TB := TB_in (List.mem_of_getElem? (i := 463) (by decide +kernel)) (by decide +kernel)
theorem ml_X0_66 : Cond.methodLink RX0 66 yX0_sharedDates ∈ TB := TB_in (List.mem_of_getElem? (i := 465) (by decide +kernel)) (by decide +kernel)
theorem ml_L_93 : Cond.methodLink RL 93 yX6_best ∈ TB := TB_in (List.mem_of_getElem? (i := 466) (by decide +kernel)) (by decide +kernel)
theorem im_X6_best : Cond.instanceMethod yX6_best ∈ TB := TB_in (List.mem_of_getElem? (i := 467) (by decide +kernel)) (by decide +kernel)
theorem se_X6_best : Cond.selects RX6 yX6_best yX6_best ∈ TB := TB_in (List.mem_of_getElem? (i := 468) (by decide +kernel)) (by decide +kernel)
theorem ml_X6_167 : Cond.methodLink RX6 167 yX0_fewestShared ∈ TB := TB_in (List.mem_of_getElem? (i := 470) (by decide +kernel)) (by decide +kernel)
theorem im_X0_fewestShared : Cond.instanceMethod yX0_fewestShared ∈ TB := TB_in (List.mem_of_getElem? (i := 471) (by decide +kernel)) (by decide +kernel)
theorem se_X0_fewestShared : Cond.selects RX0 yX0_fewestShared yX0_fewestShared ∈ TB := TB_in (List.mem_of_getElem? (i := 472) (by decide +kernel)) (by decide +kernel)
theorem ml_X0_70 : Cond.methodLink RX0 70 yX0_isThere ∈ TB := TB_in (List.mem_of_getElem? (i := 474) (by decide +kernel)) (by decide +kernel)
theorem sm_X6_bornDay : Cond.static yX6_bornDay ∈ TB := TB_in (List.mem_of_getElem? (i := 476) (by decide +kernel)) (by decide +kernel)
theorem ml_X6_233 : Cond.methodLink RX6 233 yJ9_floorMod_7cf53 ∈ TB := TB_in (List.mem_of_getElem? (i := 478) (by decide +kernel)) (by decide +kernel)
theorem ml_X0_84 : Cond.methodLink RX0 84 yJ9_min_7cf53 ∈ TB := TB_in (List.mem_of_getElem? (i := 479) (by decide +kernel)) (by decide +kernel)
theorem ml_L_97 : Cond.methodLink RL 97 yX6_feast ∈ TB := TB_in (List.mem_of_getElem? (i := 480) (by decide +kernel)) (by decide +kernel)
theorem im_X6_feast : Cond.instanceMethod yX6_feast ∈ TB := TB_in (List.mem_of_getElem? (i := 481) (by decide +kernel)) (by decide +kernel)
theorem se_X6_feast : Cond.selects RX6 yX6_feast yX6_feast ∈ TB := TB_in (List.mem_of_getElem? (i := 482) (by decide +kernel)) (by decide +kernel)
theorem ml_X6_170 : Cond.methodLink RX6 170 yX0_feastOn ∈ TB := TB_in (List.mem_of_getElem? (i := 484) (by decide +kernel)) (by decide +kernel)
theorem im_X0_feastOn : Cond.instanceMethod yX0_feastOn ∈ TB := TB_in (List.mem_of_getElem? (i := 485) (by decide +kernel)) (by decide +kernel)
theorem se_X0_feastOn : Cond.selects RX0 yX0_feastOn yX0_feastOn ∈ TB := TB_in (List.mem_of_getElem? (i := 486) (by decide +kernel)) (by decide +kernel)
theorem ml_L_101 : Cond.methodLink RL 101 yX6_feasts ∈ TB := TB_in (List.mem_of_getElem? (i := 488) (by decide +kernel)) (by decide +kernel)
theorem im_X6_feasts : Cond.instanceMethod yX6_feasts ∈ TB := TB_in (List.mem_of_getElem? (i := 489) (by decide +kernel)) (by decide +kernel)
theorem se_X6_feasts : Cond.selects RX6 yX6_feasts yX6_feasts ∈ TB := TB_in (List.mem_of_getElem? (i := 490) (by decide +kernel)) (by decide +kernel)
theorem ml_L_105 : Cond.methodLink RL 105 yX6_poor ∈ TB := TB_in (List.mem_of_getElem? (i := 492) (by decide +kernel)) (by decide +kernel)
theorem im_X6_poor : Cond.instanceMethod yX6_poor ∈ TB := TB_in (List.mem_of_getElem? (i := 493) (by decide +kernel)) (by decide +kernel)
theorem se_X6_poor : Cond.selects RX6 yX6_poor yX6_poor ∈ TB := TB_in (List.mem_of_getElem? (i := 494) (by decide +kernel)) (by decide +kernel)
theorem ml_L_109 : Cond.methodLink RL 109 yX6_twins ∈ TB := TB_in (List.mem_of_getElem? (i := 496) (by decide +kernel)) (by decide +kernel)
theorem im_X6_twins : Cond.instanceMethod yX6_twins ∈ TB := TB_in (List.mem_of_getElem? (i := 497) (by decide +kernel)) (by decide +kernel)
theorem se_X6_twins : Cond.selects RX6 yX6_twins yX6_twins ∈ TB := TB_in (List.mem_of_getElem? (i := 498) (by decide +kernel)) (by decide +kernel)
theorem ml_L_113 : Cond.methodLink RL 113 yX6_oneOrder ∈ TB := TB_in (List.mem_of_getElem? (i := 500) (by decide +kernel)) (by decide +kernel)
theorem im_X6_oneOrder : Cond.instanceMethod yX6_oneOrder ∈ TB := TB_in (List.mem_of_getElem? (i := 501) (by decide +kernel)) (by decide +kernel)
theorem se_X6_oneOrder : Cond.selects RX6 yX6_oneOrder yX6_oneOrder ∈ TB := TB_in (List.mem_of_getElem? (i := 502) (by decide +kernel)) (by decide +kernel)
theorem ml_X6_173 : Cond.methodLink RX6 173 yX0_datesApart ∈ TB := TB_in (List.mem_of_getElem? (i := 504) (by decide +kernel)) (by decide +kernel)
theorem im_X0_datesApart : Cond.instanceMethod yX0_datesApart ∈ TB := TB_in (List.mem_of_getElem? (i := 505) (by decide +kernel)) (by decide +kernel)
theorem se_X0_datesApart : Cond.selects RX0 yX0_datesApart yX0_datesApart ∈ TB := TB_in (List.mem_of_getElem? (i := 506) (by decide +kernel)) (by decide +kernel)
theorem ml_X0_77 : Cond.methodLink RX0 77 yX0_commonDay ∈ TB := TB_in (List.mem_of_getElem? (i := 508) (by decide +kernel)) (by decide +kernel)
theorem ml_X6_176 : Cond.methodLink RX6 176 yX0_costOfAll ∈ TB := TB_in (List.mem_of_getElem? (i := 509) (by decide +kernel)) (by decide +kernel)
theorem im_X0_costOfAll : Cond.instanceMethod yX0_costOfAll ∈ TB := TB_in (List.mem_of_getElem? (i := 510) (by decide +kernel)) (by decide +kernel)
theorem se_X0_costOfAll : Cond.selects RX0 yX0_costOfAll yX0_costOfAll ∈ TB := TB_in (List.mem_of_getElem? (i := 511) (by decide +kernel)) (by decide +kernel)
theorem ml_X0_74 : Cond.methodLink RX0 74 yX0_cost ∈ TB := TB_in (List.mem_of_getElem? (i := 513) (by decide +kernel)) (by decide +kernel)
theorem ml_L_117 : Cond.methodLink RL 117 yX6_seen ∈ TB := TB_in (List.mem_of_getElem? (i := 514) (by decide +kernel)) (by decide +kernel)
theorem im_X6_seen : Cond.instanceMethod yX6_seen ∈ TB := TB_in (List.mem_of_getElem? (i := 515) (by decide +kernel)) (by decide +kernel)
theorem se_X6_seen : Cond.selects RX6 yX6_seen yX6_seen ∈ TB := TB_in (List.mem_of_getElem? (i := 516) (by decide +kernel)) (by decide +kernel)
theorem ml_X6_183 : Cond.methodLink RX6 183 yX5_add ∈ TB := TB_in (List.mem_of_getElem? (i := 518) (by decide +kernel)) (by decide +kernel)
theorem im_X5_add : Cond.instanceMethod yX5_add ∈ TB := TB_in (List.mem_of_getElem? (i := 519) (by decide +kernel)) (by decide +kernel)
theorem se_X5_add : Cond.selects RX5 yX5_add yX5_add ∈ TB := TB_in (List.mem_of_getElem? (i := 520) (by decide +kernel)) (by decide +kernel)
theorem ml_L_121 : Cond.methodLink RL 121 yX6_forget ∈ TB := TB_in (List.mem_of_getElem? (i := 523) (by decide +kernel)) (by decide +kernel)
theorem im_X6_forget : Cond.instanceMethod yX6_forget ∈ TB := TB_in (List.mem_of_getElem? (i := 524) (by decide +kernel)) (by decide +kernel)
theorem se_X6_forget : Cond.selects RX6 yX6_forget yX6_forget ∈ TB := TB_in (List.mem_of_getElem? (i := 525) (by decide +kernel)) (by decide +kernel)
theorem ml_L_125 : Cond.methodLink RL 125 yX6_whose ∈ TB := TB_in (List.mem_of_getElem? (i := 527) (by decide +kernel)) (by decide +kernel)
theorem im_X6_whose : Cond.instanceMethod yX6_whose ∈ TB := TB_in (List.mem_of_getElem? (i := 528) (by decide +kernel)) (by decide +kernel)
theorem se_X6_whose : Cond.selects RX6 yX6_whose yX6_whose ∈ TB := TB_in (List.mem_of_getElem? (i := 529) (by decide +kernel)) (by decide +kernel)
theorem ml_X6_188 : Cond.methodLink RX6 188 yX1_fitsSights ∈ TB := TB_in (List.mem_of_getElem? (i := 531) (by decide +kernel)) (by decide +kernel)
theorem im_X1_fitsSights : Cond.instanceMethod yX1_fitsSights ∈ TB := TB_in (List.mem_of_getElem? (i := 532) (by decide +kernel)) (by decide +kernel)
theorem se_X1_fitsSights : Cond.selects RX1 yX1_fitsSights yX1_fitsSights ∈ TB := TB_in (List.mem_of_getElem? (i := 533) (by decide +kernel)) (by decide +kernel)
theorem ml_X1_55 : Cond.methodLink RX1 55 yX0_isThere ∈ TB := TB_in (List.mem_of_getElem? (i := 535) (by decide +kernel)) (by decide +kernel)
theorem ml_X1_63 : Cond.methodLink RX1 63 yX5_dateOf ∈ TB := TB_in (List.mem_of_getElem? (i := 536) (by decide +kernel)) (by decide +kernel)
theorem im_X5_dateOf : Cond.instanceMethod yX5_dateOf ∈ TB := TB_in (List.mem_of_getElem? (i := 537) (by decide +kernel)) (by decide +kernel)
theorem se_X5_dateOf : Cond.selects RX5 yX5_dateOf yX5_dateOf ∈ TB := TB_in (List.mem_of_getElem? (i := 538) (by decide +kernel)) (by decide +kernel)
theorem ml_X1_66 : Cond.methodLink RX1 66 yX0_dayOn ∈ TB := TB_in (List.mem_of_getElem? (i := 540) (by decide +kernel)) (by decide +kernel)
theorem ml_X1_70 : Cond.methodLink RX1 70 yX5_wasShut ∈ TB := TB_in (List.mem_of_getElem? (i := 541) (by decide +kernel)) (by decide +kernel)
theorem im_X5_wasShut : Cond.instanceMethod yX5_wasShut ∈ TB := TB_in (List.mem_of_getElem? (i := 542) (by decide +kernel)) (by decide +kernel)
theorem se_X5_wasShut : Cond.selects RX5 yX5_wasShut yX5_wasShut ∈ TB := TB_in (List.mem_of_getElem? (i := 543) (by decide +kernel)) (by decide +kernel)
theorem ml_L_129 : Cond.methodLink RL 129 yX6_sure ∈ TB := TB_in (List.mem_of_getElem? (i := 545) (by decide +kernel)) (by decide +kernel)
theorem im_X6_sure : Cond.instanceMethod yX6_sure ∈ TB := TB_in (List.mem_of_getElem? (i := 546) (by decide +kernel)) (by decide +kernel)
theorem se_X6_sure : Cond.selects RX6 yX6_sure yX6_sure ∈ TB := TB_in (List.mem_of_getElem? (i := 547) (by decide +kernel)) (by decide +kernel)
theorem ml_L_133 : Cond.methodLink RL 133 yX6_chance ∈ TB := TB_in (List.mem_of_getElem? (i := 549) (by decide +kernel)) (by decide +kernel)
theorem im_X6_chance : Cond.instanceMethod yX6_chance ∈ TB := TB_in (List.mem_of_getElem? (i := 550) (by decide +kernel)) (by decide +kernel)
theorem se_X6_chance : Cond.selects RX6 yX6_chance yX6_chance ∈ TB := TB_in (List.mem_of_getElem? (i := 551) (by decide +kernel)) (by decide +kernel)
theorem ct_X6_191 : Cond.constantLong RX6 191 (-1000000000000000001) ∈ TB := TB_in (List.mem_of_getElem? (i := 553) (by decide +kernel)) (by decide +kernel)
theorem ct_X6_193 : Cond.constantLong RX6 193 (-1000000000000000002) ∈ TB := TB_in (List.mem_of_getElem? (i := 554) (by decide +kernel)) (by decide +kernel)
theorem ml_X6_195 : Cond.methodLink RX6 195 yX6_chanceOfDay ∈ TB := TB_in (List.mem_of_getElem? (i := 555) (by decide +kernel)) (by decide +kernel)
theorem sm_X6_chanceOfDay : Cond.static yX6_chanceOfDay ∈ TB := TB_in (List.mem_of_getElem? (i := 556) (by decide +kernel)) (by decide +kernel)
theorem ml_X6_236 : Cond.methodLink RX6 236 yX6_bornDay ∈ TB := TB_in (List.mem_of_getElem? (i := 558) (by decide +kernel)) (by decide +kernel)
theorem ml_X6_240 : Cond.methodLink RX6 240 yX6_greatestFactor ∈ TB := TB_in (List.mem_of_getElem? (i := 559) (by decide +kernel)) (by decide +kernel)
theorem sm_X6_greatestFactor : Cond.static yX6_greatestFactor ∈ TB := TB_in (List.mem_of_getElem? (i := 560) (by decide +kernel)) (by decide +kernel)
theorem ml_L_138 : Cond.methodLink RL 138 yX6_shares ∈ TB := TB_in (List.mem_of_getElem? (i := 562) (by decide +kernel)) (by decide +kernel)
theorem im_X6_shares : Cond.instanceMethod yX6_shares ∈ TB := TB_in (List.mem_of_getElem? (i := 563) (by decide +kernel)) (by decide +kernel)
theorem se_X6_shares : Cond.selects RX6 yX6_shares yX6_shares ∈ TB := TB_in (List.mem_of_getElem? (i := 564) (by decide +kernel)) (by decide +kernel)
theorem ml_L_142 : Cond.methodLink RL 142 yX6_year ∈ TB := TB_in (List.mem_of_getElem? (i := 566) (by decide +kernel)) (by decide +kernel)
theorem im_X6_year : Cond.instanceMethod yX6_year ∈ TB := TB_in (List.mem_of_getElem? (i := 567) (by decide +kernel)) (by decide +kernel)
theorem se_X6_year : Cond.selects RX6 yX6_year yX6_year ∈ TB := TB_in (List.mem_of_getElem? (i := 568) (by decide +kernel)) (by decide +kernel)
theorem ct_X6_199 : Cond.constant RX6 199 (zI 65537) ∈ TB := TB_in (List.mem_of_getElem? (i := 570) (by decide +kernel)) (by decide +kernel)
theorem ml_X6_200 : Cond.methodLink RX6 200 yX0_share ∈ TB := TB_in (List.mem_of_getElem? (i := 571) (by decide +kernel)) (by decide +kernel)
theorem ml_L_146 : Cond.methodLink RL 146 yX6_image ∈ TB := TB_in (List.mem_of_getElem? (i := 572) (by decide +kernel)) (by decide +kernel)
theorem im_X6_image : Cond.instanceMethod yX6_image ∈ TB := TB_in (List.mem_of_getElem? (i := 573) (by decide +kernel)) (by decide +kernel)
theorem se_X6_image : Cond.selects RX6 yX6_image yX6_image ∈ TB := TB_in (List.mem_of_getElem? (i := 574) (by decide +kernel)) (by decide +kernel)
theorem ml_X6_203 : Cond.methodLink RX6 203 yX1_become ∈ TB := TB_in (List.mem_of_getElem? (i := 576) (by decide +kernel)) (by decide +kernel)
theorem im_X1_become : Cond.instanceMethod yX1_become ∈ TB := TB_in (List.mem_of_getElem? (i := 577) (by decide +kernel)) (by decide +kernel)
theorem se_X1_become : Cond.selects RX1 yX1_become yX1_become ∈ TB := TB_in (List.mem_of_getElem? (i := 578) (by decide +kernel)) (by decide +kernel)
theorem ml_X1_30 : Cond.methodLink RX1 30 yX0_become ∈ TB := TB_in (List.mem_of_getElem? (i := 580) (by decide +kernel)) (by decide +kernel)
theorem im_X0_become : Cond.instanceMethod yX0_become ∈ TB := TB_in (List.mem_of_getElem? (i := 581) (by decide +kernel)) (by decide +kernel)
theorem se_X0_become : Cond.selects RX0 yX0_become yX0_become ∈ TB := TB_in (List.mem_of_getElem? (i := 582) (by decide +kernel)) (by decide +kernel)
theorem ml_X0_28 : Cond.methodLink RX0 28 arraycopyName ∈ TB := TB_in (List.mem_of_getElem? (i := 584) (by decide +kernel)) (by decide +kernel)
theorem ml_X1_34 : Cond.methodLink RX1 34 yX4_become ∈ TB := TB_in (List.mem_of_getElem? (i := 585) (by decide +kernel)) (by decide +kernel)
theorem im_X4_become : Cond.instanceMethod yX4_become ∈ TB := TB_in (List.mem_of_getElem? (i := 586) (by decide +kernel)) (by decide +kernel)
theorem se_X4_become : Cond.selects RX4 yX4_become yX4_become ∈ TB := TB_in (List.mem_of_getElem? (i := 587) (by decide +kernel)) (by decide +kernel)
theorem ml_X4_22 : Cond.methodLink RX4 22 arraycopyName ∈ TB := TB_in (List.mem_of_getElem? (i := 589) (by decide +kernel)) (by decide +kernel)
theorem ml_X1_37 : Cond.methodLink RX1 37 yX5_become ∈ TB := TB_in (List.mem_of_getElem? (i := 590) (by decide +kernel)) (by decide +kernel)
theorem im_X5_become : Cond.instanceMethod yX5_become ∈ TB := TB_in (List.mem_of_getElem? (i := 591) (by decide +kernel)) (by decide +kernel)
theorem se_X5_become : Cond.selects RX5 yX5_become yX5_become ∈ TB := TB_in (List.mem_of_getElem? (i := 592) (by decide +kernel)) (by decide +kernel)
theorem ml_X5_22 : Cond.methodLink RX5 22 arraycopyName ∈ TB := TB_in (List.mem_of_getElem? (i := 594) (by decide +kernel)) (by decide +kernel)
theorem ml_L_150 : Cond.methodLink RL 150 yX6_restore ∈ TB := TB_in (List.mem_of_getElem? (i := 595) (by decide +kernel)) (by decide +kernel)
theorem im_X6_restore : Cond.instanceMethod yX6_restore ∈ TB := TB_in (List.mem_of_getElem? (i := 596) (by decide +kernel)) (by decide +kernel)
theorem se_X6_restore : Cond.selects RX6 yX6_restore yX6_restore ∈ TB := TB_in (List.mem_of_getElem? (i := 597) (by decide +kernel)) (by decide +kernel)
theorem ml_L_154 : Cond.methodLink RL 154 yX6_told ∈ TB := TB_in (List.mem_of_getElem? (i := 599) (by decide +kernel)) (by decide +kernel)
theorem im_X6_told : Cond.instanceMethod yX6_told ∈ TB := TB_in (List.mem_of_getElem? (i := 600) (by decide +kernel)) (by decide +kernel)
theorem se_X6_told : Cond.selects RX6 yX6_told yX6_told ∈ TB := TB_in (List.mem_of_getElem? (i := 601) (by decide +kernel)) (by decide +kernel)
theorem ml_X6_207 : Cond.methodLink RX6 207 yX6_toldOfPerson ∈ TB := TB_in (List.mem_of_getElem? (i := 603) (by decide +kernel)) (by decide +kernel)
theorem im_X6_toldOfPerson : Cond.instanceMethod yX6_toldOfPerson ∈ TB := TB_in (List.mem_of_getElem? (i := 605) (by decide +kernel)) (by decide +kernel)
theorem ml_X6_213 : Cond.methodLink RX6 213 yX0_birthOf ∈ TB := TB_in (List.mem_of_getElem? (i := 607) (by decide +kernel)) (by decide +kernel)
theorem im_X0_birthOf : Cond.instanceMethod yX0_birthOf ∈ TB := TB_in (List.mem_of_getElem? (i := 608) (by decide +kernel)) (by decide +kernel)
theorem se_X0_birthOf : Cond.selects RX0 yX0_birthOf yX0_birthOf ∈ TB := TB_in (List.mem_of_getElem? (i := 609) (by decide +kernel)) (by decide +kernel)
theorem ml_X6_216 : Cond.methodLink RX6 216 yX0_sizeOf ∈ TB := TB_in (List.mem_of_getElem? (i := 611) (by decide +kernel)) (by decide +kernel)
theorem im_X0_sizeOf : Cond.instanceMethod yX0_sizeOf ∈ TB := TB_in (List.mem_of_getElem? (i := 612) (by decide +kernel)) (by decide +kernel)
theorem se_X0_sizeOf : Cond.selects RX0 yX0_sizeOf yX0_sizeOf ∈ TB := TB_in (List.mem_of_getElem? (i := 613) (by decide +kernel)) (by decide +kernel)
theorem ml_X6_219 : Cond.methodLink RX6 219 yX0_dayAt ∈ TB := TB_in (List.mem_of_getElem? (i := 615) (by decide +kernel)) (by decide +kernel)
theorem im_X0_dayAt : Cond.instanceMethod yX0_dayAt ∈ TB := TB_in (List.mem_of_getElem? (i := 616) (by decide +kernel)) (by decide +kernel)
theorem se_X0_dayAt : Cond.selects RX0 yX0_dayAt yX0_dayAt ∈ TB := TB_in (List.mem_of_getElem? (i := 617) (by decide +kernel)) (by decide +kernel)
theorem ml_X6_210 : Cond.methodLink RX6 210 yX6_toldOfWork ∈ TB := TB_in (List.mem_of_getElem? (i := 619) (by decide +kernel)) (by decide +kernel)
theorem im_X6_toldOfWork : Cond.instanceMethod yX6_toldOfWork ∈ TB := TB_in (List.mem_of_getElem? (i := 621) (by decide +kernel)) (by decide +kernel)
theorem cl_L_10 : Cond.classLink RL 10 RX7 ∈ TB := TB_in (List.mem_of_getElem? (i := 623) (by decide +kernel)) (by decide +kernel)
theorem fn_L_10 : FN RL 10 7 14 tyX7 := ⟨RX7, TX7, rfl, in_X7, tyX7_ok, TB_in (List.mem_of_getElem? (i := 623) (by decide +kernel)) (by decide +kernel), TB_in (List.mem_of_getElem? (i := 624) (by decide +kernel)) (by decide +kernel), TB_in (List.mem_of_getElem? (i := 42) (by decide +kernel)) (by decide +kernel)⟩
theorem ml_L_12 : Cond.methodLink RL 12 yX7_init ∈ TB := TB_in (List.mem_of_getElem? (i := 625) (by decide +kernel)) (by decide +kernel)
theorem im_X7_init : Cond.instanceMethod yX7_init ∈ TB := TB_in (List.mem_of_getElem? (i := 626) (by decide +kernel)) (by decide +kernel)
theorem ml_X7_1 : Cond.methodLink RX7 1 objectInit ∈ TB := TB_in (List.mem_of_getElem? (i := 628) (by decide +kernel)) (by decide +kernel)
theorem fl_X7_41 : FL RX7 41 7 0 := ⟨RX7, TX7, 14, rfl, by decide, in_X7, TB_in (List.mem_of_getElem? (i := 629) (by decide +kernel)) (by decide +kernel)⟩
theorem fp_X7_41 : FP RX7 41 7 0 .int := ⟨RX7, TX7, 14, tyX7, rfl, by decide, in_X7, TB_in (List.mem_of_getElem? (i := 629) (by decide +kernel)) (by decide +kernel), tyX7_ok, nmX7, rfl, by decide +kernel⟩
theorem fl_X7_7 : FL RX7 7 7 1 := ⟨RX7, TX7, 14, rfl, by decide, in_X7, TB_in (List.mem_of_getElem? (i := 630) (by decide +kernel)) (by decide +kernel)⟩
theorem fq_X7_7 : FPF RX7 7 7 1 (.array .int) := ⟨RX7, TX7, 14, tyX7, rfl, by decide, in_X7, TB_in (List.mem_of_getElem? (i := 630) (by decide +kernel)) (by decide +kernel), tyX7_ok, nmX7, rfl, rfl, by decide +kernel⟩
theorem fl_X7_13 : FL RX7 13 7 2 := ⟨RX7, TX7, 14, rfl, by decide, in_X7, TB_in (List.mem_of_getElem? (i := 631) (by decide +kernel)) (by decide +kernel)⟩
theorem fq_X7_13 : FPF RX7 13 7 2 (.array .int) := ⟨RX7, TX7, 14, tyX7, rfl, by decide, in_X7, TB_in (List.mem_of_getElem? (i := 631) (by decide +kernel)) (by decide +kernel), tyX7_ok, nmX7, rfl, rfl, by decide +kernel⟩
theorem fl_X7_16 : FL RX7 16 7 3 := ⟨RX7, TX7, 14, rfl, by decide, in_X7, TB_in (List.mem_of_getElem? (i := 632) (by decide +kernel)) (by decide +kernel)⟩
theorem fq_X7_16 : FPF RX7 16 7 3 (.array .int) := ⟨RX7, TX7, 14, tyX7, rfl, by decide, in_X7, TB_in (List.mem_of_getElem? (i := 632) (by decide +kernel)) (by decide +kernel), tyX7_ok, nmX7, rfl, rfl, by decide +kernel⟩
theorem fl_X7_74 : FL RX7 74 7 4 := ⟨RX7, TX7, 14, rfl, by decide, in_X7, TB_in (List.mem_of_getElem? (i := 633) (by decide +kernel)) (by decide +kernel)⟩
theorem fp_X7_74 : FP RX7 74 7 4 .int := ⟨RX7, TX7, 14, tyX7, rfl, by decide, in_X7, TB_in (List.mem_of_getElem? (i := 633) (by decide +kernel)) (by decide +kernel), tyX7_ok, nmX7, rfl, by decide +kernel⟩
theorem fl_X7_19 : FL RX7 19 7 5 := ⟨RX7, TX7, 14, rfl, by decide, in_X7, TB_in (List.mem_of_getElem? (i := 634) (by decide +kernel)) (by decide +kernel)⟩
theorem fq_X7_19 : FPF RX7 19 7 5 (.array .int) := ⟨RX7, TX7, 14, tyX7, rfl, by decide, in_X7, TB_in (List.mem_of_getElem? (i := 634) (by decide +kernel)) (by decide +kernel), tyX7_ok, nmX7, rfl, rfl, by decide +kernel⟩
theorem fl_X7_22 : FL RX7 22 7 6 := ⟨RX7, TX7, 14, rfl, by decide, in_X7, TB_in (List.mem_of_getElem? (i := 635) (by decide +kernel)) (by decide +kernel)⟩
theorem fq_X7_22 : FPF RX7 22 7 6 (.array .int) := ⟨RX7, TX7, 14, tyX7, rfl, by decide, in_X7, TB_in (List.mem_of_getElem? (i := 635) (by decide +kernel)) (by decide +kernel), tyX7_ok, nmX7, rfl, rfl, by decide +kernel⟩
theorem fl_X7_128 : FL RX7 128 7 7 := ⟨RX7, TX7, 14, rfl, by decide, in_X7, TB_in (List.mem_of_getElem? (i := 636) (by decide +kernel)) (by decide +kernel)⟩
theorem fp_X7_128 : FP RX7 128 7 7 .int := ⟨RX7, TX7, 14, tyX7, rfl, by decide, in_X7, TB_in (List.mem_of_getElem? (i := 636) (by decide +kernel)) (by decide +kernel), tyX7_ok, nmX7, rfl, by decide +kernel⟩
theorem fl_X7_25 : FL RX7 25 7 8 := ⟨RX7, TX7, 14, rfl, by decide, in_X7, TB_in (List.mem_of_getElem? (i := 637) (by decide +kernel)) (by decide +kernel)⟩
theorem fq_X7_25 : FPF RX7 25 7 8 (.array .int) := ⟨RX7, TX7, 14, tyX7, rfl, by decide, in_X7, TB_in (List.mem_of_getElem? (i := 637) (by decide +kernel)) (by decide +kernel), tyX7_ok, nmX7, rfl, rfl, by decide +kernel⟩
theorem fl_X7_53 : FL RX7 53 7 9 := ⟨RX7, TX7, 14, rfl, by decide, in_X7, TB_in (List.mem_of_getElem? (i := 638) (by decide +kernel)) (by decide +kernel)⟩
theorem fp_X7_53 : FP RX7 53 7 9 .int := ⟨RX7, TX7, 14, tyX7, rfl, by decide, in_X7, TB_in (List.mem_of_getElem? (i := 638) (by decide +kernel)) (by decide +kernel), tyX7_ok, nmX7, rfl, by decide +kernel⟩
theorem fl_X7_28 : FL RX7 28 7 10 := ⟨RX7, TX7, 14, rfl, by decide, in_X7, TB_in (List.mem_of_getElem? (i := 639) (by decide +kernel)) (by decide +kernel)⟩
theorem fq_X7_28 : FPF RX7 28 7 10 (.array .int) := ⟨RX7, TX7, 14, tyX7, rfl, by decide, in_X7, TB_in (List.mem_of_getElem? (i := 639) (by decide +kernel)) (by decide +kernel), tyX7_ok, nmX7, rfl, rfl, by decide +kernel⟩
theorem fl_X7_31 : FL RX7 31 7 11 := ⟨RX7, TX7, 14, rfl, by decide, in_X7, TB_in (List.mem_of_getElem? (i := 640) (by decide +kernel)) (by decide +kernel)⟩
theorem fq_X7_31 : FPF RX7 31 7 11 (.array .int) := ⟨RX7, TX7, 14, tyX7, rfl, by decide, in_X7, TB_in (List.mem_of_getElem? (i := 640) (by decide +kernel)) (by decide +kernel), tyX7_ok, nmX7, rfl, rfl, by decide +kernel⟩
theorem fl_X7_34 : FL RX7 34 7 12 := ⟨RX7, TX7, 14, rfl, by decide, in_X7, TB_in (List.mem_of_getElem? (i := 641) (by decide +kernel)) (by decide +kernel)⟩
theorem fq_X7_34 : FPF RX7 34 7 12 (.array .int) := ⟨RX7, TX7, 14, tyX7, rfl, by decide, in_X7, TB_in (List.mem_of_getElem? (i := 641) (by decide +kernel)) (by decide +kernel), tyX7_ok, nmX7, rfl, rfl, by decide +kernel⟩
theorem fl_X7_37 : FL RX7 37 7 13 := ⟨RX7, TX7, 14, rfl, by decide, in_X7, TB_in (List.mem_of_getElem? (i := 642) (by decide +kernel)) (by decide +kernel)⟩
theorem fq_X7_37 : FPF RX7 37 7 13 (.array .boolean) := ⟨RX7, TX7, 14, tyX7, rfl, by decide, in_X7, TB_in (List.mem_of_getElem? (i := 642) (by decide +kernel)) (by decide +kernel), tyX7_ok, nmX7, rfl, rfl, by decide +kernel⟩
theorem ac_boolean : Cond.arrayClass .boolean ∈ TB := TB_in (List.mem_of_getElem? (i := 672) (by decide +kernel)) (by decide +kernel)
theorem ml_L_17 : Cond.methodLink RL 17 yX7_say ∈ TB := TB_in (List.mem_of_getElem? (i := 673) (by decide +kernel)) (by decide +kernel)
theorem im_X7_say : Cond.instanceMethod yX7_say ∈ TB := TB_in (List.mem_of_getElem? (i := 674) (by decide +kernel)) (by decide +kernel)
theorem se_X7_say : Cond.selects RX7 yX7_say yX7_say ∈ TB := TB_in (List.mem_of_getElem? (i := 675) (by decide +kernel)) (by decide +kernel)
theorem ml_X7_45 : Cond.methodLink RX7 45 yX7_in ∈ TB := TB_in (List.mem_of_getElem? (i := 677) (by decide +kernel)) (by decide +kernel)
theorem sm_X7_in : Cond.static yX7_in ∈ TB := TB_in (List.mem_of_getElem? (i := 678) (by decide +kernel)) (by decide +kernel)
theorem ml_L_22 : Cond.methodLink RL 22 yX7_wipe ∈ TB := TB_in (List.mem_of_getElem? (i := 680) (by decide +kernel)) (by decide +kernel)
theorem im_X7_wipe : Cond.instanceMethod yX7_wipe ∈ TB := TB_in (List.mem_of_getElem? (i := 681) (by decide +kernel)) (by decide +kernel)
theorem se_X7_wipe : Cond.selects RX7 yX7_wipe yX7_wipe ∈ TB := TB_in (List.mem_of_getElem? (i := 682) (by decide +kernel)) (by decide +kernel)
theorem ml_L_26 : Cond.methodLink RL 26 yX7_fault ∈ TB := TB_in (List.mem_of_getElem? (i := 684) (by decide +kernel)) (by decide +kernel)
theorem im_X7_fault : Cond.instanceMethod yX7_fault ∈ TB := TB_in (List.mem_of_getElem? (i := 685) (by decide +kernel)) (by decide +kernel)
theorem se_X7_fault : Cond.selects RX7 yX7_fault yX7_fault ∈ TB := TB_in (List.mem_of_getElem? (i := 686) (by decide +kernel)) (by decide +kernel)
theorem ml_X7_60 : Cond.methodLink RX7 60 yX7_orderFault ∈ TB := TB_in (List.mem_of_getElem? (i := 688) (by decide +kernel)) (by decide +kernel)
theorem im_X7_orderFault : Cond.instanceMethod yX7_orderFault ∈ TB := TB_in (List.mem_of_getElem? (i := 690) (by decide +kernel)) (by decide +kernel)
theorem ml_X7_56 : Cond.methodLink RX7 56 yX7_isDay ∈ TB := TB_in (List.mem_of_getElem? (i := 692) (by decide +kernel)) (by decide +kernel)
theorem sm_X7_isDay : Cond.static yX7_isDay ∈ TB := TB_in (List.mem_of_getElem? (i := 693) (by decide +kernel)) (by decide +kernel)
theorem ml_X7_49 : Cond.methodLink RX7 49 yX7_has ∈ TB := TB_in (List.mem_of_getElem? (i := 695) (by decide +kernel)) (by decide +kernel)
theorem sm_X7_has : Cond.static yX7_has ∈ TB := TB_in (List.mem_of_getElem? (i := 696) (by decide +kernel)) (by decide +kernel)
theorem ml_X7_64 : Cond.methodLink RX7 64 yX7_planFault ∈ TB := TB_in (List.mem_of_getElem? (i := 698) (by decide +kernel)) (by decide +kernel)
theorem im_X7_planFault : Cond.instanceMethod yX7_planFault ∈ TB := TB_in (List.mem_of_getElem? (i := 700) (by decide +kernel)) (by decide +kernel)
theorem ml_L_31 : Cond.methodLink RL 31 yX7_born ∈ TB := TB_in (List.mem_of_getElem? (i := 702) (by decide +kernel)) (by decide +kernel)
theorem im_X7_born : Cond.instanceMethod yX7_born ∈ TB := TB_in (List.mem_of_getElem? (i := 703) (by decide +kernel)) (by decide +kernel)
theorem se_X7_born : Cond.selects RX7 yX7_born yX7_born ∈ TB := TB_in (List.mem_of_getElem? (i := 704) (by decide +kernel)) (by decide +kernel)
theorem ml_L_35 : Cond.methodLink RL 35 yX7_exile ∈ TB := TB_in (List.mem_of_getElem? (i := 706) (by decide +kernel)) (by decide +kernel)
theorem im_X7_exile : Cond.instanceMethod yX7_exile ∈ TB := TB_in (List.mem_of_getElem? (i := 707) (by decide +kernel)) (by decide +kernel)
theorem se_X7_exile : Cond.selects RX7 yX7_exile yX7_exile ∈ TB := TB_in (List.mem_of_getElem? (i := 708) (by decide +kernel)) (by decide +kernel)
theorem ml_X7_67 : Cond.methodLink RX7 67 yX7_isThere ∈ TB := TB_in (List.mem_of_getElem? (i := 710) (by decide +kernel)) (by decide +kernel)
theorem im_X7_isThere : Cond.instanceMethod yX7_isThere ∈ TB := TB_in (List.mem_of_getElem? (i := 712) (by decide +kernel)) (by decide +kernel)
theorem ml_X7_70 : Cond.methodLink RX7 70 yX7_bits ∈ TB := TB_in (List.mem_of_getElem? (i := 714) (by decide +kernel)) (by decide +kernel)
theorem sm_X7_bits : Cond.static yX7_bits ∈ TB := TB_in (List.mem_of_getElem? (i := 715) (by decide +kernel)) (by decide +kernel)
theorem ml_L_39 : Cond.methodLink RL 39 yX7_plan ∈ TB := TB_in (List.mem_of_getElem? (i := 717) (by decide +kernel)) (by decide +kernel)
theorem im_X7_plan : Cond.instanceMethod yX7_plan ∈ TB := TB_in (List.mem_of_getElem? (i := 718) (by decide +kernel)) (by decide +kernel)
theorem se_X7_plan : Cond.selects RX7 yX7_plan yX7_plan ∈ TB := TB_in (List.mem_of_getElem? (i := 719) (by decide +kernel)) (by decide +kernel)
theorem ml_L_43 : Cond.methodLink RL 43 yX7_today ∈ TB := TB_in (List.mem_of_getElem? (i := 721) (by decide +kernel)) (by decide +kernel)
theorem im_X7_today : Cond.instanceMethod yX7_today ∈ TB := TB_in (List.mem_of_getElem? (i := 722) (by decide +kernel)) (by decide +kernel)
theorem se_X7_today : Cond.selects RX7 yX7_today yX7_today ∈ TB := TB_in (List.mem_of_getElem? (i := 723) (by decide +kernel)) (by decide +kernel)
theorem ml_X7_77 : Cond.methodLink RX7 77 yX7_isDate ∈ TB := TB_in (List.mem_of_getElem? (i := 725) (by decide +kernel)) (by decide +kernel)
theorem sm_X7_isDate : Cond.static yX7_isDate ∈ TB := TB_in (List.mem_of_getElem? (i := 726) (by decide +kernel)) (by decide +kernel)
theorem ml_X7_80 : Cond.methodLink RX7 80 yX7_dayOf ∈ TB := TB_in (List.mem_of_getElem? (i := 728) (by decide +kernel)) (by decide +kernel)
theorem im_X7_dayOf : Cond.instanceMethod yX7_dayOf ∈ TB := TB_in (List.mem_of_getElem? (i := 730) (by decide +kernel)) (by decide +kernel)
theorem ml_L_47 : Cond.methodLink RL 47 yX7_same ∈ TB := TB_in (List.mem_of_getElem? (i := 732) (by decide +kernel)) (by decide +kernel)
theorem im_X7_same : Cond.instanceMethod yX7_same ∈ TB := TB_in (List.mem_of_getElem? (i := 733) (by decide +kernel)) (by decide +kernel)
theorem se_X7_same : Cond.selects RX7 yX7_same yX7_same ∈ TB := TB_in (List.mem_of_getElem? (i := 734) (by decide +kernel)) (by decide +kernel)
theorem ml_X7_84 : Cond.methodLink RX7 84 yX7_having ∈ TB := TB_in (List.mem_of_getElem? (i := 736) (by decide +kernel)) (by decide +kernel)
theorem im_X7_having : Cond.instanceMethod yX7_having ∈ TB := TB_in (List.mem_of_getElem? (i := 738) (by decide +kernel)) (by decide +kernel)
theorem ml_L_52 : Cond.methodLink RL 52 yX7_next ∈ TB := TB_in (List.mem_of_getElem? (i := 740) (by decide +kernel)) (by decide +kernel)
theorem im_X7_next : Cond.instanceMethod yX7_next ∈ TB := TB_in (List.mem_of_getElem? (i := 741) (by decide +kernel)) (by decide +kernel)
theorem se_X7_next : Cond.selects RX7 yX7_next yX7_next ∈ TB := TB_in (List.mem_of_getElem? (i := 742) (by decide +kernel)) (by decide +kernel)
theorem ml_L_56 : Cond.methodLink RL 56 yX7_meet ∈ TB := TB_in (List.mem_of_getElem? (i := 744) (by decide +kernel)) (by decide +kernel)
theorem im_X7_meet : Cond.instanceMethod yX7_meet ∈ TB := TB_in (List.mem_of_getElem? (i := 745) (by decide +kernel)) (by decide +kernel)
theorem se_X7_meet : Cond.selects RX7 yX7_meet yX7_meet ∈ TB := TB_in (List.mem_of_getElem? (i := 746) (by decide +kernel)) (by decide +kernel)
theorem ml_X7_88 : Cond.methodLink RX7 88 yX7_areThere ∈ TB := TB_in (List.mem_of_getElem? (i := 748) (by decide +kernel)) (by decide +kernel)
theorem im_X7_areThere : Cond.instanceMethod yX7_areThere ∈ TB := TB_in (List.mem_of_getElem? (i := 750) (by decide +kernel)) (by decide +kernel)
theorem ml_X7_91 : Cond.methodLink RX7 91 yX7_oneDay ∈ TB := TB_in (List.mem_of_getElem? (i := 752) (by decide +kernel)) (by decide +kernel)
theorem im_X7_oneDay : Cond.instanceMethod yX7_oneDay ∈ TB := TB_in (List.mem_of_getElem? (i := 754) (by decide +kernel)) (by decide +kernel)
theorem ml_L_60 : Cond.methodLink RL 60 yX7_shared ∈ TB := TB_in (List.mem_of_getElem? (i := 756) (by decide +kernel)) (by decide +kernel)
theorem im_X7_shared : Cond.instanceMethod yX7_shared ∈ TB := TB_in (List.mem_of_getElem? (i := 757) (by decide +kernel)) (by decide +kernel)
theorem se_X7_shared : Cond.selects RX7 yX7_shared yX7_shared ∈ TB := TB_in (List.mem_of_getElem? (i := 758) (by decide +kernel)) (by decide +kernel)
theorem ml_X7_94 : Cond.methodLink RX7 94 yX7_sharedBy ∈ TB := TB_in (List.mem_of_getElem? (i := 760) (by decide +kernel)) (by decide +kernel)
theorem im_X7_sharedBy : Cond.instanceMethod yX7_sharedBy ∈ TB := TB_in (List.mem_of_getElem? (i := 762) (by decide +kernel)) (by decide +kernel)
theorem ml_L_64 : Cond.methodLink RL 64 yX7_never ∈ TB := TB_in (List.mem_of_getElem? (i := 764) (by decide +kernel)) (by decide +kernel)
theorem im_X7_never : Cond.instanceMethod yX7_never ∈ TB := TB_in (List.mem_of_getElem? (i := 765) (by decide +kernel)) (by decide +kernel)
theorem se_X7_never : Cond.selects RX7 yX7_never yX7_never ∈ TB := TB_in (List.mem_of_getElem? (i := 766) (by decide +kernel)) (by decide +kernel)
theorem ml_L_68 : Cond.methodLink RL 68 yX7_market ∈ TB := TB_in (List.mem_of_getElem? (i := 768) (by decide +kernel)) (by decide +kernel)
theorem im_X7_market : Cond.instanceMethod yX7_market ∈ TB := TB_in (List.mem_of_getElem? (i := 769) (by decide +kernel)) (by decide +kernel)
theorem se_X7_market : Cond.selects RX7 yX7_market yX7_market ∈ TB := TB_in (List.mem_of_getElem? (i := 770) (by decide +kernel)) (by decide +kernel)
theorem ml_L_72 : Cond.methodLink RL 72 yX7_can ∈ TB := TB_in (List.mem_of_getElem? (i := 772) (by decide +kernel)) (by decide +kernel)
theorem im_X7_can : Cond.instanceMethod yX7_can ∈ TB := TB_in (List.mem_of_getElem? (i := 773) (by decide +kernel)) (by decide +kernel)
theorem se_X7_can : Cond.selects RX7 yX7_can yX7_can ∈ TB := TB_in (List.mem_of_getElem? (i := 774) (by decide +kernel)) (by decide +kernel)
theorem ml_X7_97 : Cond.methodLink RX7 97 yX7_isWork ∈ TB := TB_in (List.mem_of_getElem? (i := 776) (by decide +kernel)) (by decide +kernel)
theorem im_X7_isWork : Cond.instanceMethod yX7_isWork ∈ TB := TB_in (List.mem_of_getElem? (i := 778) (by decide +kernel)) (by decide +kernel)
theorem ml_X7_100 : Cond.methodLink RX7 100 yX7_canBe ∈ TB := TB_in (List.mem_of_getElem? (i := 780) (by decide +kernel)) (by decide +kernel)
theorem im_X7_canBe : Cond.instanceMethod yX7_canBe ∈ TB := TB_in (List.mem_of_getElem? (i := 782) (by decide +kernel)) (by decide +kernel)
theorem ml_L_76 : Cond.methodLink RL 76 yX7_month ∈ TB := TB_in (List.mem_of_getElem? (i := 784) (by decide +kernel)) (by decide +kernel)
theorem im_X7_month : Cond.instanceMethod yX7_month ∈ TB := TB_in (List.mem_of_getElem? (i := 785) (by decide +kernel)) (by decide +kernel)
theorem se_X7_month : Cond.selects RX7 yX7_month yX7_month ∈ TB := TB_in (List.mem_of_getElem? (i := 786) (by decide +kernel)) (by decide +kernel)
theorem ml_X7_106 : Cond.methodLink RX7 106 yX7_canMonth ∈ TB := TB_in (List.mem_of_getElem? (i := 788) (by decide +kernel)) (by decide +kernel)
theorem im_X7_canMonth : Cond.instanceMethod yX7_canMonth ∈ TB := TB_in (List.mem_of_getElem? (i := 790) (by decide +kernel)) (by decide +kernel)
theorem ml_X7_103 : Cond.methodLink RX7 103 yX7_fitsAhead ∈ TB := TB_in (List.mem_of_getElem? (i := 792) (by decide +kernel)) (by decide +kernel)
theorem im_X7_fitsAhead : Cond.instanceMethod yX7_fitsAhead ∈ TB := TB_in (List.mem_of_getElem? (i := 794) (by decide +kernel)) (by decide +kernel)
theorem ml_L_80 : Cond.methodLink RL 80 yX7_barred ∈ TB := TB_in (List.mem_of_getElem? (i := 796) (by decide +kernel)) (by decide +kernel)
theorem im_X7_barred : Cond.instanceMethod yX7_barred ∈ TB := TB_in (List.mem_of_getElem? (i := 797) (by decide +kernel)) (by decide +kernel)
theorem se_X7_barred : Cond.selects RX7 yX7_barred yX7_barred ∈ TB := TB_in (List.mem_of_getElem? (i := 798) (by decide +kernel)) (by decide +kernel)
theorem ml_X7_109 : Cond.methodLink RX7 109 yX7_isBarred ∈ TB := TB_in (List.mem_of_getElem? (i := 800) (by decide +kernel)) (by decide +kernel)
theorem im_X7_isBarred : Cond.instanceMethod yX7_isBarred ∈ TB := TB_in (List.mem_of_getElem? (i := 802) (by decide +kernel)) (by decide +kernel)
theorem ml_L_84 : Cond.methodLink RL 84 yX7_why ∈ TB := TB_in (List.mem_of_getElem? (i := 804) (by decide +kernel)) (by decide +kernel)
theorem im_X7_why : Cond.instanceMethod yX7_why ∈ TB := TB_in (List.mem_of_getElem? (i := 805) (by decide +kernel)) (by decide +kernel)
theorem se_X7_why : Cond.selects RX7 yX7_why yX7_why ∈ TB := TB_in (List.mem_of_getElem? (i := 806) (by decide +kernel)) (by decide +kernel)
theorem ml_X7_112 : Cond.methodLink RX7 112 yX7_haveAtOnce ∈ TB := TB_in (List.mem_of_getElem? (i := 808) (by decide +kernel)) (by decide +kernel)
theorem im_X7_haveAtOnce : Cond.instanceMethod yX7_haveAtOnce ∈ TB := TB_in (List.mem_of_getElem? (i := 810) (by decide +kernel)) (by decide +kernel)
theorem ml_L_88 : Cond.methodLink RL 88 yX7_common ∈ TB := TB_in (List.mem_of_getElem? (i := 812) (by decide +kernel)) (by decide +kernel)
theorem im_X7_common : Cond.instanceMethod yX7_common ∈ TB := TB_in (List.mem_of_getElem? (i := 813) (by decide +kernel)) (by decide +kernel)
theorem se_X7_common : Cond.selects RX7 yX7_common yX7_common ∈ TB := TB_in (List.mem_of_getElem? (i := 814) (by decide +kernel)) (by decide +kernel)
theorem ct_X7_115 : Cond.constant RX7 115 (zI 1000000) ∈ TB := TB_in (List.mem_of_getElem? (i := 816) (by decide +kernel)) (by decide +kernel)
theorem ml_L_92 : Cond.methodLink RL 92 yX7_wedding ∈ TB := TB_in (List.mem_of_getElem? (i := 817) (by decide +kernel)) (by decide +kernel)
theorem im_X7_wedding : Cond.instanceMethod yX7_wedding ∈ TB := TB_in (List.mem_of_getElem? (i := 818) (by decide +kernel)) (by decide +kernel)
theorem se_X7_wedding : Cond.selects RX7 yX7_wedding yX7_wedding ∈ TB := TB_in (List.mem_of_getElem? (i := 819) (by decide +kernel)) (by decide +kernel)
theorem ml_X7_116 : Cond.methodLink RX7 116 yX7_costOf ∈ TB := TB_in (List.mem_of_getElem? (i := 821) (by decide +kernel)) (by decide +kernel)
theorem im_X7_costOf : Cond.instanceMethod yX7_costOf ∈ TB := TB_in (List.mem_of_getElem? (i := 823) (by decide +kernel)) (by decide +kernel)
theorem ml_L_96 : Cond.methodLink RL 96 yX7_best ∈ TB := TB_in (List.mem_of_getElem? (i := 825) (by decide +kernel)) (by decide +kernel)
theorem im_X7_best : Cond.instanceMethod yX7_best ∈ TB := TB_in (List.mem_of_getElem? (i := 826) (by decide +kernel)) (by decide +kernel)
theorem se_X7_best : Cond.selects RX7 yX7_best yX7_best ∈ TB := TB_in (List.mem_of_getElem? (i := 827) (by decide +kernel)) (by decide +kernel)
theorem ml_X7_119 : Cond.methodLink RX7 119 yX7_turned ∈ TB := TB_in (List.mem_of_getElem? (i := 829) (by decide +kernel)) (by decide +kernel)
theorem sm_X7_turned : Cond.static yX7_turned ∈ TB := TB_in (List.mem_of_getElem? (i := 830) (by decide +kernel)) (by decide +kernel)
theorem ml_L_100 : Cond.methodLink RL 100 yX7_feast ∈ TB := TB_in (List.mem_of_getElem? (i := 832) (by decide +kernel)) (by decide +kernel)
theorem im_X7_feast : Cond.instanceMethod yX7_feast ∈ TB := TB_in (List.mem_of_getElem? (i := 833) (by decide +kernel)) (by decide +kernel)
theorem se_X7_feast : Cond.selects RX7 yX7_feast yX7_feast ∈ TB := TB_in (List.mem_of_getElem? (i := 834) (by decide +kernel)) (by decide +kernel)
theorem ml_X7_122 : Cond.methodLink RX7 122 yX7_feastOn ∈ TB := TB_in (List.mem_of_getElem? (i := 836) (by decide +kernel)) (by decide +kernel)
theorem im_X7_feastOn : Cond.instanceMethod yX7_feastOn ∈ TB := TB_in (List.mem_of_getElem? (i := 838) (by decide +kernel)) (by decide +kernel)
theorem ml_L_104 : Cond.methodLink RL 104 yX7_feasts ∈ TB := TB_in (List.mem_of_getElem? (i := 840) (by decide +kernel)) (by decide +kernel)
theorem im_X7_feasts : Cond.instanceMethod yX7_feasts ∈ TB := TB_in (List.mem_of_getElem? (i := 841) (by decide +kernel)) (by decide +kernel)
theorem se_X7_feasts : Cond.selects RX7 yX7_feasts yX7_feasts ∈ TB := TB_in (List.mem_of_getElem? (i := 842) (by decide +kernel)) (by decide +kernel)
theorem ml_L_108 : Cond.methodLink RL 108 yX7_poor ∈ TB := TB_in (List.mem_of_getElem? (i := 844) (by decide +kernel)) (by decide +kernel)
theorem im_X7_poor : Cond.instanceMethod yX7_poor ∈ TB := TB_in (List.mem_of_getElem? (i := 845) (by decide +kernel)) (by decide +kernel)
theorem se_X7_poor : Cond.selects RX7 yX7_poor yX7_poor ∈ TB := TB_in (List.mem_of_getElem? (i := 846) (by decide +kernel)) (by decide +kernel)
theorem ml_L_112 : Cond.methodLink RL 112 yX7_twins ∈ TB := TB_in (List.mem_of_getElem? (i := 848) (by decide +kernel)) (by decide +kernel)
theorem im_X7_twins : Cond.instanceMethod yX7_twins ∈ TB := TB_in (List.mem_of_getElem? (i := 849) (by decide +kernel)) (by decide +kernel)
theorem se_X7_twins : Cond.selects RX7 yX7_twins yX7_twins ∈ TB := TB_in (List.mem_of_getElem? (i := 850) (by decide +kernel)) (by decide +kernel)
theorem ml_X7_125 : Cond.methodLink RX7 125 yX7_goesWith ∈ TB := TB_in (List.mem_of_getElem? (i := 852) (by decide +kernel)) (by decide +kernel)
theorem im_X7_goesWith : Cond.instanceMethod yX7_goesWith ∈ TB := TB_in (List.mem_of_getElem? (i := 854) (by decide +kernel)) (by decide +kernel)
theorem ml_L_116 : Cond.methodLink RL 116 yX7_oneOrder ∈ TB := TB_in (List.mem_of_getElem? (i := 856) (by decide +kernel)) (by decide +kernel)
theorem im_X7_oneOrder : Cond.instanceMethod yX7_oneOrder ∈ TB := TB_in (List.mem_of_getElem? (i := 857) (by decide +kernel)) (by decide +kernel)
theorem se_X7_oneOrder : Cond.selects RX7 yX7_oneOrder yX7_oneOrder ∈ TB := TB_in (List.mem_of_getElem? (i := 858) (by decide +kernel)) (by decide +kernel)
theorem ml_L_120 : Cond.methodLink RL 120 yX7_seen ∈ TB := TB_in (List.mem_of_getElem? (i := 860) (by decide +kernel)) (by decide +kernel)
theorem im_X7_seen : Cond.instanceMethod yX7_seen ∈ TB := TB_in (List.mem_of_getElem? (i := 861) (by decide +kernel)) (by decide +kernel)
theorem se_X7_seen : Cond.selects RX7 yX7_seen yX7_seen ∈ TB := TB_in (List.mem_of_getElem? (i := 862) (by decide +kernel)) (by decide +kernel)
theorem ml_L_124 : Cond.methodLink RL 124 yX7_forget ∈ TB := TB_in (List.mem_of_getElem? (i := 864) (by decide +kernel)) (by decide +kernel)
theorem im_X7_forget : Cond.instanceMethod yX7_forget ∈ TB := TB_in (List.mem_of_getElem? (i := 865) (by decide +kernel)) (by decide +kernel)
theorem se_X7_forget : Cond.selects RX7 yX7_forget yX7_forget ∈ TB := TB_in (List.mem_of_getElem? (i := 866) (by decide +kernel)) (by decide +kernel)
theorem ml_L_128 : Cond.methodLink RL 128 yX7_whose ∈ TB := TB_in (List.mem_of_getElem? (i := 868) (by decide +kernel)) (by decide +kernel)
theorem im_X7_whose : Cond.instanceMethod yX7_whose ∈ TB := TB_in (List.mem_of_getElem? (i := 869) (by decide +kernel)) (by decide +kernel)
theorem se_X7_whose : Cond.selects RX7 yX7_whose yX7_whose ∈ TB := TB_in (List.mem_of_getElem? (i := 870) (by decide +kernel)) (by decide +kernel)
theorem ml_X7_131 : Cond.methodLink RX7 131 yX7_isWell ∈ TB := TB_in (List.mem_of_getElem? (i := 872) (by decide +kernel)) (by decide +kernel)
theorem im_X7_isWell : Cond.instanceMethod yX7_isWell ∈ TB := TB_in (List.mem_of_getElem? (i := 874) (by decide +kernel)) (by decide +kernel)
theorem ml_L_132 : Cond.methodLink RL 132 yX7_sure ∈ TB := TB_in (List.mem_of_getElem? (i := 876) (by decide +kernel)) (by decide +kernel)
theorem im_X7_sure : Cond.instanceMethod yX7_sure ∈ TB := TB_in (List.mem_of_getElem? (i := 877) (by decide +kernel)) (by decide +kernel)
theorem se_X7_sure : Cond.selects RX7 yX7_sure yX7_sure ∈ TB := TB_in (List.mem_of_getElem? (i := 878) (by decide +kernel)) (by decide +kernel)
theorem ml_L_137 : Cond.methodLink RL 137 yX7_chance ∈ TB := TB_in (List.mem_of_getElem? (i := 880) (by decide +kernel)) (by decide +kernel)
theorem im_X7_chance : Cond.instanceMethod yX7_chance ∈ TB := TB_in (List.mem_of_getElem? (i := 881) (by decide +kernel)) (by decide +kernel)
theorem se_X7_chance : Cond.selects RX7 yX7_chance yX7_chance ∈ TB := TB_in (List.mem_of_getElem? (i := 882) (by decide +kernel)) (by decide +kernel)
theorem ct_X7_134 : Cond.constantLong RX7 134 (-1000000000000000001) ∈ TB := TB_in (List.mem_of_getElem? (i := 884) (by decide +kernel)) (by decide +kernel)
theorem ml_X7_136 : Cond.methodLink RX7 136 yX7_newly ∈ TB := TB_in (List.mem_of_getElem? (i := 885) (by decide +kernel)) (by decide +kernel)
theorem sm_X7_newly : Cond.static yX7_newly ∈ TB := TB_in (List.mem_of_getElem? (i := 886) (by decide +kernel)) (by decide +kernel)
theorem ct_X7_140 : Cond.constantLong RX7 140 (-1000000000000000002) ∈ TB := TB_in (List.mem_of_getElem? (i := 888) (by decide +kernel)) (by decide +kernel)
theorem ml_L_141 : Cond.methodLink RL 141 yX7_shares ∈ TB := TB_in (List.mem_of_getElem? (i := 889) (by decide +kernel)) (by decide +kernel)
theorem im_X7_shares : Cond.instanceMethod yX7_shares ∈ TB := TB_in (List.mem_of_getElem? (i := 890) (by decide +kernel)) (by decide +kernel)
theorem se_X7_shares : Cond.selects RX7 yX7_shares yX7_shares ∈ TB := TB_in (List.mem_of_getElem? (i := 891) (by decide +kernel)) (by decide +kernel)
theorem ml_L_145 : Cond.methodLink RL 145 yX7_year ∈ TB := TB_in (List.mem_of_getElem? (i := 893) (by decide +kernel)) (by decide +kernel)
theorem im_X7_year : Cond.instanceMethod yX7_year ∈ TB := TB_in (List.mem_of_getElem? (i := 894) (by decide +kernel)) (by decide +kernel)
theorem se_X7_year : Cond.selects RX7 yX7_year yX7_year ∈ TB := TB_in (List.mem_of_getElem? (i := 895) (by decide +kernel)) (by decide +kernel)
theorem ct_X7_142 : Cond.constant RX7 142 (zI 65537) ∈ TB := TB_in (List.mem_of_getElem? (i := 897) (by decide +kernel)) (by decide +kernel)
theorem ml_L_149 : Cond.methodLink RL 149 yX7_image ∈ TB := TB_in (List.mem_of_getElem? (i := 898) (by decide +kernel)) (by decide +kernel)
theorem im_X7_image : Cond.instanceMethod yX7_image ∈ TB := TB_in (List.mem_of_getElem? (i := 899) (by decide +kernel)) (by decide +kernel)
theorem se_X7_image : Cond.selects RX7 yX7_image yX7_image ∈ TB := TB_in (List.mem_of_getElem? (i := 900) (by decide +kernel)) (by decide +kernel)
theorem ml_L_153 : Cond.methodLink RL 153 yX7_restore ∈ TB := TB_in (List.mem_of_getElem? (i := 902) (by decide +kernel)) (by decide +kernel)
theorem im_X7_restore : Cond.instanceMethod yX7_restore ∈ TB := TB_in (List.mem_of_getElem? (i := 903) (by decide +kernel)) (by decide +kernel)
theorem se_X7_restore : Cond.selects RX7 yX7_restore yX7_restore ∈ TB := TB_in (List.mem_of_getElem? (i := 904) (by decide +kernel)) (by decide +kernel)
theorem ml_L_157 : Cond.methodLink RL 157 yX7_told ∈ TB := TB_in (List.mem_of_getElem? (i := 906) (by decide +kernel)) (by decide +kernel)
theorem im_X7_told : Cond.instanceMethod yX7_told ∈ TB := TB_in (List.mem_of_getElem? (i := 907) (by decide +kernel)) (by decide +kernel)
theorem se_X7_told : Cond.selects RX7 yX7_told yX7_told ∈ TB := TB_in (List.mem_of_getElem? (i := 908) (by decide +kernel)) (by decide +kernel)
end
section
/-! ===== words for the answers ===== -/
def bI (b : Bool) : Int := if b then 1 else 0
theorem bI_t {b : Bool} (h : b = true) : (1 : Int) = bI b := by rw [h]; rfl
theorem bI_f {b : Bool} (h : b = false) : (0 : Int) = bI b := by rw [h]; rfl
theorem bI_01 (b : Bool) : bI b = 0 ∨ bI b = 1 := by cases b <;> simp [bI]
theorem bI_in (b : Bool) : inR (bI b) := by cases b <;> exact ⟨by decide, by decide⟩
theorem bI_0 {b : Bool} (h : bI b = 0) : b = false := by cases b <;> simp [bI] at h ⊢
theorem bI_1 {b : Bool} (h : bI b ≠ 0) : b = true := by cases b <;> simp [bI] at h ⊢
theorem nar_bI (b : Bool) : narrow .boolean (.int (zI (bI b))) = .int (zI (bI b)) := by cases b <;> decide
/-- a number in its bounds -/
def rg (z a b : Int) : Bool := decide (a ≤ z ∧ z ≤ b)
theorem of_rg {z a b : Int} (h : rg z a b = true) : a ≤ z ∧ z ≤ b := of_decide_eq_true h
theorem of_nrg {z a b : Int} (h : rg z a b = false) : z < a ∨ b < z := by
  have := of_decide_eq_false h
  omega
theorem rg_t {z a b : Int} (h : a ≤ z ∧ z ≤ b) : rg z a b = true := decide_eq_true h
theorem rg_f {z a b : Int} (h : z < a ∨ b < z) : rg z a b = false := decide_eq_false (by omega)
abbrev RQ (h : Hp) (v : Int) : Option Value → Hp → Prop := fun o h' => o = some (.int (zI v)) ∧ h' = h
theorem rQ {h : Hp} {x v : Int} (e : x = v) : RQ h v (some (.int (zI x))) h := ⟨by rw [e], rfl⟩
section EVX
variable {G : GG} {l : Launch} {M : MD} {d : Nat} {Q : Option Value → Hp → Prop} {pc : Nat} {lv lv' : List (Option Value)} {st : List Value} {h : Hp} {kc ks : Nat}
theorem EV.top {x y : Int32} (e : x = y) (k : EV G l M d Q pc lv (.int y :: st) h kc ks) : EV G l M d Q pc lv (.int x :: st) h kc ks := e ▸ k
theorem hasL.drop {ls : Array Slot} {nL : Nat} (h : hasL ls nL lv) (i : Nat) : hasL ls nL (lv.set i none) := ⟨h.1, h.2.1, fun j v hj => by
  by_cases hij : i = j
  · subst hij
    rw [List.getElem?_set] at hj
    simp at hj
  · rw [List.getElem?_set_ne hij] at hj
    exact h.2.2 j v hj⟩
theorem EV.drop (i : Nat) (hl : lv.set i none = lv') (k : EV G l M d Q pc lv' st h kc ks) : EV G l M d Q pc lv st h kc ks := by
  intro p e s m args below meth c A mc ms H locs cells slots ls hC hS hR hD hls h1 h2
  exact k _ _ _ _ _ _ _ _ _ _ _ _ _ _ _ _ hC hS hR hD (hl ▸ hls.drop i) h1 h2
theorem EV.ifeqB {off : Int} {t : Nat} {b : Bool} (dg : decode M.2.1 pc = .ok (.ifCond .eq off, 3)) (ht : (pc : Int) + off = (t : Int)) (k1 : b = false → EV G l M d Q t lv st h kc ks) (k2 : b = true → EV G l M d Q (pc + 3) lv st h kc ks) : EV G l M d Q pc lv (.int (zI (bI b)) :: st) h kc ks :=
  EV.ifeq dg ht (bI_in b) (fun z => k1 (bI_0 z)) (fun z => k2 (bI_1 z))
theorem EV.ifneB {off : Int} {t : Nat} {b : Bool} (dg : decode M.2.1 pc = .ok (.ifCond .ne off, 3)) (ht : (pc : Int) + off = (t : Int)) (k1 : b = true → EV G l M d Q t lv st h kc ks) (k2 : b = false → EV G l M d Q (pc + 3) lv st h kc ks) : EV G l M d Q pc lv (.int (zI (bI b)) :: st) h kc ks :=
  EV.ifne dg ht (bI_in b) (fun z => k1 (bI_1 z)) (fun z => k2 (bI_0 z))
theorem EV.ifgeW {off : Int} {t : Nat} {x : Int32} (dg : decode M.2.1 pc = .ok (.ifCond .ge off, 3)) (ht : (pc : Int) + off = (t : Int)) (k1 : 0 ≤ x → EV G l M d Q t lv st h kc ks) (k2 : ¬ 0 ≤ x → EV G l M d Q (pc + 3) lv st h kc ks) : EV G l M d Q pc lv (.int x :: st) h kc ks :=
  EV.if2 (fun _ _ _ _ _ _ _ _ _ _ _ _ _ _ _ hx hb a b => lv_if_ge hx hb dg ht a b) k1 k2
theorem EV.ifeqW {off : Int} {t : Nat} {x : Int32} (dg : decode M.2.1 pc = .ok (.ifCond .eq off, 3)) (ht : (pc : Int) + off = (t : Int)) (k1 : x = 0 → EV G l M d Q t lv st h kc ks) (k2 : ¬ x = 0 → EV G l M d Q (pc + 3) lv st h kc ks) : EV G l M d Q pc lv (.int x :: st) h kc ks :=
  EV.if2 (fun _ _ _ _ _ _ _ _ _ _ _ _ _ _ _ hx hb a b => lv_if_eq hx hb dg ht a b) k1 k2
theorem EV.ifneW {off : Int} {t : Nat} {x : Int32} (dg : decode M.2.1 pc = .ok (.ifCond .ne off, 3)) (ht : (pc : Int) + off = (t : Int)) (k1 : ¬ x = 0 → EV G l M d Q t lv st h kc ks) (k2 : x = 0 → EV G l M d Q (pc + 3) lv st h kc ks) : EV G l M d Q pc lv (.int x :: st) h kc ks :=
  EV.if2 (P := ¬ x = 0) (fun _ _ _ _ _ _ _ _ _ _ _ _ _ _ _ hx hb a b => lv_if_ne hx hb dg ht a (fun z => b (fun y => y z))) k1 (fun z => k2 (Classical.not_not.mp z))
theorem EV.iaddW {x y : Int32} (dg : decode M.2.1 pc = .ok (.iadd, 1)) (k : EV G l M d Q (pc + 1) lv (.int (x + y) :: st) h kc ks) : EV G l M d Q pc lv (.int y :: .int x :: st) h kc ks :=
  EV.same (fun _ _ _ _ _ _ _ _ _ _ _ _ _ _ _ hx hb _ kk => lv_iadd hx hb dg kk) k
theorem EV.isubW {x y : Int32} (dg : decode M.2.1 pc = .ok (.isub, 1)) (k : EV G l M d Q (pc + 1) lv (.int (x - y) :: st) h kc ks) : EV G l M d Q pc lv (.int y :: .int x :: st) h kc ks :=
  EV.same (fun _ _ _ _ _ _ _ _ _ _ _ _ _ _ _ hx hb _ kk => lv_isub hx hb dg kk) k
end EVX
/-! a class with rows of its own in the table of natives (java/lang/Math): by the method's name -/
theorem Met.ofWF {l : Launch} {y : MethodName} {ws ws' : List Cond} {rm : Room} {Pc : Array Value → State → Prop} {Qc : Array Value → State → Outcome → State → Prop} {mc ms : Nat} {free : Addr → Prop} {cc : ByteArray} {maxL : Nat} {ret : Option FieldType}
    (hy : plainFor y = true) (hw : ws = Cond.code y cc maxL ret :: ws')
    (body : ∀ p e s m args below meth c s₁, BodyLoose p l y (headSpec ws rm) cc maxL ret e s m args below meth c s₁ → c.maxLocals = maxL → Pc args s →
      W p l e (headSpec ws rm).room s m args below meth c s.heap [] 0 0 (MQ below Qc args s mc ms free) (entryFrame m args maxL)) : Met l y ws rm Pc Qc mc ms free := by
  refine MetFree.of_bodySF (code := cc) (maxLocals := maxL) (ret := ret) hy ?_ ?_
  · intro args s m h hn
    obtain ⟨meth, c, h1, h2, h3, h4, h5, h6, -, -⟩ := Cond.code_spec hn (atoms_spec (ws := ws) h _ (by rw [hw]; exact List.mem_cons_self))
    exact ⟨meth, c, h1, h2, h3, h4, h5, h6⟩
  · intro p e s m args below meth c s₁ B hml hP _
    have hh0 : s₁.heap = s.heap := by rw [B.state]; rfl
    obtain ⟨t, a1, o, b1, b2, b3⟩ := body p e s m args below meth c s₁ B hml hP s₁ hh0 (Stand.of_body B)
    exact ⟨t, o, a1, b1, b2, ⟨b3.1, b3.2⟩⟩
theorem CT.ofF {G : GG} {l : Launch} {M : MD} {d mc ms : Nat} {as : List Value} {h : Hp} {Q : Option Value → Hp → Prop} (hy : plainFor M.1 = true) (hn : as.length ≤ M.2.2.1) (hcat : ∀ v ∈ as, v.category = 1)
    (k : EV G l M d Q 0 (as.map some ++ List.replicate (M.2.2.1 - as.length) none) [] h mc ms) : CT G l M d mc ms as h Q := by
  intro sz
  refine Met.ofWF (cc := M.2.1) (maxL := M.2.2.1) (ret := M.2.2.2) hy rfl ?_
  intro p e s m args below meth c s₁ B hml hv
  obtain ⟨rfl, hsz, hC, hR⟩ := hv
  have hts0 := atoms_spec (ws := TBw M) B.pre
  have hl := lv_entry as (n := M.2.2.1) (by rw [lgs_len as hcat]; exact hn)
  rw [lg_entry_eq]
  subst hsz
  refine k p e s m _ below meth c (hA h s.heap.size) mc ms s.heap [] 0 0 _ ⟨B.exec, B.bytes, hml, B.returns, findClass_of_methodNamed B.named, B.notSynchronized, fun w hw => hts0 w (List.mem_cons_of_mem _ hw), (name_of_methodNamed B.named B.method).1, hC, fun q hq => Or.inr hq⟩ va_S.rf hR (fun q hq => Or.inl hq) ⟨hl.1, hl.2.1, fun i v hi => ?_⟩ (by omega) (by omega)
  by_cases hia : i < as.length
  · rw [List.getElem?_append_left (by simpa using hia), List.getElem?_map] at hi
    cases hz : as[i]? with
    | none => rw [hz] at hi; simp at hi
    | some w =>
      rw [hz] at hi
      simp at hi
      subst hi
      have h1 := lva_mem as 0 i w hcat hz
      rw [Nat.zero_add] at h1
      exact ⟨hl.2.2 _ h1, hcat w (List.mem_of_getElem? hz)⟩
  · rw [List.getElem?_append_right (by simpa using hia)] at hi
    have := List.eq_of_mem_replicate (List.mem_of_getElem? hi)
    cases this
/-! bits of small sets -/
/-- the set of the p below n that have f -/
def orb (f : Nat → Bool) : Nat → Nat
  | 0 => 0
  | n + 1 => if f n then orb f n ||| 2 ^ n else orb f n
theorem orb_lt (f : Nat → Bool) : ∀ n, orb f n < 2 ^ n
  | 0 => by show 0 < 1; decide
  | n + 1 => by
    have ih := orb_lt f n
    have h2 : 2 ^ n < 2 ^ (n + 1) := Nat.pow_lt_pow_right (by decide) (by omega)
    unfold orb
    split
    · exact Nat.or_lt_two_pow (by omega) h2
    · omega
theorem orb_bit (f : Nat → Bool) : ∀ n i, (orb f n).testBit i = (decide (i < n) && f i)
  | 0, i => by simp [orb]
  | n + 1, i => by
    have ih := orb_bit f n i
    unfold orb
    by_cases hf : f n = true
    · rw [if_pos hf, Nat.testBit_or, ih, Nat.testBit_two_pow]
      by_cases hi : n = i
      · subst hi; simp [hf]
      · have e1 : decide (i < n + 1) = decide (i < n) := by
          by_cases h : i < n
          · simp [h, Nat.lt_succ_of_lt h]
          · have : ¬ i < n + 1 := by omega
            simp [h, this]
        simp [hi, e1]
    · rw [if_neg hf, ih]
      by_cases hi : n = i
      · subst hi; simp [hf]
      · have e1 : decide (i < n + 1) = decide (i < n) := by
          by_cases h : i < n
          · simp [h, Nat.lt_succ_of_lt h]
          · have : ¬ i < n + 1 := by omega
            simp [h, this]
        simp [e1]
theorem orb_s (f : Nat → Bool) (n : Nat) : orb f (n + 1) = if f n then orb f n ||| 2 ^ n else orb f n := rfl
theorem orb_cg {f g : Nat → Bool} : ∀ {n : Nat}, (∀ i, i < n → f i = g i) → orb f n = orb g n
  | 0, _ => rfl
  | n + 1, h => by
    unfold orb
    rw [orb_cg (fun i hi => h i (by omega)), h n (by omega)]
/-- how many i below n have f -/
def cnt (f : Nat → Bool) : Nat → Nat
  | 0 => 0
  | n + 1 => cnt f n + (if f n then 1 else 0)
theorem cnt_s (f : Nat → Bool) (n : Nat) : cnt f (n + 1) = cnt f n + (if f n then 1 else 0) := rfl
theorem cnt_le (f : Nat → Bool) : ∀ n, cnt f n ≤ n
  | 0 => Nat.le_refl _
  | n + 1 => by
    have := cnt_le f n
    unfold cnt
    split <;> omega
theorem cnt_cg {f g : Nat → Bool} : ∀ {n : Nat}, (∀ i, i < n → f i = g i) → cnt f n = cnt g n
  | 0, _ => rfl
  | n + 1, h => by
    unfold cnt
    rw [cnt_cg (fun i hi => h i (by omega)), h n (by omega)]
/-- all i below n have f -/
def alln (f : Nat → Bool) : Nat → Bool
  | 0 => true
  | n + 1 => alln f n && f n
theorem alln_iff {f : Nat → Bool} : ∀ {n : Nat}, alln f n = true ↔ ∀ i, i < n → f i = true
  | 0 => by simp [alln]
  | n + 1 => by
    unfold alln
    rw [Bool.and_eq_true, alln_iff]
    constructor
    · rintro ⟨h1, h2⟩ i hi
      by_cases h : i = n
      · rw [h]; exact h2
      · exact h1 i (by omega)
    · intro h
      exact ⟨fun i hi => h i (by omega), h n (by omega)⟩
theorem alln_f {f : Nat → Bool} {n i : Nat} (hi : i < n) (h : f i = false) : alln f n = false := by
  cases hz : alln f n with
  | false => rfl
  | true => rw [alln_iff.mp hz i hi] at h; cases h
/-- some i below n has f -/
def exn (f : Nat → Bool) (n : Nat) : Bool := !(alln (fun i => !(f i)) n)
theorem exn_t {f : Nat → Bool} {n i : Nat} (hi : i < n) (h : f i = true) : exn f n = true := by
  unfold exn
  rw [alln_f hi (by simp [h])]; rfl
theorem exn_f {f : Nat → Bool} {n : Nat} (h : ∀ i, i < n → f i = false) : exn f n = false := by
  unfold exn
  rw [alln_iff.mpr (fun i hi => by simp [h i hi])]; rfl
theorem exn_iff {f : Nat → Bool} {n : Nat} : exn f n = true ↔ ∃ i, i < n ∧ f i = true := by
  constructor
  · intro h
    cases hz : alln (fun i => !(f i)) n with
    | true => unfold exn at h; rw [hz] at h; cases h
    | false =>
      apply Classical.byContradiction
      intro hn
      have : alln (fun i => !(f i)) n = true := alln_iff.mpr (fun i hi => by
        cases hf : f i with
        | false => rfl
        | true => exact absurd ⟨i, hi, hf⟩ hn)
      rw [this] at hz; cases hz
  · rintro ⟨i, hi, h⟩; exact exn_t hi h
theorem tb_div (a p : Nat) : (a / 2 ^ p) &&& 1 = (if a.testBit p then 1 else 0) := by
  rw [Nat.and_one_is_mod, ← Nat.shiftRight_eq_div_pow]
  have := Nat.testBit_eq_decide_div_mod_eq (x := a) (i := p)
  rw [this, Nat.shiftRight_eq_div_pow]
  by_cases h : a / 2 ^ p % 2 = 1
  · simp [h]
  · have : a / 2 ^ p % 2 = 0 := by omega
    simp [this]
/-- set >> p & 1 -/
theorem zI_bit {a p : Nat} (hp : p < 31) (ha : a < 2147483648) : (zI (a : Int) >>> (zI (p : Int) &&& 31)) &&& zI 1 = zI (bI (a.testBit p)) := by
  rw [zI_shr hp ha, show zI 1 = zI ((1 : Nat) : Int) from rfl, zI_and, tb_div]
  cases a.testBit p <;> rfl
theorem zI_shl1 {p : Nat} (hp : p < 31) : zI 1 <<< (zI (p : Int) &&& 31) = zI ((2 ^ p : Nat) : Int) := by
  have h2 : 2 ^ p < 2147483648 := Nat.pow_lt_pow_right (n := 31) (by decide) hp
  have := zI_shl (a := 1) hp (by omega)
  rw [Nat.one_mul] at this
  exact this
end
section
/-! ===== the state in plain words ===== -/
/-- how many of the eight bits -/
def pop (a : Nat) : Nat := cnt a.testBit 8
theorem pop_le (a : Nat) : pop a ≤ 8 := cnt_le _ 8
theorem cnt_bI (f : Nat → Bool) (p : Nat) : ((cnt f p : Nat) : Int) + bI (f p) = ((cnt f (p + 1) : Nat) : Int) := by
  rw [cnt_s]
  cases f p <;> simp [bI]
/-- who is there, births, sizes, orders (8 places a person) -/
abbrev FK : Type := Nat × (Nat → Int) × (Nat → Int) × (Nat → Int)
def thB (F : FK) (p : Nat) : Bool := F.1.testBit p
def thI (F : FK) (z : Int) : Bool := rg z 0 5 && F.1.testBit z.toNat
/-- a person's day on a date -/
def dy (F : FK) (p : Nat) (t : Int) : Int := F.2.2.2 (8 * p + ((t - F.2.1 p) % F.2.2.1 p).toNat)
/-- what always holds of the people -/
def WF (F : FK) : Prop := F.1 < 64 ∧ ∀ p, p < 6 → F.1.testBit p = true → (0 ≤ F.2.1 p ∧ F.2.1 p ≤ 99) ∧ (5 ≤ F.2.2.1 p ∧ F.2.2.1 p ≤ 8) ∧ ∀ k : Nat, (k : Int) < F.2.2.1 p → 0 ≤ F.2.2.2 (8 * p + k) ∧ F.2.2.2 (8 * p + k) ≤ 7
theorem WF.dy {F : FK} (hW : WF F) {p : Nat} (hp : p < 6) (hb : F.1.testBit p = true) (t : Int) : 0 ≤ dy F p t ∧ dy F p t ≤ 7 := by
  obtain ⟨h1, h2, h3⟩ := hW.2 p hp hb
  have h4 := Int.emod_nonneg (t - F.2.1 p) (b := F.2.2.1 p) (by omega)
  have h5 := Int.emod_lt_of_pos (t - F.2.1 p) (b := F.2.2.1 p) (by omega)
  exact h3 _ (by omega)
theorem thI_p {F : FK} {z : Int} (h : thI F z = true) : ∃ p : Nat, p < 6 ∧ z = (p : Int) ∧ F.1.testBit p = true := by
  unfold thI at h
  rw [Bool.and_eq_true] at h
  have := of_rg h.1
  exact ⟨z.toNat, by omega, by omega, h.2⟩
theorem thI_n (F : FK) {p : Nat} (hp : p < 6) : thI F (p : Int) = F.1.testBit p := by
  unfold thI
  rw [rg_t ⟨by omega, by omega⟩]
  simp
/-- class Folk in the heap -/
def FolkAt (G : GG) (h : Hp) (F : FK) (f b s o v : Nat) (V : Nat → Int) : Prop :=
  h f = some (obj 0 [.int (zI (F.1 : Int)), .ref b, .ref s, .ref o, .ref v]) ∧ h b = some (arI G 6 F.2.1) ∧ h s = some (arI G 6 F.2.2.1) ∧ h o = some (arI G 48 F.2.2.2) ∧ h v = some (arI G 8 V)
/-! floorMod's three ends; the sign of a number xor a small positive one -/
theorem zI_msb {z : Int} (h : inR z) : (zI z).toBitVec.msb = decide (z < 0) := by
  rw [BitVec.msb_eq_toInt]
  show decide ((zI z).toInt < 0) = _
  rw [zI_toInt h]
theorem w_0le (w : Int32) : 0 ≤ w ↔ w.toBitVec.msb = false := by
  rw [Int32.le_iff_toInt_le, BitVec.msb_eq_toInt]
  show (0 : Int) ≤ w.toInt ↔ decide (w.toInt < 0) = false
  rw [decide_eq_false_iff_not]
  omega
theorem fm_sgn {x n : Int} (hx : inR x) (hn : 0 < n ∧ n ≤ 8) : 0 ≤ (zI x ^^^ zI n) ↔ 0 ≤ x := by
  rw [w_0le]
  show ((zI x).toBitVec ^^^ (zI n).toBitVec).msb = false ↔ _
  rw [BitVec.msb_xor, zI_msb hx, zI_msb (z := n) ⟨by omega, by omega⟩]
  have h2 : decide (n < 0) = false := decide_eq_false (by omega)
  rw [h2]
  by_cases h : x < 0
  · have h3 : ¬ 0 ≤ x := by omega
    simp [h, h3]
  · have h3 : 0 ≤ x := by omega
    simp [h, h3]
theorem tm_bnd {x n : Int} (hn : 0 < n ∧ n ≤ 8) : -8 < x.tmod n ∧ x.tmod n < 8 := by
  have h1 := Int.tmod_lt_of_pos x hn.1
  have h2 := Int.lt_tmod_of_pos x hn.1
  omega
theorem fm_mod {x n : Int} : x % n = x.tmod n % n := by
  have h := Int.mul_tdiv_add_tmod x n
  have e : x = x.tmod n + n * x.tdiv n := by omega
  calc x % n = (x.tmod n + n * x.tdiv n) % n := by rw [← e]
    _ = x.tmod n % n := Int.add_mul_emod_self_left _ _ _
theorem fm_pos {x n : Int} (hs : 0 ≤ x) : x.tmod n = x % n := Int.tmod_eq_emod_of_nonneg hs
theorem fm_zero {x n : Int} (h : x.tmod n = 0) : x.tmod n = x % n := by
  rw [fm_mod, h, Int.zero_emod]
theorem fm_neg {x n : Int} (hs : x < 0) (hn : 0 < n ∧ n ≤ 8) (h : x.tmod n ≠ 0) : x.tmod n + n = x % n := by
  have h1 := Int.tmod_lt_of_pos x hn.1
  have h2 := Int.lt_tmod_of_pos x hn.1
  have h3 : x.tmod n ≤ 0 := by
    have h4 := Int.tmod_nonneg (a := -x) n (by omega)
    rw [Int.neg_tmod] at h4
    omega
  rw [fm_mod, ← Int.add_emod_right, Int.emod_eq_of_lt (by omega) (by omega)]
end
section
section
variable {G : GG} {l : Launch}
set_option maxHeartbeats 4000000 in
set_option maxRecDepth 20000 in
theorem c_X6_isOneOf (d : Nat) {h : Hp} (z n : Int) (hz : inR z) (hn : inR n) : CT G l mX6_isOneOf (d + 1) 0 0 [.int (zI (z)), .int (zI (n))] h (RQ h (bI (rg z 0 (n - 1)))) := by
  refine CT.of (by decide) (Nat.le_of_ble_eq_true rfl) (List.forall_mem_cons.mpr ⟨rfl, List.forall_mem_cons.mpr ⟨rfl, fun _ h => absurd h List.not_mem_nil⟩⟩) ?_
  refine EV.lvs (lv' := [some (.int (zI (z))), some (.int (zI (n)))]) rfl ?_
  refine EV.iload_n (i := 0) dX6_isOneOf_0 rfl rfl ?_
  refine EV.iflt (t := 13) dX6_isOneOf_1 (by decide) (by omega) (fun c1 => ?_) (fun c1 => ?_)
  · skip
    refine EV.iconst dX6_isOneOf_13 ?_
    refine EV.zret rfl (by decide) dX6_isOneOf_14 ?_
    exact rQ (by unfold bI rg; simp only [decide_eq_true_eq]; split <;> omega)
  · skip
    refine EV.iload_n (i := 0) dX6_isOneOf_4 rfl rfl ?_
    refine EV.iload_n (i := 1) dX6_isOneOf_5 rfl rfl ?_
    refine EV.icmp_ge (t := 13) dX6_isOneOf_6 (by decide) (by omega) (fun c6 => ?_) (fun c6 => ?_)
    · skip
      refine EV.iconst dX6_isOneOf_13 ?_
      refine EV.zret rfl (by decide) dX6_isOneOf_14 ?_
      exact rQ (by unfold bI rg; simp only [decide_eq_true_eq]; split <;> omega)
    · skip
      refine EV.iconst dX6_isOneOf_9 ?_
      refine EV.goto (t := 14) dX6_isOneOf_10 (by decide) ?_
      refine EV.zret rfl (by decide) dX6_isOneOf_14 ?_
      exact rQ (by unfold bI rg; simp only [decide_eq_true_eq]; split <;> omega)
set_option maxHeartbeats 4000000 in
set_option maxRecDepth 20000 in
theorem c_X6_isDate (d : Nat) {h : Hp} (z : Int) (hz : inR z) : CT G l mX6_isDate (d + 1) 0 0 [.int (zI (z))] h (RQ h (bI (rg z 0 9999))) := by
  refine CT.of (by decide) (Nat.le_of_ble_eq_true rfl) (List.forall_mem_cons.mpr ⟨rfl, fun _ h => absurd h List.not_mem_nil⟩) ?_
  refine EV.lvs (lv' := [some (.int (zI (z)))]) rfl ?_
  refine EV.iload_n (i := 0) dX6_isDate_0 rfl rfl ?_
  refine EV.iflt (t := 15) dX6_isDate_1 (by decide) (by omega) (fun c1 => ?_) (fun c1 => ?_)
  · skip
    refine EV.iconst dX6_isDate_15 ?_
    refine EV.zret rfl (by decide) dX6_isDate_16 ?_
    exact rQ (by unfold bI rg; simp only [decide_eq_true_eq]; split <;> omega)
  · skip
    refine EV.iload_n (i := 0) dX6_isDate_4 rfl rfl ?_
    refine EV.sipush dX6_isDate_5 (by decide) ?_
    refine EV.icmp_gt (t := 15) dX6_isDate_8 (by decide) (by omega) (fun c8 => ?_) (fun c8 => ?_)
    · skip
      refine EV.iconst dX6_isDate_15 ?_
      refine EV.zret rfl (by decide) dX6_isDate_16 ?_
      exact rQ (by unfold bI rg; simp only [decide_eq_true_eq]; split <;> omega)
    · skip
      refine EV.iconst dX6_isDate_11 ?_
      refine EV.goto (t := 16) dX6_isDate_12 (by decide) ?_
      refine EV.zret rfl (by decide) dX6_isDate_16 ?_
      exact rQ (by unfold bI rg; simp only [decide_eq_true_eq]; split <;> omega)
set_option maxHeartbeats 4000000 in
set_option maxRecDepth 20000 in
theorem c_X6_isBirth (d : Nat) {h : Hp} (z : Int) (hz : inR z) : CT G l mX6_isBirth (d + 1) 0 0 [.int (zI (z))] h (RQ h (bI (rg z 0 99))) := by
  refine CT.of (by decide) (Nat.le_of_ble_eq_true rfl) (List.forall_mem_cons.mpr ⟨rfl, fun _ h => absurd h List.not_mem_nil⟩) ?_
  refine EV.lvs (lv' := [some (.int (zI (z)))]) rfl ?_
  refine EV.iload_n (i := 0) dX6_isBirth_0 rfl rfl ?_
  refine EV.iflt (t := 14) dX6_isBirth_1 (by decide) (by omega) (fun c1 => ?_) (fun c1 => ?_)
  · skip
    refine EV.iconst dX6_isBirth_14 ?_
    refine EV.zret rfl (by decide) dX6_isBirth_15 ?_
    exact rQ (by unfold bI rg; simp only [decide_eq_true_eq]; split <;> omega)
  · skip
    refine EV.iload_n (i := 0) dX6_isBirth_4 rfl rfl ?_
    refine EV.bipush dX6_isBirth_5 (by decide) ?_
    refine EV.icmp_gt (t := 14) dX6_isBirth_7 (by decide) (by omega) (fun c7 => ?_) (fun c7 => ?_)
    · skip
      refine EV.iconst dX6_isBirth_14 ?_
      refine EV.zret rfl (by decide) dX6_isBirth_15 ?_
      exact rQ (by unfold bI rg; simp only [decide_eq_true_eq]; split <;> omega)
    · skip
      refine EV.iconst dX6_isBirth_10 ?_
      refine EV.goto (t := 15) dX6_isBirth_11 (by decide) ?_
      refine EV.zret rfl (by decide) dX6_isBirth_15 ?_
      exact rQ (by unfold bI rg; simp only [decide_eq_true_eq]; split <;> omega)
set_option maxHeartbeats 4000000 in
set_option maxRecDepth 20000 in
theorem c_X7_in (d : Nat) {h : Hp} (z n m : Int) (hz : inR z) (hn : inR n) (hm : inR m) : CT G l mX7_in (d + 1) 0 0 [.int (zI (z)), .int (zI (n)), .int (zI (m))] h (RQ h (bI (rg z n m))) := by
  refine CT.of (by decide) (Nat.le_of_ble_eq_true rfl) (List.forall_mem_cons.mpr ⟨rfl, List.forall_mem_cons.mpr ⟨rfl, List.forall_mem_cons.mpr ⟨rfl, fun _ h => absurd h List.not_mem_nil⟩⟩⟩) ?_
  refine EV.lvs (lv' := [some (.int (zI (z))), some (.int (zI (n))), some (.int (zI (m)))]) rfl ?_
  refine EV.iload_n (i := 0) dX7_in_0 rfl rfl ?_
  refine EV.iload_n (i := 1) dX7_in_1 rfl rfl ?_
  refine EV.icmp_lt (t := 14) dX7_in_2 (by decide) (by omega) (fun c2 => ?_) (fun c2 => ?_)
  · skip
    refine EV.iconst dX7_in_14 ?_
    refine EV.zret rfl (by decide) dX7_in_15 ?_
    exact rQ (by unfold bI rg; simp only [decide_eq_true_eq]; split <;> omega)
  · skip
    refine EV.iload_n (i := 0) dX7_in_5 rfl rfl ?_
    refine EV.iload_n (i := 2) dX7_in_6 rfl rfl ?_
    refine EV.icmp_gt (t := 14) dX7_in_7 (by decide) (by omega) (fun c7 => ?_) (fun c7 => ?_)
    · skip
      refine EV.iconst dX7_in_14 ?_
      refine EV.zret rfl (by decide) dX7_in_15 ?_
      exact rQ (by unfold bI rg; simp only [decide_eq_true_eq]; split <;> omega)
    · skip
      refine EV.iconst dX7_in_10 ?_
      refine EV.goto (t := 15) dX7_in_11 (by decide) ?_
      refine EV.zret rfl (by decide) dX7_in_15 ?_
      exact rQ (by unfold bI rg; simp only [decide_eq_true_eq]; split <;> omega)
set_option maxHeartbeats 4000000 in
set_option maxRecDepth 20000 in
theorem c_X7_isDay (d : Nat) {h : Hp} (z : Int) (hz : inR z) : CT G l mX7_isDay (d + 2) 0 0 [.int (zI (z))] h (RQ h (bI (rg z 0 7))) := by
  refine CT.of (by decide) (Nat.le_of_ble_eq_true rfl) (List.forall_mem_cons.mpr ⟨rfl, fun _ h => absurd h List.not_mem_nil⟩) ?_
  refine EV.lvs (lv' := [some (.int (zI (z)))]) rfl ?_
  refine EV.iload_n (i := 0) dX7_isDay_0 rfl rfl ?_
  refine EV.iconst dX7_isDay_1 ?_
  refine EV.bipush dX7_isDay_2 (by decide) ?_
  refine EV.callSr (M' := mX7_in) (as := [.int (zI (z)), .int (zI (0)), .int (zI (7))]) (rest := []) ml_X7_45 sm_X7_in co_X7_in dX7_isDay_4 (c_X7_in (d + 0) z 0 7 (by omega) (by omega) (by omega)) rfl rfl (Nat.le_of_ble_eq_true rfl) ?_
  refine EV.zret rfl (nar_bI _) dX7_isDay_7 ?_
  exact rQ rfl
set_option maxHeartbeats 4000000 in
set_option maxRecDepth 20000 in
theorem c_X7_isDate (d : Nat) {h : Hp} (z : Int) (hz : inR z) : CT G l mX7_isDate (d + 2) 0 0 [.int (zI (z))] h (RQ h (bI (rg z 0 9999))) := by
  refine CT.of (by decide) (Nat.le_of_ble_eq_true rfl) (List.forall_mem_cons.mpr ⟨rfl, fun _ h => absurd h List.not_mem_nil⟩) ?_
  refine EV.lvs (lv' := [some (.int (zI (z)))]) rfl ?_
  refine EV.iload_n (i := 0) dX7_isDate_0 rfl rfl ?_
  refine EV.iconst dX7_isDate_1 ?_
  refine EV.sipush dX7_isDate_2 (by decide) ?_
  refine EV.callSr (M' := mX7_in) (as := [.int (zI (z)), .int (zI (0)), .int (zI (9999))]) (rest := []) ml_X7_45 sm_X7_in co_X7_in dX7_isDate_5 (c_X7_in (d + 0) z 0 9999 (by omega) (by omega) (by omega)) rfl rfl (Nat.le_of_ble_eq_true rfl) ?_
  refine EV.zret rfl (nar_bI _) dX7_isDate_8 ?_
  exact rQ rfl
set_option maxHeartbeats 4000000 in
set_option maxRecDepth 20000 in
theorem c_X7_has (d : Nat) {h : Hp} (a p : Nat) (ha : a < 2147483648) (hp : p < 31) : CT G l mX7_has (d + 1) 0 0 [.int (zI ((a : Int))), .int (zI ((p : Int)))] h (RQ h (bI (a.testBit p))) := by
  refine CT.of (by decide) (Nat.le_of_ble_eq_true rfl) (List.forall_mem_cons.mpr ⟨rfl, List.forall_mem_cons.mpr ⟨rfl, fun _ h => absurd h List.not_mem_nil⟩⟩) ?_
  refine EV.lvs (lv' := [some (.int (zI ((a : Int)))), some (.int (zI ((p : Int))))]) rfl ?_
  refine EV.iload_n (i := 0) dX7_has_0 rfl rfl ?_
  refine EV.iload_n (i := 1) dX7_has_1 rfl rfl ?_
  refine EV.ishrW dX7_has_2 ?_
  refine EV.iconst dX7_has_3 ?_
  refine EV.iandW dX7_has_4 ?_
  refine EV.top (y := zI (bI (a.testBit p))) (zI_bit hp ha) ?_
  refine EV.iconst dX7_has_5 ?_
  have hb := bI_in (a.testBit p)
  refine EV.icmp_ne (t := 13) dX7_has_6 (by decide) (by omega) (fun c6 => ?_) (fun c6 => ?_)
  · skip
    refine EV.iconst dX7_has_13 ?_
    refine EV.zret rfl (by decide) dX7_has_14 ?_
    exact rQ (by rcases bI_01 (a.testBit p) with z | z <;> omega)
  · skip
    refine EV.iconst dX7_has_9 ?_
    refine EV.goto (t := 14) dX7_has_10 (by decide) ?_
    refine EV.zret rfl (by decide) dX7_has_14 ?_
    exact rQ (by rcases bI_01 (a.testBit p) with z | z <;> omega)
set_option maxHeartbeats 4000000 in
set_option maxRecDepth 20000 in
theorem c_X7_bits (d : Nat) {h : Hp} (a : Nat) (ha : a < 256) : CT G l mX7_bits (d + 1) 0 0 [.int (zI ((a : Int)))] h (RQ h ((pop a : Int))) := by
  refine CT.of (by decide) (Nat.le_of_ble_eq_true rfl) (List.forall_mem_cons.mpr ⟨rfl, fun _ h => absurd h List.not_mem_nil⟩) ?_
  refine EV.lvs (lv' := [some (.int (zI ((a : Int)))), none, none]) rfl ?_
  refine EV.iconst dX7_bits_0 ?_
  refine EV.istore_n (i := 1) (lv' := [some (.int (zI ((a : Int)))), some (.int (zI (0))), none]) dX7_bits_1 rfl (by decide) rfl ?_
  refine EV.iconst dX7_bits_2 ?_
  refine EV.istore_n (i := 2) (lv' := [some (.int (zI ((a : Int)))), some (.int (zI (0))), some (.int (zI (0)))]) dX7_bits_3 rfl (by decide) rfl ?_
  have L4 : ∀ (n4 : Nat) (p : Nat) (x1 x2 : Int), p ≤ 8 → 8 - p < n4 → x1 = ((cnt a.testBit p : Nat) : Int) → x2 = (p : Int) → EV G l mX7_bits (d + 1) (RQ h ((pop a : Int))) 4 [some (.int (zI ((a : Int)))), some (.int (zI (x1))), some (.int (zI (x2)))] [] h 0 0 := by
    intro n4
    induction n4 with
    | zero => intro _ _ _ _ hm; exact absurd hm (Nat.not_lt_zero _)
    | succ n4 ih4 =>
      intro p x1 x2 hp hm4 e1 e2
      subst e1 e2
      refine EV.iload_n (i := 2) dX7_bits_4 rfl rfl ?_
      refine EV.bipush dX7_bits_5 (by decide) ?_
      refine EV.icmp_ge (t := 24) dX7_bits_7 (by decide) (by omega) (fun c7 => ?_) (fun c7 => ?_)
      · skip
        obtain rfl : p = 8 := by omega
        refine EV.iload_n (i := 1) dX7_bits_24 rfl rfl ?_
        refine EV.iret rfl dX7_bits_25 ?_
        exact rQ rfl
      · skip
        refine EV.iload_n (i := 1) dX7_bits_10 rfl rfl ?_
        refine EV.iload_n (i := 0) dX7_bits_11 rfl rfl ?_
        refine EV.iload_n (i := 2) dX7_bits_12 rfl rfl ?_
        refine EV.ishrW dX7_bits_13 ?_
        refine EV.iconst dX7_bits_14 ?_
        refine EV.iandW dX7_bits_15 ?_
        refine EV.top (y := zI (bI (a.testBit p))) (zI_bit (by omega) (by omega)) ?_
        refine EV.iadd dX7_bits_16 ?_
        refine EV.istore_n (i := 1) (lv' := [some (.int (zI ((a : Int)))), some (.int (zI ((((cnt a.testBit p : Nat) : Int) + bI (a.testBit p))))), some (.int (zI ((p : Int))))]) dX7_bits_17 rfl (by decide) rfl ?_
        refine EV.iinc (i := 2) (lv' := [some (.int (zI ((a : Int)))), some (.int (zI ((((cnt a.testBit p : Nat) : Int) + bI (a.testBit p))))), some (.int (zI ((p : Int) + 1)))]) dX7_bits_18 rfl (by decide) rfl ?_
        refine EV.goto (t := 4) dX7_bits_21 (by decide) ?_
        exact ih4 (p + 1) _ _ (by omega) (by omega) (cnt_bI _ _) (by rfl)
  exact L4 _ 0 _ _ (by omega) (Nat.lt_succ_self _) (by rfl) (by rfl)
set_option maxHeartbeats 4000000 in
set_option maxRecDepth 20000 in
theorem c_J6_bitCount_0f7a4 (d : Nat) {h : Hp} (a : Nat) (ha : a < 256) : CT G l mJ6_bitCount_0f7a4 (d + 1) 0 0 [.int (zI ((a : Int)))] h (RQ h ((pop a : Int))) := by
  refine CT.ofF (by decide +kernel) (Nat.le_of_ble_eq_true rfl) (List.forall_mem_cons.mpr ⟨rfl, fun _ h => absurd h List.not_mem_nil⟩) ?_
  refine EV.lvs (lv' := [some (.int (zI ((a : Int))))]) rfl ?_
  refine EV.iload_n (i := 0) dJ6_bitCount_0f7a4_0 rfl rfl ?_
  refine EV.iload_n (i := 0) dJ6_bitCount_0f7a4_1 rfl rfl ?_
  refine EV.iconst dJ6_bitCount_0f7a4_2 ?_
  refine EV.iushrW dJ6_bitCount_0f7a4_3 ?_
  refine EV.ldcw dJ6_bitCount_0f7a4_4 ct_J6_265 ?_
  refine EV.iandW dJ6_bitCount_0f7a4_7 ?_
  refine EV.isubW dJ6_bitCount_0f7a4_8 ?_
  refine EV.istore_n (i := 0) (lv' := [some (.int ((zI ((a : Int)) - (((((zI ((a : Int)))).toUInt32 >>> (((zI (1))).toUInt32 &&& Int32.toUInt32 31)).toInt32) &&& (zI (1431655765))))))]) dJ6_bitCount_0f7a4_9 rfl (by decide) rfl ?_
  refine EV.iload_n (i := 0) dJ6_bitCount_0f7a4_10 rfl rfl ?_
  refine EV.ldcw dJ6_bitCount_0f7a4_11 ct_J6_266 ?_
  refine EV.iandW dJ6_bitCount_0f7a4_14 ?_
  refine EV.iload_n (i := 0) dJ6_bitCount_0f7a4_15 rfl rfl ?_
  refine EV.iconst dJ6_bitCount_0f7a4_16 ?_
  refine EV.iushrW dJ6_bitCount_0f7a4_17 ?_
  refine EV.ldcw dJ6_bitCount_0f7a4_18 ct_J6_266 ?_
  refine EV.iandW dJ6_bitCount_0f7a4_21 ?_
  refine EV.iaddW dJ6_bitCount_0f7a4_22 ?_
  refine EV.istore_n (i := 0) (lv' := [some (.int ((((zI ((a : Int)) - (((((zI ((a : Int)))).toUInt32 >>> (((zI (1))).toUInt32 &&& Int32.toUInt32 31)).toInt32) &&& (zI (1431655765)))) &&& (zI (858993459))) + (((((zI ((a : Int)) - (((((zI ((a : Int)))).toUInt32 >>> (((zI (1))).toUInt32 &&& Int32.toUInt32 31)).toInt32) &&& (zI (1431655765))))).toUInt32 >>> (((zI (2))).toUInt32 &&& Int32.toUInt32 31)).toInt32) &&& (zI (858993459))))))]) dJ6_bitCount_0f7a4_23 rfl (by decide) rfl ?_
  refine EV.iload_n (i := 0) dJ6_bitCount_0f7a4_24 rfl rfl ?_
  refine EV.iload_n (i := 0) dJ6_bitCount_0f7a4_25 rfl rfl ?_
  refine EV.iconst dJ6_bitCount_0f7a4_26 ?_
  refine EV.iushrW dJ6_bitCount_0f7a4_27 ?_
  refine EV.iaddW dJ6_bitCount_0f7a4_28 ?_
  refine EV.ldcw dJ6_bitCount_0f7a4_29 ct_J6_267 ?_
  refine EV.iandW dJ6_bitCount_0f7a4_32 ?_
  refine EV.istore_n (i := 0) (lv' := [some (.int ((((((zI ((a : Int)) - (((((zI ((a : Int)))).toUInt32 >>> (((zI (1))).toUInt32 &&& Int32.toUInt32 31)).toInt32) &&& (zI (1431655765)))) &&& (zI (858993459))) + (((((zI ((a : Int)) - (((((zI ((a : Int)))).toUInt32 >>> (((zI (1))).toUInt32 &&& Int32.toUInt32 31)).toInt32) &&& (zI (1431655765))))).toUInt32 >>> (((zI (2))).toUInt32 &&& Int32.toUInt32 31)).toInt32) &&& (zI (858993459)))) + ((((((zI ((a : Int)) - (((((zI ((a : Int)))).toUInt32 >>> (((zI (1))).toUInt32 &&& Int32.toUInt32 31)).toInt32) &&& (zI (1431655765)))) &&& (zI (858993459))) + (((((zI ((a : Int)) - (((((zI ((a : Int)))).toUInt32 >>> (((zI (1))).toUInt32 &&& Int32.toUInt32 31)).toInt32) &&& (zI (1431655765))))).toUInt32 >>> (((zI (2))).toUInt32 &&& Int32.toUInt32 31)).toInt32) &&& (zI (858993459))))).toUInt32 >>> (((zI (4))).toUInt32 &&& Int32.toUInt32 31)).toInt32)) &&& (zI (252645135)))))]) dJ6_bitCount_0f7a4_33 rfl (by decide) rfl ?_
  refine EV.iload_n (i := 0) dJ6_bitCount_0f7a4_34 rfl rfl ?_
  refine EV.iload_n (i := 0) dJ6_bitCount_0f7a4_35 rfl rfl ?_
  refine EV.bipush dJ6_bitCount_0f7a4_36 (by decide) ?_
  refine EV.iushrW dJ6_bitCount_0f7a4_38 ?_
  refine EV.iaddW dJ6_bitCount_0f7a4_39 ?_
  refine EV.istore_n (i := 0) (lv' := [some (.int (((((((zI ((a : Int)) - (((((zI ((a : Int)))).toUInt32 >>> (((zI (1))).toUInt32 &&& Int32.toUInt32 31)).toInt32) &&& (zI (1431655765)))) &&& (zI (858993459))) + (((((zI ((a : Int)) - (((((zI ((a : Int)))).toUInt32 >>> (((zI (1))).toUInt32 &&& Int32.toUInt32 31)).toInt32) &&& (zI (1431655765))))).toUInt32 >>> (((zI (2))).toUInt32 &&& Int32.toUInt32 31)).toInt32) &&& (zI (858993459)))) + ((((((zI ((a : Int)) - (((((zI ((a : Int)))).toUInt32 >>> (((zI (1))).toUInt32 &&& Int32.toUInt32 31)).toInt32) &&& (zI (1431655765)))) &&& (zI (858993459))) + (((((zI ((a : Int)) - (((((zI ((a : Int)))).toUInt32 >>> (((zI (1))).toUInt32 &&& Int32.toUInt32 31)).toInt32) &&& (zI (1431655765))))).toUInt32 >>> (((zI (2))).toUInt32 &&& Int32.toUInt32 31)).toInt32) &&& (zI (858993459))))).toUInt32 >>> (((zI (4))).toUInt32 &&& Int32.toUInt32 31)).toInt32)) &&& (zI (252645135))) + ((((((((zI ((a : Int)) - (((((zI ((a : Int)))).toUInt32 >>> (((zI (1))).toUInt32 &&& Int32.toUInt32 31)).toInt32) &&& (zI (1431655765)))) &&& (zI (858993459))) + (((((zI ((a : Int)) - (((((zI ((a : Int)))).toUInt32 >>> (((zI (1))).toUInt32 &&& Int32.toUInt32 31)).toInt32) &&& (zI (1431655765))))).toUInt32 >>> (((zI (2))).toUInt32 &&& Int32.toUInt32 31)).toInt32) &&& (zI (858993459)))) + ((((((zI ((a : Int)) - (((((zI ((a : Int)))).toUInt32 >>> (((zI (1))).toUInt32 &&& Int32.toUInt32 31)).toInt32) &&& (zI (1431655765)))) &&& (zI (858993459))) + (((((zI ((a : Int)) - (((((zI ((a : Int)))).toUInt32 >>> (((zI (1))).toUInt32 &&& Int32.toUInt32 31)).toInt32) &&& (zI (1431655765))))).toUInt32 >>> (((zI (2))).toUInt32 &&& Int32.toUInt32 31)).toInt32) &&& (zI (858993459))))).toUInt32 >>> (((zI (4))).toUInt32 &&& Int32.toUInt32 31)).toInt32)) &&& (zI (252645135)))).toUInt32 >>> (((zI (8))).toUInt32 &&& Int32.toUInt32 31)).toInt32))))]) dJ6_bitCount_0f7a4_40 rfl (by decide) rfl ?_
  refine EV.iload_n (i := 0) dJ6_bitCount_0f7a4_41 rfl rfl ?_
  refine EV.iload_n (i := 0) dJ6_bitCount_0f7a4_42 rfl rfl ?_
  refine EV.bipush dJ6_bitCount_0f7a4_43 (by decide) ?_
  refine EV.iushrW dJ6_bitCount_0f7a4_45 ?_
  refine EV.iaddW dJ6_bitCount_0f7a4_46 ?_
  refine EV.istore_n (i := 0) (lv' := [some (.int ((((((((zI ((a : Int)) - (((((zI ((a : Int)))).toUInt32 >>> (((zI (1))).toUInt32 &&& Int32.toUInt32 31)).toInt32) &&& (zI (1431655765)))) &&& (zI (858993459))) + (((((zI ((a : Int)) - (((((zI ((a : Int)))).toUInt32 >>> (((zI (1))).toUInt32 &&& Int32.toUInt32 31)).toInt32) &&& (zI (1431655765))))).toUInt32 >>> (((zI (2))).toUInt32 &&& Int32.toUInt32 31)).toInt32) &&& (zI (858993459)))) + ((((((zI ((a : Int)) - (((((zI ((a : Int)))).toUInt32 >>> (((zI (1))).toUInt32 &&& Int32.toUInt32 31)).toInt32) &&& (zI (1431655765)))) &&& (zI (858993459))) + (((((zI ((a : Int)) - (((((zI ((a : Int)))).toUInt32 >>> (((zI (1))).toUInt32 &&& Int32.toUInt32 31)).toInt32) &&& (zI (1431655765))))).toUInt32 >>> (((zI (2))).toUInt32 &&& Int32.toUInt32 31)).toInt32) &&& (zI (858993459))))).toUInt32 >>> (((zI (4))).toUInt32 &&& Int32.toUInt32 31)).toInt32)) &&& (zI (252645135))) + ((((((((zI ((a : Int)) - (((((zI ((a : Int)))).toUInt32 >>> (((zI (1))).toUInt32 &&& Int32.toUInt32 31)).toInt32) &&& (zI (1431655765)))) &&& (zI (858993459))) + (((((zI ((a : Int)) - (((((zI ((a : Int)))).toUInt32 >>> (((zI (1))).toUInt32 &&& Int32.toUInt32 31)).toInt32) &&& (zI (1431655765))))).toUInt32 >>> (((zI (2))).toUInt32 &&& Int32.toUInt32 31)).toInt32) &&& (zI (858993459)))) + ((((((zI ((a : Int)) - (((((zI ((a : Int)))).toUInt32 >>> (((zI (1))).toUInt32 &&& Int32.toUInt32 31)).toInt32) &&& (zI (1431655765)))) &&& (zI (858993459))) + (((((zI ((a : Int)) - (((((zI ((a : Int)))).toUInt32 >>> (((zI (1))).toUInt32 &&& Int32.toUInt32 31)).toInt32) &&& (zI (1431655765))))).toUInt32 >>> (((zI (2))).toUInt32 &&& Int32.toUInt32 31)).toInt32) &&& (zI (858993459))))).toUInt32 >>> (((zI (4))).toUInt32 &&& Int32.toUInt32 31)).toInt32)) &&& (zI (252645135)))).toUInt32 >>> (((zI (8))).toUInt32 &&& Int32.toUInt32 31)).toInt32)) + (((((((((zI ((a : Int)) - (((((zI ((a : Int)))).toUInt32 >>> (((zI (1))).toUInt32 &&& Int32.toUInt32 31)).toInt32) &&& (zI (1431655765)))) &&& (zI (858993459))) + (((((zI ((a : Int)) - (((((zI ((a : Int)))).toUInt32 >>> (((zI (1))).toUInt32 &&& Int32.toUInt32 31)).toInt32) &&& (zI (1431655765))))).toUInt32 >>> (((zI (2))).toUInt32 &&& Int32.toUInt32 31)).toInt32) &&& (zI (858993459)))) + ((((((zI ((a : Int)) - (((((zI ((a : Int)))).toUInt32 >>> (((zI (1))).toUInt32 &&& Int32.toUInt32 31)).toInt32) &&& (zI (1431655765)))) &&& (zI (858993459))) + (((((zI ((a : Int)) - (((((zI ((a : Int)))).toUInt32 >>> (((zI (1))).toUInt32 &&& Int32.toUInt32 31)).toInt32) &&& (zI (1431655765))))).toUInt32 >>> (((zI (2))).toUInt32 &&& Int32.toUInt32 31)).toInt32) &&& (zI (858993459))))).toUInt32 >>> (((zI (4))).toUInt32 &&& Int32.toUInt32 31)).toInt32)) &&& (zI (252645135))) + ((((((((zI ((a : Int)) - (((((zI ((a : Int)))).toUInt32 >>> (((zI (1))).toUInt32 &&& Int32.toUInt32 31)).toInt32) &&& (zI (1431655765)))) &&& (zI (858993459))) + (((((zI ((a : Int)) - (((((zI ((a : Int)))).toUInt32 >>> (((zI (1))).toUInt32 &&& Int32.toUInt32 31)).toInt32) &&& (zI (1431655765))))).toUInt32 >>> (((zI (2))).toUInt32 &&& Int32.toUInt32 31)).toInt32) &&& (zI (858993459)))) + ((((((zI ((a : Int)) - (((((zI ((a : Int)))).toUInt32 >>> (((zI (1))).toUInt32 &&& Int32.toUInt32 31)).toInt32) &&& (zI (1431655765)))) &&& (zI (858993459))) + (((((zI ((a : Int)) - (((((zI ((a : Int)))).toUInt32 >>> (((zI (1))).toUInt32 &&& Int32.toUInt32 31)).toInt32) &&& (zI (1431655765))))).toUInt32 >>> (((zI (2))).toUInt32 &&& Int32.toUInt32 31)).toInt32) &&& (zI (858993459))))).toUInt32 >>> (((zI (4))).toUInt32 &&& Int32.toUInt32 31)).toInt32)) &&& (zI (252645135)))).toUInt32 >>> (((zI (8))).toUInt32 &&& Int32.toUInt32 31)).toInt32))).toUInt32 >>> (((zI (16))).toUInt32 &&& Int32.toUInt32 31)).toInt32))))]) dJ6_bitCount_0f7a4_47 rfl (by decide) rfl ?_
  refine EV.iload_n (i := 0) dJ6_bitCount_0f7a4_48 rfl rfl ?_
  refine EV.bipush dJ6_bitCount_0f7a4_49 (by decide) ?_
  refine EV.iandW dJ6_bitCount_0f7a4_51 ?_
  refine EV.iret rfl dJ6_bitCount_0f7a4_52 ?_
  refine ⟨congrArg (fun z => some (Value.int z)) ?_, rfl⟩
  revert ha
  revert a
  decide +kernel
set_option maxHeartbeats 4000000 in
set_option maxRecDepth 20000 in
theorem c_J9_max_7cf53 (d : Nat) {h : Hp} (x y : Int) (hx : inR x) (hy : inR y) : CT G l mJ9_max_7cf53 (d + 1) 0 0 [.int (zI (x)), .int (zI (y))] h (RQ h ((if x < y then y else x))) := by
  refine CT.ofF (by decide +kernel) (Nat.le_of_ble_eq_true rfl) (List.forall_mem_cons.mpr ⟨rfl, List.forall_mem_cons.mpr ⟨rfl, fun _ h => absurd h List.not_mem_nil⟩⟩) ?_
  refine EV.lvs (lv' := [some (.int (zI (x))), some (.int (zI (y)))]) rfl ?_
  refine EV.iload_n (i := 0) dJ9_max_7cf53_0 rfl rfl ?_
  refine EV.iload_n (i := 1) dJ9_max_7cf53_1 rfl rfl ?_
  refine EV.icmp_lt (t := 9) dJ9_max_7cf53_2 (by decide) (by omega) (fun c2 => ?_) (fun c2 => ?_)
  · skip
    refine EV.iload_n (i := 1) dJ9_max_7cf53_9 rfl rfl ?_
    refine EV.iret rfl dJ9_max_7cf53_10 ?_
    exact rQ (by split <;> omega)
  · skip
    refine EV.iload_n (i := 0) dJ9_max_7cf53_5 rfl rfl ?_
    refine EV.goto (t := 10) dJ9_max_7cf53_6 (by decide) ?_
    refine EV.iret rfl dJ9_max_7cf53_10 ?_
    exact rQ (by split <;> omega)
set_option maxHeartbeats 4000000 in
set_option maxRecDepth 20000 in
theorem c_J9_min_7cf53 (d : Nat) {h : Hp} (x y : Int) (hx : inR x) (hy : inR y) : CT G l mJ9_min_7cf53 (d + 1) 0 0 [.int (zI (x)), .int (zI (y))] h (RQ h ((if y < x then y else x))) := by
  refine CT.ofF (by decide +kernel) (Nat.le_of_ble_eq_true rfl) (List.forall_mem_cons.mpr ⟨rfl, List.forall_mem_cons.mpr ⟨rfl, fun _ h => absurd h List.not_mem_nil⟩⟩) ?_
  refine EV.lvs (lv' := [some (.int (zI (x))), some (.int (zI (y)))]) rfl ?_
  refine EV.iload_n (i := 0) dJ9_min_7cf53_0 rfl rfl ?_
  refine EV.iload_n (i := 1) dJ9_min_7cf53_1 rfl rfl ?_
  refine EV.icmp_gt (t := 9) dJ9_min_7cf53_2 (by decide) (by omega) (fun c2 => ?_) (fun c2 => ?_)
  · skip
    refine EV.iload_n (i := 1) dJ9_min_7cf53_9 rfl rfl ?_
    refine EV.iret rfl dJ9_min_7cf53_10 ?_
    exact rQ (by split <;> omega)
  · skip
    refine EV.iload_n (i := 0) dJ9_min_7cf53_5 rfl rfl ?_
    refine EV.goto (t := 10) dJ9_min_7cf53_6 (by decide) ?_
    refine EV.iret rfl dJ9_min_7cf53_10 ?_
    exact rQ (by split <;> omega)
set_option maxHeartbeats 4000000 in
set_option maxRecDepth 20000 in
theorem c_J9_floorMod_7cf53 (d : Nat) {h : Hp} (x n : Int) (hx : inR x) (hn : 0 < n ∧ n ≤ 8) : CT G l mJ9_floorMod_7cf53 (d + 1) 0 0 [.int (zI (x)), .int (zI (n))] h (RQ h ((x % n))) := by
  refine CT.ofF (by decide +kernel) (Nat.le_of_ble_eq_true rfl) (List.forall_mem_cons.mpr ⟨rfl, List.forall_mem_cons.mpr ⟨rfl, fun _ h => absurd h List.not_mem_nil⟩⟩) ?_
  refine EV.lvs (lv' := [some (.int (zI (x))), some (.int (zI (n))), none]) rfl ?_
  refine EV.iload_n (i := 0) dJ9_floorMod_7cf53_0 rfl rfl ?_
  refine EV.iload_n (i := 1) dJ9_floorMod_7cf53_1 rfl rfl ?_
  refine EV.irem dJ9_floorMod_7cf53_2 (by omega) ?_
  refine EV.istore_n (i := 2) (lv' := [some (.int (zI (x))), some (.int (zI (n))), some (.int (zI ((Int.tmod x n))))]) dJ9_floorMod_7cf53_3 rfl (by decide) rfl ?_
  refine EV.iload_n (i := 0) dJ9_floorMod_7cf53_4 rfl rfl ?_
  refine EV.iload_n (i := 1) dJ9_floorMod_7cf53_5 rfl rfl ?_
  refine EV.ixorW dJ9_floorMod_7cf53_6 ?_
  refine EV.ifgeW (t := 18) dJ9_floorMod_7cf53_7 (by decide) (fun c7 => ?_) (fun c7 => ?_)
  · skip
    have hs := (fm_sgn hx hn).mp c7
    refine EV.iload_n (i := 2) dJ9_floorMod_7cf53_18 rfl rfl ?_
    refine EV.iret rfl dJ9_floorMod_7cf53_19 ?_
    exact rQ (fm_pos hs)
  · skip
    have hs : x < 0 := Int.not_le.mp (fun z => c7 ((fm_sgn hx hn).mpr z))
    refine EV.iload_n (i := 2) dJ9_floorMod_7cf53_10 rfl rfl ?_
    have hb := tm_bnd (x := x) hn
    refine EV.ifeq (t := 18) dJ9_floorMod_7cf53_11 (by decide) (by omega) (fun c11 => ?_) (fun c11 => ?_)
    · skip
      refine EV.iload_n (i := 2) dJ9_floorMod_7cf53_18 rfl rfl ?_
      refine EV.iret rfl dJ9_floorMod_7cf53_19 ?_
      exact rQ (fm_zero c11)
    · skip
      refine EV.iload_n (i := 2) dJ9_floorMod_7cf53_14 rfl rfl ?_
      refine EV.iload_n (i := 1) dJ9_floorMod_7cf53_15 rfl rfl ?_
      refine EV.iadd dJ9_floorMod_7cf53_16 ?_
      refine EV.iret rfl dJ9_floorMod_7cf53_17 ?_
      exact rQ (fm_neg hs hn c11)
end
end
