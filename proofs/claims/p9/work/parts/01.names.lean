-- ===== PART A: goes FIRST, ahead of the names: the tables' words, and 'selects' of the private methods out of them =====
/-- a private method of a class that the tables say can be made, by its rows of tables_1 -/
def lw_okq (q : MethodName × Nat) : Prop := (q.1.cls ≠ "java/lang/invoke/MethodHandle" ∧ q.1.cls ≠ "java/lang/invoke/VarHandle") ∧ Cond.instantiable q.1.cls q.2 ∈ tables_1 ∧ Cond.privateMethod q.1 ∈ tables_1 ∧ Cond.instanceMethod q.1 ∈ tables_1
theorem lw_p0 : lw_okq (⟨"HouseLedger$Accounts", "add", "(I)I"⟩, 8) := ⟨⟨by decide +kernel, by decide +kernel⟩, List.mem_of_getElem? (i := 28) (by decide +kernel), List.mem_of_getElem? (i := 185) (by decide +kernel), List.mem_of_getElem? (i := 186) (by decide +kernel)⟩
theorem lw_p1 : lw_okq (⟨"HouseLedger$Books", "isUnclosedDay", "(J)Z"⟩, 8) := ⟨⟨by decide +kernel, by decide +kernel⟩, List.mem_of_getElem? (i := 22) (by decide +kernel), List.mem_of_getElem? (i := 194) (by decide +kernel), List.mem_of_getElem? (i := 195) (by decide +kernel)⟩
theorem lw_p2 : lw_okq (⟨"HouseLedger$Journal", "add", "(II)I"⟩, 11) := ⟨⟨by decide +kernel, by decide +kernel⟩, List.mem_of_getElem? (i := 68) (by decide +kernel), List.mem_of_getElem? (i := 203) (by decide +kernel), List.mem_of_getElem? (i := 204) (by decide +kernel)⟩
theorem lw_p3 : lw_okq (⟨"HouseLedger$Journal", "isFull", "()Z"⟩, 11) := ⟨⟨by decide +kernel, by decide +kernel⟩, List.mem_of_getElem? (i := 68) (by decide +kernel), List.mem_of_getElem? (i := 207) (by decide +kernel), List.mem_of_getElem? (i := 208) (by decide +kernel)⟩
theorem lw_p4 : lw_okq (⟨"HouseLedger$Journal", "isOpen", "(I)Z"⟩, 11) := ⟨⟨by decide +kernel, by decide +kernel⟩, List.mem_of_getElem? (i := 68) (by decide +kernel), List.mem_of_getElem? (i := 215) (by decide +kernel), List.mem_of_getElem? (i := 216) (by decide +kernel)⟩
theorem lw_p5 : lw_okq (⟨"HouseLedger$Accounts", "has", "(I)Z"⟩, 8) := ⟨⟨by decide +kernel, by decide +kernel⟩, List.mem_of_getElem? (i := 28) (by decide +kernel), List.mem_of_getElem? (i := 219) (by decide +kernel), List.mem_of_getElem? (i := 220) (by decide +kernel)⟩
theorem lw_p6 : lw_okq (⟨"HouseLedger$Journal", "addRow", "(IIJ)Z"⟩, 11) := ⟨⟨by decide +kernel, by decide +kernel⟩, List.mem_of_getElem? (i := 68) (by decide +kernel), List.mem_of_getElem? (i := 225) (by decide +kernel), List.mem_of_getElem? (i := 226) (by decide +kernel)⟩
theorem lw_p7 : lw_okq (⟨"HouseLedger$Journal", "sumUntil", "(II)J"⟩, 11) := ⟨⟨by decide +kernel, by decide +kernel⟩, List.mem_of_getElem? (i := 68) (by decide +kernel), List.mem_of_getElem? (i := 235) (by decide +kernel), List.mem_of_getElem? (i := 236) (by decide +kernel)⟩
theorem lw_p8 : lw_okq (⟨"HouseLedger$Journal", "isPostedRow", "(II)Z"⟩, 11) := ⟨⟨by decide +kernel, by decide +kernel⟩, List.mem_of_getElem? (i := 68) (by decide +kernel), List.mem_of_getElem? (i := 239) (by decide +kernel), List.mem_of_getElem? (i := 240) (by decide +kernel)⟩
theorem lw_p9 : lw_okq (⟨"HouseLedger$Accounts", "firstCash", "()I"⟩, 8) := ⟨⟨by decide +kernel, by decide +kernel⟩, List.mem_of_getElem? (i := 28) (by decide +kernel), List.mem_of_getElem? (i := 247) (by decide +kernel), List.mem_of_getElem? (i := 248) (by decide +kernel)⟩
theorem lw_p10 : lw_okq (⟨"HouseLedger$Accounts", "hasHousehold", "(I)Z"⟩, 8) := ⟨⟨by decide +kernel, by decide +kernel⟩, List.mem_of_getElem? (i := 28) (by decide +kernel), List.mem_of_getElem? (i := 252) (by decide +kernel), List.mem_of_getElem? (i := 253) (by decide +kernel)⟩
theorem lw_p11 : lw_okq (⟨"HouseLedger$Books", "keepFound", "(J)V"⟩, 8) := ⟨⟨by decide +kernel, by decide +kernel⟩, List.mem_of_getElem? (i := 22) (by decide +kernel), List.mem_of_getElem? (i := 257) (by decide +kernel), List.mem_of_getElem? (i := 258) (by decide +kernel)⟩
theorem lw_p12 : lw_okq (⟨"HouseLedger$Journal", "payItems", "(IIJ)V"⟩, 11) := ⟨⟨by decide +kernel, by decide +kernel⟩, List.mem_of_getElem? (i := 68) (by decide +kernel), List.mem_of_getElem? (i := 261) (by decide +kernel), List.mem_of_getElem? (i := 262) (by decide +kernel)⟩
theorem lw_p13 : lw_okq (⟨"HouseLedger$Journal", "itemAt", "(II)I"⟩, 11) := ⟨⟨by decide +kernel, by decide +kernel⟩, List.mem_of_getElem? (i := 68) (by decide +kernel), List.mem_of_getElem? (i := 265) (by decide +kernel), List.mem_of_getElem? (i := 266) (by decide +kernel)⟩
theorem lw_p14 : lw_okq (⟨"HouseLedger$Journal", "keepGift", "(II)V"⟩, 11) := ⟨⟨by decide +kernel, by decide +kernel⟩, List.mem_of_getElem? (i := 68) (by decide +kernel), List.mem_of_getElem? (i := 272) (by decide +kernel), List.mem_of_getElem? (i := 273) (by decide +kernel)⟩
theorem lw_p15 : lw_okq (⟨"HouseLedger$Journal", "itemOf", "(II)I"⟩, 11) := ⟨⟨by decide +kernel, by decide +kernel⟩, List.mem_of_getElem? (i := 68) (by decide +kernel), List.mem_of_getElem? (i := 281) (by decide +kernel), List.mem_of_getElem? (i := 282) (by decide +kernel)⟩
def lw_privs_1 : List (MethodName × Nat) := [(⟨"HouseLedger$Accounts", "add", "(I)I"⟩, 8), (⟨"HouseLedger$Books", "isUnclosedDay", "(J)Z"⟩, 8), (⟨"HouseLedger$Journal", "add", "(II)I"⟩, 11), (⟨"HouseLedger$Journal", "isFull", "()Z"⟩, 11), (⟨"HouseLedger$Journal", "isOpen", "(I)Z"⟩, 11), (⟨"HouseLedger$Accounts", "has", "(I)Z"⟩, 8), (⟨"HouseLedger$Journal", "addRow", "(IIJ)Z"⟩, 11), (⟨"HouseLedger$Journal", "sumUntil", "(II)J"⟩, 11), (⟨"HouseLedger$Journal", "isPostedRow", "(II)Z"⟩, 11), (⟨"HouseLedger$Accounts", "firstCash", "()I"⟩, 8), (⟨"HouseLedger$Accounts", "hasHousehold", "(I)Z"⟩, 8), (⟨"HouseLedger$Books", "keepFound", "(J)V"⟩, 8), (⟨"HouseLedger$Journal", "payItems", "(IIJ)V"⟩, 11), (⟨"HouseLedger$Journal", "itemAt", "(II)I"⟩, 11), (⟨"HouseLedger$Journal", "keepGift", "(II)V"⟩, 11), (⟨"HouseLedger$Journal", "itemOf", "(II)I"⟩, 11)]
theorem lw_r1 : ∀ q ∈ lw_privs_1, lw_okq q := List.forall_mem_cons.mpr ⟨lw_p0, List.forall_mem_cons.mpr ⟨lw_p1, List.forall_mem_cons.mpr ⟨lw_p2, List.forall_mem_cons.mpr ⟨lw_p3, List.forall_mem_cons.mpr ⟨lw_p4, List.forall_mem_cons.mpr ⟨lw_p5, List.forall_mem_cons.mpr ⟨lw_p6, List.forall_mem_cons.mpr ⟨lw_p7, List.forall_mem_cons.mpr ⟨lw_p8, List.forall_mem_cons.mpr ⟨lw_p9, List.forall_mem_cons.mpr ⟨lw_p10, List.forall_mem_cons.mpr ⟨lw_p11, List.forall_mem_cons.mpr ⟨lw_p12, List.forall_mem_cons.mpr ⟨lw_p13, List.forall_mem_cons.mpr ⟨lw_p14, List.forall_mem_cons.mpr ⟨lw_p15, fun _ h => absurd h List.not_mem_nil⟩⟩⟩⟩⟩⟩⟩⟩⟩⟩⟩⟩⟩⟩⟩⟩
theorem lw_p16 : lw_okq (⟨"HouseLedger$Journal", "toldGift", "(II)I"⟩, 11) := ⟨⟨by decide +kernel, by decide +kernel⟩, List.mem_of_getElem? (i := 68) (by decide +kernel), List.mem_of_getElem? (i := 289) (by decide +kernel), List.mem_of_getElem? (i := 290) (by decide +kernel)⟩
theorem lw_p17 : lw_okq (⟨"HouseLedger$Journal", "isOverdue", "(II)Z"⟩, 11) := ⟨⟨by decide +kernel, by decide +kernel⟩, List.mem_of_getElem? (i := 68) (by decide +kernel), List.mem_of_getElem? (i := 300) (by decide +kernel), List.mem_of_getElem? (i := 301) (by decide +kernel)⟩
theorem lw_p18 : lw_okq (⟨"HouseLedger$Journal", "daysLate", "(II)I"⟩, 11) := ⟨⟨by decide +kernel, by decide +kernel⟩, List.mem_of_getElem? (i := 68) (by decide +kernel), List.mem_of_getElem? (i := 304) (by decide +kernel), List.mem_of_getElem? (i := 305) (by decide +kernel)⟩
theorem lw_p19 : lw_okq (⟨"HouseLedger$Accounts", "mayStep", "(II)Z"⟩, 8) := ⟨⟨by decide +kernel, by decide +kernel⟩, List.mem_of_getElem? (i := 28) (by decide +kernel), List.mem_of_getElem? (i := 311) (by decide +kernel), List.mem_of_getElem? (i := 312) (by decide +kernel)⟩
theorem lw_p20 : lw_okq (⟨"HouseLedger$Accounts", "stepUp", "(II)V"⟩, 8) := ⟨⟨by decide +kernel, by decide +kernel⟩, List.mem_of_getElem? (i := 28) (by decide +kernel), List.mem_of_getElem? (i := 315) (by decide +kernel), List.mem_of_getElem? (i := 316) (by decide +kernel)⟩
theorem lw_p21 : lw_okq (⟨"HouseLedger$Journal", "dueOf", "(I)J"⟩, 11) := ⟨⟨by decide +kernel, by decide +kernel⟩, List.mem_of_getElem? (i := 68) (by decide +kernel), List.mem_of_getElem? (i := 330) (by decide +kernel), List.mem_of_getElem? (i := 331) (by decide +kernel)⟩
theorem lw_p22 : lw_okq (⟨"HouseLedger$Plans", "add", "(JI)I"⟩, 4) := ⟨⟨by decide +kernel, by decide +kernel⟩, List.mem_of_getElem? (i := 116) (by decide +kernel), List.mem_of_getElem? (i := 334) (by decide +kernel), List.mem_of_getElem? (i := 335) (by decide +kernel)⟩
theorem lw_p23 : lw_okq (⟨"HouseLedger$Plans", "partOf", "(II)J"⟩, 4) := ⟨⟨by decide +kernel, by decide +kernel⟩, List.mem_of_getElem? (i := 116) (by decide +kernel), List.mem_of_getElem? (i := 342) (by decide +kernel), List.mem_of_getElem? (i := 343) (by decide +kernel)⟩
theorem lw_p24 : lw_okq (⟨"HouseLedger$Accounts", "hasMoved", "(I)Z"⟩, 8) := ⟨⟨by decide +kernel, by decide +kernel⟩, List.mem_of_getElem? (i := 28) (by decide +kernel), List.mem_of_getElem? (i := 351) (by decide +kernel), List.mem_of_getElem? (i := 352) (by decide +kernel)⟩
theorem lw_p25 : lw_okq (⟨"HouseLedger$Accounts", "daysThere", "(II)I"⟩, 8) := ⟨⟨by decide +kernel, by decide +kernel⟩, List.mem_of_getElem? (i := 28) (by decide +kernel), List.mem_of_getElem? (i := 362) (by decide +kernel), List.mem_of_getElem? (i := 363) (by decide +kernel)⟩
theorem lw_p26 : lw_okq (⟨"HouseLedger$Books", "copyFrom", "(LHouseLedger$Books;)V"⟩, 8) := ⟨⟨by decide +kernel, by decide +kernel⟩, List.mem_of_getElem? (i := 22) (by decide +kernel), List.mem_of_getElem? (i := 381) (by decide +kernel), List.mem_of_getElem? (i := 382) (by decide +kernel)⟩
theorem lw_p27 : lw_okq (⟨"HouseLedger$Accounts", "copyFrom", "(LHouseLedger$Accounts;)V"⟩, 8) := ⟨⟨by decide +kernel, by decide +kernel⟩, List.mem_of_getElem? (i := 28) (by decide +kernel), List.mem_of_getElem? (i := 385) (by decide +kernel), List.mem_of_getElem? (i := 386) (by decide +kernel)⟩
theorem lw_p28 : lw_okq (⟨"HouseLedger$Journal", "copyFrom", "(LHouseLedger$Journal;)V"⟩, 11) := ⟨⟨by decide +kernel, by decide +kernel⟩, List.mem_of_getElem? (i := 68) (by decide +kernel), List.mem_of_getElem? (i := 399) (by decide +kernel), List.mem_of_getElem? (i := 400) (by decide +kernel)⟩
theorem lw_p29 : lw_okq (⟨"HouseLedger$Plans", "copyFrom", "(LHouseLedger$Plans;)V"⟩, 4) := ⟨⟨by decide +kernel, by decide +kernel⟩, List.mem_of_getElem? (i := 116) (by decide +kernel), List.mem_of_getElem? (i := 405) (by decide +kernel), List.mem_of_getElem? (i := 406) (by decide +kernel)⟩
theorem lw_p30 : lw_okq (⟨"HouseLedger$Journal", "isReversible", "(I)Z"⟩, 11) := ⟨⟨by decide +kernel, by decide +kernel⟩, List.mem_of_getElem? (i := 68) (by decide +kernel), List.mem_of_getElem? (i := 424) (by decide +kernel), List.mem_of_getElem? (i := 425) (by decide +kernel)⟩
theorem lw_p31 : lw_okq (⟨"HouseLedger$Journal", "turnRows", "(II)V"⟩, 11) := ⟨⟨by decide +kernel, by decide +kernel⟩, List.mem_of_getElem? (i := 68) (by decide +kernel), List.mem_of_getElem? (i := 428) (by decide +kernel), List.mem_of_getElem? (i := 429) (by decide +kernel)⟩
def lw_privs_2 : List (MethodName × Nat) := [(⟨"HouseLedger$Journal", "toldGift", "(II)I"⟩, 11), (⟨"HouseLedger$Journal", "isOverdue", "(II)Z"⟩, 11), (⟨"HouseLedger$Journal", "daysLate", "(II)I"⟩, 11), (⟨"HouseLedger$Accounts", "mayStep", "(II)Z"⟩, 8), (⟨"HouseLedger$Accounts", "stepUp", "(II)V"⟩, 8), (⟨"HouseLedger$Journal", "dueOf", "(I)J"⟩, 11), (⟨"HouseLedger$Plans", "add", "(JI)I"⟩, 4), (⟨"HouseLedger$Plans", "partOf", "(II)J"⟩, 4), (⟨"HouseLedger$Accounts", "hasMoved", "(I)Z"⟩, 8), (⟨"HouseLedger$Accounts", "daysThere", "(II)I"⟩, 8), (⟨"HouseLedger$Books", "copyFrom", "(LHouseLedger$Books;)V"⟩, 8), (⟨"HouseLedger$Accounts", "copyFrom", "(LHouseLedger$Accounts;)V"⟩, 8), (⟨"HouseLedger$Journal", "copyFrom", "(LHouseLedger$Journal;)V"⟩, 11), (⟨"HouseLedger$Plans", "copyFrom", "(LHouseLedger$Plans;)V"⟩, 4), (⟨"HouseLedger$Journal", "isReversible", "(I)Z"⟩, 11), (⟨"HouseLedger$Journal", "turnRows", "(II)V"⟩, 11)]
theorem lw_r2 : ∀ q ∈ lw_privs_2, lw_okq q := List.forall_mem_cons.mpr ⟨lw_p16, List.forall_mem_cons.mpr ⟨lw_p17, List.forall_mem_cons.mpr ⟨lw_p18, List.forall_mem_cons.mpr ⟨lw_p19, List.forall_mem_cons.mpr ⟨lw_p20, List.forall_mem_cons.mpr ⟨lw_p21, List.forall_mem_cons.mpr ⟨lw_p22, List.forall_mem_cons.mpr ⟨lw_p23, List.forall_mem_cons.mpr ⟨lw_p24, List.forall_mem_cons.mpr ⟨lw_p25, List.forall_mem_cons.mpr ⟨lw_p26, List.forall_mem_cons.mpr ⟨lw_p27, List.forall_mem_cons.mpr ⟨lw_p28, List.forall_mem_cons.mpr ⟨lw_p29, List.forall_mem_cons.mpr ⟨lw_p30, List.forall_mem_cons.mpr ⟨lw_p31, fun _ h => absurd h List.not_mem_nil⟩⟩⟩⟩⟩⟩⟩⟩⟩⟩⟩⟩⟩⟩⟩⟩
theorem lw_p32 : lw_okq (⟨"HouseLedger$Journal", "clearItems", "(I)V"⟩, 11) := ⟨⟨by decide +kernel, by decide +kernel⟩, List.mem_of_getElem? (i := 68) (by decide +kernel), List.mem_of_getElem? (i := 433) (by decide +kernel), List.mem_of_getElem? (i := 434) (by decide +kernel)⟩
theorem lw_p33 : lw_okq (⟨"HouseLedger$Journal", "centDays", "(II)J"⟩, 11) := ⟨⟨by decide +kernel, by decide +kernel⟩, List.mem_of_getElem? (i := 68) (by decide +kernel), List.mem_of_getElem? (i := 441) (by decide +kernel), List.mem_of_getElem? (i := 442) (by decide +kernel)⟩
theorem lw_p34 : lw_okq (⟨"HouseLedger$Journal", "toldRow", "(III)I"⟩, 11) := ⟨⟨by decide +kernel, by decide +kernel⟩, List.mem_of_getElem? (i := 68) (by decide +kernel), List.mem_of_getElem? (i := 456) (by decide +kernel), List.mem_of_getElem? (i := 457) (by decide +kernel)⟩
theorem lw_p35 : lw_okq (⟨"HouseLedger$Journal", "isPostedRowIn", "(III)Z"⟩, 11) := ⟨⟨by decide +kernel, by decide +kernel⟩, List.mem_of_getElem? (i := 68) (by decide +kernel), List.mem_of_getElem? (i := 460) (by decide +kernel), List.mem_of_getElem? (i := 461) (by decide +kernel)⟩
theorem lw_p36 : lw_okq (⟨"HouseLedger$Books", "incomeOf", "(I)J"⟩, 8) := ⟨⟨by decide +kernel, by decide +kernel⟩, List.mem_of_getElem? (i := 22) (by decide +kernel), List.mem_of_getElem? (i := 468) (by decide +kernel), List.mem_of_getElem? (i := 469) (by decide +kernel)⟩
theorem lw_p37 : lw_okq (⟨"HouseLedger$Journal", "sumIn", "(II)J"⟩, 11) := ⟨⟨by decide +kernel, by decide +kernel⟩, List.mem_of_getElem? (i := 68) (by decide +kernel), List.mem_of_getElem? (i := 472) (by decide +kernel), List.mem_of_getElem? (i := 473) (by decide +kernel)⟩
theorem lw_p38 : lw_okq (⟨"HouseLedger$Journal", "sumOf", "(I)J"⟩, 11) := ⟨⟨by decide +kernel, by decide +kernel⟩, List.mem_of_getElem? (i := 68) (by decide +kernel), List.mem_of_getElem? (i := 489) (by decide +kernel), List.mem_of_getElem? (i := 490) (by decide +kernel)⟩
theorem lw_p39 : lw_okq (⟨"java/lang/Throwable", "fillInStackTrace", "(I)Ljava/lang/Throwable;"⟩, 6) := ⟨⟨by decide +kernel, by decide +kernel⟩, List.mem_of_getElem? (i := 529) (by decide +kernel), List.mem_of_getElem? (i := 527) (by decide +kernel), List.mem_of_getElem? (i := 528) (by decide +kernel)⟩
theorem lw_p40 : lw_okq (⟨"HouseLedger$Books", "makeItems", "(I)V"⟩, 8) := ⟨⟨by decide +kernel, by decide +kernel⟩, List.mem_of_getElem? (i := 22) (by decide +kernel), List.mem_of_getElem? (i := 559) (by decide +kernel), List.mem_of_getElem? (i := 560) (by decide +kernel)⟩
theorem lw_p41 : lw_okq (⟨"HouseLedgerModel", "isLate", "(J)Z"⟩, 5) := ⟨⟨by decide +kernel, by decide +kernel⟩, List.mem_of_getElem? (i := 564) (by decide +kernel), List.mem_of_getElem? (i := 603) (by decide +kernel), List.mem_of_getElem? (i := 604) (by decide +kernel)⟩
theorem lw_p42 : lw_okq (⟨"HouseLedgerModel", "addEntry", "(JI)I"⟩, 5) := ⟨⟨by decide +kernel, by decide +kernel⟩, List.mem_of_getElem? (i := 564) (by decide +kernel), List.mem_of_getElem? (i := 608) (by decide +kernel), List.mem_of_getElem? (i := 609) (by decide +kernel)⟩
theorem lw_p43 : lw_okq (⟨"HouseLedgerModel", "isEntry", "(I)Z"⟩, 5) := ⟨⟨by decide +kernel, by decide +kernel⟩, List.mem_of_getElem? (i := 564) (by decide +kernel), List.mem_of_getElem? (i := 616) (by decide +kernel), List.mem_of_getElem? (i := 617) (by decide +kernel)⟩
theorem lw_p44 : lw_okq (⟨"HouseLedgerModel", "isAccount", "(I)Z"⟩, 5) := ⟨⟨by decide +kernel, by decide +kernel⟩, List.mem_of_getElem? (i := 564) (by decide +kernel), List.mem_of_getElem? (i := 620) (by decide +kernel), List.mem_of_getElem? (i := 621) (by decide +kernel)⟩
theorem lw_p45 : lw_okq (⟨"HouseLedgerModel", "addRow", "(IIJ)V"⟩, 5) := ⟨⟨by decide +kernel, by decide +kernel⟩, List.mem_of_getElem? (i := 564) (by decide +kernel), List.mem_of_getElem? (i := 627) (by decide +kernel), List.mem_of_getElem? (i := 628) (by decide +kernel)⟩
theorem lw_p46 : lw_okq (⟨"HouseLedgerModel", "isItem", "(II)Z"⟩, 5) := ⟨⟨by decide +kernel, by decide +kernel⟩, List.mem_of_getElem? (i := 564) (by decide +kernel), List.mem_of_getElem? (i := 635) (by decide +kernel), List.mem_of_getElem? (i := 636) (by decide +kernel)⟩
theorem lw_p47 : lw_okq (⟨"HouseLedgerModel", "isHousehold", "(I)Z"⟩, 5) := ⟨⟨by decide +kernel, by decide +kernel⟩, List.mem_of_getElem? (i := 564) (by decide +kernel), List.mem_of_getElem? (i := 647) (by decide +kernel), List.mem_of_getElem? (i := 648) (by decide +kernel)⟩
def lw_privs_3 : List (MethodName × Nat) := [(⟨"HouseLedger$Journal", "clearItems", "(I)V"⟩, 11), (⟨"HouseLedger$Journal", "centDays", "(II)J"⟩, 11), (⟨"HouseLedger$Journal", "toldRow", "(III)I"⟩, 11), (⟨"HouseLedger$Journal", "isPostedRowIn", "(III)Z"⟩, 11), (⟨"HouseLedger$Books", "incomeOf", "(I)J"⟩, 8), (⟨"HouseLedger$Journal", "sumIn", "(II)J"⟩, 11), (⟨"HouseLedger$Journal", "sumOf", "(I)J"⟩, 11), (⟨"java/lang/Throwable", "fillInStackTrace", "(I)Ljava/lang/Throwable;"⟩, 6), (⟨"HouseLedger$Books", "makeItems", "(I)V"⟩, 8), (⟨"HouseLedgerModel", "isLate", "(J)Z"⟩, 5), (⟨"HouseLedgerModel", "addEntry", "(JI)I"⟩, 5), (⟨"HouseLedgerModel", "isEntry", "(I)Z"⟩, 5), (⟨"HouseLedgerModel", "isAccount", "(I)Z"⟩, 5), (⟨"HouseLedgerModel", "addRow", "(IIJ)V"⟩, 5), (⟨"HouseLedgerModel", "isItem", "(II)Z"⟩, 5), (⟨"HouseLedgerModel", "isHousehold", "(I)Z"⟩, 5)]
theorem lw_r3 : ∀ q ∈ lw_privs_3, lw_okq q := List.forall_mem_cons.mpr ⟨lw_p32, List.forall_mem_cons.mpr ⟨lw_p33, List.forall_mem_cons.mpr ⟨lw_p34, List.forall_mem_cons.mpr ⟨lw_p35, List.forall_mem_cons.mpr ⟨lw_p36, List.forall_mem_cons.mpr ⟨lw_p37, List.forall_mem_cons.mpr ⟨lw_p38, List.forall_mem_cons.mpr ⟨lw_p39, List.forall_mem_cons.mpr ⟨lw_p40, List.forall_mem_cons.mpr ⟨lw_p41, List.forall_mem_cons.mpr ⟨lw_p42, List.forall_mem_cons.mpr ⟨lw_p43, List.forall_mem_cons.mpr ⟨lw_p44, List.forall_mem_cons.mpr ⟨lw_p45, List.forall_mem_cons.mpr ⟨lw_p46, List.forall_mem_cons.mpr ⟨lw_p47, fun _ h => absurd h List.not_mem_nil⟩⟩⟩⟩⟩⟩⟩⟩⟩⟩⟩⟩⟩⟩⟩⟩
theorem lw_p48 : lw_okq (⟨"HouseLedgerModel", "itemAt", "(II)I"⟩, 5) := ⟨⟨by decide +kernel, by decide +kernel⟩, List.mem_of_getElem? (i := 564) (by decide +kernel), List.mem_of_getElem? (i := 652) (by decide +kernel), List.mem_of_getElem? (i := 653) (by decide +kernel)⟩
theorem lw_p49 : lw_okq (⟨"HouseLedgerModel", "isItemOf", "(II)Z"⟩, 5) := ⟨⟨by decide +kernel, by decide +kernel⟩, List.mem_of_getElem? (i := 564) (by decide +kernel), List.mem_of_getElem? (i := 656) (by decide +kernel), List.mem_of_getElem? (i := 657) (by decide +kernel)⟩
theorem lw_p50 : lw_okq (⟨"HouseLedgerModel", "isBefore", "(II)Z"⟩, 5) := ⟨⟨by decide +kernel, by decide +kernel⟩, List.mem_of_getElem? (i := 564) (by decide +kernel), List.mem_of_getElem? (i := 660) (by decide +kernel), List.mem_of_getElem? (i := 661) (by decide +kernel)⟩
theorem lw_p51 : lw_okq (⟨"HouseLedgerModel", "gave", "(II)Z"⟩, 5) := ⟨⟨by decide +kernel, by decide +kernel⟩, List.mem_of_getElem? (i := 564) (by decide +kernel), List.mem_of_getElem? (i := 673) (by decide +kernel), List.mem_of_getElem? (i := 674) (by decide +kernel)⟩
theorem lw_p52 : lw_okq (⟨"HouseLedgerModel", "hasOld", "(IJ)Z"⟩, 5) := ⟨⟨by decide +kernel, by decide +kernel⟩, List.mem_of_getElem? (i := 564) (by decide +kernel), List.mem_of_getElem? (i := 681) (by decide +kernel), List.mem_of_getElem? (i := 682) (by decide +kernel)⟩
theorem lw_p53 : lw_okq (⟨"HouseLedgerModel", "allDue", "(I)J"⟩, 5) := ⟨⟨by decide +kernel, by decide +kernel⟩, List.mem_of_getElem? (i := 564) (by decide +kernel), List.mem_of_getElem? (i := 697) (by decide +kernel), List.mem_of_getElem? (i := 698) (by decide +kernel)⟩
theorem lw_p54 : lw_okq (⟨"HouseLedgerModel", "hasMoved", "(I)Z"⟩, 5) := ⟨⟨by decide +kernel, by decide +kernel⟩, List.mem_of_getElem? (i := 564) (by decide +kernel), List.mem_of_getElem? (i := 709) (by decide +kernel), List.mem_of_getElem? (i := 710) (by decide +kernel)⟩
theorem lw_p55 : lw_okq (⟨"HouseLedgerModel", "isPaid", "(I)Z"⟩, 5) := ⟨⟨by decide +kernel, by decide +kernel⟩, List.mem_of_getElem? (i := 564) (by decide +kernel), List.mem_of_getElem? (i := 740) (by decide +kernel), List.mem_of_getElem? (i := 741) (by decide +kernel)⟩
def lw_privs_4 : List (MethodName × Nat) := [(⟨"HouseLedgerModel", "itemAt", "(II)I"⟩, 5), (⟨"HouseLedgerModel", "isItemOf", "(II)Z"⟩, 5), (⟨"HouseLedgerModel", "isBefore", "(II)Z"⟩, 5), (⟨"HouseLedgerModel", "gave", "(II)Z"⟩, 5), (⟨"HouseLedgerModel", "hasOld", "(IJ)Z"⟩, 5), (⟨"HouseLedgerModel", "allDue", "(I)J"⟩, 5), (⟨"HouseLedgerModel", "hasMoved", "(I)Z"⟩, 5), (⟨"HouseLedgerModel", "isPaid", "(I)Z"⟩, 5)]
theorem lw_r4 : ∀ q ∈ lw_privs_4, lw_okq q := List.forall_mem_cons.mpr ⟨lw_p48, List.forall_mem_cons.mpr ⟨lw_p49, List.forall_mem_cons.mpr ⟨lw_p50, List.forall_mem_cons.mpr ⟨lw_p51, List.forall_mem_cons.mpr ⟨lw_p52, List.forall_mem_cons.mpr ⟨lw_p53, List.forall_mem_cons.mpr ⟨lw_p54, List.forall_mem_cons.mpr ⟨lw_p55, fun _ h => absurd h List.not_mem_nil⟩⟩⟩⟩⟩⟩⟩⟩
def lw_privs : List (MethodName × Nat) := lw_privs_1 ++ (lw_privs_2 ++ (lw_privs_3 ++ (lw_privs_4)))
def lw_tbl : List Cond := k2_sels lw_privs ++ tables_1
theorem lw_privs_ok : ∀ q ∈ lw_privs, lw_okq q := by
  show ∀ q ∈ lw_privs_1 ++ (lw_privs_2 ++ (lw_privs_3 ++ (lw_privs_4))), lw_okq q
  exact List.forall_mem_append.mpr ⟨lw_r1, List.forall_mem_append.mpr ⟨lw_r2, List.forall_mem_append.mpr ⟨lw_r3, lw_r4⟩⟩⟩
def isNest : Cond → Bool
  | .fieldLinkNest .. => true
  | .methodLinkNest .. => true
  | _ => false
def wALL : List Cond := lw_tbl.filter goodWord
def wNW : List Cond := lw_tbl.filter isNest
theorem wALL_ok : ∀ w ∈ wALL, goodWord w = true := fun w h => (List.mem_filter.mp h).2
theorem wNW_ok : ∀ w ∈ wNW, isNest w = true := fun w h => (List.mem_filter.mp h).2
def RHL : String := "HouseLedger"
def THL : u_T := fun k => match k with
  | 0 => ("HouseLedger", "now", "LHouseLedger$Books;", true)
  | 1 => ("HouseLedger", "kept", "LHouseLedger$Books;", true)
  | 2 => ("HouseLedger", "batchIsOpen", "Z", false)
  | _ => ("HouseLedger", "batchesOpened", "I", false)
def tyHL : Nat → FieldType := fun k => match k with
  | 0 => .object "HouseLedger$Books"
  | 1 => .object "HouseLedger$Books"
  | 2 => .boolean
  | _ => .int
theorem nmHL : ∀ a, a < 4 → ∀ b, b < 4 → a ≠ b → (THL a).2.1 ≠ (THL b).2.1 := by decide +kernel
theorem tyHL_ok : ∀ k, k < 4 → parseFieldDescriptor (THL k).2.2.1 = some (tyHL k) := by decide +kernel
def RAC : String := "HouseLedger$Accounts"
def TAC : u_T := fun k => match k with
  | 0 => ("HouseLedger$Accounts", "count", "I", false)
  | 1 => ("HouseLedger$Accounts", "kinds", "[I", true)
  | 2 => ("HouseLedger$Accounts", "steps", "[I", true)
  | 3 => ("HouseLedger$Accounts", "stepDays", "[I", true)
  | 4 => ("HouseLedger$Accounts", "hardshipFrom", "[J", true)
  | 5 => ("HouseLedger$Accounts", "hardshipTo", "[J", true)
  | 6 => ("HouseLedger$Accounts", "inDays", "[I", true)
  | _ => ("HouseLedger$Accounts", "outDays", "[I", true)
def tyAC : Nat → FieldType := fun k => match k with
  | 0 => .int
  | 1 => .array .int
  | 2 => .array .int
  | 3 => .array .int
  | 4 => .array .long
  | 5 => .array .long
  | 6 => .array .int
  | _ => .array .int
theorem nmAC : ∀ a, a < 8 → ∀ b, b < 8 → a ≠ b → (TAC a).2.1 ≠ (TAC b).2.1 := by decide +kernel
theorem tyAC_ok : ∀ k, k < 8 → parseFieldDescriptor (TAC k).2.2.1 = some (tyAC k) := by decide +kernel
def RBO : String := "HouseLedger$Books"
def TBO : u_T := fun k => match k with
  | 0 => ("HouseLedger$Books", "accounts", "LHouseLedger$Accounts;", true)
  | 1 => ("HouseLedger$Books", "journal", "LHouseLedger$Journal;", true)
  | 2 => ("HouseLedger$Books", "plans", "LHouseLedger$Plans;", true)
  | 3 => ("HouseLedger$Books", "foundCents", "[J", true)
  | 4 => ("HouseLedger$Books", "foundCount", "I", false)
  | 5 => ("HouseLedger$Books", "closedMonths", "I", false)
  | 6 => ("HouseLedger$Books", "rateAbove", "J", false)
  | _ => ("HouseLedger$Books", "rateBelow", "J", false)
def tyBO : Nat → FieldType := fun k => match k with
  | 0 => .object "HouseLedger$Accounts"
  | 1 => .object "HouseLedger$Journal"
  | 2 => .object "HouseLedger$Plans"
  | 3 => .array .long
  | 4 => .int
  | 5 => .int
  | 6 => .long
  | _ => .long
theorem nmBO : ∀ a, a < 8 → ∀ b, b < 8 → a ≠ b → (TBO a).2.1 ≠ (TBO b).2.1 := by decide +kernel
theorem tyBO_ok : ∀ k, k < 8 → parseFieldDescriptor (TBO k).2.2.1 = some (tyBO k) := by decide +kernel
def RJO : String := "HouseLedger$Journal"
def TJO : u_T := fun k => match k with
  | 0 => ("HouseLedger$Journal", "count", "I", false)
  | 1 => ("HouseLedger$Journal", "days", "[I", true)
  | 2 => ("HouseLedger$Journal", "states", "[I", true)
  | 3 => ("HouseLedger$Journal", "rowCounts", "[I", true)
  | 4 => ("HouseLedger$Journal", "byDays", "[I", true)
  | 5 => ("HouseLedger$Journal", "accounts", "[I", true)
  | 6 => ("HouseLedger$Journal", "cents", "[J", true)
  | 7 => ("HouseLedger$Journal", "dues", "[J", true)
  | 8 => ("HouseLedger$Journal", "giftCount", "I", false)
  | 9 => ("HouseLedger$Journal", "giftPayments", "[I", true)
  | _ => ("HouseLedger$Journal", "giftSlots", "[I", true)
def tyJO : Nat → FieldType := fun k => match k with
  | 0 => .int
  | 1 => .array .int
  | 2 => .array .int
  | 3 => .array .int
  | 4 => .array .int
  | 5 => .array .int
  | 6 => .array .long
  | 7 => .array .long
  | 8 => .int
  | 9 => .array .int
  | _ => .array .int
theorem nmJO : ∀ a, a < 11 → ∀ b, b < 11 → a ≠ b → (TJO a).2.1 ≠ (TJO b).2.1 := by decide +kernel
theorem tyJO_ok : ∀ k, k < 11 → parseFieldDescriptor (TJO k).2.2.1 = some (tyJO k) := by decide +kernel
def RPL : String := "HouseLedger$Plans"
def TPL : u_T := fun k => match k with
  | 0 => ("HouseLedger$Plans", "count", "I", false)
  | 1 => ("HouseLedger$Plans", "months", "[I", true)
  | 2 => ("HouseLedger$Plans", "parts", "[J", true)
  | _ => ("HouseLedger$Plans", "longer", "[J", true)
def tyPL : Nat → FieldType := fun k => match k with
  | 0 => .int
  | 1 => .array .int
  | 2 => .array .long
  | _ => .array .long
theorem nmPL : ∀ a, a < 4 → ∀ b, b < 4 → a ≠ b → (TPL a).2.1 ≠ (TPL b).2.1 := by decide +kernel
theorem tyPL_ok : ∀ k, k < 4 → parseFieldDescriptor (TPL k).2.2.1 = some (tyPL k) := by decide +kernel
def RMO : String := "HouseLedgerModel"
def TMO : u_T := fun k => match k with
  | 0 => ("HouseLedgerModel", "b", "[J", true)
  | 1 => ("HouseLedgerModel", "kept", "[J", true)
  | 2 => ("HouseLedgerModel", "isOpen", "Z", false)
  | 3 => ("HouseLedgerModel", "batches", "I", false)
  | _ => ("HouseLedgerModel", "fault", "I", false)
def tyMO : Nat → FieldType := fun k => match k with
  | 0 => .array .long
  | 1 => .array .long
  | 2 => .boolean
  | 3 => .int
  | _ => .int
theorem nmMO : ∀ a, a < 5 → ∀ b, b < 5 → a ≠ b → (TMO a).2.1 ≠ (TMO b).2.1 := by decide +kernel
theorem tyMO_ok : ∀ k, k < 5 → parseFieldDescriptor (TMO k).2.2.1 = some (tyMO k) := by decide +kernel
def RLA : String := "HouseLedgerLaw"
abbrev vwCl : List vw_C := [(RHL, THL, 4), (RAC, TAC, 8), (RBO, TBO, 8), (RJO, TJO, 11), (RPL, TPL, 4), (RMO, TMO, 5)]
def IAE : String := "java/lang/IllegalArgumentException"
abbrev bLA_law : ByteArray := code
abbrev bLA_close : ByteArray := method_3_code
def yLA_close : MethodName := ⟨RLA, "close", "(LHouseLedger;I[J)I"⟩
abbrev hhLA_close : List (Nat × Nat × Nat × Nat) := [(0, 9, 12, 13)]
abbrev bHL_init : ByteArray := prog_1_method_1_code
def yHL_init : MethodName := ⟨RHL, "<init>", "()V"⟩
abbrev bHL_account : ByteArray := prog_1_method_2_code
def yHL_account : MethodName := ⟨RHL, "account", "(I)I"⟩
abbrev bHL_entry : ByteArray := prog_1_method_3_code
def yHL_entry : MethodName := ⟨RHL, "entry", "(J)I"⟩
abbrev bHL_row : ByteArray := prog_1_method_4_code
def yHL_row : MethodName := ⟨RHL, "row", "(IIJ)Z"⟩
abbrev bHL_close : ByteArray := prog_1_method_5_code
def yHL_close : MethodName := ⟨RHL, "close", "(I)I"⟩
abbrev bHL_balance : ByteArray := prog_1_method_6_code
def yHL_balance : MethodName := ⟨RHL, "balance", "(IJ)J"⟩
abbrev bHL_payment : ByteArray := prog_1_method_7_code
def yHL_payment : MethodName := ⟨RHL, "payment", "(IJJ)I"⟩
abbrev bHL_item : ByteArray := prog_1_method_8_code
def yHL_item : MethodName := ⟨RHL, "item", "(II)J"⟩
abbrev bHL_opened : ByteArray := prog_1_method_9_code
def yHL_opened : MethodName := ⟨RHL, "opened", "(II)I"⟩
abbrev bHL_dun : ByteArray := prog_1_method_10_code
def yHL_dun : MethodName := ⟨RHL, "dun", "(IJ)I"⟩
abbrev bHL_hardship : ByteArray := prog_1_method_11_code
def yHL_hardship : MethodName := ⟨RHL, "hardship", "(IJJ)Z"⟩
abbrev bHL_instal : ByteArray := prog_1_method_12_code
def yHL_instal : MethodName := ⟨RHL, "instal", "(II)I"⟩
abbrev bHL_due : ByteArray := prog_1_method_13_code
def yHL_due : MethodName := ⟨RHL, "due", "(II)J"⟩
abbrev bHL_move : ByteArray := prog_1_method_14_code
def yHL_move : MethodName := ⟨RHL, "move", "(IIJ)Z"⟩
abbrev bHL_share : ByteArray := prog_1_method_15_code
def yHL_share : MethodName := ⟨RHL, "share", "(III)J"⟩
abbrev bHL_batch : ByteArray := prog_1_method_16_code
def yHL_batch : MethodName := ⟨RHL, "batch", "()I"⟩
abbrev bHL_endBatch : ByteArray := prog_1_method_17_code
def yHL_endBatch : MethodName := ⟨RHL, "endBatch", "(Z)Z"⟩
abbrev bHL_closeMonth : ByteArray := prog_1_method_18_code
def yHL_closeMonth : MethodName := ⟨RHL, "closeMonth", "(I)Z"⟩
abbrev bHL_reverse : ByteArray := prog_1_method_19_code
def yHL_reverse : MethodName := ⟨RHL, "reverse", "(IJ)I"⟩
abbrev bHL_interest : ByteArray := prog_1_method_20_code
def yHL_interest : MethodName := ⟨RHL, "interest", "(IJI)J"⟩
abbrev bHL_rate : ByteArray := prog_1_method_21_code
def yHL_rate : MethodName := ⟨RHL, "rate", "(JJ)Z"⟩
abbrev bHL_statement : ByteArray := prog_1_method_22_code
def yHL_statement : MethodName := ⟨RHL, "statement", "(III)I"⟩
abbrev bHL_tax : ByteArray := prog_1_method_23_code
def yHL_tax : MethodName := ⟨RHL, "tax", "(I)J"⟩
abbrev bHL_found : ByteArray := prog_1_method_24_code
def yHL_found : MethodName := ⟨RHL, "found", "(I)J"⟩
abbrev bHL_isDay : ByteArray := prog_1_method_25_code
def yHL_isDay : MethodName := ⟨RHL, "isDay", "(J)Z"⟩
abbrev bHL_isMonth : ByteArray := prog_1_method_26_code
def yHL_isMonth : MethodName := ⟨RHL, "isMonth", "(I)Z"⟩
abbrev bHL_inLowestTerms : ByteArray := prog_1_method_27_code
def yHL_inLowestTerms : MethodName := ⟨RHL, "inLowestTerms", "(JJI)J"⟩
abbrev bHL_commonDivisor : ByteArray := prog_1_method_28_code
def yHL_commonDivisor : MethodName := ⟨RHL, "commonDivisor", "(JJ)J"⟩
abbrev bHL_copyInts : ByteArray := prog_1_method_29_code
def yHL_copyInts : MethodName := ⟨RHL, "copyInts", "([I[I)V"⟩
abbrev bHL_copyLongs : ByteArray := prog_1_method_30_code
def yHL_copyLongs : MethodName := ⟨RHL, "copyLongs", "([J[J)V"⟩
abbrev bAC_init : ByteArray := prog_2_method_1_code
def yAC_init : MethodName := ⟨RAC, "<init>", "()V"⟩
abbrev bAC_copyFrom : ByteArray := prog_2_method_2_code
def yAC_copyFrom : MethodName := ⟨RAC, "copyFrom", "(LHouseLedger$Accounts;)V"⟩
abbrev bAC_add : ByteArray := prog_2_method_3_code
def yAC_add : MethodName := ⟨RAC, "add", "(I)I"⟩
abbrev bAC_has : ByteArray := prog_2_method_4_code
def yAC_has : MethodName := ⟨RAC, "has", "(I)Z"⟩
abbrev bAC_hasHousehold : ByteArray := prog_2_method_5_code
def yAC_hasHousehold : MethodName := ⟨RAC, "hasHousehold", "(I)Z"⟩
abbrev bAC_firstCash : ByteArray := prog_2_method_6_code
def yAC_firstCash : MethodName := ⟨RAC, "firstCash", "()I"⟩
abbrev bAC_mayStep : ByteArray := prog_2_method_7_code
def yAC_mayStep : MethodName := ⟨RAC, "mayStep", "(II)Z"⟩
abbrev bAC_stepUp : ByteArray := prog_2_method_8_code
def yAC_stepUp : MethodName := ⟨RAC, "stepUp", "(II)V"⟩
abbrev bAC_hasMoved : ByteArray := prog_2_method_9_code
def yAC_hasMoved : MethodName := ⟨RAC, "hasMoved", "(I)Z"⟩
abbrev bAC_daysThere : ByteArray := prog_2_method_10_code
def yAC_daysThere : MethodName := ⟨RAC, "daysThere", "(II)I"⟩
abbrev bBO_init : ByteArray := prog_3_method_1_code
def yBO_init : MethodName := ⟨RBO, "<init>", "()V"⟩
abbrev bBO_copyFrom : ByteArray := prog_3_method_2_code
def yBO_copyFrom : MethodName := ⟨RBO, "copyFrom", "(LHouseLedger$Books;)V"⟩
abbrev bBO_isUnclosedDay : ByteArray := prog_3_method_3_code
def yBO_isUnclosedDay : MethodName := ⟨RBO, "isUnclosedDay", "(J)Z"⟩
abbrev bBO_keepFound : ByteArray := prog_3_method_4_code
def yBO_keepFound : MethodName := ⟨RBO, "keepFound", "(J)V"⟩
abbrev bBO_makeItems : ByteArray := prog_3_method_5_code
def yBO_makeItems : MethodName := ⟨RBO, "makeItems", "(I)V"⟩
abbrev bBO_incomeOf : ByteArray := prog_3_method_6_code
def yBO_incomeOf : MethodName := ⟨RBO, "incomeOf", "(I)J"⟩
abbrev bJO_init : ByteArray := prog_4_method_1_code
def yJO_init : MethodName := ⟨RJO, "<init>", "()V"⟩
abbrev bJO_copyFrom : ByteArray := prog_4_method_2_code
def yJO_copyFrom : MethodName := ⟨RJO, "copyFrom", "(LHouseLedger$Journal;)V"⟩
abbrev bJO_isFull : ByteArray := prog_4_method_3_code
def yJO_isFull : MethodName := ⟨RJO, "isFull", "()Z"⟩
abbrev bJO_isOpen : ByteArray := prog_4_method_4_code
def yJO_isOpen : MethodName := ⟨RJO, "isOpen", "(I)Z"⟩
abbrev bJO_add : ByteArray := prog_4_method_5_code
def yJO_add : MethodName := ⟨RJO, "add", "(II)I"⟩
abbrev bJO_addRow : ByteArray := prog_4_method_6_code
def yJO_addRow : MethodName := ⟨RJO, "addRow", "(IIJ)Z"⟩
abbrev bJO_sumOf : ByteArray := prog_4_method_7_code
def yJO_sumOf : MethodName := ⟨RJO, "sumOf", "(I)J"⟩
abbrev bJO_isPostedRow : ByteArray := prog_4_method_8_code
def yJO_isPostedRow : MethodName := ⟨RJO, "isPostedRow", "(II)Z"⟩
abbrev bJO_isPostedRowIn : ByteArray := prog_4_method_9_code
def yJO_isPostedRowIn : MethodName := ⟨RJO, "isPostedRowIn", "(III)Z"⟩
abbrev bJO_sumUntil : ByteArray := prog_4_method_10_code
def yJO_sumUntil : MethodName := ⟨RJO, "sumUntil", "(II)J"⟩
abbrev bJO_sumIn : ByteArray := prog_4_method_11_code
def yJO_sumIn : MethodName := ⟨RJO, "sumIn", "(II)J"⟩
abbrev bJO_toldRow : ByteArray := prog_4_method_12_code
def yJO_toldRow : MethodName := ⟨RJO, "toldRow", "(III)I"⟩
abbrev bJO_told : ByteArray := prog_4_method_13_code
def yJO_told : MethodName := ⟨RJO, "told", "(I)I"⟩
abbrev bJO_itemAt : ByteArray := prog_4_method_14_code
def yJO_itemAt : MethodName := ⟨RJO, "itemAt", "(II)I"⟩
abbrev bJO_itemOf : ByteArray := prog_4_method_15_code
def yJO_itemOf : MethodName := ⟨RJO, "itemOf", "(II)I"⟩
abbrev bJO_payItems : ByteArray := prog_4_method_16_code
def yJO_payItems : MethodName := ⟨RJO, "payItems", "(IIJ)V"⟩
abbrev bJO_keepGift : ByteArray := prog_4_method_17_code
def yJO_keepGift : MethodName := ⟨RJO, "keepGift", "(II)V"⟩
abbrev bJO_toldGift : ByteArray := prog_4_method_18_code
def yJO_toldGift : MethodName := ⟨RJO, "toldGift", "(II)I"⟩
abbrev bJO_isOverdue : ByteArray := prog_4_method_19_code
def yJO_isOverdue : MethodName := ⟨RJO, "isOverdue", "(II)Z"⟩
abbrev bJO_dueOf : ByteArray := prog_4_method_20_code
def yJO_dueOf : MethodName := ⟨RJO, "dueOf", "(I)J"⟩
abbrev bJO_centDays : ByteArray := prog_4_method_21_code
def yJO_centDays : MethodName := ⟨RJO, "centDays", "(II)J"⟩
abbrev bJO_daysLate : ByteArray := prog_4_method_22_code
def yJO_daysLate : MethodName := ⟨RJO, "daysLate", "(II)I"⟩
abbrev bJO_isReversible : ByteArray := prog_4_method_23_code
def yJO_isReversible : MethodName := ⟨RJO, "isReversible", "(I)Z"⟩
abbrev bJO_turnRows : ByteArray := prog_4_method_24_code
def yJO_turnRows : MethodName := ⟨RJO, "turnRows", "(II)V"⟩
abbrev bJO_clearItems : ByteArray := prog_4_method_25_code
def yJO_clearItems : MethodName := ⟨RJO, "clearItems", "(I)V"⟩
abbrev bPL_init : ByteArray := prog_5_method_1_code
def yPL_init : MethodName := ⟨RPL, "<init>", "()V"⟩
abbrev bPL_copyFrom : ByteArray := prog_5_method_2_code
def yPL_copyFrom : MethodName := ⟨RPL, "copyFrom", "(LHouseLedger$Plans;)V"⟩
abbrev bPL_add : ByteArray := prog_5_method_3_code
def yPL_add : MethodName := ⟨RPL, "add", "(JI)I"⟩
abbrev bPL_partOf : ByteArray := prog_5_method_4_code
def yPL_partOf : MethodName := ⟨RPL, "partOf", "(II)J"⟩
abbrev bMO_init : ByteArray := prog_7_method_1_code
def yMO_init : MethodName := ⟨RMO, "<init>", "()V"⟩
abbrev bMO_isIn : ByteArray := prog_7_method_3_code
def yMO_isIn : MethodName := ⟨RMO, "isIn", "(JJJ)Z"⟩
abbrev bMO_isAccount : ByteArray := prog_7_method_4_code
def yMO_isAccount : MethodName := ⟨RMO, "isAccount", "(I)Z"⟩
abbrev bMO_isHousehold : ByteArray := prog_7_method_5_code
def yMO_isHousehold : MethodName := ⟨RMO, "isHousehold", "(I)Z"⟩
abbrev bMO_isEntry : ByteArray := prog_7_method_6_code
def yMO_isEntry : MethodName := ⟨RMO, "isEntry", "(I)Z"⟩
abbrev bMO_isDay : ByteArray := prog_7_method_7_code
def yMO_isDay : MethodName := ⟨RMO, "isDay", "(J)Z"⟩
abbrev bMO_isLate : ByteArray := prog_7_method_8_code
def yMO_isLate : MethodName := ⟨RMO, "isLate", "(J)Z"⟩
abbrev bMO_account : ByteArray := prog_7_method_9_code
def yMO_account : MethodName := ⟨RMO, "account", "(I)I"⟩
abbrev bMO_addEntry : ByteArray := prog_7_method_10_code
def yMO_addEntry : MethodName := ⟨RMO, "addEntry", "(JI)I"⟩
abbrev bMO_entry : ByteArray := prog_7_method_11_code
def yMO_entry : MethodName := ⟨RMO, "entry", "(J)I"⟩
abbrev bMO_addRow : ByteArray := prog_7_method_12_code
def yMO_addRow : MethodName := ⟨RMO, "addRow", "(IIJ)V"⟩
abbrev bMO_row : ByteArray := prog_7_method_13_code
def yMO_row : MethodName := ⟨RMO, "row", "(IIJ)Z"⟩
abbrev bMO_close : ByteArray := prog_7_method_14_code
def yMO_close : MethodName := ⟨RMO, "close", "(I)I"⟩
abbrev bMO_balance : ByteArray := prog_7_method_15_code
def yMO_balance : MethodName := ⟨RMO, "balance", "(IJ)J"⟩
abbrev bMO_isItem : ByteArray := prog_7_method_16_code
def yMO_isItem : MethodName := ⟨RMO, "isItem", "(II)Z"⟩
abbrev bMO_isItemOf : ByteArray := prog_7_method_17_code
def yMO_isItemOf : MethodName := ⟨RMO, "isItemOf", "(II)Z"⟩
abbrev bMO_isBefore : ByteArray := prog_7_method_18_code
def yMO_isBefore : MethodName := ⟨RMO, "isBefore", "(II)Z"⟩
abbrev bMO_itemAt : ByteArray := prog_7_method_19_code
def yMO_itemAt : MethodName := ⟨RMO, "itemAt", "(II)I"⟩
abbrev bMO_payment : ByteArray := prog_7_method_20_code
def yMO_payment : MethodName := ⟨RMO, "payment", "(IJJ)I"⟩
abbrev bMO_item : ByteArray := prog_7_method_21_code
def yMO_item : MethodName := ⟨RMO, "item", "(II)J"⟩
abbrev bMO_gave : ByteArray := prog_7_method_22_code
def yMO_gave : MethodName := ⟨RMO, "gave", "(II)Z"⟩
abbrev bMO_opened : ByteArray := prog_7_method_23_code
def yMO_opened : MethodName := ⟨RMO, "opened", "(II)I"⟩
abbrev bMO_hasOld : ByteArray := prog_7_method_24_code
def yMO_hasOld : MethodName := ⟨RMO, "hasOld", "(IJ)Z"⟩
abbrev bMO_dun : ByteArray := prog_7_method_25_code
def yMO_dun : MethodName := ⟨RMO, "dun", "(IJ)I"⟩
abbrev bMO_hardship : ByteArray := prog_7_method_26_code
def yMO_hardship : MethodName := ⟨RMO, "hardship", "(IJJ)Z"⟩
abbrev bMO_allDue : ByteArray := prog_7_method_27_code
def yMO_allDue : MethodName := ⟨RMO, "allDue", "(I)J"⟩
abbrev bMO_instal : ByteArray := prog_7_method_28_code
def yMO_instal : MethodName := ⟨RMO, "instal", "(II)I"⟩
abbrev bMO_due : ByteArray := prog_7_method_29_code
def yMO_due : MethodName := ⟨RMO, "due", "(II)J"⟩
abbrev bMO_hasMoved : ByteArray := prog_7_method_30_code
def yMO_hasMoved : MethodName := ⟨RMO, "hasMoved", "(I)Z"⟩
abbrev bMO_move : ByteArray := prog_7_method_31_code
def yMO_move : MethodName := ⟨RMO, "move", "(IIJ)Z"⟩
abbrev bMO_common : ByteArray := prog_7_method_32_code
def yMO_common : MethodName := ⟨RMO, "common", "(JJ)J"⟩
abbrev bMO_part : ByteArray := prog_7_method_33_code
def yMO_part : MethodName := ⟨RMO, "part", "(JJI)J"⟩
abbrev bMO_share : ByteArray := prog_7_method_34_code
def yMO_share : MethodName := ⟨RMO, "share", "(III)J"⟩
abbrev bMO_batch : ByteArray := prog_7_method_35_code
def yMO_batch : MethodName := ⟨RMO, "batch", "()I"⟩
abbrev bMO_endBatch : ByteArray := prog_7_method_36_code
def yMO_endBatch : MethodName := ⟨RMO, "endBatch", "(Z)Z"⟩
abbrev bMO_closeMonth : ByteArray := prog_7_method_37_code
def yMO_closeMonth : MethodName := ⟨RMO, "closeMonth", "(I)Z"⟩
abbrev bMO_isPaid : ByteArray := prog_7_method_38_code
def yMO_isPaid : MethodName := ⟨RMO, "isPaid", "(I)Z"⟩
abbrev bMO_reverse : ByteArray := prog_7_method_39_code
def yMO_reverse : MethodName := ⟨RMO, "reverse", "(IJ)I"⟩
abbrev bMO_interest : ByteArray := prog_7_method_40_code
def yMO_interest : MethodName := ⟨RMO, "interest", "(IJI)J"⟩
abbrev bMO_rate : ByteArray := prog_7_method_41_code
def yMO_rate : MethodName := ⟨RMO, "rate", "(JJ)Z"⟩
abbrev bMO_statement : ByteArray := prog_7_method_42_code
def yMO_statement : MethodName := ⟨RMO, "statement", "(III)I"⟩
abbrev bMO_tax : ByteArray := prog_7_method_43_code
def yMO_tax : MethodName := ⟨RMO, "tax", "(I)J"⟩
abbrev bMO_found : ByteArray := prog_7_method_44_code
def yMO_found : MethodName := ⟨RMO, "found", "(I)J"⟩
