section
-- ===== PART A: goes FIRST, ahead of the names: the tables' words, and 'selects' of the private methods out of them =====
/-- a private method of a class that the tables say can be made, by its rows of tables_1 -/
def lw_okq (q : MethodName × Nat) : Prop := (q.1.cls ≠ "java/lang/invoke/MethodHandle" ∧ q.1.cls ≠ "java/lang/invoke/VarHandle") ∧ Cond.instantiable q.1.cls q.2 ∈ tables_1 ∧ Cond.privateMethod q.1 ∈ tables_1 ∧ Cond.instanceMethod q.1 ∈ tables_1
theorem lw_p0 : lw_okq (⟨"PastureBids", "settle", "(LPastureBids$Sale;I)V"⟩, 14) := ⟨⟨by decide +kernel, by decide +kernel⟩, List.mem_of_getElem? (i := 16) (by decide +kernel), List.mem_of_getElem? (i := 66) (by decide +kernel), List.mem_of_getElem? (i := 67) (by decide +kernel)⟩
theorem lw_p1 : lw_okq (⟨"PastureBids$Sale", "clear", "()V"⟩, 4) := ⟨⟨by decide +kernel, by decide +kernel⟩, List.mem_of_getElem? (i := 24) (by decide +kernel), List.mem_of_getElem? (i := 70) (by decide +kernel), List.mem_of_getElem? (i := 71) (by decide +kernel)⟩
theorem lw_p2 : lw_okq (⟨"PastureBids$BestSet", "clear", "()V"⟩, 2) := ⟨⟨by decide +kernel, by decide +kernel⟩, List.mem_of_getElem? (i := 30) (by decide +kernel), List.mem_of_getElem? (i := 74) (by decide +kernel), List.mem_of_getElem? (i := 75) (by decide +kernel)⟩
theorem lw_p3 : lw_okq (⟨"PastureBids", "findWinners", "(LPastureBids$BestSet;I)V"⟩, 14) := ⟨⟨by decide +kernel, by decide +kernel⟩, List.mem_of_getElem? (i := 16) (by decide +kernel), List.mem_of_getElem? (i := 81) (by decide +kernel), List.mem_of_getElem? (i := 82) (by decide +kernel)⟩
theorem lw_p4 : lw_okq (⟨"PastureBids", "seek", "(LPastureBids$BestSet;IIIII)V"⟩, 14) := ⟨⟨by decide +kernel, by decide +kernel⟩, List.mem_of_getElem? (i := 16) (by decide +kernel), List.mem_of_getElem? (i := 86) (by decide +kernel), List.mem_of_getElem? (i := 87) (by decide +kernel)⟩
theorem lw_p5 : lw_okq (⟨"PastureBids$BestSet", "consider", "(II)V"⟩, 2) := ⟨⟨by decide +kernel, by decide +kernel⟩, List.mem_of_getElem? (i := 30) (by decide +kernel), List.mem_of_getElem? (i := 90) (by decide +kernel), List.mem_of_getElem? (i := 91) (by decide +kernel)⟩
theorem lw_p6 : lw_okq (⟨"PastureBids$BestSet", "isBeatenBy", "(II)Z"⟩, 2) := ⟨⟨by decide +kernel, by decide +kernel⟩, List.mem_of_getElem? (i := 30) (by decide +kernel), List.mem_of_getElem? (i := 94) (by decide +kernel), List.mem_of_getElem? (i := 95) (by decide +kernel)⟩
theorem lw_p7 : lw_okq (⟨"PastureBids", "seekWith", "(LPastureBids$BestSet;IIIII)V"⟩, 14) := ⟨⟨by decide +kernel, by decide +kernel⟩, List.mem_of_getElem? (i := 16) (by decide +kernel), List.mem_of_getElem? (i := 104) (by decide +kernel), List.mem_of_getElem? (i := 105) (by decide +kernel)⟩
theorem lw_p8 : lw_okq (⟨"PastureBids", "counts", "(I)Z"⟩, 14) := ⟨⟨by decide +kernel, by decide +kernel⟩, List.mem_of_getElem? (i := 16) (by decide +kernel), List.mem_of_getElem? (i := 108) (by decide +kernel), List.mem_of_getElem? (i := 109) (by decide +kernel)⟩
theorem lw_p9 : lw_okq (⟨"PastureBids$BestSet", "has", "(I)Z"⟩, 2) := ⟨⟨by decide +kernel, by decide +kernel⟩, List.mem_of_getElem? (i := 30) (by decide +kernel), List.mem_of_getElem? (i := 112) (by decide +kernel), List.mem_of_getElem? (i := 113) (by decide +kernel)⟩
theorem lw_p10 : lw_okq (⟨"PastureBids", "award", "(LPastureBids$Sale;I)V"⟩, 14) := ⟨⟨by decide +kernel, by decide +kernel⟩, List.mem_of_getElem? (i := 16) (by decide +kernel), List.mem_of_getElem? (i := 116) (by decide +kernel), List.mem_of_getElem? (i := 117) (by decide +kernel)⟩
theorem lw_p11 : lw_okq (⟨"PastureBids", "reservesOf", "(I)I"⟩, 14) := ⟨⟨by decide +kernel, by decide +kernel⟩, List.mem_of_getElem? (i := 16) (by decide +kernel), List.mem_of_getElem? (i := 120) (by decide +kernel), List.mem_of_getElem? (i := 121) (by decide +kernel)⟩
theorem lw_p12 : lw_okq (⟨"PastureBids$Sale", "totalPaid", "()I"⟩, 4) := ⟨⟨by decide +kernel, by decide +kernel⟩, List.mem_of_getElem? (i := 24) (by decide +kernel), List.mem_of_getElem? (i := 174) (by decide +kernel), List.mem_of_getElem? (i := 175) (by decide +kernel)⟩
theorem lw_p13 : lw_okq (⟨"java/lang/Throwable", "fillInStackTrace", "(I)Ljava/lang/Throwable;"⟩, 6) := ⟨⟨by decide +kernel, by decide +kernel⟩, List.mem_of_getElem? (i := 234) (by decide +kernel), List.mem_of_getElem? (i := 232) (by decide +kernel), List.mem_of_getElem? (i := 233) (by decide +kernel)⟩
theorem lw_p14 : lw_okq (⟨"PastureBids", "soldFields", "()I"⟩, 14) := ⟨⟨by decide +kernel, by decide +kernel⟩, List.mem_of_getElem? (i := 16) (by decide +kernel), List.mem_of_getElem? (i := 264) (by decide +kernel), List.mem_of_getElem? (i := 265) (by decide +kernel)⟩
theorem lw_p15 : lw_okq (⟨"PastureBids", "totalProfit", "()I"⟩, 14) := ⟨⟨by decide +kernel, by decide +kernel⟩, List.mem_of_getElem? (i := 16) (by decide +kernel), List.mem_of_getElem? (i := 268) (by decide +kernel), List.mem_of_getElem? (i := 269) (by decide +kernel)⟩
def lw_privs_1 : List (MethodName × Nat) := [(⟨"PastureBids", "settle", "(LPastureBids$Sale;I)V"⟩, 14), (⟨"PastureBids$Sale", "clear", "()V"⟩, 4), (⟨"PastureBids$BestSet", "clear", "()V"⟩, 2), (⟨"PastureBids", "findWinners", "(LPastureBids$BestSet;I)V"⟩, 14), (⟨"PastureBids", "seek", "(LPastureBids$BestSet;IIIII)V"⟩, 14), (⟨"PastureBids$BestSet", "consider", "(II)V"⟩, 2), (⟨"PastureBids$BestSet", "isBeatenBy", "(II)Z"⟩, 2), (⟨"PastureBids", "seekWith", "(LPastureBids$BestSet;IIIII)V"⟩, 14), (⟨"PastureBids", "counts", "(I)Z"⟩, 14), (⟨"PastureBids$BestSet", "has", "(I)Z"⟩, 2), (⟨"PastureBids", "award", "(LPastureBids$Sale;I)V"⟩, 14), (⟨"PastureBids", "reservesOf", "(I)I"⟩, 14), (⟨"PastureBids$Sale", "totalPaid", "()I"⟩, 4), (⟨"java/lang/Throwable", "fillInStackTrace", "(I)Ljava/lang/Throwable;"⟩, 6), (⟨"PastureBids", "soldFields", "()I"⟩, 14), (⟨"PastureBids", "totalProfit", "()I"⟩, 14)]
theorem lw_r1 : ∀ q ∈ lw_privs_1, lw_okq q := List.forall_mem_cons.mpr ⟨lw_p0, List.forall_mem_cons.mpr ⟨lw_p1, List.forall_mem_cons.mpr ⟨lw_p2, List.forall_mem_cons.mpr ⟨lw_p3, List.forall_mem_cons.mpr ⟨lw_p4, List.forall_mem_cons.mpr ⟨lw_p5, List.forall_mem_cons.mpr ⟨lw_p6, List.forall_mem_cons.mpr ⟨lw_p7, List.forall_mem_cons.mpr ⟨lw_p8, List.forall_mem_cons.mpr ⟨lw_p9, List.forall_mem_cons.mpr ⟨lw_p10, List.forall_mem_cons.mpr ⟨lw_p11, List.forall_mem_cons.mpr ⟨lw_p12, List.forall_mem_cons.mpr ⟨lw_p13, List.forall_mem_cons.mpr ⟨lw_p14, List.forall_mem_cons.mpr ⟨lw_p15, fun _ h => absurd h List.not_mem_nil⟩⟩⟩⟩⟩⟩⟩⟩⟩⟩⟩⟩⟩⟩⟩⟩
theorem lw_p16 : lw_okq (⟨"PastureBids", "profit", "(LPastureBids$Sale;I)I"⟩, 14) := ⟨⟨by decide +kernel, by decide +kernel⟩, List.mem_of_getElem? (i := 16) (by decide +kernel), List.mem_of_getElem? (i := 272) (by decide +kernel), List.mem_of_getElem? (i := 273) (by decide +kernel)⟩
theorem lw_p17 : lw_okq (⟨"PastureBids", "winningPrices", "()I"⟩, 14) := ⟨⟨by decide +kernel, by decide +kernel⟩, List.mem_of_getElem? (i := 16) (by decide +kernel), List.mem_of_getElem? (i := 276) (by decide +kernel), List.mem_of_getElem? (i := 277) (by decide +kernel)⟩
theorem lw_p18 : lw_okq (⟨"PastureBids", "digestField", "(JI)J"⟩, 14) := ⟨⟨by decide +kernel, by decide +kernel⟩, List.mem_of_getElem? (i := 16) (by decide +kernel), List.mem_of_getElem? (i := 280) (by decide +kernel), List.mem_of_getElem? (i := 281) (by decide +kernel)⟩
theorem lw_p19 : lw_okq (⟨"PastureBids", "requireField", "(I)V"⟩, 14) := ⟨⟨by decide +kernel, by decide +kernel⟩, List.mem_of_getElem? (i := 16) (by decide +kernel), List.mem_of_getElem? (i := 288) (by decide +kernel), List.mem_of_getElem? (i := 289) (by decide +kernel)⟩
theorem lw_p20 : lw_okq (⟨"PastureBids", "winnerOfField", "(I)I"⟩, 14) := ⟨⟨by decide +kernel, by decide +kernel⟩, List.mem_of_getElem? (i := 16) (by decide +kernel), List.mem_of_getElem? (i := 293) (by decide +kernel), List.mem_of_getElem? (i := 294) (by decide +kernel)⟩
theorem lw_p21 : lw_okq (⟨"PastureBids", "ownerOf", "(I)I"⟩, 14) := ⟨⟨by decide +kernel, by decide +kernel⟩, List.mem_of_getElem? (i := 16) (by decide +kernel), List.mem_of_getElem? (i := 297) (by decide +kernel), List.mem_of_getElem? (i := 298) (by decide +kernel)⟩
theorem lw_p22 : lw_okq (⟨"PastureBids", "countingBidsWith", "(I)I"⟩, 14) := ⟨⟨by decide +kernel, by decide +kernel⟩, List.mem_of_getElem? (i := 16) (by decide +kernel), List.mem_of_getElem? (i := 301) (by decide +kernel), List.mem_of_getElem? (i := 302) (by decide +kernel)⟩
theorem lw_p23 : lw_okq (⟨"PastureBids", "highestAlone", "(II)I"⟩, 14) := ⟨⟨by decide +kernel, by decide +kernel⟩, List.mem_of_getElem? (i := 16) (by decide +kernel), List.mem_of_getElem? (i := 309) (by decide +kernel), List.mem_of_getElem? (i := 310) (by decide +kernel)⟩
theorem lw_p24 : lw_okq (⟨"PastureBids", "secondPrice", "(II)I"⟩, 14) := ⟨⟨by decide +kernel, by decide +kernel⟩, List.mem_of_getElem? (i := 16) (by decide +kernel), List.mem_of_getElem? (i := 313) (by decide +kernel), List.mem_of_getElem? (i := 314) (by decide +kernel)⟩
theorem lw_p25 : lw_okq (⟨"PastureBids", "requireBidder", "(I)V"⟩, 14) := ⟨⟨by decide +kernel, by decide +kernel⟩, List.mem_of_getElem? (i := 16) (by decide +kernel), List.mem_of_getElem? (i := 321) (by decide +kernel), List.mem_of_getElem? (i := 322) (by decide +kernel)⟩
theorem lw_p26 : lw_okq (⟨"PastureBids", "bidsLeftOf", "(I)I"⟩, 14) := ⟨⟨by decide +kernel, by decide +kernel⟩, List.mem_of_getElem? (i := 16) (by decide +kernel), List.mem_of_getElem? (i := 329) (by decide +kernel), List.mem_of_getElem? (i := 330) (by decide +kernel)⟩
theorem lw_p27 : lw_okq (⟨"PastureBids", "requireBid", "(I)V"⟩, 14) := ⟨⟨by decide +kernel, by decide +kernel⟩, List.mem_of_getElem? (i := 16) (by decide +kernel), List.mem_of_getElem? (i := 337) (by decide +kernel), List.mem_of_getElem? (i := 338) (by decide +kernel)⟩
theorem lw_p28 : lw_okq (⟨"PastureBids", "putPrice", "(II)V"⟩, 14) := ⟨⟨by decide +kernel, by decide +kernel⟩, List.mem_of_getElem? (i := 16) (by decide +kernel), List.mem_of_getElem? (i := 394) (by decide +kernel), List.mem_of_getElem? (i := 395) (by decide +kernel)⟩
theorem lw_p29 : lw_okq (⟨"PastureBids", "requireBundle", "(I)V"⟩, 14) := ⟨⟨by decide +kernel, by decide +kernel⟩, List.mem_of_getElem? (i := 16) (by decide +kernel), List.mem_of_getElem? (i := 420) (by decide +kernel), List.mem_of_getElem? (i := 421) (by decide +kernel)⟩
theorem lw_p30 : lw_okq (⟨"PastureBids", "bidsLeft", "()I"⟩, 14) := ⟨⟨by decide +kernel, by decide +kernel⟩, List.mem_of_getElem? (i := 16) (by decide +kernel), List.mem_of_getElem? (i := 452) (by decide +kernel), List.mem_of_getElem? (i := 453) (by decide +kernel)⟩
theorem lw_p31 : lw_okq (⟨"PastureBids", "winsWith", "(II)Z"⟩, 14) := ⟨⟨by decide +kernel, by decide +kernel⟩, List.mem_of_getElem? (i := 16) (by decide +kernel), List.mem_of_getElem? (i := 490) (by decide +kernel), List.mem_of_getElem? (i := 491) (by decide +kernel)⟩
def lw_privs_2 : List (MethodName × Nat) := [(⟨"PastureBids", "profit", "(LPastureBids$Sale;I)I"⟩, 14), (⟨"PastureBids", "winningPrices", "()I"⟩, 14), (⟨"PastureBids", "digestField", "(JI)J"⟩, 14), (⟨"PastureBids", "requireField", "(I)V"⟩, 14), (⟨"PastureBids", "winnerOfField", "(I)I"⟩, 14), (⟨"PastureBids", "ownerOf", "(I)I"⟩, 14), (⟨"PastureBids", "countingBidsWith", "(I)I"⟩, 14), (⟨"PastureBids", "highestAlone", "(II)I"⟩, 14), (⟨"PastureBids", "secondPrice", "(II)I"⟩, 14), (⟨"PastureBids", "requireBidder", "(I)V"⟩, 14), (⟨"PastureBids", "bidsLeftOf", "(I)I"⟩, 14), (⟨"PastureBids", "requireBid", "(I)V"⟩, 14), (⟨"PastureBids", "putPrice", "(II)V"⟩, 14), (⟨"PastureBids", "requireBundle", "(I)V"⟩, 14), (⟨"PastureBids", "bidsLeft", "()I"⟩, 14), (⟨"PastureBids", "winsWith", "(II)Z"⟩, 14)]
theorem lw_r2 : ∀ q ∈ lw_privs_2, lw_okq q := List.forall_mem_cons.mpr ⟨lw_p16, List.forall_mem_cons.mpr ⟨lw_p17, List.forall_mem_cons.mpr ⟨lw_p18, List.forall_mem_cons.mpr ⟨lw_p19, List.forall_mem_cons.mpr ⟨lw_p20, List.forall_mem_cons.mpr ⟨lw_p21, List.forall_mem_cons.mpr ⟨lw_p22, List.forall_mem_cons.mpr ⟨lw_p23, List.forall_mem_cons.mpr ⟨lw_p24, List.forall_mem_cons.mpr ⟨lw_p25, List.forall_mem_cons.mpr ⟨lw_p26, List.forall_mem_cons.mpr ⟨lw_p27, List.forall_mem_cons.mpr ⟨lw_p28, List.forall_mem_cons.mpr ⟨lw_p29, List.forall_mem_cons.mpr ⟨lw_p30, List.forall_mem_cons.mpr ⟨lw_p31, fun _ h => absurd h List.not_mem_nil⟩⟩⟩⟩⟩⟩⟩⟩⟩⟩⟩⟩⟩⟩⟩⟩
theorem lw_p32 : lw_okq (⟨"PastureBidsModel", "fail", "(I)I"⟩, 11) := ⟨⟨by decide +kernel, by decide +kernel⟩, List.mem_of_getElem? (i := 494) (by decide +kernel), List.mem_of_getElem? (i := 545) (by decide +kernel), List.mem_of_getElem? (i := 546) (by decide +kernel)⟩
theorem lw_p33 : lw_okq (⟨"PastureBidsModel", "isField", "(I)Z"⟩, 11) := ⟨⟨by decide +kernel, by decide +kernel⟩, List.mem_of_getElem? (i := 494) (by decide +kernel), List.mem_of_getElem? (i := 553) (by decide +kernel), List.mem_of_getElem? (i := 554) (by decide +kernel)⟩
theorem lw_p34 : lw_okq (⟨"PastureBidsModel", "isBidder", "(I)Z"⟩, 11) := ⟨⟨by decide +kernel, by decide +kernel⟩, List.mem_of_getElem? (i := 494) (by decide +kernel), List.mem_of_getElem? (i := 565) (by decide +kernel), List.mem_of_getElem? (i := 566) (by decide +kernel)⟩
theorem lw_p35 : lw_okq (⟨"PastureBidsModel", "change", "(III)I"⟩, 11) := ⟨⟨by decide +kernel, by decide +kernel⟩, List.mem_of_getElem? (i := 494) (by decide +kernel), List.mem_of_getElem? (i := 586) (by decide +kernel), List.mem_of_getElem? (i := 587) (by decide +kernel)⟩
theorem lw_p36 : lw_okq (⟨"PastureBidsModel", "isBid", "(I)Z"⟩, 11) := ⟨⟨by decide +kernel, by decide +kernel⟩, List.mem_of_getElem? (i := 494) (by decide +kernel), List.mem_of_getElem? (i := 590) (by decide +kernel), List.mem_of_getElem? (i := 591) (by decide +kernel)⟩
theorem lw_p37 : lw_okq (⟨"PastureBidsModel", "bi", "(II)I"⟩, 11) := ⟨⟨by decide +kernel, by decide +kernel⟩, List.mem_of_getElem? (i := 494) (by decide +kernel), List.mem_of_getElem? (i := 594) (by decide +kernel), List.mem_of_getElem? (i := 595) (by decide +kernel)⟩
theorem lw_p38 : lw_okq (⟨"PastureBidsModel", "bidTold", "(II)I"⟩, 11) := ⟨⟨by decide +kernel, by decide +kernel⟩, List.mem_of_getElem? (i := 494) (by decide +kernel), List.mem_of_getElem? (i := 610) (by decide +kernel), List.mem_of_getElem? (i := 611) (by decide +kernel)⟩
theorem lw_p39 : lw_okq (⟨"PastureBidsModel", "gain", "(I)I"⟩, 11) := ⟨⟨by decide +kernel, by decide +kernel⟩, List.mem_of_getElem? (i := 494) (by decide +kernel), List.mem_of_getElem? (i := 614) (by decide +kernel), List.mem_of_getElem? (i := 615) (by decide +kernel)⟩
theorem lw_p40 : lw_okq (⟨"PastureBidsModel", "reserveOf", "(I)I"⟩, 11) := ⟨⟨by decide +kernel, by decide +kernel⟩, List.mem_of_getElem? (i := 494) (by decide +kernel), List.mem_of_getElem? (i := 618) (by decide +kernel), List.mem_of_getElem? (i := 619) (by decide +kernel)⟩
theorem lw_p41 : lw_okq (⟨"PastureBidsModel", "isCounted", "(I)Z"⟩, 11) := ⟨⟨by decide +kernel, by decide +kernel⟩, List.mem_of_getElem? (i := 494) (by decide +kernel), List.mem_of_getElem? (i := 622) (by decide +kernel), List.mem_of_getElem? (i := 623) (by decide +kernel)⟩
theorem lw_p42 : lw_okq (⟨"PastureBidsModel", "sale", "()I"⟩, 11) := ⟨⟨by decide +kernel, by decide +kernel⟩, List.mem_of_getElem? (i := 494) (by decide +kernel), List.mem_of_getElem? (i := 626) (by decide +kernel), List.mem_of_getElem? (i := 627) (by decide +kernel)⟩
theorem lw_p43 : lw_okq (⟨"PastureBidsModel", "bidderTold", "(II)I"⟩, 11) := ⟨⟨by decide +kernel, by decide +kernel⟩, List.mem_of_getElem? (i := 494) (by decide +kernel), List.mem_of_getElem? (i := 634) (by decide +kernel), List.mem_of_getElem? (i := 635) (by decide +kernel)⟩
theorem lw_p44 : lw_okq (⟨"PastureBidsModel", "bidOf", "(II)I"⟩, 11) := ⟨⟨by decide +kernel, by decide +kernel⟩, List.mem_of_getElem? (i := 494) (by decide +kernel), List.mem_of_getElem? (i := 638) (by decide +kernel), List.mem_of_getElem? (i := 639) (by decide +kernel)⟩
theorem lw_p45 : lw_okq (⟨"PastureBidsModel", "paid", "(I)I"⟩, 11) := ⟨⟨by decide +kernel, by decide +kernel⟩, List.mem_of_getElem? (i := 494) (by decide +kernel), List.mem_of_getElem? (i := 642) (by decide +kernel), List.mem_of_getElem? (i := 643) (by decide +kernel)⟩
theorem lw_p46 : lw_okq (⟨"PastureBidsModel", "sumWithout", "(I)I"⟩, 11) := ⟨⟨by decide +kernel, by decide +kernel⟩, List.mem_of_getElem? (i := 494) (by decide +kernel), List.mem_of_getElem? (i := 646) (by decide +kernel), List.mem_of_getElem? (i := 647) (by decide +kernel)⟩
theorem lw_p47 : lw_okq (⟨"PastureBidsModel", "profit", "(I)I"⟩, 11) := ⟨⟨by decide +kernel, by decide +kernel⟩, List.mem_of_getElem? (i := 494) (by decide +kernel), List.mem_of_getElem? (i := 650) (by decide +kernel), List.mem_of_getElem? (i := 651) (by decide +kernel)⟩
def lw_privs_3 : List (MethodName × Nat) := [(⟨"PastureBidsModel", "fail", "(I)I"⟩, 11), (⟨"PastureBidsModel", "isField", "(I)Z"⟩, 11), (⟨"PastureBidsModel", "isBidder", "(I)Z"⟩, 11), (⟨"PastureBidsModel", "change", "(III)I"⟩, 11), (⟨"PastureBidsModel", "isBid", "(I)Z"⟩, 11), (⟨"PastureBidsModel", "bi", "(II)I"⟩, 11), (⟨"PastureBidsModel", "bidTold", "(II)I"⟩, 11), (⟨"PastureBidsModel", "gain", "(I)I"⟩, 11), (⟨"PastureBidsModel", "reserveOf", "(I)I"⟩, 11), (⟨"PastureBidsModel", "isCounted", "(I)Z"⟩, 11), (⟨"PastureBidsModel", "sale", "()I"⟩, 11), (⟨"PastureBidsModel", "bidderTold", "(II)I"⟩, 11), (⟨"PastureBidsModel", "bidOf", "(II)I"⟩, 11), (⟨"PastureBidsModel", "paid", "(I)I"⟩, 11), (⟨"PastureBidsModel", "sumWithout", "(I)I"⟩, 11), (⟨"PastureBidsModel", "profit", "(I)I"⟩, 11)]
theorem lw_r3 : ∀ q ∈ lw_privs_3, lw_okq q := List.forall_mem_cons.mpr ⟨lw_p32, List.forall_mem_cons.mpr ⟨lw_p33, List.forall_mem_cons.mpr ⟨lw_p34, List.forall_mem_cons.mpr ⟨lw_p35, List.forall_mem_cons.mpr ⟨lw_p36, List.forall_mem_cons.mpr ⟨lw_p37, List.forall_mem_cons.mpr ⟨lw_p38, List.forall_mem_cons.mpr ⟨lw_p39, List.forall_mem_cons.mpr ⟨lw_p40, List.forall_mem_cons.mpr ⟨lw_p41, List.forall_mem_cons.mpr ⟨lw_p42, List.forall_mem_cons.mpr ⟨lw_p43, List.forall_mem_cons.mpr ⟨lw_p44, List.forall_mem_cons.mpr ⟨lw_p45, List.forall_mem_cons.mpr ⟨lw_p46, List.forall_mem_cons.mpr ⟨lw_p47, fun _ h => absurd h List.not_mem_nil⟩⟩⟩⟩⟩⟩⟩⟩⟩⟩⟩⟩⟩⟩⟩⟩
theorem lw_p48 : lw_okq (⟨"PastureBidsModel", "fieldTold", "(II)I"⟩, 11) := ⟨⟨by decide +kernel, by decide +kernel⟩, List.mem_of_getElem? (i := 494) (by decide +kernel), List.mem_of_getElem? (i := 658) (by decide +kernel), List.mem_of_getElem? (i := 659) (by decide +kernel)⟩
theorem lw_p49 : lw_okq (⟨"PastureBidsModel", "counted", "(I)I"⟩, 11) := ⟨⟨by decide +kernel, by decide +kernel⟩, List.mem_of_getElem? (i := 494) (by decide +kernel), List.mem_of_getElem? (i := 666) (by decide +kernel), List.mem_of_getElem? (i := 667) (by decide +kernel)⟩
theorem lw_p50 : lw_okq (⟨"PastureBidsModel", "allPaid", "()I"⟩, 11) := ⟨⟨by decide +kernel, by decide +kernel⟩, List.mem_of_getElem? (i := 494) (by decide +kernel), List.mem_of_getElem? (i := 670) (by decide +kernel), List.mem_of_getElem? (i := 671) (by decide +kernel)⟩
theorem lw_p51 : lw_okq (⟨"PastureBidsModel", "aloneTold", "(II)I"⟩, 11) := ⟨⟨by decide +kernel, by decide +kernel⟩, List.mem_of_getElem? (i := 494) (by decide +kernel), List.mem_of_getElem? (i := 678) (by decide +kernel), List.mem_of_getElem? (i := 679) (by decide +kernel)⟩
theorem lw_p52 : lw_okq (⟨"PastureBidsModel", "tried", "(III)I"⟩, 11) := ⟨⟨by decide +kernel, by decide +kernel⟩, List.mem_of_getElem? (i := 494) (by decide +kernel), List.mem_of_getElem? (i := 689) (by decide +kernel), List.mem_of_getElem? (i := 690) (by decide +kernel)⟩
def lw_privs_4 : List (MethodName × Nat) := [(⟨"PastureBidsModel", "fieldTold", "(II)I"⟩, 11), (⟨"PastureBidsModel", "counted", "(I)I"⟩, 11), (⟨"PastureBidsModel", "allPaid", "()I"⟩, 11), (⟨"PastureBidsModel", "aloneTold", "(II)I"⟩, 11), (⟨"PastureBidsModel", "tried", "(III)I"⟩, 11)]
theorem lw_r4 : ∀ q ∈ lw_privs_4, lw_okq q := List.forall_mem_cons.mpr ⟨lw_p48, List.forall_mem_cons.mpr ⟨lw_p49, List.forall_mem_cons.mpr ⟨lw_p50, List.forall_mem_cons.mpr ⟨lw_p51, List.forall_mem_cons.mpr ⟨lw_p52, fun _ h => absurd h List.not_mem_nil⟩⟩⟩⟩⟩
def lw_privs : List (MethodName × Nat) := lw_privs_1 ++ (lw_privs_2 ++ (lw_privs_3 ++ (lw_privs_4)))
def lw_tbl : List Cond := k2_sels lw_privs ++ tables_1
theorem lw_privs_ok : ∀ q ∈ lw_privs, lw_okq q := by
  show ∀ q ∈ lw_privs_1 ++ (lw_privs_2 ++ (lw_privs_3 ++ (lw_privs_4))), lw_okq q
  exact List.forall_mem_append.mpr ⟨lw_r1, List.forall_mem_append.mpr ⟨lw_r2, List.forall_mem_append.mpr ⟨lw_r3, lw_r4⟩⟩⟩
/-- the streams that the claim lets the run draw from -/
abbrev lw_cs : List Choice := [Jvm.Choice.named "NaN.bits"]
theorem lw_bits : nanBits ∈ lw_cs := by first | decide | exact List.mem_cons_self | simp [lw_cs, nanBits]
-- ===== end of PART A; then your names; then what follows =====
/-! ===== BEGIN words of one list among another's, by their places ===== -/
theorem goodIn_r {big : List Cond} (ws : List Cond) (ps : List Nat) (hp : ws = ps.filterMap (fun i => big[i]?)) (h : ws.all goodWord = true) : GoodIn big ws := by
  intro w hw
  have h1 := List.all_eq_true.mp h w hw
  rw [hp] at hw
  obtain ⟨i, -, hi⟩ := List.mem_filterMap.mp hw
  have hm : w ∈ big := by first | exact List.mem_of_getElem? hi | exact List.getElem?_mem hi
  exact ⟨hm, good_of_word h1⟩
theorem goodIn_app {big a b : List Cond} (ha : GoodIn big a) (hb : GoodIn big b) : GoodIn big (a ++ b) := fun w h => (List.mem_append.mp h).elim (ha w) (hb w)
theorem goodIn_ca {big a b : List Cond} {c : Cond} (ha : GoodIn big (c :: a)) (hb : GoodIn big b) : GoodIn big (c :: (a ++ b)) := fun w h => (List.mem_cons.mp h).elim (fun e => ha w (List.mem_cons.mpr (Or.inl e))) (fun h => (List.mem_append.mp h).elim (fun h => ha w (List.mem_cons.mpr (Or.inr h))) (hb w))
theorem goodIn_sub {big ws : List Cond} (hm : ∀ w ∈ ws, w ∈ big) (h : ws.all goodWord = true) : GoodIn big ws := fun w hw => ⟨hm w hw, good_of_word (List.all_eq_true.mp h w hw)⟩
/-! ===== END ===== -/

/-! ===== BEGIN exceptions that leave a method, and their catching by the caller (launches without stack traces) ===== -/
section VXA
/-! The laws vx_back, vx_callV, vx_callS, vx_callSW, vx_throw0, vx_throwS follow proofs of the library, with one case more: JvmDerived/Free/Laws.lean (Back.of_free), Shelf42/LK1.lean (callV, callS), Shelf/KitTraced.lean (throwNew0V, throwNewS). -/
/-- where a method has thrown q: the class by its name, the cell, what was written, the world -/
def vx_T (XC : String → State → State → Prop) (st : State) (q : Addr) (t : State) (mc ms : Nat) (free : Addr → Prop) : Prop :=
  ∃ (E : String) (ce : Cell) (L : List Loc), XC E st t ∧ t.heap[q]? = some ce ∧ ce.vm = .none ∧ st.vm.findClass E = some ce.cls ∧ st.WarmedH t.vm ∧ st.sameButNew ({ t with vm := st.vm } : State) L mc ms ∧ ∀ z ∈ L, free z.base
def vx_Q (Qc : Array Value → State → Outcome → State → Prop) (XC : String → State → State → Prop) (mc ms : Nat) (free : Addr → Prop) : Array Value → State → Outcome → State → Prop := fun a st o t =>
  (Qc a st o t ∧ ∃ L, FrameEnd st o t L mc ms ∧ ∀ q ∈ L, free q.base) ∨ ∃ q, o = .threw q ∧ vx_T XC st q t mc ms free
/-- a callee that returns or throws -/
def vx_Met (l : Launch) (y : MethodName) (ws : List Cond) (rm : Room) (Pc : Array Value → State → Prop) (Qc : Array Value → State → Outcome → State → Prop) (XC : String → State → State → Prop) (mc ms : Nat) (free : Addr → Prop) : Prop :=
  MetFree l y (headSpec ws rm) Pc (fun _ _ _ _ _ => True) (vx_Q Qc XC mc ms free)
def vx_Post (XC : String → State → State → Prop) (mc ms : Nat) (free : Addr → Prop) : Pt → Array Value → Addr → Pt → Prop := fun A a q B =>
  ∃ (g : JFrame) (mk : MethodId) (t : State) (L : List Loc) (E : String) (ce : Cell), B.U.heap = t.heap ∧ B.U.vm = t.vm ∧ XC E (A.U.calling g mk a) t ∧ t.heap[q]? = some ce ∧ ce.vm = .none ∧ A.U.vm.findClass E = some ce.cls ∧ B.locs = A.locs ++ L ∧ (∀ z ∈ L, free z.base) ∧ B.cells = A.cells + mc ∧ B.slots = A.slots + ms
def vx_Back (l : Launch) (R : Room) (p : Program) (e : Env) (below : List Frame) (s : State) (sargs : Array Value) (y : MethodName) (len W9 : Nat)
    (Pre : Pt → Array Value → Prop) (Post : Pt → Array Value → Option Value → Pt → Prop) (PostX : Pt → Array Value → Addr → Pt → Prop) : Prop :=
  ∀ (m : MethodId) (meth : Method) (c : Code) (A : Pt) (g : JFrame) (ig : Instr) (mk : MethodId) (a : Array Value),
    Stand p l e R s m sargs below meth c A.U A.locs A.cells A.slots → g.method = m → g.locals.size = c.maxLocals → decode c.code g.pc = .ok (ig, len) →
    2 * g.monitorRoom + (g.stack.map fun v => v.category).sum ≤ W9 → A.U.methodNamed? y = some mk → Pre A a →
    (∃ (v : Option Value) (B : Pt), Stand p l e R s m sargs below meth c B.U B.locs B.cells B.slots ∧ Post A a v B ∧
      Steps p.tables e below (doInvoke e (A.U.setTop g) [] mk a).1 (B.U.setTop { g with pc := g.pc + len, stack := v.toList ++ g.stack })) ∨
    (∃ (q : Addr) (B : Pt), Stand p l e R s m sargs below meth c B.U B.locs B.cells B.slots ∧ PostX A a q B ∧
      Steps p.tables e below (doInvoke e (A.U.setTop g) [] mk a).1 ((B.U.setTop g).pushFrame (.throwing q)))
section Payer
variable {l : Launch} {R : Room} {p : Program} {e : Env} {below : List Frame} {s : State} {sargs : Array Value} {y : MethodName} {len W9 : Nat}
theorem vx_back {ws : List Cond} {rm : Room} {Pc : Array Value → State → Prop} {Qc : Array Value → State → Outcome → State → Prop} {XC : String → State → State → Prop} {mc ms : Nat} {free : Addr → Prop} {bytes : ByteArray} {maxL : Nat} {ret : Option FieldType}
    (hM : vx_Met l y ws rm Pc Qc XC mc ms free) (hblind : FrameBlind Pc) (hrc : rm.cells = mc) (hrs : rm.slots = ms)
    (hframes : rm.frames + 1 ≤ R.frames) (hlocals : W9 + (maxL + 11) + rm.locals ≤ R.locals)
    (hws : ∀ w ∈ ws, ∀ a' U, s.WarmedH U.vm → w.before a' U = true) (hcode : Cond.code y bytes maxL ret ∈ ws) (hinit : ∀ a' U, s.WarmedH U.vm → (Cond.initialized y.cls).before a' U = true) :
    vx_Back l R p e below s sargs y len W9 (PreOf R mc ms Pc) (PostOf Qc mc ms free) (vx_Post XC mc ms free) := by
  intro m meth c A g ig mk a X hg hsize hdg hW hn hp
  have h1 : (headSpec ws rm).pre.before a A.U = true := atoms_intro fun w hw => hws w hw _ _ X.warmed
  have h2 : (Cond.code y bytes maxL ret).before a A.U = true := hws _ hcode _ _ X.warmed
  have h3 : (Cond.initialized y.cls).before a A.U = true := hinit _ _ X.warmed
  have h4 : A.cells + (headSpec ws rm).room.cells ≤ R.cells := by rw [show (headSpec ws rm).room.cells = mc from hrc]; exact hp.1
  have h5 : A.slots + (headSpec ws rm).room.slots ≤ R.slots := by rw [show (headSpec ws rm).room.slots = ms from hrs]; exact hp.2.1
  have hPc : Pc a (A.U.calling g mk a) := hblind _ _ _ _ hp.2.2
  obtain ⟨U, Ls, c0, s0⟩ := A
  dsimp only [Pt.U, Pt.locs, Pt.cells, Pt.slots] at h1 h2 h3 h4 h5 X hn hPc ⊢
  obtain ⟨methY, cY, hmY, hcY, -, hlY, -, -, -, -⟩ := Cond.code_spec hn h2
  obtain ⟨kY, hkY, -⟩ := className_of_methodNamed hn
  have hinitY : kY.init = .initialized := Cond.initialized_spec (findClass_of_methodNamed hn) hkY h3
  have h : At U g.method c below := by rw [hg]; exact X.here
  have hlocals9 : W9 + (maxL + 11) + (headSpec ws rm).room.locals ≤ R.locals := hlocals
  have happ : (headSpec ws rm).appliesLoose y e.platform (U.calling g mk a) = true :=
    Spec.appliesLoose_calling (g := g) h hdg hn hkY hinitY
      (X.room_calling (g := g) (R' := (headSpec ws rm).room) hsize hmY hcY hframes (by rw [hlY]; omega) h4 h5) h1
  obtain ⟨mid, hmid⟩ := h.above
  have hfr : (U.setTop g).frames = (.java g :: mid) ++ below := by rw [State.frames_setTop' g h.top, hmid]; rfl
  obtain ⟨o, s₂, hsteps, -, hend, hq⟩ := Steps.callFree hM p X.admits X.cas X.clock (acts := []) hfr happ hPc trivial
  have hq' : vx_Q Qc XC mc ms free a (U.calling g mk a) o s₂ := hq
  rw [State.frames_setTop' g h.top] at hend
  obtain ⟨g₀, hg0⟩ := Option.isSome_iff_exists.mp h.top
  obtain ⟨r, hr⟩ := State.topJava?_eq_some.mp hg0
  have hr' : (({ U with heap := s₂.heap, slotsUsed := s₂.slotsUsed } : State).setVm s₂.vm).frames = .java g₀ :: r := hr
  rcases hq' with ⟨hqc, L, hfe, hL⟩ | ⟨q, rfl, E, ce, L, hx, hce, hcv, hcl, hW₂, hsm, hL⟩
  · obtain ⟨⟨v, rfl⟩, hW₂, e2, q2, q3, q4, q5, q6⟩ := id hfe
    have e3 : s₂ = ({ (U.calling g mk a).setFrames s₂.frames with heap := s₂.heap, slotsUsed := s₂.slotsUsed } : State).setVm s₂.vm := by
      have : s₂ = ({ s₂ with vm := (U.calling g mk a).vm } : State).setVm s₂.vm := rfl
      rw [e2] at this
      exact this
    obtain ⟨c₂, i₂, len₂, hc₂, hd₂, hf₂⟩ := hend
    have hW' : U.WarmedH s₂.vm := hW₂
    have hcc : c₂ = c := by
      have h1 : s₂.code? g.method = U.code? g.method := by
        rw [State.code?_eq, State.code?_eq, hW'.alike.method?]
      exact Option.some.inj (hc₂.symm.trans (h1.trans h.code))
    subst hcc
    have hlen : len₂ = len := by rw [hdg] at hd₂; cases hd₂; rfl
    subst hlen
    have hs₂ : s₂ = (({ U with heap := s₂.heap, slotsUsed := s₂.slotsUsed } : State).setVm s₂.vm).setTop { g with pc := g.pc + len₂, stack := v.toList ++ g.stack } := by
      refine e3.trans ?_
      rw [hf₂, State.calling_eq h.top, State.setFrames_setFrames, State.setTop_of_frames _ hr', hr]
      rfl
    have hsame : U.sameButNew ({ U with heap := s₂.heap, slotsUsed := s₂.slotsUsed } : State) L mc ms := by
      refine ⟨?_, q2, q3, q4, q5, q6⟩
      obtain ⟨t, ht, -⟩ := State.frames_cons hr
      show ({ U with heap := s₂.heap, slotsUsed := s₂.slotsUsed } : State) = { U.setFrames U.frames with heap := s₂.heap, slotsUsed := s₂.slotsUsed }
      rw [State.setFrames_self ht]
    subst hg
    refine Or.inl ⟨v, ⟨(({ U with heap := s₂.heap, slotsUsed := s₂.slotsUsed } : State).setVm s₂.vm), Ls ++ L, c0 + mc, s0 + ms⟩,
      ⟨X.admits, X.cas, X.clock, X.frames, X.room, X.hears, X.method, X.code, (X.here.setHeapUsed s₂.heap s₂.slotsUsed).setVm hW'.alike, X.tail, State.WarmedH.trans X.warmed hW', X.limits, X.bytes, X.same.trans (hsame.setVm s.vm)⟩,
      ⟨g, mk, s₂, L, rfl, rfl, hqc, rfl, hL, rfl, rfl⟩, ?_⟩
    show Steps p.tables e below _ ((({ U with heap := s₂.heap, slotsUsed := s₂.slotsUsed } : State).setVm s₂.vm).setTop { g with pc := g.pc + len₂, stack := v.toList ++ g.stack })
    rw [← hs₂]
    exact hsteps
  · obtain ⟨e2, q2, q3, q4, q5, q6⟩ := id hsm
    have e3 : s₂ = ({ (U.calling g mk a).setFrames s₂.frames with heap := s₂.heap, slotsUsed := s₂.slotsUsed } : State).setVm s₂.vm := by
      have : s₂ = ({ s₂ with vm := (U.calling g mk a).vm } : State).setVm s₂.vm := rfl
      rw [e2] at this
      exact this
    have hf₂ : s₂.frames = .throwing q :: .java g :: U.frames.tail := hend
    have hW' : U.WarmedH s₂.vm := hW₂
    have hs₂ : s₂ = ((({ U with heap := s₂.heap, slotsUsed := s₂.slotsUsed } : State).setVm s₂.vm).setTop g).pushFrame (.throwing q) := by
      refine e3.trans ?_
      rw [hf₂, State.calling_eq h.top, State.setFrames_setFrames, State.pushFrame, State.frames_setTop _ hr', State.setTop_of_frames _ hr', State.setFrames_setFrames, hr]
      rfl
    have hsame : U.sameButNew ({ U with heap := s₂.heap, slotsUsed := s₂.slotsUsed } : State) L mc ms := by
      refine ⟨?_, q2, q3, q4, q5, q6⟩
      obtain ⟨t, ht, -⟩ := State.frames_cons hr
      show ({ U with heap := s₂.heap, slotsUsed := s₂.slotsUsed } : State) = { U.setFrames U.frames with heap := s₂.heap, slotsUsed := s₂.slotsUsed }
      rw [State.setFrames_self ht]
    subst hg
    refine Or.inr ⟨q, ⟨(({ U with heap := s₂.heap, slotsUsed := s₂.slotsUsed } : State).setVm s₂.vm), Ls ++ L, c0 + mc, s0 + ms⟩,
      ⟨X.admits, X.cas, X.clock, X.frames, X.room, X.hears, X.method, X.code, (X.here.setHeapUsed s₂.heap s₂.slotsUsed).setVm hW'.alike, X.tail, State.WarmedH.trans X.warmed hW', X.limits, X.bytes, X.same.trans (hsame.setVm s.vm)⟩,
      ⟨g, mk, s₂, L, E, ce, rfl, rfl, hx, hce, hcv, hcl, rfl, hL, rfl, rfl⟩, ?_⟩
    show Steps p.tables e below _ (((({ U with heap := s₂.heap, slotsUsed := s₂.slotsUsed } : State).setVm s₂.vm).setTop g).pushFrame (.throwing q))
    rw [← hs₂]
    exact hsteps
end Payer
section Calls
variable {p : Program} {l : Launch} {e : Env} {R : Room} {s : State} {m : MethodId} {args : Array Value} {below : List Frame} {meth : Method} {c : Code} {T : State} {locs : List Loc} {cells slots : Nat}
theorem vx_callV (X : Stand p l e R s m args below meth c T locs cells slots) (hexec : p.tables.exec = Jvm.exec) {own C : String} {index : Nat} {y : MethodName} {bytes : ByteArray} {maxL : Nat} {ret : Option FieldType}
    (hown : s.vm.findClass own = some m.cls) (hlink : (Cond.methodLink own index y).before args s = true) (hinst : (Cond.instanceMethod y).before args s = true) (hsel : (Cond.selects C y y).before args s = true)
    (hcode : (Cond.code y bytes maxL ret).before args s = true) (hy : y.cls ≠ "java/lang/invoke/MethodHandle" ∧ y.cls ≠ "java/lang/invoke/VarHandle")
    {W9 : Nat} {Pre : Pt → Array Value → Prop} {Post : Pt → Array Value → Option Value → Pt → Prop} {PostX : Pt → Array Value → Addr → Pt → Prop} (hK : vx_Back l R p e below s args y 3 W9 Pre Post PostX)
    {b : Addr} {cellB : Cell} (hcell : T.heap[b]? = some cellB) (hobj : cellB.vm.isStatics = false) (hcls : s.vm.findClass C = some cellB.cls)
    {g : JFrame} (hg : g.method = m) (hsize : g.locals.size = c.maxLocals) {argsL rest : List Value} (hlen : ∀ sig, parseMethodDescriptor y.desc = some sig → argsL.length = sig.parameters.length)
    (hstack : g.stack = argsL.reverse ++ .ref b :: rest) (hW : 2 * g.monitorRoom + (rest.map fun v => v.category).sum ≤ W9) (hdg : decode c.code g.pc = .ok (.invokevirtual index, 3))
    (hpre : ∀ vm₁, s.WarmedH vm₁ → Pre ⟨T.setVm vm₁, locs, cells, slots⟩ (Value.ref b :: argsL).toArray) :
    (∃ (v : Option Value) (vm₁ : Vm) (B : Pt), s.WarmedH vm₁ ∧ Stand p l e R s m args below meth c B.U B.locs B.cells B.slots ∧ Post ⟨T.setVm vm₁, locs, cells, slots⟩ (Value.ref b :: argsL).toArray v B ∧
      ∀ target, Steps p.tables e below (B.U.setTop { g with pc := g.pc + 3, stack := v.toList ++ rest }) target → Steps p.tables e below (T.setTop g) target) ∨
    (∃ (q : Addr) (vm₁ : Vm) (B : Pt), s.WarmedH vm₁ ∧ Stand p l e R s m args below meth c B.U B.locs B.cells B.slots ∧ PostX ⟨T.setVm vm₁, locs, cells, slots⟩ (Value.ref b :: argsL).toArray q B ∧
      Steps p.tables e below (T.setTop g) ((B.U.setTop { g with stack := rest }).pushFrame (.throwing q))) := by
  obtain ⟨mk, methM, hnamed, hmethM, hstM, habM⟩ := Cond.instanceMethod_spec hinst
  obtain ⟨methM', cM, hmethM', -, -, -, -, -, -, hsigM⟩ := Cond.code_spec hnamed hcode
  cases hmethM.symm.trans hmethM'
  obtain ⟨c2, r2, m2, q1, q2, q3, q4, kP, hkP, hkPi⟩ := Cond.selects_spec hsel
  cases hcls.symm.trans q1
  cases (State.methodFound?_of_named hnamed hy).symm.trans q2
  cases hnamed.symm.trans q3
  have hselP : selectMethod e.platform s.vm cellB.cls mk = .method mk := by rw [Launch.admits_selectMethod X.admits]; exact q4
  obtain ⟨vm₁, X₁, hstep₁⟩ := X.invokevirtual hexec hown hlink hnamed hmethM hstM hkP hkPi hy (a := b) (cell := cellB) hcell
    (fun z h => by rw [h] at hobj; cases hobj) hselP hmethM habM hkP hkPi (g := g) hg (argsL := argsL) (rest := rest) (hlen _ hsigM) hstack hdg
  rcases hK m meth c ⟨T.setVm vm₁, locs, cells, slots⟩ { g with stack := rest } (.invokevirtual index) mk (Value.ref b :: argsL).toArray X₁ hg hsize hdg hW (X₁.named hnamed) (hpre vm₁ X₁.warmed) with ⟨v, B, X', hpost, hsteps⟩ | ⟨q, B, X', hpost, hsteps⟩
  · exact Or.inl ⟨v, vm₁, B, X₁.warmed, X', hpost, fun target h => hstep₁ _ fun acts => by rw [doInvoke_state]; exact hsteps.trans h⟩
  · exact Or.inr ⟨q, vm₁, B, X₁.warmed, X', hpost, hstep₁ _ fun acts => by rw [doInvoke_state]; exact hsteps⟩
theorem vx_callS (X : Stand p l e R s m args below meth c T locs cells slots) (hexec : p.tables.exec = Jvm.exec) {own : String} {index : Nat} {y : MethodName} {bytes : ByteArray} {maxL : Nat} {ret : Option FieldType}
    (hown : s.vm.findClass own = some m.cls) (hlink : (Cond.methodLink own index y).before args s = true) (hstat : (Cond.static y).before args s = true) (hinit : (Cond.initialized y.cls).before args s = true)
    (hcode : (Cond.code y bytes maxL ret).before args s = true) (hy : y.cls ≠ "java/lang/invoke/MethodHandle" ∧ y.cls ≠ "java/lang/invoke/VarHandle")
    {W9 : Nat} {Pre : Pt → Array Value → Prop} {Post : Pt → Array Value → Option Value → Pt → Prop} {PostX : Pt → Array Value → Addr → Pt → Prop} (hK : vx_Back l R p e below s args y 3 W9 Pre Post PostX)
    {g : JFrame} (hg : g.method = m) (hsize : g.locals.size = c.maxLocals) {argsL rest : List Value} (hlen : ∀ sig, parseMethodDescriptor y.desc = some sig → argsL.length = sig.parameters.length)
    (hstack : g.stack = argsL.reverse ++ rest) (hW : 2 * g.monitorRoom + (rest.map fun v => v.category).sum ≤ W9) (hdg : decode c.code g.pc = .ok (.invokestatic index, 3))
    (hpre : ∀ vm₁, s.WarmedH vm₁ → Pre ⟨T.setVm vm₁, locs, cells, slots⟩ argsL.toArray) :
    (∃ (v : Option Value) (vm₁ : Vm) (B : Pt), s.WarmedH vm₁ ∧ Stand p l e R s m args below meth c B.U B.locs B.cells B.slots ∧ Post ⟨T.setVm vm₁, locs, cells, slots⟩ argsL.toArray v B ∧
      ∀ target, Steps p.tables e below (B.U.setTop { g with pc := g.pc + 3, stack := v.toList ++ rest }) target → Steps p.tables e below (T.setTop g) target) ∨
    (∃ (q : Addr) (vm₁ : Vm) (B : Pt), s.WarmedH vm₁ ∧ Stand p l e R s m args below meth c B.U B.locs B.cells B.slots ∧ PostX ⟨T.setVm vm₁, locs, cells, slots⟩ argsL.toArray q B ∧
      Steps p.tables e below (T.setTop g) ((B.U.setTop { g with stack := rest }).pushFrame (.throwing q))) := by
  obtain ⟨mk, hnamed⟩ := Cond.code_named hcode
  obtain ⟨methM, cM, hmethM, -, -, -, -, -, -, hsigM⟩ := Cond.code_spec hnamed hcode
  have hstatic : methM.isStatic = true := Cond.static_spec hnamed hmethM hstat
  obtain ⟨kP, hkP, -⟩ := className_of_methodNamed hnamed
  have hinitP : kP.init = .initialized := Cond.initialized_spec (findClass_of_methodNamed hnamed) hkP hinit
  obtain ⟨vm₁, X₁, hstep₁⟩ := X.invokestatic hexec hown hlink hnamed hmethM hstatic hkP hinitP hy (g := g) hg (argsL := argsL) (rest := rest) (hlen _ hsigM) hstack hdg
  rcases hK m meth c ⟨T.setVm vm₁, locs, cells, slots⟩ { g with stack := rest } (.invokestatic index) mk argsL.toArray X₁ hg hsize hdg hW (X₁.named hnamed) (hpre vm₁ X₁.warmed) with ⟨v, B, X', hpost, hsteps⟩ | ⟨q, B, X', hpost, hsteps⟩
  · exact Or.inl ⟨v, vm₁, B, X₁.warmed, X', hpost, fun target h => hstep₁ _ fun acts => by rw [doInvoke_state]; exact hsteps.trans h⟩
  · exact Or.inr ⟨q, vm₁, B, X₁.warmed, X', hpost, hstep₁ _ fun acts => by rw [doInvoke_state]; exact hsteps⟩
end Calls
theorem vx_cls {s : State} {T : State} {vm₁ : Vm} {E : String} {k : ClassId} (hW : s.WarmedH vm₁) (h : (T.setVm vm₁).vm.findClass E = some k) : s.vm.findClass E = some k := by
  have h1 : vm₁.findClass E = some k := h
  rw [hW.alike.findClass] at h1
  exact h1
/-- the method's frame g, with q thrown over it -/
def vx_W (p : Program) (l : Launch) (e : Env) (R : Room) (s : State) (m : MethodId) (args : Array Value) (below : List Frame) (meth : Method) (c : Code) (H : Heap) (locs : List Loc) (cells slots : Nat) (Q : State → Prop) (g : JFrame) (q : Addr) : Prop :=
  ∀ T : State, T.heap = H → Stand p l e R s m args below meth c T locs cells slots → ∃ t, Steps p.tables e below ((T.setTop g).pushFrame (.throwing q)) t ∧ Q t
def vx_Run (p : Program) (l : Launch) (e : Env) (R : Room) (s : State) (m : MethodId) (args : Array Value) (below : List Frame) (meth : Method) (c : Code) (H : Heap) (locs : List Loc) (cells slots mc ms : Nat) (g : JFrame) (rest : List Value) (Qa : State → Outcome → State → Prop) (XC : String → State → State → Prop) (free : Addr → Prop) : Prop :=
  ∀ T : State, T.heap = H → Stand p l e R s m args below meth c T locs cells slots →
    (∃ (v : Option Value) (st₀ t T' : State) (L : List Loc), st₀.heap = H ∧ Stand p l e R s m args below meth c T' (locs ++ L) (cells + mc) (slots + ms) ∧ (∀ q ∈ L, free q.base) ∧ T'.heap = t.heap ∧ T'.vm = t.vm ∧ Qa st₀ (.returned v) t ∧
      Goes p e below T g T' { g with pc := g.pc + 3, stack := v.toList ++ rest }) ∨
    (∃ (q : Addr) (st₀ t T' : State) (L : List Loc) (E : String) (ce : Cell), st₀.heap = H ∧ Stand p l e R s m args below meth c T' (locs ++ L) (cells + mc) (slots + ms) ∧ (∀ z ∈ L, free z.base) ∧ T'.heap = t.heap ∧ T'.vm = t.vm ∧ XC E st₀ t ∧ t.heap[q]? = some ce ∧ ce.vm = .none ∧ s.vm.findClass E = some ce.cls ∧
      Steps p.tables e below (T.setTop g) ((T'.setTop { g with stack := rest }).pushFrame (.throwing q)))
def vx_X {S : Type} (px : S → Prop) (B : String → S → State → Prop) (A : Nat → Prop) : String → State → State → Prop := fun E st t => ∃ u : S, px u ∧ B E u t ∧ va_F A st t
section Runs
variable {p : Program} {l : Launch} {e : Env} {R : Room} {s : State} {m : MethodId} {args : Array Value} {below : List Frame} {meth : Method} {c : Code} {H : Heap} {locs : List Loc} {cells slots : Nat}
variable {y : MethodName} {bytes cc : ByteArray} {maxL nL mc ms n index : Nat} {ret : Option FieldType} {ws : List Cond} {rm : Room} {Pc : Array Value → State → Prop} {Qc : Array Value → State → Outcome → State → Prop} {XC : String → State → State → Prop} {free : Addr → Prop} {Ts : List Cond} {own C : String} {b : Addr} {As rest : List Value} {g : JFrame}
theorem vx_callBack (cb : CallB R s args own index y bytes maxL ret ws rm mc ms n) (hM : vx_Met l y ws rm Pc Qc XC mc ms free) (hbl : FrameBlind Pc) : vx_Back l R p e below s args y 3 8 (PreOf R mc ms Pc) (PostOf Qc mc ms free) (vx_Post XC mc ms free) := by
  obtain ⟨hrc, hrs, hfr, hlo, hws, hcw, -, hini, -⟩ := cb
  exact vx_back (bytes := bytes) (maxL := maxL) (ret := ret) hM hbl hrc hrs hfr hlo hws hcw (fun a' U hW => word_at hW (Or.inl (by first | rfl | simp [Cond.onTables, Cond.keeps, Cond.steady])) hini)
theorem vx_runV (S : CallFix p m c cc nL s args Ts own) (hM : vx_Met l y ws rm Pc Qc XC mc ms free) (cw : CallW R s args own C index y bytes maxL ret ws rm mc ms n) (hp : PreV s H C b Pc As)
    (hg : g.method = m) (hn : As.length = n) (hsize : g.locals.size = nL) (hstack : g.stack = As.reverse ++ .ref b :: rest) (hW : 2 * g.monitorRoom + (rest.map fun v => v.category).sum ≤ 8) (hdg : decode cc g.pc = .ok (.invokevirtual index, 3)) (hf : cells + mc ≤ R.cells ∧ slots + ms ≤ R.slots) :
    vx_Run p l e R s m args below meth c H locs cells slots mc ms g rest (Qc (Value.ref b :: As).toArray) XC free := by
  have hK : vx_Back l R p e below s args y 3 8 (PreOf R mc ms Pc) (PostOf Qc mc ms free) (vx_Post XC mc ms free) := vx_callBack cw.1 hM hp.1
  obtain ⟨⟨-, -, -, -, -, -, hcode, -, hy, hlen, hl⟩, hin, hse⟩ := cw
  obtain ⟨hx, hb, hml, ho, -⟩ := S
  obtain ⟨-, ⟨cellB, hcB, hoB, hclB⟩, hPc⟩ := hp
  intro T hT X
  rcases vx_callV X hx (C := C) (bytes := bytes) (maxL := maxL) (ret := ret) ho hl hin hse hcode hy hK (by rw [hT]; exact hcB) hoB hclB hg (hsize.trans hml.symm) (argsL := As) (rest := rest) (fun sig h => hn.trans (hlen sig h)) hstack hW (by rw [hb]; exact hdg)
    (fun vm₁ hW₁ => ⟨hf.1, hf.2, hPc (T.setVm vm₁) hT hW₁⟩) with ⟨v, vm₁, ⟨U', l2, c2, s2⟩, hW₁, X', ⟨g', mk, t, L, e1, e2, hq, h1, hL, h2, h3⟩, st⟩ | ⟨q, vm₁, ⟨U', l2, c2, s2⟩, hW₁, X', ⟨g', mk, t, L, E, ce, e1, e2, hq, hce, hcv, hcl, h1, hL, h2, h3⟩, st⟩
  · dsimp only [Pt.U, Pt.locs, Pt.cells, Pt.slots] at X' e1 e2 h1 h2 h3 st
    subst h1; subst h2; subst h3
    exact Or.inl ⟨v, (T.setVm vm₁).calling g' mk (Value.ref b :: As).toArray, t, U', L, hT, X', hL, e1, e2, hq, st⟩
  · dsimp only [Pt.U, Pt.locs, Pt.cells, Pt.slots] at X' e1 e2 h1 h2 h3 st hcl
    subst h1; subst h2; subst h3
    exact Or.inr ⟨q, (T.setVm vm₁).calling g' mk (Value.ref b :: As).toArray, t, U', L, E, ce, hT, X', hL, e1, e2, hq, hce, hcv, vx_cls hW₁ hcl, st⟩
theorem vx_runS (S : CallFix p m c cc nL s args Ts own) (hM : vx_Met l y ws rm Pc Qc XC mc ms free) (cw : CallB R s args own index y bytes maxL ret ws rm mc ms n ∧ (Cond.static y).before args s = true) (hp : PreS s H Pc As)
    (hg : g.method = m) (hn : As.length = n) (hsize : g.locals.size = nL) (hstack : g.stack = As.reverse ++ rest) (hW : 2 * g.monitorRoom + (rest.map fun v => v.category).sum ≤ 8) (hdg : decode cc g.pc = .ok (.invokestatic index, 3)) (hf : cells + mc ≤ R.cells ∧ slots + ms ≤ R.slots) :
    vx_Run p l e R s m args below meth c H locs cells slots mc ms g rest (Qc As.toArray) XC free := by
  have hK : vx_Back l R p e below s args y 3 8 (PreOf R mc ms Pc) (PostOf Qc mc ms free) (vx_Post XC mc ms free) := vx_callBack cw.1 hM hp.1
  obtain ⟨⟨-, -, -, -, -, -, hcode, hini, hy, hlen, hl⟩, hstt⟩ := cw
  obtain ⟨hx, hb, hml, ho, -⟩ := S
  intro T hT X
  rcases vx_callS X hx (bytes := bytes) (maxL := maxL) (ret := ret) ho hl hstt hini hcode hy hK hg (hsize.trans hml.symm) (argsL := As) (rest := rest) (fun sig h => hn.trans (hlen sig h)) hstack hW (by rw [hb]; exact hdg)
    (fun vm₁ hW₁ => ⟨hf.1, hf.2, hp.2 (T.setVm vm₁) hT hW₁⟩) with ⟨v, vm₁, ⟨U', l2, c2, s2⟩, hW₁, X', ⟨g', mk, t, L, e1, e2, hq, h1, hL, h2, h3⟩, st⟩ | ⟨q, vm₁, ⟨U', l2, c2, s2⟩, hW₁, X', ⟨g', mk, t, L, E, ce, e1, e2, hq, hce, hcv, hcl, h1, hL, h2, h3⟩, st⟩
  · dsimp only [Pt.U, Pt.locs, Pt.cells, Pt.slots] at X' e1 e2 h1 h2 h3 st
    subst h1; subst h2; subst h3
    exact Or.inl ⟨v, (T.setVm vm₁).calling g' mk As.toArray, t, U', L, hT, X', hL, e1, e2, hq, st⟩
  · dsimp only [Pt.U, Pt.locs, Pt.cells, Pt.slots] at X' e1 e2 h1 h2 h3 st hcl
    subst h1; subst h2; subst h3
    exact Or.inr ⟨q, (T.setVm vm₁).calling g' mk As.toArray, t, U', L, E, ce, hT, X', hL, e1, e2, hq, hce, hcv, vx_cls hW₁ hcl, st⟩
end Runs
section Rows
variable {p : Program} {l : Launch} {e : Env} {R : Room} {s : State} {m : MethodId} {args : Array Value} {below : List Frame} {meth : Method} {c : Code} {H : Heap} {locs : List Loc} {cells slots : Nat} {Q : State → Prop}
variable {mc ms : Nat} {free : Addr → Prop} {A0 A1 : Nat → Prop} {H0 : Heap} {a : Array Value} {pc : Nat} {ls : Array Slot} {st0 rest : List Value}
theorem vx_keep {st₀ t T' : State} {L : List Loc} (h0 : st₀.heap = H) (e1 : T'.heap = t.heap) (hS : va_S A0 H0 H locs) (hA : ∀ q, q < H.size → A1 q → A0 q) (hf : ∀ q, free q → A0 q) (hL : ∀ q ∈ L, free q.base) (hF : va_F A1 st₀ t) :
    H.size ≤ T'.heap.size ∧ (∀ q : Nat, q < H.size → ¬ A1 q → T'.heap[q]? = H[q]?) ∧ va_S A0 H0 T'.heap (locs ++ L) := by
  obtain ⟨hz, hk⟩ := hF
  rw [h0] at hz hk
  exact ⟨by rw [e1]; exact hz, fun q h1 h2 => by rw [e1]; exact hk q h1 h2,
    ⟨Nat.le_trans hS.1 (by rw [e1]; exact hz), fun q h1 h2 => by rw [e1, hk q (Nat.lt_of_lt_of_le h1 hS.1) (fun z => h2 (hA q (Nat.lt_of_lt_of_le h1 hS.1) z))]; exact hS.2.1 q h1 h2, fun q hq => by
      rcases List.mem_append.mp hq with h | h
      · exact hS.2.2 q h
      · exact hf _ (hL q h)⟩⟩
theorem vx_calli {S SX : Type} {post : Int32 → S → Prop} {px : SX → Prop} {B : S → State → Prop} {BX : String → SX → State → Prop} {AX : Nat → Prop} (hr : vx_Run p l e R s m args below meth c H locs cells slots mc ms (F0 m pc ls st0) rest (va_Qi post B A1 a) (vx_X px BX AX) free) (hS : va_S A0 H0 H locs) (hA : ∀ q, q < H.size → A1 q → A0 q) (hf : ∀ q, free q → A0 q) (hAX : ∀ q, q < H.size → AX q → A0 q)
    (kx : ∀ (E : String) (ce : Cell) (q9 : Addr) (u : SX) (t : State) (H1 : Heap) (locs1 : List Loc), t.heap = H1 → s.vm.Alike t.vm → px u → BX E u t → H.size ≤ H1.size → (∀ q : Nat, q < H.size → ¬ AX q → H1[q]? = H[q]?) → va_S A0 H0 H1 locs1 → H1[q9]? = some ce → ce.vm = .none → s.vm.findClass E = some ce.cls → vx_W p l e R s m args below meth c H1 locs1 (cells + mc) (slots + ms) Q (F0 m pc ls rest) q9)
    (kk : ∀ (r : Int32) (u : S) (t : State) (H1 : Heap) (locs1 : List Loc), t.heap = H1 → s.vm.Alike t.vm → post r u → B u t → H.size ≤ H1.size → (∀ q : Nat, q < H.size → ¬ A1 q → H1[q]? = H[q]?) → va_S A0 H0 H1 locs1 → W p l e R s m args below meth c H1 locs1 (cells + mc) (slots + ms) Q (F0 m (pc + 3) ls (.int r :: rest))) : W p l e R s m args below meth c H locs cells slots Q (F0 m pc ls st0) := by
  intro T hT X
  rcases hr T hT X with ⟨v, st₀, t, T', L, h0, X', hL, e1, e2, ⟨⟨r, u, hv, hp, hb⟩, hF⟩, st⟩ | ⟨q, st₀, t, T', L, E, ce, h0, X', hL, e1, e2, ⟨u, hp, hb, hF⟩, hce, hcv, hcl, st⟩
  · cases hv
    obtain ⟨k1, k2, k3⟩ := vx_keep h0 e1 hS hA hf hL hF
    obtain ⟨t2, a1, b1⟩ := kk r u t T'.heap (locs ++ L) e1.symm (by rw [← e2]; exact X'.warmed.alike) hp hb k1 k2 k3 T' rfl X'
    exact ⟨t2, st t2 a1, b1⟩
  · obtain ⟨k1, k2, k3⟩ := vx_keep h0 e1 hS hAX hf hL hF
    obtain ⟨t2, a1, b1⟩ := kx E ce q u t T'.heap (locs ++ L) e1.symm (by rw [← e2]; exact X'.warmed.alike) hp hb k1 k2 k3 (by rw [e1]; exact hce) hcv hcl T' rfl X'
    exact ⟨t2, st.trans a1, b1⟩
theorem vx_calll {S SX : Type} {post : Int64 → S → Prop} {px : SX → Prop} {B : S → State → Prop} {BX : String → SX → State → Prop} {AX : Nat → Prop} (hr : vx_Run p l e R s m args below meth c H locs cells slots mc ms (F0 m pc ls st0) rest (va_Ql post B A1 a) (vx_X px BX AX) free) (hS : va_S A0 H0 H locs) (hA : ∀ q, q < H.size → A1 q → A0 q) (hf : ∀ q, free q → A0 q) (hAX : ∀ q, q < H.size → AX q → A0 q)
    (kx : ∀ (E : String) (ce : Cell) (q9 : Addr) (u : SX) (t : State) (H1 : Heap) (locs1 : List Loc), t.heap = H1 → s.vm.Alike t.vm → px u → BX E u t → H.size ≤ H1.size → (∀ q : Nat, q < H.size → ¬ AX q → H1[q]? = H[q]?) → va_S A0 H0 H1 locs1 → H1[q9]? = some ce → ce.vm = .none → s.vm.findClass E = some ce.cls → vx_W p l e R s m args below meth c H1 locs1 (cells + mc) (slots + ms) Q (F0 m pc ls rest) q9)
    (kk : ∀ (r : Int64) (u : S) (t : State) (H1 : Heap) (locs1 : List Loc), t.heap = H1 → s.vm.Alike t.vm → post r u → B u t → H.size ≤ H1.size → (∀ q : Nat, q < H.size → ¬ A1 q → H1[q]? = H[q]?) → va_S A0 H0 H1 locs1 → W p l e R s m args below meth c H1 locs1 (cells + mc) (slots + ms) Q (F0 m (pc + 3) ls (.long r :: rest))) : W p l e R s m args below meth c H locs cells slots Q (F0 m pc ls st0) := by
  intro T hT X
  rcases hr T hT X with ⟨v, st₀, t, T', L, h0, X', hL, e1, e2, ⟨⟨r, u, hv, hp, hb⟩, hF⟩, st⟩ | ⟨q, st₀, t, T', L, E, ce, h0, X', hL, e1, e2, ⟨u, hp, hb, hF⟩, hce, hcv, hcl, st⟩
  · cases hv
    obtain ⟨k1, k2, k3⟩ := vx_keep h0 e1 hS hA hf hL hF
    obtain ⟨t2, a1, b1⟩ := kk r u t T'.heap (locs ++ L) e1.symm (by rw [← e2]; exact X'.warmed.alike) hp hb k1 k2 k3 T' rfl X'
    exact ⟨t2, st t2 a1, b1⟩
  · obtain ⟨k1, k2, k3⟩ := vx_keep h0 e1 hS hAX hf hL hF
    obtain ⟨t2, a1, b1⟩ := kx E ce q u t T'.heap (locs ++ L) e1.symm (by rw [← e2]; exact X'.warmed.alike) hp hb k1 k2 k3 (by rw [e1]; exact hce) hcv hcl T' rfl X'
    exact ⟨t2, st.trans a1, b1⟩
theorem vx_callf {S SX : Type} {post : UInt32 → S → Prop} {px : SX → Prop} {B : S → State → Prop} {BX : String → SX → State → Prop} {AX : Nat → Prop} (hr : vx_Run p l e R s m args below meth c H locs cells slots mc ms (F0 m pc ls st0) rest (va_Qf post B A1 a) (vx_X px BX AX) free) (hS : va_S A0 H0 H locs) (hA : ∀ q, q < H.size → A1 q → A0 q) (hf : ∀ q, free q → A0 q) (hAX : ∀ q, q < H.size → AX q → A0 q)
    (kx : ∀ (E : String) (ce : Cell) (q9 : Addr) (u : SX) (t : State) (H1 : Heap) (locs1 : List Loc), t.heap = H1 → s.vm.Alike t.vm → px u → BX E u t → H.size ≤ H1.size → (∀ q : Nat, q < H.size → ¬ AX q → H1[q]? = H[q]?) → va_S A0 H0 H1 locs1 → H1[q9]? = some ce → ce.vm = .none → s.vm.findClass E = some ce.cls → vx_W p l e R s m args below meth c H1 locs1 (cells + mc) (slots + ms) Q (F0 m pc ls rest) q9)
    (kk : ∀ (r : UInt32) (u : S) (t : State) (H1 : Heap) (locs1 : List Loc), t.heap = H1 → s.vm.Alike t.vm → post r u → B u t → H.size ≤ H1.size → (∀ q : Nat, q < H.size → ¬ A1 q → H1[q]? = H[q]?) → va_S A0 H0 H1 locs1 → W p l e R s m args below meth c H1 locs1 (cells + mc) (slots + ms) Q (F0 m (pc + 3) ls (.float r :: rest))) : W p l e R s m args below meth c H locs cells slots Q (F0 m pc ls st0) := by
  intro T hT X
  rcases hr T hT X with ⟨v, st₀, t, T', L, h0, X', hL, e1, e2, ⟨⟨r, u, hv, hp, hb⟩, hF⟩, st⟩ | ⟨q, st₀, t, T', L, E, ce, h0, X', hL, e1, e2, ⟨u, hp, hb, hF⟩, hce, hcv, hcl, st⟩
  · cases hv
    obtain ⟨k1, k2, k3⟩ := vx_keep h0 e1 hS hA hf hL hF
    obtain ⟨t2, a1, b1⟩ := kk r u t T'.heap (locs ++ L) e1.symm (by rw [← e2]; exact X'.warmed.alike) hp hb k1 k2 k3 T' rfl X'
    exact ⟨t2, st t2 a1, b1⟩
  · obtain ⟨k1, k2, k3⟩ := vx_keep h0 e1 hS hAX hf hL hF
    obtain ⟨t2, a1, b1⟩ := kx E ce q u t T'.heap (locs ++ L) e1.symm (by rw [← e2]; exact X'.warmed.alike) hp hb k1 k2 k3 (by rw [e1]; exact hce) hcv hcl T' rfl X'
    exact ⟨t2, st.trans a1, b1⟩
theorem vx_calld {S SX : Type} {post : UInt64 → S → Prop} {px : SX → Prop} {B : S → State → Prop} {BX : String → SX → State → Prop} {AX : Nat → Prop} (hr : vx_Run p l e R s m args below meth c H locs cells slots mc ms (F0 m pc ls st0) rest (va_Qd post B A1 a) (vx_X px BX AX) free) (hS : va_S A0 H0 H locs) (hA : ∀ q, q < H.size → A1 q → A0 q) (hf : ∀ q, free q → A0 q) (hAX : ∀ q, q < H.size → AX q → A0 q)
    (kx : ∀ (E : String) (ce : Cell) (q9 : Addr) (u : SX) (t : State) (H1 : Heap) (locs1 : List Loc), t.heap = H1 → s.vm.Alike t.vm → px u → BX E u t → H.size ≤ H1.size → (∀ q : Nat, q < H.size → ¬ AX q → H1[q]? = H[q]?) → va_S A0 H0 H1 locs1 → H1[q9]? = some ce → ce.vm = .none → s.vm.findClass E = some ce.cls → vx_W p l e R s m args below meth c H1 locs1 (cells + mc) (slots + ms) Q (F0 m pc ls rest) q9)
    (kk : ∀ (r : UInt64) (u : S) (t : State) (H1 : Heap) (locs1 : List Loc), t.heap = H1 → s.vm.Alike t.vm → post r u → B u t → H.size ≤ H1.size → (∀ q : Nat, q < H.size → ¬ A1 q → H1[q]? = H[q]?) → va_S A0 H0 H1 locs1 → W p l e R s m args below meth c H1 locs1 (cells + mc) (slots + ms) Q (F0 m (pc + 3) ls (.double r :: rest))) : W p l e R s m args below meth c H locs cells slots Q (F0 m pc ls st0) := by
  intro T hT X
  rcases hr T hT X with ⟨v, st₀, t, T', L, h0, X', hL, e1, e2, ⟨⟨r, u, hv, hp, hb⟩, hF⟩, st⟩ | ⟨q, st₀, t, T', L, E, ce, h0, X', hL, e1, e2, ⟨u, hp, hb, hF⟩, hce, hcv, hcl, st⟩
  · cases hv
    obtain ⟨k1, k2, k3⟩ := vx_keep h0 e1 hS hA hf hL hF
    obtain ⟨t2, a1, b1⟩ := kk r u t T'.heap (locs ++ L) e1.symm (by rw [← e2]; exact X'.warmed.alike) hp hb k1 k2 k3 T' rfl X'
    exact ⟨t2, st t2 a1, b1⟩
  · obtain ⟨k1, k2, k3⟩ := vx_keep h0 e1 hS hAX hf hL hF
    obtain ⟨t2, a1, b1⟩ := kx E ce q u t T'.heap (locs ++ L) e1.symm (by rw [← e2]; exact X'.warmed.alike) hp hb k1 k2 k3 (by rw [e1]; exact hce) hcv hcl T' rfl X'
    exact ⟨t2, st.trans a1, b1⟩
theorem vx_callv {S SX : Type} {post : S → Prop} {px : SX → Prop} {B : S → State → Prop} {BX : String → SX → State → Prop} {AX : Nat → Prop} (hr : vx_Run p l e R s m args below meth c H locs cells slots mc ms (F0 m pc ls st0) rest (va_Qv post B A1 a) (vx_X px BX AX) free) (hS : va_S A0 H0 H locs) (hA : ∀ q, q < H.size → A1 q → A0 q) (hf : ∀ q, free q → A0 q) (hAX : ∀ q, q < H.size → AX q → A0 q)
    (kx : ∀ (E : String) (ce : Cell) (q9 : Addr) (u : SX) (t : State) (H1 : Heap) (locs1 : List Loc), t.heap = H1 → s.vm.Alike t.vm → px u → BX E u t → H.size ≤ H1.size → (∀ q : Nat, q < H.size → ¬ AX q → H1[q]? = H[q]?) → va_S A0 H0 H1 locs1 → H1[q9]? = some ce → ce.vm = .none → s.vm.findClass E = some ce.cls → vx_W p l e R s m args below meth c H1 locs1 (cells + mc) (slots + ms) Q (F0 m pc ls rest) q9)
    (kk : ∀ (u : S) (t : State) (H1 : Heap) (locs1 : List Loc), t.heap = H1 → s.vm.Alike t.vm → post u → B u t → H.size ≤ H1.size → (∀ q : Nat, q < H.size → ¬ A1 q → H1[q]? = H[q]?) → va_S A0 H0 H1 locs1 → W p l e R s m args below meth c H1 locs1 (cells + mc) (slots + ms) Q (F0 m (pc + 3) ls (rest))) : W p l e R s m args below meth c H locs cells slots Q (F0 m pc ls st0) := by
  intro T hT X
  rcases hr T hT X with ⟨v, st₀, t, T', L, h0, X', hL, e1, e2, ⟨⟨u, hv, hp, hb⟩, hF⟩, st⟩ | ⟨q, st₀, t, T', L, E, ce, h0, X', hL, e1, e2, ⟨u, hp, hb, hF⟩, hce, hcv, hcl, st⟩
  · cases hv
    obtain ⟨k1, k2, k3⟩ := vx_keep h0 e1 hS hA hf hL hF
    obtain ⟨t2, a1, b1⟩ := kk u t T'.heap (locs ++ L) e1.symm (by rw [← e2]; exact X'.warmed.alike) hp hb k1 k2 k3 T' rfl X'
    exact ⟨t2, st t2 a1, b1⟩
  · obtain ⟨k1, k2, k3⟩ := vx_keep h0 e1 hS hAX hf hL hF
    obtain ⟨t2, a1, b1⟩ := kx E ce q u t T'.heap (locs ++ L) e1.symm (by rw [← e2]; exact X'.warmed.alike) hp hb k1 k2 k3 (by rw [e1]; exact hce) hcv hcl T' rfl X'
    exact ⟨t2, st.trans a1, b1⟩
/-- caught by the row x of this method's table; the rows ahead don't take it -/
theorem vx_catch {own name : String} {E : String} {ce : Cell} {q : Addr} (hown : s.vm.findClass own = some m.cls) (pre : List ExceptionTableEntry) (x : ExceptionTableEntry) (suf : List ExceptionTableEntry) (hsplit : c.exceptionTable.toList = pre ++ x :: suf)
    (hpass : ∀ z ∈ pre, covers z pc = false ∨ (z.catchType ≠ 0 ∧ ∃ nm : String, (Cond.classLink own z.catchType nm).before args s = true ∧ va_Nc E nm s)) (hx : covers x pc = true) (h0 : x.catchType ≠ 0)
    (hlink : (Cond.classLink own x.catchType name).before args s = true) (hcast : (Cond.castable E name).before args s = true) (hcell : H[q]? = some ce) (hv : ce.vm = .none) (hcl : s.vm.findClass E = some ce.cls)
    (kk : W p l e R s m args below meth c H locs cells slots Q (F0 m x.handlerPc ls [.ref q])) : vx_W p l e R s m args below meth c H locs cells slots Q (F0 m pc ls rest) q := by
  intro T hT X
  have hpl : e.platform.magicAccessors = ({} : Platform).magicAccessors := by rw [X.admits.platform]
  obtain ⟨c3, c4, hc3, hc4, hasg⟩ := Cond.castable_spec hcast
  cases Option.some.inj (hc3.symm.trans hcl)
  obtain ⟨c5, hc5, hcl5⟩ := Cond.classLink_spec hown hlink e.platform hpl
  cases Option.some.inj (hc4.symm.trans hc5)
  obtain ⟨vm', X', st⟩ := X.thenCaughtThrough q (g := F0 m pc ls rest) rfl (Steps.refl _) (by rw [hT]; exact hcell) (by rw [hv]; rfl) (by obtain ⟨k9, h9, -⟩ := Vm.findClass_spec hcl; exact ⟨k9, h9⟩) pre x suf hsplit
    (fun z hz => by
      rcases hpass z hz with h | ⟨hz0, nm, hl1, hn1⟩
      · exact Or.inl h
      · obtain ⟨c6, hc6, hcl6⟩ := Cond.classLink_spec hown hl1 e.platform hpl
        obtain ⟨a8, b8, h1, h2, h3⟩ := hn1
        cases Option.some.inj (h1.symm.trans hcl)
        cases Option.some.inj (h2.symm.trans hc6)
        exact Or.inr ⟨hz0, _, hcl6, h3⟩) hx (Or.inr ⟨h0, c4, hcl5, hasg⟩)
  obtain ⟨t, a1, b1⟩ := kk (T.setVm vm') hT X'
  exact ⟨t, st.trans a1, b1⟩
end Rows
section Ends
variable {p : Program} {l : Launch} {e : Env} {R : Room} {s : State} {m : MethodId} {args : Array Value} {below : List Frame} {meth : Method} {c : Code} {H : Heap} {locs : List Loc} {cells slots : Nat} {Q : State → Prop}
variable {mc ms : Nat} {free : Addr → Prop} {A0 A1 : Nat → Prop} {H0 : Heap} {a : Array Value} {ls : Array Slot} {st0 rest : List Value}
variable {Qc : Array Value → State → Outcome → State → Prop} {XC : String → State → State → Prop}
/-- what a body that may throw owes at its end -/
def vx_MQ (below : List Frame) (Qc : Array Value → State → Outcome → State → Prop) (XC : String → State → State → Prop) (a : Array Value) (s : State) (mc ms : Nat) (free : Addr → Prop) : State → Prop := fun t =>
  ∃ o, t.status = .running ∧ Ended t below o ∧ vx_Q Qc XC mc ms free a s o t
theorem vx_ret {g : JFrame} {mc ms : Nat} (k : W p l e R s m args below meth c H locs cells slots (MQ below Qc args s mc ms free) g) : W p l e R s m args below meth c H locs cells slots (vx_MQ below Qc XC args s mc ms free) g := by
  intro T hT X
  obtain ⟨t, a1, o, b1, b2, b3, b4⟩ := k T hT X
  exact ⟨t, a1, o, b1, b2, Or.inl ⟨b3, b4⟩⟩
/-- not caught here: it goes on to the caller -/
theorem vx_widen {g : JFrame} {q : Addr} {k n : Nat} (h1 : cells ≤ k) (h2 : slots ≤ n) (kk : vx_W p l e R s m args below meth c H locs k n Q g q) : vx_W p l e R s m args below meth c H locs cells slots Q g q := fun T hT X => kk T hT (stand_widen X h1 h2)
theorem vx_out {pc : Nat} {E : String} {ce : Cell} {q : Addr} {mc ms : Nat} (hout : ∀ x ∈ c.exceptionTable.toList, covers x pc = false) (hlocks : meth.locks = false) (hcell : H[q]? = some ce) (hv : ce.vm = .none) (hcl : s.vm.findClass E = some ce.cls)
    (hx : ∀ t : State, t.heap = H → s.vm.Alike t.vm → XC E s t) (hf : ∀ z ∈ locs, free z.base) (hc : cells ≤ mc) (hs : slots ≤ ms) :
    vx_W p l e R s m args below meth c H locs cells slots (vx_MQ below Qc XC args s mc ms free) (F0 m pc ls rest) q := by
  intro T hT X
  obtain ⟨st1, hrun, hend, hW, hsm⟩ := X.leaveThrown q (g := F0 m pc ls rest) rfl rfl rfl hout hlocks
  have hcell9 : (T.setFrames (.throwing q :: below)).heap[q]? = some ce := by
    show T.heap[q]? = some ce
    rw [hT]; exact hcell
  exact ⟨_, st1, .threw q, hrun, hend, Or.inr ⟨q, rfl, E, ce, locs, hx _ hT hW.alike, hcell9, hv, hcl, hW, hsm.mono hc hs, hf⟩⟩
theorem vx_frame {U : State} {k n : Nat} (h : s.sameButNew ({ U with vm := s.vm } : State) locs k n) : s.heap.size ≤ U.heap.size ∧ ∀ q : Nat, q < s.heap.size → (∀ z ∈ locs, z.base ≠ q) → U.heap[q]? = s.heap[q]? := by
  obtain ⟨-, h2, -, -, -, h6⟩ := h
  refine ⟨h2, fun q hq hz => ?_⟩
  obtain ⟨c9, e1, e2, e3, e4⟩ := h6 q _ (Array.getElem?_eq_getElem hq)
  have hs : c9.slots = (s.heap[q]).slots := Array.ext_getElem? fun i => e4 i fun hm => hz _ hm rfl
  have h9 : c9 = s.heap[q] := by
    rw [hs] at e2
    exact e2
  have e5 : U.heap[q]? = some c9 := e1
  rw [e5, h9, Array.getElem?_eq_getElem hq]
/-- the words of a throw but the four that speak of the heap -/
def vx_no (w : Cond) : Bool := decide (w ≠ .isRef (.static Bundle.tN "UNASSIGNED_STACK" Bundle.steD)) && decide (w ≠ .isRef (.static Bundle.tN "SUPPRESSED_SENTINEL" Bundle.listD)) && decide (w ≠ .laysStatic Bundle.tN "UNASSIGNED_STACK" Bundle.steD) && decide (w ≠ .laysStatic Bundle.tN "SUPPRESSED_SENTINEL" Bundle.listD)
def vx_at0 (own : String) (ic : Nat) (X : String) (names : List String) : List Cond := (Bundle.ownAtoms0 own ic X names).filter vx_no
def vx_atS (own : String) (ic : Nat) (X : String) (names : List String) : List Cond := (Bundle.ownAtoms own ic X names).filter vx_no
/-- a word that the tables alone decide, or a good one -/
def vx_ot (w : Cond) : Bool := w.onTables || goodWord w
theorem vx_ot_at {args a' : Array Value} {s U : State} {w : Cond} (hW : s.WarmedH U.vm) (hvm : s.vm = U.vm) (hg : vx_ot w = true) (h : w.before args s = true) : w.before a' U = true := by
  simp only [vx_ot, Bool.or_eq_true] at hg
  rcases hg with hg | hg
  · exact va_tabs hg hvm h
  · exact word_at hW (good_of_word hg) h
/-- a list's words: the good ones out of the method's own list, the others by premises of their own -/
theorem vx_hat {args : Array Value} {s : State} {L B : List Cond} (h1 : ∀ w ∈ L.filter goodWord, w.before args s = true) (h2 : ∀ w ∈ L.filter (fun w => !goodWord w), w ∈ B) (h3 : ∀ w ∈ B, w.before args s = true) : ∀ w ∈ L, w.before args s = true := by
  intro w hw
  by_cases g : goodWord w = true
  · exact h1 w (List.mem_filter.mpr ⟨hw, g⟩)
  · refine h3 w (h2 w (List.mem_filter.mpr ⟨hw, ?_⟩))
    show (!goodWord w) = true
    cases hgw : goodWord w
    · rfl
    · exact absurd hgw g
theorem vx_c {args : Array Value} {s : State} {w : Cond} {B : List Cond} (h : w.before args s = true) (t : ∀ w ∈ B, w.before args s = true) : ∀ w' ∈ w :: B, w'.before args s = true := fun w' h' => (List.mem_cons.mp h').elim (fun e => by rw [e]; exact h) (t w')
theorem vx_n {args : Array Value} {s : State} : ∀ w ∈ ([] : List Cond), w.before args s = true := fun _ h => nomatch h
theorem vx_own {args : Array Value} {s : State} {L : List Cond} (h1 : ∀ w ∈ L.filter vx_no, w.before args s = true)
    (hU : (Cond.isRef (.static Bundle.tN "UNASSIGNED_STACK" Bundle.steD)).before args s = true) (hN : (Cond.isRef (.static Bundle.tN "SUPPRESSED_SENTINEL" Bundle.listD)).before args s = true)
    (lU : (Cond.laysStatic Bundle.tN "UNASSIGNED_STACK" Bundle.steD).before args s = true) (lN : (Cond.laysStatic Bundle.tN "SUPPRESSED_SENTINEL" Bundle.listD).before args s = true) : ∀ w ∈ L, w.before args s = true := by
  intro w hw
  by_cases e1 : w = .isRef (.static Bundle.tN "UNASSIGNED_STACK" Bundle.steD)
  · rw [e1]; exact hU
  · by_cases e2 : w = .isRef (.static Bundle.tN "SUPPRESSED_SENTINEL" Bundle.listD)
    · rw [e2]; exact hN
    · by_cases e3 : w = .laysStatic Bundle.tN "UNASSIGNED_STACK" Bundle.steD
      · rw [e3]; exact lU
      · by_cases e4 : w = .laysStatic Bundle.tN "SUPPRESSED_SENTINEL" Bundle.listD
        · rw [e4]; exact lN
        · exact h1 w (List.mem_filter.mpr ⟨hw, by unfold vx_no; rw [decide_eq_true e1, decide_eq_true e2, decide_eq_true e3, decide_eq_true e4]; rfl⟩)
/-- where a static field lies, its class's statics cell in H -/
def vx_L (C n d : String) (A : Nat → Prop) (U : State) (H : Heap) : Prop := ∃ (c : ClassId) (k : Class) (i : Nat) (f : Field) (a : Nat) (cell : Cell), U.vm.findClass C = some c ∧ U.fieldFound? C n d = some (c, k, i, f) ∧ f.isStatic = true ∧ k.statics = some a ∧ H[a]? = some cell ∧ cell.vm.isStatics = true ∧ cell.cls = c ∧ f.slot < cell.slots.size ∧ k.staticTypes[f.slot]? = some f.type ∧ ¬ A a
theorem vx_L.moved {C n d : String} {A : Nat → Prop} {u U : State} {H : Heap} (hvm : u.vm.Alike U.vm) (h : vx_L C n d A u H) : vx_L C n d A U H := by
  obtain ⟨c, k, i, f, a, cell, h1, h2, h3, h4, h5, h6, h7, h8, h9, h10⟩ := h
  obtain ⟨k', hi', he⟩ := State.fieldFound?_setVm hvm h2
  exact ⟨c, k', i, f, a, cell, by rw [hvm.findClass]; exact h1, hi', h3, by rw [he]; exact h4, h5, h6, h7, h8, by rw [he]; exact h9, h10⟩
theorem vx_L.kept {C n d : String} {A : Nat → Prop} {U : State} {H H1 : Heap} (h : vx_L C n d A U H) (hq : ∀ a : Nat, a < H.size → ¬ A a → H1[a]? = H[a]?) : vx_L C n d A U H1 := by
  obtain ⟨c, k, i, f, a, cell, h1, h2, h3, h4, h5, h6, h7, h8, h9, h10⟩ := h
  exact ⟨c, k, i, f, a, cell, h1, h2, h3, h4, by rw [hq a (Array.getElem?_eq_some_iff.mp h5).1 h10]; exact h5, h6, h7, h8, h9, h10⟩
theorem vx_L.narrow {C n d : String} {A B : Nat → Prop} {U : State} {H : Heap} (h : vx_L C n d A U H) (hAB : ∀ q, B q → A q) : vx_L C n d B U H := by
  obtain ⟨c, k, i, f, a, cell, h1, h2, h3, h4, h5, h6, h7, h8, h9, h10⟩ := h
  exact ⟨c, k, i, f, a, cell, h1, h2, h3, h4, h5, h6, h7, h8, h9, fun z => h10 (hAB _ z)⟩
theorem vx_L.word {C n d : String} {A : Nat → Prop} {s : State} {args : Array Value} (h : vx_L C n d A s s.heap) : (Cond.laysStatic C n d).before args s = true := by
  obtain ⟨c, k, i, f, a, cell, h1, h2, h3, h4, h5, h6, h7, h8, h9, -⟩ := h
  show (Cond.laysStatic C n d).holds args s none s [] = true
  exact Cond.laysStatic_of h1 h2 h3 h4 h5 h6 h7 h8 h9
/-- .. and what it holds: null or some reference -/
def vx_Zq (C n d : String) (A : Nat → Prop) (U : State) (H : Heap) : Prop := va_Zq C n d A U H ∧ vx_L C n d A U H
theorem vx_Zq.moved {C n d : String} {A : Nat → Prop} {u U : State} {H : Heap} (hvm : u.vm.Alike U.vm) (h : vx_Zq C n d A u H) : vx_Zq C n d A U H := ⟨va_Zq.moved hvm h.1, vx_L.moved hvm h.2⟩
theorem vx_Zq.kept {C n d : String} {A : Nat → Prop} {U : State} {H H1 : Heap} (h : vx_Zq C n d A U H) (hq : ∀ a : Nat, a < H.size → ¬ A a → H1[a]? = H[a]?) : vx_Zq C n d A U H1 := ⟨va_Zq.kept h.1 hq, vx_L.kept h.2 hq⟩
theorem vx_Zq.narrow {C n d : String} {A B : Nat → Prop} {U : State} {H : Heap} (h : vx_Zq C n d A U H) (hAB : ∀ q, B q → A q) : vx_Zq C n d B U H := ⟨va_Zq.narrow h.1 hAB, vx_L.narrow h.2 hAB⟩
theorem vx_Zqof {args : Array Value} {s : State} {C n d : String} {A : Nat → Prop} (hl : (Cond.laysStatic C n d).before args s = true) (hini : (Cond.initialized C).before args s = true) (h : (Cond.isRef (.static C n d)).before args s = true) (hA : ∀ a : Nat, a < s.heap.size → ¬ A a) : vx_Zq C n d A s s.heap := by
  refine ⟨va_Zqof hl hini h hA, ?_⟩
  obtain ⟨c, k, i, f, a, cell, h1, h2, h3, h4, h5, h6, h7, h8, h9⟩ := Cond.laysStatic_spec hl
  exact ⟨c, k, i, f, a, cell, h1, h2, h3, h4, h5, h6, h7, h8, h9, hA a (Array.getElem?_eq_some_iff.mp h5).1⟩
theorem vx_isRef {C n d : String} {v : Value} {A : Nat → Prop} {s : State} {args : Array Value} (h : va_Z C n d v A s s.heap) (hv : v.isRef = true) : (Cond.isRef (.static C n d)).before args s = true := by
  obtain ⟨cf, kf, fi, f, a, cell, h1, h2, h3, h4, h5, h6, h7, -⟩ := h
  have he : (Term.static C n d).eval args s none [] s = some v := by
    simp [Term.eval, State.fieldNamed?, h1, h2, h4, h5, h6, h7]
  simp only [Cond.before, Cond.holds, Cond.value, he]
  cases v <;> simp_all [Value.isRef]
theorem vx_isRefq {C n d : String} {A : Nat → Prop} {s : State} {args : Array Value} (h : va_Zq C n d A s s.heap) : (Cond.isRef (.static C n d)).before args s = true := by
  rcases h with h | ⟨t, h⟩
  · exact vx_isRef h rfl
  · exact vx_isRef h rfl
/-- the same frame, seen from here: as if the method were called anew in this heap -/
theorem vx_rebase {T : State} (X : Stand p l e R s m args below meth c T locs cells slots) {R' : Room} (hf : R'.frames ≤ R.frames) (hl : R'.locals ≤ R.locals) (hc : cells + R'.cells ≤ R.cells) (hs : slots + R'.slots ≤ R.slots) :
    Stand p l e R' ((T.setVm s.vm).setFrames (.invoking m args :: below)) m args below meth c T [] 0 0 := by
  have htop : (T.setVm s.vm).topJava?.isSome := X.here.top
  have hF : ((T.setVm s.vm).setFrames (.invoking m args :: below)).frames = .invoking m args :: below := State.frames_setFrames _ (State.cur_lt_of_top htop)
  obtain ⟨g₀, hg0⟩ := Option.isSome_iff_exists.mp htop
  obtain ⟨r, hr⟩ := State.topJava?_eq_some.mp hg0
  have hl9 : e.platform.stackLimits (T.setVm s.vm).me = e.platform.stackLimits s.me := X.limits
  have hb9 : (T.setVm s.vm).me.stackBytes = s.me.stackBytes := X.bytes
  refine ⟨X.admits, X.cas, X.clock, hF, ?_, X.hears, X.method, X.code, X.here, X.tail, X.warmed, ?_, ?_, ?_⟩
  · have h := X.room
    have hU : ((T.setVm s.vm).setFrames (.invoking m args :: below)).localsInUse = s.localsInUse := by
      rw [State.localsInUse_invoking hF (meth := meth) (c := c) X.method X.code, State.localsInUse_invoking X.frames X.method X.code]
    simp only [State.hasRoom, Bool.and_eq_true, decide_eq_true_eq] at h ⊢
    obtain ⟨⟨⟨⟨h1, h2, h3, h4, h5, h6⟩, h7⟩, h8⟩, h9⟩ := h
    rw [X.frames, List.length_cons] at h2 h3
    have q1 := X.heapSize
    have q2 := X.used
    simp only [hF, hU, List.length_cons, State.stackLimits_setFrames, State.stackBytes_setFrames, hl9, hb9]
    refine ⟨⟨⟨⟨by omega, by omega, by omega, by omega, by omega, h6⟩, ?_⟩, ?_⟩, X.book⟩
    · show T.heap.size + R'.cells ≤ e.platform.maxCells
      omega
    · show T.slotsUsed + R'.slots ≤ e.platform.maxSlots
      omega
  · rw [State.stackLimits_setFrames]; rfl
  · rw [State.stackBytes_setFrames]; rfl
  · refine ⟨?_, Nat.le_refl _, Nat.le_refl _, ?_, ?_, fun a c9 h9 => ⟨c9, h9, rfl, rfl, fun _ _ => rfl⟩⟩
    · obtain ⟨t, ht, -⟩ := State.frames_cons hr
      show T.setVm s.vm = { ((T.setVm s.vm).setFrames (.invoking m args :: below)).setFrames (T.setVm s.vm).frames with heap := T.heap, slotsUsed := T.slotsUsed }
      rw [State.setFrames_setFrames, State.setFrames_self ht]
      rfl
    · show T.slotsUsed = T.slotsUsed + ((T.heap.toList.drop T.heap.size).map (·.slots.size)).sum
      rw [List.drop_eq_nil_of_le (Nat.le_of_eq Array.length_toList)]
      rfl
    · show ((T.heap.toList.drop T.heap.size).map (·.slots.size)).sum ≤ 0
      rw [List.drop_eq_nil_of_le (Nat.le_of_eq Array.length_toList)]
      exact Nat.le_refl _
/-- 'throw new E()': new; dup; invokespecial; athrow -/
theorem vx_throw0 {cc : ByteArray} {pc : Nat} (hexec : p.tables.exec = Jvm.exec) (hb : c.code = cc) (hl : l.stackTraces = false) {own cls : String} {names : List String} {ik ic mc ms : Nat} {A : Nat → Prop}
    (hown : s.vm.findClass own = some m.cls) (hcls : Bundle.fit cls = true) (hnames : ∀ n ∈ names, Bundle.fit n = true)
    (hk : (Cond.classLink own ik cls).before args s = true) (hini : (Cond.initialized cls).before args s = true) (hat : ∀ w ∈ vx_at0 own ic cls names, w.before args s = true)
    (hgood : ∀ w ∈ Cond.classLink own ik cls :: Cond.initialized cls :: vx_at0 own ic cls names, vx_ot w = true)
    (hU : vx_Zq Bundle.tN "UNASSIGNED_STACK" Bundle.steD A s s.heap) (hN : vx_Zq Bundle.tN "SUPPRESSED_SENTINEL" Bundle.listD A s s.heap) (hS : va_S A s.heap H locs) (hsize : ls.size = c.maxLocals)
    (d0 : decode cc pc = .ok (.new ik, 3)) (d3 : decode cc (pc + 3) = .ok (.dup, 1)) (d4 : decode cc (pc + 4) = .ok (.invokespecial ic, 3)) (d7 : decode cc (pc + 7) = .ok (.athrow, 1))
    (hout : ∀ x ∈ c.exceptionTable.toList, covers x (pc + 7) = false)
    (hRframes : names.length + 3 < R.frames) (hRlocals : (rest.map fun v => v.category).sum + (13 * (names.length + 1) + 42) ≤ R.locals) (hRcells : cells + 1 ≤ R.cells) (hRslots : slots + 6 ≤ R.slots) (hlocks : meth.locks = false)
    (hx : ∀ t : State, s.vm.Alike t.vm → H.size ≤ t.heap.size → (∀ q : Nat, q < H.size → t.heap[q]? = H[q]?) → XC cls s t)
    (hf : ∀ z ∈ locs, free z.base) (hc : cells + 1 ≤ mc) (hs : slots + 6 ≤ ms) :
    W p l e R s m args below meth c H locs cells slots (vx_MQ below Qc XC args s mc ms free) (F0 m pc ls rest) := by
  intro T hT X
  have htr : e.platform.stackTraces = false := (show e.platform.stackTraces = l.stackTraces by rw [X.admits.platform]).trans hl
  have Y := vx_rebase X (R' := { frames := R.frames, locals := R.locals, cells := 1, slots := 6 }) (Nat.le_refl _) (Nat.le_refl _) hRcells hRslots
  obtain ⟨s', hA⟩ : ∃ z, z = (T.setVm s.vm).setFrames (.invoking m args :: below) := ⟨_, rfl⟩
  rw [← hA] at Y
  have hvm : s'.vm = s.vm := by rw [hA]; rfl
  have hhp : s'.heap = H := by rw [hA]; exact hT
  have hW0 : s.WarmedH s'.vm := by rw [hvm]; exact State.WarmedH.refl s
  have hat' : ∀ w ∈ vx_at0 own ic cls names, w.before args s' = true := fun w hw => vx_ot_at hW0 hvm.symm (hgood w (List.mem_cons_of_mem _ (List.mem_cons_of_mem _ hw))) (hat w hw)
  have hk' : (Cond.classLink own ik cls).before args s' = true := vx_ot_at hW0 hvm.symm (hgood _ List.mem_cons_self) hk
  have hini' : (Cond.initialized cls).before args s' = true := vx_ot_at hW0 hvm.symm (hgood _ (List.mem_cons_of_mem _ List.mem_cons_self)) hini
  have hU' : vx_Zq Bundle.tN "UNASSIGNED_STACK" Bundle.steD A s' s'.heap := by rw [hhp]; exact vx_Zq.moved hW0.alike (hU.kept hS.2.1)
  have hN' : vx_Zq Bundle.tN "SUPPRESSED_SENTINEL" Bundle.listD A s' s'.heap := by rw [hhp]; exact vx_Zq.moved hW0.alike (hN.kept hS.2.1)
  have h : ∀ w ∈ Bundle.ownAtoms0 own ic cls names, w.before args s' = true := vx_own hat' (vx_isRefq hU'.1) (vx_isRefq hN'.1) hU'.2.word hN'.2.word
  have hown' : s'.vm.findClass own = some m.cls := by rw [hvm]; exact hown
  have hins : (Cond.instantiable cls 6).before args s' = true := h _ (by simp [Bundle.ownAtoms0])
  obtain ⟨vm₁, cX, kX, hfX, hkX, -, -, X₁, st1⟩ := Y.newCold hexec (own := own) (C := cls) (index := ik) (n := 6) hown' hk' hins hini'
    (g := F0 m pc ls rest) rfl (by rw [hb]; exact d0) (Nat.le_refl _) (Nat.le_refl _)
  generalize hT1 : (T.setVm vm₁).pushCell { cls := cX, slots := kX.instanceTypes.map defaultValue, vm := .none } = T1 at X₁ st1
  have hcat : (Value.ref T.heap.size).category = 1 := rfl
  have hcellA : T1.heap[T.heap.size]? = some (freshCell cX kX) := by rw [← hT1]; exact State.heap_pushCell_size _ _
  have d3' : decode c.code (pc + 3) = .ok (.dup, 1) := by rw [hb]; exact d3
  obtain ⟨U, hsteps, hrun, hend, hW, hsame, ce, hce, hO⟩ := X₁.ctorThrow0 hexec htr (own := own) (cls := cls) (names := names) (ic := ic) hown' hcls hnames h (fun x hx => nomatch hx) hfX hkX hcellA (by rw [hhp, hT]; exact Nat.le_refl _)
    (g := { method := m, pc := pc + 4, locals := ls, stack := .ref T.heap.size :: .ref T.heap.size :: rest, locked := none }) rfl hsize rfl rfl (rest := rest) rfl
    (by rw [hb]; exact d4) (by rw [hb]; exact d7) hout hRframes (by simp only [List.map_cons, List.sum_cons, hcat]; omega) hlocks
  obtain ⟨f1, f2⟩ := vx_frame hsame
  rw [hhp] at f1 f2
  have hWs : s.WarmedH U.vm := State.WarmedH.trans hW0 hW
  have hcl : s.vm.findClass cls = some ce.cls := by
    have h9 := hO.cls
    rw [hvm] at h9
    exact h9
  have hall : s.sameButNew ({ U with vm := s.vm } : State) locs mc ms := by
    subst hA
    obtain ⟨e1, e2⟩ := hsame
    rw [State.setFrames_setFrames] at e1
    have h2 : (T.setVm s.vm).sameButNew ({ U with vm := s.vm } : State) [] (0 + 1) (0 + 6) := ⟨e1, e2⟩
    have h3 := X.same.trans h2
    rw [List.append_nil] at h3
    exact h3.mono hc hs
  refine ⟨U, ?_, .threw T.heap.size, hrun, hend, Or.inr ⟨T.heap.size, rfl, cls, ce, locs, hx U hWs.alike f1 (fun q hq => f2 q hq (fun z hz => nomatch hz)), hce, hO.vm, hcl, hWs, hall, hf⟩⟩
  refine st1 _ ?_
  show Steps p.tables e below (T1.setTop { method := m, pc := pc + 3, locals := ls, stack := .ref T.heap.size :: rest, locked := none }) _
  jvm_step X₁.here [X₁.here.top, hexec, d3', Value.category]
  exact hsteps
/-- 'throw new E("text")': new; dup; ldc; invokespecial; athrow -/
theorem vx_throwS {cc : ByteArray} {pc : Nat} (hexec : p.tables.exec = Jvm.exec) (hb : c.code = cc) (hl : l.stackTraces = false) {own cls text : String} {names : List String} {ik is ic mc ms sa : Nat} {A : Nat → Prop}
    (hown : s.vm.findClass own = some m.cls) (hcls : Bundle.fit cls = true) (hnames : ∀ n ∈ names, Bundle.fit n = true)
    (hk : (Cond.classLink own ik cls).before args s = true) (hini : (Cond.initialized cls).before args s = true) (hstr : vk_R own is text sa s) (hat : ∀ w ∈ vx_atS own ic cls names, w.before args s = true)
    (hgood : ∀ w ∈ Cond.classLink own ik cls :: Cond.initialized cls :: vx_atS own ic cls names, vx_ot w = true)
    (hU : vx_Zq Bundle.tN "UNASSIGNED_STACK" Bundle.steD A s s.heap) (hN : vx_Zq Bundle.tN "SUPPRESSED_SENTINEL" Bundle.listD A s s.heap) (hS : va_S A s.heap H locs) (hsize : ls.size = c.maxLocals)
    (d0 : decode cc pc = .ok (.new ik, 3)) (d3 : decode cc (pc + 3) = .ok (.dup, 1)) (d4 : decode cc (pc + 4) = .ok (.ldc is, 2)) (d6 : decode cc (pc + 6) = .ok (.invokespecial ic, 3)) (d9 : decode cc (pc + 9) = .ok (.athrow, 1))
    (hout : ∀ x ∈ c.exceptionTable.toList, covers x (pc + 9) = false)
    (hRframes : names.length + 3 < R.frames) (hRlocals : (rest.map fun v => v.category).sum + (13 * (names.length + 1) + 43) ≤ R.locals) (hRcells : cells + 1 ≤ R.cells) (hRslots : slots + 6 ≤ R.slots) (hlocks : meth.locks = false)
    (hx : ∀ t : State, s.vm.Alike t.vm → H.size ≤ t.heap.size → (∀ q : Nat, q < H.size → t.heap[q]? = H[q]?) → XC cls s t)
    (hf : ∀ z ∈ locs, free z.base) (hc : cells + 1 ≤ mc) (hs : slots + 6 ≤ ms) :
    W p l e R s m args below meth c H locs cells slots (vx_MQ below Qc XC args s mc ms free) (F0 m pc ls rest) := by
  intro T hT X
  have htr : e.platform.stackTraces = false := (show e.platform.stackTraces = l.stackTraces by rw [X.admits.platform]).trans hl
  have Y := vx_rebase X (R' := { frames := R.frames, locals := R.locals, cells := 1, slots := 6 }) (Nat.le_refl _) (Nat.le_refl _) hRcells hRslots
  obtain ⟨s', hA⟩ : ∃ z, z = (T.setVm s.vm).setFrames (.invoking m args :: below) := ⟨_, rfl⟩
  rw [← hA] at Y
  have hvm : s'.vm = s.vm := by rw [hA]; rfl
  have hhp : s'.heap = H := by rw [hA]; exact hT
  have hW0 : s.WarmedH s'.vm := by rw [hvm]; exact State.WarmedH.refl s
  have hat' : ∀ w ∈ vx_atS own ic cls names, w.before args s' = true := fun w hw => vx_ot_at hW0 hvm.symm (hgood w (List.mem_cons_of_mem _ (List.mem_cons_of_mem _ hw))) (hat w hw)
  have hk' : (Cond.classLink own ik cls).before args s' = true := vx_ot_at hW0 hvm.symm (hgood _ List.mem_cons_self) hk
  have hini' : (Cond.initialized cls).before args s' = true := vx_ot_at hW0 hvm.symm (hgood _ (List.mem_cons_of_mem _ List.mem_cons_self)) hini
  have hU' : vx_Zq Bundle.tN "UNASSIGNED_STACK" Bundle.steD A s' s'.heap := by rw [hhp]; exact vx_Zq.moved hW0.alike (hU.kept hS.2.1)
  have hN' : vx_Zq Bundle.tN "SUPPRESSED_SENTINEL" Bundle.listD A s' s'.heap := by rw [hhp]; exact vx_Zq.moved hW0.alike (hN.kept hS.2.1)
  have h : ∀ w ∈ Bundle.ownAtoms own ic cls names, w.before args s' = true := vx_own hat' (vx_isRefq hU'.1) (vx_isRefq hN'.1) hU'.2.word hN'.2.word
  have hown' : s'.vm.findClass own = some m.cls := by rw [hvm]; exact hown
  have hins : (Cond.instantiable cls 6).before args s' = true := h _ (by simp [Bundle.ownAtoms])
  obtain ⟨vm₁, cX, kX, hfX, hkX, -, -, X₁, st1⟩ := Y.newCold hexec (own := own) (C := cls) (index := ik) (n := 6) hown' hk' hins hini'
    (g := F0 m pc ls rest) rfl (by rw [hb]; exact d0) (Nat.le_refl _) (Nat.le_refl _)
  generalize hT1 : (T.setVm vm₁).pushCell { cls := cX, slots := kX.instanceTypes.map defaultValue, vm := .none } = T1 at X₁ st1
  have hcat : (Value.ref T.heap.size).category = 1 := rfl
  have hcellA : T1.heap[T.heap.size]? = some (freshCell cX kX) := by rw [← hT1]; exact State.heap_pushCell_size _ _
  have d3' : decode c.code (pc + 3) = .ok (.dup, 1) := by rw [hb]; exact d3
  have d4' : decode c.code (pc + 4) = .ok (.ldc is, 2) := by rw [hb]; exact d4
  have hstr' : vk_R own is text sa s' := vk_R.warm hW0 hstr
  obtain ⟨U, hsteps, hrun, hend, hW, hsame, ce, hce, hO⟩ := X₁.ctorThrowS hexec htr (own := own) (cls := cls) (names := names) (ic := ic) hown' hcls hnames h (fun x hx => nomatch hx) hfX hkX hcellA (by rw [hhp, hT]; exact Nat.le_refl _) (msg := .ref sa) rfl
    (g := { method := m, pc := pc + 6, locals := ls, stack := .ref sa :: .ref T.heap.size :: .ref T.heap.size :: rest, locked := none }) rfl hsize rfl rfl (rest := rest) rfl
    (by rw [hb]; exact d6) (by rw [hb]; exact d9) hout hRframes (by simp only [List.map_cons, List.sum_cons, hcat]; omega) hlocks
  obtain ⟨f1, f2⟩ := vx_frame hsame
  rw [hhp] at f1 f2
  have hWs : s.WarmedH U.vm := State.WarmedH.trans hW0 hW
  have hcl : s.vm.findClass cls = some ce.cls := by
    have h9 := hO.cls
    rw [hvm] at h9
    exact h9
  have hall : s.sameButNew ({ U with vm := s.vm } : State) locs mc ms := by
    subst hA
    obtain ⟨e1, e2⟩ := hsame
    rw [State.setFrames_setFrames] at e1
    have h2 : (T.setVm s.vm).sameButNew ({ U with vm := s.vm } : State) [] (0 + 1) (0 + 6) := ⟨e1, e2⟩
    have h3 := X.same.trans h2
    rw [List.append_nil] at h3
    exact h3.mono hc hs
  refine ⟨U, ?_, .threw T.heap.size, hrun, hend, Or.inr ⟨T.heap.size, rfl, cls, ce, locs, hx U hWs.alike f1 (fun q hq => f2 q hq (fun z hz => nomatch hz)), hce, hO.vm, hcl, hWs, hall, hf⟩⟩
  refine st1 _ ?_
  show Steps p.tables e below (T1.setTop { method := m, pc := pc + 3, locals := ls, stack := .ref T.heap.size :: rest, locked := none }) _
  jvm_step X₁.here [X₁.here.top, hexec, d3', Value.category]
  exact X₁.ldcString hexec (own := own) (text := text) (index := is) (a := sa) hown' hstr'.1 hstr'.2
    (g := { method := m, pc := pc + 4, locals := ls, stack := .ref T.heap.size :: .ref T.heap.size :: rest, locked := none }) rfl d4' _ hsteps
/-- 'throw new E("text")', the text by a wide index -/
theorem vx_throwSW {cc : ByteArray} {pc : Nat} (hexec : p.tables.exec = Jvm.exec) (hb : c.code = cc) (hl : l.stackTraces = false) {own cls text : String} {names : List String} {ik is ic mc ms sa : Nat} {A : Nat → Prop}
    (hown : s.vm.findClass own = some m.cls) (hcls : Bundle.fit cls = true) (hnames : ∀ n ∈ names, Bundle.fit n = true)
    (hk : (Cond.classLink own ik cls).before args s = true) (hini : (Cond.initialized cls).before args s = true) (hstr : vk_R own is text sa s) (hat : ∀ w ∈ vx_atS own ic cls names, w.before args s = true)
    (hgood : ∀ w ∈ Cond.classLink own ik cls :: Cond.initialized cls :: vx_atS own ic cls names, vx_ot w = true)
    (hU : vx_Zq Bundle.tN "UNASSIGNED_STACK" Bundle.steD A s s.heap) (hN : vx_Zq Bundle.tN "SUPPRESSED_SENTINEL" Bundle.listD A s s.heap) (hS : va_S A s.heap H locs) (hsize : ls.size = c.maxLocals)
    (d0 : decode cc pc = .ok (.new ik, 3)) (d3 : decode cc (pc + 3) = .ok (.dup, 1)) (d4 : decode cc (pc + 4) = .ok (.ldc_w is, 3)) (d7 : decode cc (pc + 7) = .ok (.invokespecial ic, 3)) (d10 : decode cc (pc + 10) = .ok (.athrow, 1))
    (hout : ∀ x ∈ c.exceptionTable.toList, covers x (pc + 10) = false)
    (hRframes : names.length + 3 < R.frames) (hRlocals : (rest.map fun v => v.category).sum + (13 * (names.length + 1) + 43) ≤ R.locals) (hRcells : cells + 1 ≤ R.cells) (hRslots : slots + 6 ≤ R.slots) (hlocks : meth.locks = false)
    (hx : ∀ t : State, s.vm.Alike t.vm → H.size ≤ t.heap.size → (∀ q : Nat, q < H.size → t.heap[q]? = H[q]?) → XC cls s t)
    (hf : ∀ z ∈ locs, free z.base) (hc : cells + 1 ≤ mc) (hs : slots + 6 ≤ ms) :
    W p l e R s m args below meth c H locs cells slots (vx_MQ below Qc XC args s mc ms free) (F0 m pc ls rest) := by
  intro T hT X
  have htr : e.platform.stackTraces = false := (show e.platform.stackTraces = l.stackTraces by rw [X.admits.platform]).trans hl
  have Y := vx_rebase X (R' := { frames := R.frames, locals := R.locals, cells := 1, slots := 6 }) (Nat.le_refl _) (Nat.le_refl _) hRcells hRslots
  obtain ⟨s', hA⟩ : ∃ z, z = (T.setVm s.vm).setFrames (.invoking m args :: below) := ⟨_, rfl⟩
  rw [← hA] at Y
  have hvm : s'.vm = s.vm := by rw [hA]; rfl
  have hhp : s'.heap = H := by rw [hA]; exact hT
  have hW0 : s.WarmedH s'.vm := by rw [hvm]; exact State.WarmedH.refl s
  have hat' : ∀ w ∈ vx_atS own ic cls names, w.before args s' = true := fun w hw => vx_ot_at hW0 hvm.symm (hgood w (List.mem_cons_of_mem _ (List.mem_cons_of_mem _ hw))) (hat w hw)
  have hk' : (Cond.classLink own ik cls).before args s' = true := vx_ot_at hW0 hvm.symm (hgood _ List.mem_cons_self) hk
  have hini' : (Cond.initialized cls).before args s' = true := vx_ot_at hW0 hvm.symm (hgood _ (List.mem_cons_of_mem _ List.mem_cons_self)) hini
  have hU' : vx_Zq Bundle.tN "UNASSIGNED_STACK" Bundle.steD A s' s'.heap := by rw [hhp]; exact vx_Zq.moved hW0.alike (hU.kept hS.2.1)
  have hN' : vx_Zq Bundle.tN "SUPPRESSED_SENTINEL" Bundle.listD A s' s'.heap := by rw [hhp]; exact vx_Zq.moved hW0.alike (hN.kept hS.2.1)
  have h : ∀ w ∈ Bundle.ownAtoms own ic cls names, w.before args s' = true := vx_own hat' (vx_isRefq hU'.1) (vx_isRefq hN'.1) hU'.2.word hN'.2.word
  have hown' : s'.vm.findClass own = some m.cls := by rw [hvm]; exact hown
  have hins : (Cond.instantiable cls 6).before args s' = true := h _ (by simp [Bundle.ownAtoms])
  obtain ⟨vm₁, cX, kX, hfX, hkX, -, -, X₁, st1⟩ := Y.newCold hexec (own := own) (C := cls) (index := ik) (n := 6) hown' hk' hins hini'
    (g := F0 m pc ls rest) rfl (by rw [hb]; exact d0) (Nat.le_refl _) (Nat.le_refl _)
  generalize hT1 : (T.setVm vm₁).pushCell { cls := cX, slots := kX.instanceTypes.map defaultValue, vm := .none } = T1 at X₁ st1
  have hcat : (Value.ref T.heap.size).category = 1 := rfl
  have hcellA : T1.heap[T.heap.size]? = some (freshCell cX kX) := by rw [← hT1]; exact State.heap_pushCell_size _ _
  have d3' : decode c.code (pc + 3) = .ok (.dup, 1) := by rw [hb]; exact d3
  have d4' : decode c.code (pc + 4) = .ok (.ldc_w is, 3) := by rw [hb]; exact d4
  have hstr' : vk_R own is text sa s' := vk_R.warm hW0 hstr
  obtain ⟨U, hsteps, hrun, hend, hW, hsame, ce, hce, hO⟩ := X₁.ctorThrowS hexec htr (own := own) (cls := cls) (names := names) (ic := ic) hown' hcls hnames h (fun x hx => nomatch hx) hfX hkX hcellA (by rw [hhp, hT]; exact Nat.le_refl _) (msg := .ref sa) rfl
    (g := { method := m, pc := pc + 7, locals := ls, stack := .ref sa :: .ref T.heap.size :: .ref T.heap.size :: rest, locked := none }) rfl hsize rfl rfl (rest := rest) rfl
    (by rw [hb]; exact d7) (by rw [hb]; exact d10) hout hRframes (by simp only [List.map_cons, List.sum_cons, hcat]; omega) hlocks
  obtain ⟨f1, f2⟩ := vx_frame hsame
  rw [hhp] at f1 f2
  have hWs : s.WarmedH U.vm := State.WarmedH.trans hW0 hW
  have hcl : s.vm.findClass cls = some ce.cls := by
    have h9 := hO.cls
    rw [hvm] at h9
    exact h9
  have hall : s.sameButNew ({ U with vm := s.vm } : State) locs mc ms := by
    subst hA
    obtain ⟨e1, e2⟩ := hsame
    rw [State.setFrames_setFrames] at e1
    have h2 : (T.setVm s.vm).sameButNew ({ U with vm := s.vm } : State) [] (0 + 1) (0 + 6) := ⟨e1, e2⟩
    have h3 := X.same.trans h2
    rw [List.append_nil] at h3
    exact h3.mono hc hs
  refine ⟨U, ?_, .threw T.heap.size, hrun, hend, Or.inr ⟨T.heap.size, rfl, cls, ce, locs, hx U hWs.alike f1 (fun q hq => f2 q hq (fun z hz => nomatch hz)), hce, hO.vm, hcl, hWs, hall, hf⟩⟩
  refine st1 _ ?_
  show Steps p.tables e below (T1.setTop { method := m, pc := pc + 3, locals := ls, stack := .ref T.heap.size :: rest, locked := none }) _
  jvm_step X₁.here [X₁.here.top, hexec, d3', Value.category]
  exact X₁.ldcStringW hexec (own := own) (text := text) (index := is) (a := sa) hown' hstr'.1 hstr'.2
    (g := { method := m, pc := pc + 4, locals := ls, stack := .ref T.heap.size :: .ref T.heap.size :: rest, locked := none }) rfl d4' _ hsteps
end Ends
section Bodies
variable {l : Launch}
theorem vx_ofW {y : MethodName} {ws ws' : List Cond} {rm : Room} {Pc : Array Value → State → Prop} {Qc : Array Value → State → Outcome → State → Prop} {XC : String → State → State → Prop} {mc ms : Nat} {free : Addr → Prop} {cc : ByteArray} {maxL : Nat} {ret : Option FieldType}
    (hy : plainName y.cls = true) (hw : ws = Cond.code y cc maxL ret :: ws')
    (body : ∀ p e s m args below meth c s₁, BodyLoose p l y (headSpec ws rm) cc maxL ret e s m args below meth c s₁ → c.maxLocals = maxL → (∀ x ∈ c.exceptionTable.toList, False) → Pc args s →
      W p l e (headSpec ws rm).room s m args below meth c s.heap [] 0 0 (vx_MQ below Qc XC args s mc ms free) (entryFrame m args maxL)) : vx_Met l y ws rm Pc Qc XC mc ms free := by
  refine MetFree.of_bodyS (code := cc) (maxLocals := maxL) (ret := ret) hy ?_ ?_
  · intro args s m h hn
    obtain ⟨meth, c, h1, h2, h3, h4, h5, h6, -, -⟩ := Cond.code_spec hn (atoms_spec (ws := ws) h _ (by rw [hw]; exact List.mem_cons_self))
    exact ⟨meth, c, h1, h2, h3, h4, h5, h6⟩
  · intro p e s m args below meth c s₁ B hml hP _
    have hh0 : s₁.heap = s.heap := by rw [B.state]; rfl
    have ht : ∀ x ∈ c.exceptionTable.toList, False := by
      obtain ⟨meth9, c9, h1, h2, -, -, -, -, h7, -⟩ := Cond.code_spec B.named (atoms_spec (ws := ws) B.pre _ (by rw [hw]; exact List.mem_cons_self))
      cases Option.some.inj (h1.symm.trans B.method)
      cases Option.some.inj (h2.symm.trans (Stand.of_body B).code)
      intro x hx
      rw [Array.isEmpty_iff.mp h7] at hx
      cases hx
    obtain ⟨t, a1, o, b1, b2, b3⟩ := body p e s m args below meth c s₁ B hml ht hP s₁ hh0 (Stand.of_body B)
    exact ⟨t, o, a1, b1, b2, b3⟩
/-- the table of a body with handlers -/
theorem vx_table {p : Program} {x y : MethodName} {S : Spec} {cc bytes : ByteArray} {maxL maxL' : Nat} {ret ret' : Option FieldType} {e : Env} {s s₁ : State} {m : MethodId} {args : Array Value} {below : List Frame} {meth : Method} {c : Code} {hh : List (Nat × Nat × Nat × Nat)}
    (B : BodyLoose p l y S cc maxL ret e s m args below meth c s₁) (h : (Cond.codeWith y bytes maxL' ret' hh).before args s = true) : c.exceptionTable.toList = tableOf hh := by
  obtain ⟨m9, meth9, c9, hn9, h1, h2, -, -, h6, -⟩ := Cond.codeWith_spec h
  cases Option.some.inj (hn9.symm.trans B.named)
  cases Option.some.inj (h1.symm.trans B.method)
  cases Option.some.inj (h2.symm.trans (Stand.of_body B).code)
  rw [← h6, table_eq]
end Bodies
end VXA
/-! ===== END ===== -/
/-! ===== BEGIN a static call of a method with an exception table ===== -/
section VXS
variable {p : Program} {l : Launch} {e : Env} {R : Room} {s : State} {m : MethodId} {args : Array Value} {below : List Frame} {meth : Method} {c : Code} {T : State} {H : Heap} {locs : List Loc} {cells slots : Nat}
abbrev vx_CSW (R : Room) (s : State) (args : Array Value) (own : String) (index : Nat) (y : MethodName) (bytes : ByteArray) (maxL : Nat) (ret : Option FieldType) (hh : List (Nat × Nat × Nat × Nat)) (ws : List Cond) (rm : Room) (mc ms n : Nat) : Prop :=
  (rm.cells = mc ∧ rm.slots = ms ∧ rm.frames + 1 ≤ R.frames ∧ 8 + (maxL + 11) + rm.locals ≤ R.locals ∧ (∀ w ∈ ws, ∀ (a' : Array Value) (U : State), s.WarmedH U.vm → w.before a' U = true) ∧ Cond.codeWith y bytes maxL ret hh ∈ ws) ∧
  (Cond.codeWith y bytes maxL ret hh).before args s = true ∧ (Cond.initialized y.cls).before args s = true ∧ (y.cls ≠ "java/lang/invoke/MethodHandle" ∧ y.cls ≠ "java/lang/invoke/VarHandle") ∧
  (∀ sig, parseMethodDescriptor y.desc = some sig → n = sig.parameters.length) ∧ (Cond.methodLink own index y).before args s = true ∧ (Cond.static y).before args s = true
theorem vx_cwSW {own : String} {index maxL mc ms : Nat} {y : MethodName} {bytes : ByteArray} {ret : Option FieldType} {hh : List (Nat × Nat × Nat × Nat)} {Ts ws ws' : List Cond} {rm : Room} (n : Nat) (ht : ∀ w ∈ Ts, w.before args s = true) (hT : GoodIn Ts (va_wsS own index y ws)) (hw : ws = Cond.codeWith y bytes maxL ret hh :: ws') (hrc : rm.cells = mc) (hrs : rm.slots = ms)
    (hd : y.cls ≠ "java/lang/invoke/MethodHandle" ∧ y.cls ≠ "java/lang/invoke/VarHandle" ∧ (parseMethodDescriptor y.desc).map (fun d => d.parameters.length) = some n) (hR : rm.frames + 1 ≤ R.frames ∧ 8 + (maxL + 11) + rm.locals ≤ R.locals) :
    vx_CSW R s args own index y bytes maxL ret hh ws rm mc ms n := by
  have ok : ∀ w ∈ va_wsS own index y ws, w.before args s = true := fun w h => ht w (hT w h).1
  have hG : GoodIn Ts ws := fun w h => hT w (by unfold va_wsS; exact List.mem_append_right _ h)
  have hc : Cond.codeWith y bytes maxL ret hh ∈ ws := by rw [hw]; exact List.mem_cons_self
  refine ⟨⟨hrc, hrs, hR.1, hR.2, pay_in ht hG, hc⟩, ht _ (hG _ hc).1, ok _ (by simp [va_wsS]), ⟨hd.1, hd.2.1⟩, fun sig h => ?_, ok _ (by simp [va_wsS]), ok _ (by simp [va_wsS])⟩
  have h2 := hd.2.2
  rw [h] at h2
  exact (Option.some.inj h2).symm
theorem vx_callSW (X : Stand p l e R s m args below meth c T locs cells slots) (hexec : p.tables.exec = Jvm.exec) {own : String} {index : Nat} {y : MethodName} {bytes : ByteArray} {maxL : Nat} {ret : Option FieldType} {hh : List (Nat × Nat × Nat × Nat)}
    (hown : s.vm.findClass own = some m.cls) (hlink : (Cond.methodLink own index y).before args s = true) (hstat : (Cond.static y).before args s = true) (hinit : (Cond.initialized y.cls).before args s = true)
    (hcode : (Cond.codeWith y bytes maxL ret hh).before args s = true) (hy : y.cls ≠ "java/lang/invoke/MethodHandle" ∧ y.cls ≠ "java/lang/invoke/VarHandle")
    {W9 : Nat} {Pre : Pt → Array Value → Prop} {Post : Pt → Array Value → Option Value → Pt → Prop} (hK : Back l R p e below s args y 3 W9 Pre Post)
    {g : JFrame} (hg : g.method = m) (hsize : g.locals.size = c.maxLocals) {argsL rest : List Value} (hlen : ∀ sig, parseMethodDescriptor y.desc = some sig → argsL.length = sig.parameters.length)
    (hstack : g.stack = argsL.reverse ++ rest) (hW : 2 * g.monitorRoom + (rest.map fun v => v.category).sum ≤ W9) (hdg : decode c.code g.pc = .ok (.invokestatic index, 3))
    (hpre : ∀ vm₁, s.WarmedH vm₁ → Pre ⟨T.setVm vm₁, locs, cells, slots⟩ argsL.toArray) :
    ∃ (v : Option Value) (vm₁ : Vm) (B : Pt), s.WarmedH vm₁ ∧ Stand p l e R s m args below meth c B.U B.locs B.cells B.slots ∧ Post ⟨T.setVm vm₁, locs, cells, slots⟩ argsL.toArray v B ∧
      ∀ target, Steps p.tables e below (B.U.setTop { g with pc := g.pc + 3, stack := v.toList ++ rest }) target → Steps p.tables e below (T.setTop g) target := by
  obtain ⟨mk, methM, cM, hnamed, hmethM, -, -, -, -, -, -, hsigM⟩ := Cond.codeWith_spec hcode
  have hstatic : methM.isStatic = true := Cond.static_spec hnamed hmethM hstat
  obtain ⟨kP, hkP, -⟩ := className_of_methodNamed hnamed
  have hinitP : kP.init = .initialized := Cond.initialized_spec (findClass_of_methodNamed hnamed) hkP hinit
  obtain ⟨vm₁, X₁, hstep₁⟩ := X.invokestatic hexec hown hlink hnamed hmethM hstatic hkP hinitP hy (g := g) hg (argsL := argsL) (rest := rest) (hlen _ hsigM) hstack hdg
  obtain ⟨v, B, X', hpost, hsteps⟩ := hK m meth c ⟨T.setVm vm₁, locs, cells, slots⟩ { g with stack := rest } (.invokestatic index) mk argsL.toArray X₁ hg hsize hdg hW (X₁.named hnamed) (hpre vm₁ X₁.warmed)
  exact ⟨v, vm₁, B, X₁.warmed, X', hpost, fun target h => hstep₁ _ fun acts => by rw [doInvoke_state]; exact hsteps.trans h⟩
theorem vx_runSW {y : MethodName} {bytes cc : ByteArray} {maxL nL mc ms n index : Nat} {ret : Option FieldType} {hh : List (Nat × Nat × Nat × Nat)} {ws : List Cond} {rm : Room} {Pc : Array Value → State → Prop} {Qc : Array Value → State → Outcome → State → Prop} {free : Addr → Prop} {Ts : List Cond} {own : String} {As rest : List Value} {g : JFrame}
    (S : CallFix p m c cc nL s args Ts own) (hM : Met l y ws rm Pc Qc mc ms free) (cw : vx_CSW R s args own index y bytes maxL ret hh ws rm mc ms n) (hp : PreS s H Pc As)
    (hg : g.method = m) (hn : As.length = n) (hsize : g.locals.size = nL) (hstack : g.stack = As.reverse ++ rest) (hW : 2 * g.monitorRoom + (rest.map fun v => v.category).sum ≤ 8) (hdg : decode cc g.pc = .ok (.invokestatic index, 3)) (hf : cells + mc ≤ R.cells ∧ slots + ms ≤ R.slots) :
    va_Run p l e R s m args below meth c H locs cells slots mc ms g rest (Qc As.toArray) (free) := by
  obtain ⟨⟨hrc, hrs, hfr, hlo, hws, hcw⟩, hcode, hini, hy, hlen, hl, hstt⟩ := cw
  have hK : Back l R p e below s args y 3 8 (PreOf R mc ms Pc) (PostOf Qc mc ms free) := va_backW (hh := hh) (bytes := bytes) (maxL := maxL) (ret := ret) hM hp.1 hrc hrs hfr hlo hws hcw (fun a' U hW => word_at hW (Or.inl (by first | rfl | simp [Cond.onTables, Cond.keeps, Cond.steady])) hini)
  obtain ⟨hx, hb, hml, ho, -⟩ := S
  intro T hT X
  obtain ⟨v, vm₁, ⟨U', l2, c2, s2⟩, hW₁, X', ⟨g', mk, t, L, e1, e2, hq, h1, hL, h2, h3⟩, st⟩ := vx_callSW X hx (hh := hh) (bytes := bytes) (maxL := maxL) (ret := ret) ho hl hstt hini hcode hy hK hg (hsize.trans hml.symm) (argsL := As) (rest := rest) (fun sig h => hn.trans (hlen sig h)) hstack hW (by rw [hb]; exact hdg)
    (fun vm₁ hW₁ => ⟨hf.1, hf.2, hp.2 (T.setVm vm₁) hT hW₁⟩)
  dsimp only [Pt.U, Pt.locs, Pt.cells, Pt.slots] at X' e1 e2 h1 h2 h3 st
  subst h1; subst h2; subst h3
  exact ⟨v, (T.setVm vm₁).calling g' mk As.toArray, t, U', L, hT, X', hL, e1, e2, hq, st⟩
/-- not caught here, past rows that name other classes: it goes on to the caller -/
theorem vx_outP {p : Program} {l : Launch} {e : Env} {R : Room} {s : State} {m : MethodId} {args : Array Value} {below : List Frame} {meth : Method} {c : Code} {H : Heap} {locs : List Loc} {cells slots : Nat} {free : Addr → Prop} {ls : Array Slot} {rest : List Value} {Qc : Array Value → State → Outcome → State → Prop} {XC : String → State → State → Prop}
    {pc : Nat} {own E : String} {ce : Cell} {q : Addr} {mc ms : Nat} (hown : s.vm.findClass own = some m.cls) (hlocks : meth.locks = false)
    (hpass : ∀ z ∈ c.exceptionTable.toList, covers z pc = false ∨ (z.catchType ≠ 0 ∧ ∃ nm : String, (Cond.classLink own z.catchType nm).before args s = true ∧ va_Nc E nm s)) (hcell : H[q]? = some ce) (hv : ce.vm = .none) (hcl : s.vm.findClass E = some ce.cls)
    (hx : ∀ t : State, t.heap = H → s.vm.Alike t.vm → XC E s t) (hf : ∀ z ∈ locs, free z.base) (hc : cells ≤ mc) (hs : slots ≤ ms) :
    vx_W p l e R s m args below meth c H locs cells slots (vx_MQ below Qc XC args s mc ms free) (F0 m pc ls rest) q := by
  intro T hT X
  have hpl : e.platform.magicAccessors = ({} : Platform).magicAccessors := by rw [X.admits.platform]
  obtain ⟨vm', hW', X', st⟩ := X.outThrough hlocks q (g := F0 m pc ls rest) rfl rfl rfl (cell := ce) (by rw [hT]; exact hcell) (by rw [hv]; rfl)
    (by obtain ⟨k9, h9, -⟩ := Vm.findClass_spec hcl; exact ⟨k9, h9⟩) (fun z hz => by
      rcases hpass z hz with h | ⟨hz0, nm, hl1, hn1⟩
      · exact Or.inl h
      · obtain ⟨c6, hc6, hcl6⟩ := Cond.classLink_spec hown hl1 e.platform hpl
        obtain ⟨a8, b8, h1, h2, h3⟩ := hn1
        cases Option.some.inj (h1.symm.trans hcl)
        cases Option.some.inj (h2.symm.trans hc6)
        exact Or.inr ⟨hz0, _, hcl6, h3⟩)
  obtain ⟨g₀, hfr⟩ := X'.frames_eq
  have hcell9 : ((T.setVm vm').setFrames (.throwing q :: below)).heap[q]? = some ce := by
    show T.heap[q]? = some ce
    rw [hT]; exact hcell
  have hend : Ended ((T.setVm vm').setFrames (.throwing q :: below)) below (.threw q) := State.frames_setFrames _ (State.cur_lt_of_frames hfr)
  refine ⟨(T.setVm vm').setFrames (.throwing q :: below), ?_, .threw q, X'.here.running, hend, Or.inr ⟨q, rfl, E, ce, locs, hx _ hT (X'.ends _).1.alike, hcell9, hv, hcl, (X'.ends _).1, (X'.ends _).2.mono hc hs, hf⟩⟩
  rw [X.pushThrowing_eq]
  exact st
/-- a thing of a world lies in the heap -/
theorem vx_lt {D : va_G} {cl : List vw_C} {ws : va_W} {H1 : Heap} (h : va_P D cl ws H1) {k : Nat} {q : Nat × va_E} (hk : ws[k]? = some q) : q.1 < H1.size := (h k q hk).lt
end VXS
/-! ===== END ===== -/
/-! ===== BEGIN methods with a table of their own: called by a name, returning or throwing ===== -/
section VXH
/-! vx_backW, vx_callVX, vx_callSX, vx_callVW, vx_runVW, vx_runVX, vx_runSX, vx_ofWH follow the same proofs as their sisters above (Free/Laws.lean, Shelf42/LK1.lean); vx_outP calls Shelf42/NT130.lean (outThrough). -/
section
variable {l : Launch} {R : Room} {p : Program} {e : Env} {below : List Frame} {s : State} {sargs : Array Value} {y : MethodName} {len W9 : Nat}
theorem vx_backW {ws : List Cond} {rm : Room} {Pc : Array Value → State → Prop} {Qc : Array Value → State → Outcome → State → Prop} {XC : String → State → State → Prop} {mc ms : Nat} {free : Addr → Prop} {bytes : ByteArray} {maxL : Nat} {ret : Option FieldType} {hh : List (Nat × Nat × Nat × Nat)}
    (hM : vx_Met l y ws rm Pc Qc XC mc ms free) (hblind : FrameBlind Pc) (hrc : rm.cells = mc) (hrs : rm.slots = ms)
    (hframes : rm.frames + 1 ≤ R.frames) (hlocals : W9 + (maxL + 11) + rm.locals ≤ R.locals)
    (hws : ∀ w ∈ ws, ∀ a' U, s.WarmedH U.vm → w.before a' U = true) (hcode : Cond.codeWith y bytes maxL ret hh ∈ ws) (hinit : ∀ a' U, s.WarmedH U.vm → (Cond.initialized y.cls).before a' U = true) :
    vx_Back l R p e below s sargs y len W9 (PreOf R mc ms Pc) (PostOf Qc mc ms free) (vx_Post XC mc ms free) := by
  intro m meth c A g ig mk a X hg hsize hdg hW hn hp
  have h1 : (headSpec ws rm).pre.before a A.U = true := atoms_intro fun w hw => hws w hw _ _ X.warmed
  have h2 : (Cond.codeWith y bytes maxL ret hh).before a A.U = true := hws _ hcode _ _ X.warmed
  have h3 : (Cond.initialized y.cls).before a A.U = true := hinit _ _ X.warmed
  have h4 : A.cells + (headSpec ws rm).room.cells ≤ R.cells := by rw [show (headSpec ws rm).room.cells = mc from hrc]; exact hp.1
  have h5 : A.slots + (headSpec ws rm).room.slots ≤ R.slots := by rw [show (headSpec ws rm).room.slots = ms from hrs]; exact hp.2.1
  have hPc : Pc a (A.U.calling g mk a) := hblind _ _ _ _ hp.2.2
  obtain ⟨U, Ls, c0, s0⟩ := A
  dsimp only [Pt.U, Pt.locs, Pt.cells, Pt.slots] at h1 h2 h3 h4 h5 X hn hPc ⊢
  obtain ⟨m9, methY, cY, hn9, hmY, hcY, -, hlY, -⟩ := Cond.codeWith_spec h2
  cases Option.some.inj (hn9.symm.trans hn)
  obtain ⟨kY, hkY, -⟩ := className_of_methodNamed hn
  have hinitY : kY.init = .initialized := Cond.initialized_spec (findClass_of_methodNamed hn) hkY h3
  have h : At U g.method c below := by rw [hg]; exact X.here
  have hlocals9 : W9 + (maxL + 11) + (headSpec ws rm).room.locals ≤ R.locals := hlocals
  have happ : (headSpec ws rm).appliesLoose y e.platform (U.calling g mk a) = true :=
    Spec.appliesLoose_calling (g := g) h hdg hn hkY hinitY
      (X.room_calling (g := g) (R' := (headSpec ws rm).room) hsize hmY hcY hframes (by rw [hlY]; omega) h4 h5) h1
  obtain ⟨mid, hmid⟩ := h.above
  have hfr : (U.setTop g).frames = (.java g :: mid) ++ below := by rw [State.frames_setTop' g h.top, hmid]; rfl
  obtain ⟨o, s₂, hsteps, -, hend, hq⟩ := Steps.callFree hM p X.admits X.cas X.clock (acts := []) hfr happ hPc trivial
  have hq' : vx_Q Qc XC mc ms free a (U.calling g mk a) o s₂ := hq
  rw [State.frames_setTop' g h.top] at hend
  obtain ⟨g₀, hg0⟩ := Option.isSome_iff_exists.mp h.top
  obtain ⟨r, hr⟩ := State.topJava?_eq_some.mp hg0
  have hr' : (({ U with heap := s₂.heap, slotsUsed := s₂.slotsUsed } : State).setVm s₂.vm).frames = .java g₀ :: r := hr
  rcases hq' with ⟨hqc, L, hfe, hL⟩ | ⟨q, rfl, E, ce, L, hx, hce, hcv, hcl, hW₂, hsm, hL⟩
  · obtain ⟨⟨v, rfl⟩, hW₂, e2, q2, q3, q4, q5, q6⟩ := id hfe
    have e3 : s₂ = ({ (U.calling g mk a).setFrames s₂.frames with heap := s₂.heap, slotsUsed := s₂.slotsUsed } : State).setVm s₂.vm := by
      have : s₂ = ({ s₂ with vm := (U.calling g mk a).vm } : State).setVm s₂.vm := rfl
      rw [e2] at this
      exact this
    obtain ⟨c₂, i₂, len₂, hc₂, hd₂, hf₂⟩ := hend
    have hW' : U.WarmedH s₂.vm := hW₂
    have hcc : c₂ = c := by
      have h1 : s₂.code? g.method = U.code? g.method := by
        rw [State.code?_eq, State.code?_eq, hW'.alike.method?]
      exact Option.some.inj (hc₂.symm.trans (h1.trans h.code))
    subst hcc
    have hlen : len₂ = len := by rw [hdg] at hd₂; cases hd₂; rfl
    subst hlen
    have hs₂ : s₂ = (({ U with heap := s₂.heap, slotsUsed := s₂.slotsUsed } : State).setVm s₂.vm).setTop { g with pc := g.pc + len₂, stack := v.toList ++ g.stack } := by
      refine e3.trans ?_
      rw [hf₂, State.calling_eq h.top, State.setFrames_setFrames, State.setTop_of_frames _ hr', hr]
      rfl
    have hsame : U.sameButNew ({ U with heap := s₂.heap, slotsUsed := s₂.slotsUsed } : State) L mc ms := by
      refine ⟨?_, q2, q3, q4, q5, q6⟩
      obtain ⟨t, ht, -⟩ := State.frames_cons hr
      show ({ U with heap := s₂.heap, slotsUsed := s₂.slotsUsed } : State) = { U.setFrames U.frames with heap := s₂.heap, slotsUsed := s₂.slotsUsed }
      rw [State.setFrames_self ht]
    subst hg
    refine Or.inl ⟨v, ⟨(({ U with heap := s₂.heap, slotsUsed := s₂.slotsUsed } : State).setVm s₂.vm), Ls ++ L, c0 + mc, s0 + ms⟩,
      ⟨X.admits, X.cas, X.clock, X.frames, X.room, X.hears, X.method, X.code, (X.here.setHeapUsed s₂.heap s₂.slotsUsed).setVm hW'.alike, X.tail, State.WarmedH.trans X.warmed hW', X.limits, X.bytes, X.same.trans (hsame.setVm s.vm)⟩,
      ⟨g, mk, s₂, L, rfl, rfl, hqc, rfl, hL, rfl, rfl⟩, ?_⟩
    show Steps p.tables e below _ ((({ U with heap := s₂.heap, slotsUsed := s₂.slotsUsed } : State).setVm s₂.vm).setTop { g with pc := g.pc + len₂, stack := v.toList ++ g.stack })
    rw [← hs₂]
    exact hsteps
  · obtain ⟨e2, q2, q3, q4, q5, q6⟩ := id hsm
    have e3 : s₂ = ({ (U.calling g mk a).setFrames s₂.frames with heap := s₂.heap, slotsUsed := s₂.slotsUsed } : State).setVm s₂.vm := by
      have : s₂ = ({ s₂ with vm := (U.calling g mk a).vm } : State).setVm s₂.vm := rfl
      rw [e2] at this
      exact this
    have hf₂ : s₂.frames = .throwing q :: .java g :: U.frames.tail := hend
    have hW' : U.WarmedH s₂.vm := hW₂
    have hs₂ : s₂ = ((({ U with heap := s₂.heap, slotsUsed := s₂.slotsUsed } : State).setVm s₂.vm).setTop g).pushFrame (.throwing q) := by
      refine e3.trans ?_
      rw [hf₂, State.calling_eq h.top, State.setFrames_setFrames, State.pushFrame, State.frames_setTop _ hr', State.setTop_of_frames _ hr', State.setFrames_setFrames, hr]
      rfl
    have hsame : U.sameButNew ({ U with heap := s₂.heap, slotsUsed := s₂.slotsUsed } : State) L mc ms := by
      refine ⟨?_, q2, q3, q4, q5, q6⟩
      obtain ⟨t, ht, -⟩ := State.frames_cons hr
      show ({ U with heap := s₂.heap, slotsUsed := s₂.slotsUsed } : State) = { U.setFrames U.frames with heap := s₂.heap, slotsUsed := s₂.slotsUsed }
      rw [State.setFrames_self ht]
    subst hg
    refine Or.inr ⟨q, ⟨(({ U with heap := s₂.heap, slotsUsed := s₂.slotsUsed } : State).setVm s₂.vm), Ls ++ L, c0 + mc, s0 + ms⟩,
      ⟨X.admits, X.cas, X.clock, X.frames, X.room, X.hears, X.method, X.code, (X.here.setHeapUsed s₂.heap s₂.slotsUsed).setVm hW'.alike, X.tail, State.WarmedH.trans X.warmed hW', X.limits, X.bytes, X.same.trans (hsame.setVm s.vm)⟩,
      ⟨g, mk, s₂, L, E, ce, rfl, rfl, hx, hce, hcv, hcl, rfl, hL, rfl, rfl⟩, ?_⟩
    show Steps p.tables e below _ (((({ U with heap := s₂.heap, slotsUsed := s₂.slotsUsed } : State).setVm s₂.vm).setTop g).pushFrame (.throwing q))
    rw [← hs₂]
    exact hsteps
end
variable {p : Program} {l : Launch} {e : Env} {R : Room} {s : State} {m : MethodId} {args : Array Value} {below : List Frame} {meth : Method} {c : Code} {T : State} {H : Heap} {locs : List Loc} {cells slots : Nat}
theorem vx_callVX (X : Stand p l e R s m args below meth c T locs cells slots) (hexec : p.tables.exec = Jvm.exec) {own C : String} {index : Nat} {y : MethodName} {bytes : ByteArray} {maxL : Nat} {ret : Option FieldType} {hh : List (Nat × Nat × Nat × Nat)}
    (hown : s.vm.findClass own = some m.cls) (hlink : (Cond.methodLink own index y).before args s = true) (hinst : (Cond.instanceMethod y).before args s = true) (hsel : (Cond.selects C y y).before args s = true)
    (hcode : (Cond.codeWith y bytes maxL ret hh).before args s = true) (hy : y.cls ≠ "java/lang/invoke/MethodHandle" ∧ y.cls ≠ "java/lang/invoke/VarHandle")
    {W9 : Nat} {Pre : Pt → Array Value → Prop} {Post : Pt → Array Value → Option Value → Pt → Prop} {PostX : Pt → Array Value → Addr → Pt → Prop} (hK : vx_Back l R p e below s args y 3 W9 Pre Post PostX)
    {b : Addr} {cellB : Cell} (hcell : T.heap[b]? = some cellB) (hobj : cellB.vm.isStatics = false) (hcls : s.vm.findClass C = some cellB.cls)
    {g : JFrame} (hg : g.method = m) (hsize : g.locals.size = c.maxLocals) {argsL rest : List Value} (hlen : ∀ sig, parseMethodDescriptor y.desc = some sig → argsL.length = sig.parameters.length)
    (hstack : g.stack = argsL.reverse ++ .ref b :: rest) (hW : 2 * g.monitorRoom + (rest.map fun v => v.category).sum ≤ W9) (hdg : decode c.code g.pc = .ok (.invokevirtual index, 3))
    (hpre : ∀ vm₁, s.WarmedH vm₁ → Pre ⟨T.setVm vm₁, locs, cells, slots⟩ (Value.ref b :: argsL).toArray) :
    (∃ (v : Option Value) (vm₁ : Vm) (B : Pt), s.WarmedH vm₁ ∧ Stand p l e R s m args below meth c B.U B.locs B.cells B.slots ∧ Post ⟨T.setVm vm₁, locs, cells, slots⟩ (Value.ref b :: argsL).toArray v B ∧
      ∀ target, Steps p.tables e below (B.U.setTop { g with pc := g.pc + 3, stack := v.toList ++ rest }) target → Steps p.tables e below (T.setTop g) target) ∨
    (∃ (q : Addr) (vm₁ : Vm) (B : Pt), s.WarmedH vm₁ ∧ Stand p l e R s m args below meth c B.U B.locs B.cells B.slots ∧ PostX ⟨T.setVm vm₁, locs, cells, slots⟩ (Value.ref b :: argsL).toArray q B ∧
      Steps p.tables e below (T.setTop g) ((B.U.setTop { g with stack := rest }).pushFrame (.throwing q))) := by
  obtain ⟨mk, methM, hnamed, hmethM, hstM, habM⟩ := Cond.instanceMethod_spec hinst
  obtain ⟨m8, methM', cM, hn8, hmethM', -, -, -, -, -, -, hsigM⟩ := Cond.codeWith_spec hcode
  cases Option.some.inj (hn8.symm.trans hnamed)
  cases hmethM.symm.trans hmethM'
  obtain ⟨c2, r2, m2, q1, q2, q3, q4, kP, hkP, hkPi⟩ := Cond.selects_spec hsel
  cases hcls.symm.trans q1
  cases (State.methodFound?_of_named hnamed hy).symm.trans q2
  cases hnamed.symm.trans q3
  have hselP : selectMethod e.platform s.vm cellB.cls mk = .method mk := by rw [Launch.admits_selectMethod X.admits]; exact q4
  obtain ⟨vm₁, X₁, hstep₁⟩ := X.invokevirtual hexec hown hlink hnamed hmethM hstM hkP hkPi hy (a := b) (cell := cellB) hcell
    (fun z h => by rw [h] at hobj; cases hobj) hselP hmethM habM hkP hkPi (g := g) hg (argsL := argsL) (rest := rest) (hlen _ hsigM) hstack hdg
  rcases hK m meth c ⟨T.setVm vm₁, locs, cells, slots⟩ { g with stack := rest } (.invokevirtual index) mk (Value.ref b :: argsL).toArray X₁ hg hsize hdg hW (X₁.named hnamed) (hpre vm₁ X₁.warmed) with ⟨v, B, X', hpost, hsteps⟩ | ⟨q, B, X', hpost, hsteps⟩
  · exact Or.inl ⟨v, vm₁, B, X₁.warmed, X', hpost, fun target h => hstep₁ _ fun acts => by rw [doInvoke_state]; exact hsteps.trans h⟩
  · exact Or.inr ⟨q, vm₁, B, X₁.warmed, X', hpost, hstep₁ _ fun acts => by rw [doInvoke_state]; exact hsteps⟩
theorem vx_callSX (X : Stand p l e R s m args below meth c T locs cells slots) (hexec : p.tables.exec = Jvm.exec) {own : String} {index : Nat} {y : MethodName} {bytes : ByteArray} {maxL : Nat} {ret : Option FieldType} {hh : List (Nat × Nat × Nat × Nat)}
    (hown : s.vm.findClass own = some m.cls) (hlink : (Cond.methodLink own index y).before args s = true) (hstat : (Cond.static y).before args s = true) (hinit : (Cond.initialized y.cls).before args s = true)
    (hcode : (Cond.codeWith y bytes maxL ret hh).before args s = true) (hy : y.cls ≠ "java/lang/invoke/MethodHandle" ∧ y.cls ≠ "java/lang/invoke/VarHandle")
    {W9 : Nat} {Pre : Pt → Array Value → Prop} {Post : Pt → Array Value → Option Value → Pt → Prop} {PostX : Pt → Array Value → Addr → Pt → Prop} (hK : vx_Back l R p e below s args y 3 W9 Pre Post PostX)
    {g : JFrame} (hg : g.method = m) (hsize : g.locals.size = c.maxLocals) {argsL rest : List Value} (hlen : ∀ sig, parseMethodDescriptor y.desc = some sig → argsL.length = sig.parameters.length)
    (hstack : g.stack = argsL.reverse ++ rest) (hW : 2 * g.monitorRoom + (rest.map fun v => v.category).sum ≤ W9) (hdg : decode c.code g.pc = .ok (.invokestatic index, 3))
    (hpre : ∀ vm₁, s.WarmedH vm₁ → Pre ⟨T.setVm vm₁, locs, cells, slots⟩ argsL.toArray) :
    (∃ (v : Option Value) (vm₁ : Vm) (B : Pt), s.WarmedH vm₁ ∧ Stand p l e R s m args below meth c B.U B.locs B.cells B.slots ∧ Post ⟨T.setVm vm₁, locs, cells, slots⟩ argsL.toArray v B ∧
      ∀ target, Steps p.tables e below (B.U.setTop { g with pc := g.pc + 3, stack := v.toList ++ rest }) target → Steps p.tables e below (T.setTop g) target) ∨
    (∃ (q : Addr) (vm₁ : Vm) (B : Pt), s.WarmedH vm₁ ∧ Stand p l e R s m args below meth c B.U B.locs B.cells B.slots ∧ PostX ⟨T.setVm vm₁, locs, cells, slots⟩ argsL.toArray q B ∧
      Steps p.tables e below (T.setTop g) ((B.U.setTop { g with stack := rest }).pushFrame (.throwing q))) := by
  obtain ⟨mk, methM, cM, hnamed, hmethM, -, -, -, -, -, -, hsigM⟩ := Cond.codeWith_spec hcode
  have hstatic : methM.isStatic = true := Cond.static_spec hnamed hmethM hstat
  obtain ⟨kP, hkP, -⟩ := className_of_methodNamed hnamed
  have hinitP : kP.init = .initialized := Cond.initialized_spec (findClass_of_methodNamed hnamed) hkP hinit
  obtain ⟨vm₁, X₁, hstep₁⟩ := X.invokestatic hexec hown hlink hnamed hmethM hstatic hkP hinitP hy (g := g) hg (argsL := argsL) (rest := rest) (hlen _ hsigM) hstack hdg
  rcases hK m meth c ⟨T.setVm vm₁, locs, cells, slots⟩ { g with stack := rest } (.invokestatic index) mk argsL.toArray X₁ hg hsize hdg hW (X₁.named hnamed) (hpre vm₁ X₁.warmed) with ⟨v, B, X', hpost, hsteps⟩ | ⟨q, B, X', hpost, hsteps⟩
  · exact Or.inl ⟨v, vm₁, B, X₁.warmed, X', hpost, fun target h => hstep₁ _ fun acts => by rw [doInvoke_state]; exact hsteps.trans h⟩
  · exact Or.inr ⟨q, vm₁, B, X₁.warmed, X', hpost, hstep₁ _ fun acts => by rw [doInvoke_state]; exact hsteps⟩
theorem vx_callVW (X : Stand p l e R s m args below meth c T locs cells slots) (hexec : p.tables.exec = Jvm.exec) {own C : String} {index : Nat} {y : MethodName} {bytes : ByteArray} {maxL : Nat} {ret : Option FieldType} {hh : List (Nat × Nat × Nat × Nat)}
    (hown : s.vm.findClass own = some m.cls) (hlink : (Cond.methodLink own index y).before args s = true) (hinst : (Cond.instanceMethod y).before args s = true) (hsel : (Cond.selects C y y).before args s = true)
    (hcode : (Cond.codeWith y bytes maxL ret hh).before args s = true) (hy : y.cls ≠ "java/lang/invoke/MethodHandle" ∧ y.cls ≠ "java/lang/invoke/VarHandle")
    {W9 : Nat} {Pre : Pt → Array Value → Prop} {Post : Pt → Array Value → Option Value → Pt → Prop} (hK : Back l R p e below s args y 3 W9 Pre Post)
    {b : Addr} {cellB : Cell} (hcell : T.heap[b]? = some cellB) (hobj : cellB.vm.isStatics = false) (hcls : s.vm.findClass C = some cellB.cls)
    {g : JFrame} (hg : g.method = m) (hsize : g.locals.size = c.maxLocals) {argsL rest : List Value} (hlen : ∀ sig, parseMethodDescriptor y.desc = some sig → argsL.length = sig.parameters.length)
    (hstack : g.stack = argsL.reverse ++ .ref b :: rest) (hW : 2 * g.monitorRoom + (rest.map fun v => v.category).sum ≤ W9) (hdg : decode c.code g.pc = .ok (.invokevirtual index, 3))
    (hpre : ∀ vm₁, s.WarmedH vm₁ → Pre ⟨T.setVm vm₁, locs, cells, slots⟩ (Value.ref b :: argsL).toArray) :
    ∃ (v : Option Value) (vm₁ : Vm) (B : Pt), s.WarmedH vm₁ ∧ Stand p l e R s m args below meth c B.U B.locs B.cells B.slots ∧ Post ⟨T.setVm vm₁, locs, cells, slots⟩ (Value.ref b :: argsL).toArray v B ∧
      ∀ target, Steps p.tables e below (B.U.setTop { g with pc := g.pc + 3, stack := v.toList ++ rest }) target → Steps p.tables e below (T.setTop g) target := by
  obtain ⟨mk, methM, hnamed, hmethM, hstM, habM⟩ := Cond.instanceMethod_spec hinst
  obtain ⟨m8, methM', cM, hn8, hmethM', -, -, -, -, -, -, hsigM⟩ := Cond.codeWith_spec hcode
  cases Option.some.inj (hn8.symm.trans hnamed)
  cases hmethM.symm.trans hmethM'
  obtain ⟨c2, r2, m2, q1, q2, q3, q4, kP, hkP, hkPi⟩ := Cond.selects_spec hsel
  cases hcls.symm.trans q1
  cases (State.methodFound?_of_named hnamed hy).symm.trans q2
  cases hnamed.symm.trans q3
  have hselP : selectMethod e.platform s.vm cellB.cls mk = .method mk := by rw [Launch.admits_selectMethod X.admits]; exact q4
  obtain ⟨vm₁, X₁, hstep₁⟩ := X.invokevirtual hexec hown hlink hnamed hmethM hstM hkP hkPi hy (a := b) (cell := cellB) hcell
    (fun z h => by rw [h] at hobj; cases hobj) hselP hmethM habM hkP hkPi (g := g) hg (argsL := argsL) (rest := rest) (hlen _ hsigM) hstack hdg
  obtain ⟨v, B, X', hpost, hsteps⟩ := hK m meth c ⟨T.setVm vm₁, locs, cells, slots⟩ { g with stack := rest } (.invokevirtual index) mk (Value.ref b :: argsL).toArray X₁ hg hsize hdg hW (X₁.named hnamed) (hpre vm₁ X₁.warmed)
  exact ⟨v, vm₁, B, X₁.warmed, X', hpost, fun target h => hstep₁ _ fun acts => by rw [doInvoke_state]; exact hsteps.trans h⟩
abbrev vx_CVW (R : Room) (s : State) (args : Array Value) (own C : String) (index : Nat) (y : MethodName) (bytes : ByteArray) (maxL : Nat) (ret : Option FieldType) (hh : List (Nat × Nat × Nat × Nat)) (ws : List Cond) (rm : Room) (mc ms n : Nat) : Prop :=
  (rm.cells = mc ∧ rm.slots = ms ∧ rm.frames + 1 ≤ R.frames ∧ 8 + (maxL + 11) + rm.locals ≤ R.locals ∧ (∀ w ∈ ws, ∀ (a' : Array Value) (U : State), s.WarmedH U.vm → w.before a' U = true) ∧ Cond.codeWith y bytes maxL ret hh ∈ ws) ∧
  (Cond.codeWith y bytes maxL ret hh).before args s = true ∧ (Cond.initialized y.cls).before args s = true ∧ (y.cls ≠ "java/lang/invoke/MethodHandle" ∧ y.cls ≠ "java/lang/invoke/VarHandle") ∧
  (∀ sig, parseMethodDescriptor y.desc = some sig → n = sig.parameters.length) ∧ (Cond.methodLink own index y).before args s = true ∧ (Cond.instanceMethod y).before args s = true ∧ (Cond.selects C y y).before args s = true
theorem vx_cwVW {own C : String} {index maxL mc ms : Nat} {y : MethodName} {bytes : ByteArray} {ret : Option FieldType} {hh : List (Nat × Nat × Nat × Nat)} {Ts ws ws' : List Cond} {rm : Room} (n : Nat) (ht : ∀ w ∈ Ts, w.before args s = true) (hT : GoodIn Ts (wsV own index C y ws)) (hw : ws = Cond.codeWith y bytes maxL ret hh :: ws') (hrc : rm.cells = mc) (hrs : rm.slots = ms)
    (hd : y.cls = C ∧ y.cls ≠ "java/lang/invoke/MethodHandle" ∧ y.cls ≠ "java/lang/invoke/VarHandle" ∧ (parseMethodDescriptor y.desc).map (fun d => d.parameters.length) = some n) (hR : rm.frames + 1 ≤ R.frames ∧ 8 + (maxL + 11) + rm.locals ≤ R.locals) :
    vx_CVW R s args own C index y bytes maxL ret hh ws rm mc ms n := by
  obtain ⟨hC, hd⟩ := hd
  subst hC
  have ok : ∀ w ∈ wsV own index y.cls y ws, w.before args s = true := fun w h => ht w (hT w h).1
  have hG : GoodIn Ts ws := fun w h => hT w (by unfold wsV; exact List.mem_append_right _ h)
  have hc : Cond.codeWith y bytes maxL ret hh ∈ ws := by rw [hw]; exact List.mem_cons_self
  refine ⟨⟨hrc, hrs, hR.1, hR.2, pay_in ht hG, hc⟩, ht _ (hG _ hc).1, ok _ (by simp [wsV]), ⟨hd.1, hd.2.1⟩, fun sig h => ?_, ok _ (by simp [wsV]), ok _ (by simp [wsV]), ok _ (by simp [wsV])⟩
  have h2 := hd.2.2
  rw [h] at h2
  exact (Option.some.inj h2).symm
theorem vx_runVW {y : MethodName} {bytes cc : ByteArray} {maxL nL mc ms n index : Nat} {ret : Option FieldType} {hh : List (Nat × Nat × Nat × Nat)} {ws : List Cond} {rm : Room} {Pc : Array Value → State → Prop} {Qc : Array Value → State → Outcome → State → Prop} {free : Addr → Prop} {Ts : List Cond} {own C : String} {b : Addr} {As rest : List Value} {g : JFrame}
    (S : CallFix p m c cc nL s args Ts own) (hM : Met l y ws rm Pc Qc mc ms free) (cw : vx_CVW R s args own C index y bytes maxL ret hh ws rm mc ms n) (hp : PreV s H C b Pc As)
    (hg : g.method = m) (hn : As.length = n) (hsize : g.locals.size = nL) (hstack : g.stack = As.reverse ++ .ref b :: rest) (hW : 2 * g.monitorRoom + (rest.map fun v => v.category).sum ≤ 8) (hdg : decode cc g.pc = .ok (.invokevirtual index, 3)) (hf : cells + mc ≤ R.cells ∧ slots + ms ≤ R.slots) :
    va_Run p l e R s m args below meth c H locs cells slots mc ms g rest (Qc (Value.ref b :: As).toArray) free := by
  obtain ⟨⟨hrc, hrs, hfr, hlo, hws, hcw⟩, hcode, hini, hy, hlen, hl, hin, hse⟩ := cw
  have hK : Back l R p e below s args y 3 8 (PreOf R mc ms Pc) (PostOf Qc mc ms free) := va_backW (hh := hh) (bytes := bytes) (maxL := maxL) (ret := ret) hM hp.1 hrc hrs hfr hlo hws hcw (fun a' U hW => word_at hW (Or.inl (by first | rfl | simp [Cond.onTables, Cond.keeps, Cond.steady])) hini)
  obtain ⟨hx, hb, hml, ho, -⟩ := S
  obtain ⟨-, ⟨cellB, hcB, hoB, hclB⟩, hPc⟩ := hp
  intro T hT X
  obtain ⟨v, vm₁, ⟨U', l2, c2, s2⟩, hW₁, X', ⟨g', mk, t, L, e1, e2, hq, h1, hL, h2, h3⟩, st⟩ := vx_callVW X hx (C := C) (hh := hh) (bytes := bytes) (maxL := maxL) (ret := ret) ho hl hin hse hcode hy hK (by rw [hT]; exact hcB) hoB hclB hg (hsize.trans hml.symm) (argsL := As) (rest := rest) (fun sig h => hn.trans (hlen sig h)) hstack hW (by rw [hb]; exact hdg)
    (fun vm₁ hW₁ => ⟨hf.1, hf.2, hPc (T.setVm vm₁) hT hW₁⟩)
  dsimp only [Pt.U, Pt.locs, Pt.cells, Pt.slots] at X' e1 e2 h1 h2 h3 st
  subst h1; subst h2; subst h3
  exact ⟨v, (T.setVm vm₁).calling g' mk (Value.ref b :: As).toArray, t, U', L, hT, X', hL, e1, e2, hq, st⟩
section
variable {y : MethodName} {bytes cc : ByteArray} {maxL nL mc ms n index : Nat} {ret : Option FieldType} {ws : List Cond} {rm : Room} {Pc : Array Value → State → Prop} {Qc : Array Value → State → Outcome → State → Prop} {XC : String → State → State → Prop} {free : Addr → Prop} {Ts : List Cond} {own C : String} {b : Addr} {As rest : List Value} {g : JFrame}
theorem vx_runVX {hh : List (Nat × Nat × Nat × Nat)} (S : CallFix p m c cc nL s args Ts own) (hM : vx_Met l y ws rm Pc Qc XC mc ms free) (cw : vx_CVW R s args own C index y bytes maxL ret hh ws rm mc ms n) (hp : PreV s H C b Pc As)
    (hg : g.method = m) (hn : As.length = n) (hsize : g.locals.size = nL) (hstack : g.stack = As.reverse ++ .ref b :: rest) (hW : 2 * g.monitorRoom + (rest.map fun v => v.category).sum ≤ 8) (hdg : decode cc g.pc = .ok (.invokevirtual index, 3)) (hf : cells + mc ≤ R.cells ∧ slots + ms ≤ R.slots) :
    vx_Run p l e R s m args below meth c H locs cells slots mc ms g rest (Qc (Value.ref b :: As).toArray) XC free := by
  obtain ⟨⟨hrc, hrs, hfr, hlo, hws, hcw⟩, hcode, hini, hy, hlen, hl, hin, hse⟩ := cw
  have hK : vx_Back l R p e below s args y 3 8 (PreOf R mc ms Pc) (PostOf Qc mc ms free) (vx_Post XC mc ms free) := vx_backW (hh := hh) (bytes := bytes) (maxL := maxL) (ret := ret) hM hp.1 hrc hrs hfr hlo hws hcw (fun a' U hW => word_at hW (Or.inl (by first | rfl | simp [Cond.onTables, Cond.keeps, Cond.steady])) hini)
  obtain ⟨hx, hb, hml, ho, -⟩ := S
  obtain ⟨-, ⟨cellB, hcB, hoB, hclB⟩, hPc⟩ := hp
  intro T hT X
  rcases vx_callVX X hx (C := C) (hh := hh) (bytes := bytes) (maxL := maxL) (ret := ret) ho hl hin hse hcode hy hK (by rw [hT]; exact hcB) hoB hclB hg (hsize.trans hml.symm) (argsL := As) (rest := rest) (fun sig h => hn.trans (hlen sig h)) hstack hW (by rw [hb]; exact hdg)
    (fun vm₁ hW₁ => ⟨hf.1, hf.2, hPc (T.setVm vm₁) hT hW₁⟩) with ⟨v, vm₁, ⟨U', l2, c2, s2⟩, hW₁, X', ⟨g', mk, t, L, e1, e2, hq, h1, hL, h2, h3⟩, st⟩ | ⟨q, vm₁, ⟨U', l2, c2, s2⟩, hW₁, X', ⟨g', mk, t, L, E, ce, e1, e2, hq, hce, hcv, hcl, h1, hL, h2, h3⟩, st⟩
  · dsimp only [Pt.U, Pt.locs, Pt.cells, Pt.slots] at X' e1 e2 h1 h2 h3 st
    subst h1; subst h2; subst h3
    exact Or.inl ⟨v, (T.setVm vm₁).calling g' mk (Value.ref b :: As).toArray, t, U', L, hT, X', hL, e1, e2, hq, st⟩
  · dsimp only [Pt.U, Pt.locs, Pt.cells, Pt.slots] at X' e1 e2 h1 h2 h3 st hcl
    subst h1; subst h2; subst h3
    exact Or.inr ⟨q, (T.setVm vm₁).calling g' mk (Value.ref b :: As).toArray, t, U', L, E, ce, hT, X', hL, e1, e2, hq, hce, hcv, vx_cls hW₁ hcl, st⟩
theorem vx_runSX {hh : List (Nat × Nat × Nat × Nat)} (S : CallFix p m c cc nL s args Ts own) (hM : vx_Met l y ws rm Pc Qc XC mc ms free) (cw : vx_CSW R s args own index y bytes maxL ret hh ws rm mc ms n) (hp : PreS s H Pc As)
    (hg : g.method = m) (hn : As.length = n) (hsize : g.locals.size = nL) (hstack : g.stack = As.reverse ++ rest) (hW : 2 * g.monitorRoom + (rest.map fun v => v.category).sum ≤ 8) (hdg : decode cc g.pc = .ok (.invokestatic index, 3)) (hf : cells + mc ≤ R.cells ∧ slots + ms ≤ R.slots) :
    vx_Run p l e R s m args below meth c H locs cells slots mc ms g rest (Qc As.toArray) XC free := by
  obtain ⟨⟨hrc, hrs, hfr, hlo, hws, hcw⟩, hcode, hini, hy, hlen, hl, hstt⟩ := cw
  have hK : vx_Back l R p e below s args y 3 8 (PreOf R mc ms Pc) (PostOf Qc mc ms free) (vx_Post XC mc ms free) := vx_backW (hh := hh) (bytes := bytes) (maxL := maxL) (ret := ret) hM hp.1 hrc hrs hfr hlo hws hcw (fun a' U hW => word_at hW (Or.inl (by first | rfl | simp [Cond.onTables, Cond.keeps, Cond.steady])) hini)
  obtain ⟨hx, hb, hml, ho, -⟩ := S
  intro T hT X
  rcases vx_callSX X hx (hh := hh) (bytes := bytes) (maxL := maxL) (ret := ret) ho hl hstt hini hcode hy hK hg (hsize.trans hml.symm) (argsL := As) (rest := rest) (fun sig h => hn.trans (hlen sig h)) hstack hW (by rw [hb]; exact hdg)
    (fun vm₁ hW₁ => ⟨hf.1, hf.2, hp.2 (T.setVm vm₁) hT hW₁⟩) with ⟨v, vm₁, ⟨U', l2, c2, s2⟩, hW₁, X', ⟨g', mk, t, L, e1, e2, hq, h1, hL, h2, h3⟩, st⟩ | ⟨q, vm₁, ⟨U', l2, c2, s2⟩, hW₁, X', ⟨g', mk, t, L, E, ce, e1, e2, hq, hce, hcv, hcl, h1, hL, h2, h3⟩, st⟩
  · dsimp only [Pt.U, Pt.locs, Pt.cells, Pt.slots] at X' e1 e2 h1 h2 h3 st
    subst h1; subst h2; subst h3
    exact Or.inl ⟨v, (T.setVm vm₁).calling g' mk As.toArray, t, U', L, hT, X', hL, e1, e2, hq, st⟩
  · dsimp only [Pt.U, Pt.locs, Pt.cells, Pt.slots] at X' e1 e2 h1 h2 h3 st hcl
    subst h1; subst h2; subst h3
    exact Or.inr ⟨q, (T.setVm vm₁).calling g' mk As.toArray, t, U', L, E, ce, hT, X', hL, e1, e2, hq, hce, hcv, vx_cls hW₁ hcl, st⟩
end
end VXH
theorem vx_ofWH {l : Launch} {y : MethodName} {ws ws' : List Cond} {rm : Room} {Pc : Array Value → State → Prop} {Qc : Array Value → State → Outcome → State → Prop} {XC : String → State → State → Prop} {mc ms : Nat} {free : Addr → Prop} {cc : ByteArray} {maxL : Nat} {ret : Option FieldType} {hh : List (Nat × Nat × Nat × Nat)}
    (hy : plainName y.cls = true) (hw : ws = Cond.codeWith y cc maxL ret hh :: ws')
    (body : ∀ p e s m args below meth c s₁, BodyLoose p l y (headSpec ws rm) cc maxL ret e s m args below meth c s₁ → c.maxLocals = maxL → Pc args s →
      W p l e (headSpec ws rm).room s m args below meth c s.heap [] 0 0 (vx_MQ below Qc XC args s mc ms free) (entryFrame m args maxL)) : vx_Met l y ws rm Pc Qc XC mc ms free := by
  refine MetFree.of_bodyS (code := cc) (maxLocals := maxL) (ret := ret) hy ?_ ?_
  · intro args s m h hn
    obtain ⟨m9, meth, c, hn9, h1, h2, h3, h4, -, h5, h6, -⟩ := Cond.codeWith_spec (atoms_spec (ws := ws) h _ (by rw [hw]; exact List.mem_cons_self))
    cases hn.symm.trans hn9
    exact ⟨meth, c, h1, h2, h3, h4, h5, h6⟩
  · intro p e s m args below meth c s₁ B hml hP _
    have hh0 : s₁.heap = s.heap := by rw [B.state]; rfl
    obtain ⟨t, a1, o, b1, b2, b3⟩ := body p e s m args below meth c s₁ B hml hP s₁ hh0 (Stand.of_body B)
    exact ⟨t, o, a1, b1, b2, b3⟩
/-! ===== END ===== -/
end
section
def RX0 : String := "PastureBids$BestSet"
def TX0 : u_T := fun k => match k with
  | 0 => ("PastureBids$BestSet", "gained", "I", false)
  | _ => ("PastureBids$BestSet", "bids", "I", false)
def tyX0 : Nat → FieldType := fun k => match k with
  | 0 => .int
  | _ => .int
abbrev wsX00 : List Cond := u_ws RX0 TX0 2
theorem nmX0 : ∀ a, a < 2 → ∀ b, b < 2 → a ≠ b → (TX0 a).2.1 ≠ (TX0 b).2.1 := by decide +kernel
theorem tyX0_ok : ∀ k, k < 2 → parseFieldDescriptor (TX0 k).2.2.1 = some (tyX0 k) := by decide +kernel
abbrev cX0_init : ByteArray := prog_2_method_1_code
def yX0_init : MethodName := ⟨RX0, "<init>", "()V"⟩
abbrev cX0_clear : ByteArray := prog_2_method_2_code
def yX0_clear : MethodName := ⟨RX0, "clear", "()V"⟩
abbrev cX0_consider : ByteArray := prog_2_method_3_code
def yX0_consider : MethodName := ⟨RX0, "consider", "(II)V"⟩
abbrev cX0_isBeatenBy : ByteArray := prog_2_method_4_code
def yX0_isBeatenBy : MethodName := ⟨RX0, "isBeatenBy", "(II)Z"⟩
abbrev cX0_has : ByteArray := prog_2_method_5_code
def yX0_has : MethodName := ⟨RX0, "has", "(I)Z"⟩
def RX1 : String := "PastureBids$Sale"
def TX1 : u_T := fun k => match k with
  | 0 => ("PastureBids$Sale", "winners", "LPastureBids$BestSet;", true)
  | 1 => ("PastureBids$Sale", "winningBids", "[I", true)
  | 2 => ("PastureBids$Sale", "paid", "[I", true)
  | _ => ("PastureBids$Sale", "gainedWithout", "[I", true)
def tyX1 : Nat → FieldType := fun k => match k with
  | 0 => .object "PastureBids$BestSet"
  | 1 => .array .int
  | 2 => .array .int
  | _ => .array .int
abbrev wsX10 : List Cond := u_ws RX1 TX1 4
theorem nmX1 : ∀ a, a < 4 → ∀ b, b < 4 → a ≠ b → (TX1 a).2.1 ≠ (TX1 b).2.1 := by decide +kernel
theorem tyX1_ok : ∀ k, k < 4 → parseFieldDescriptor (TX1 k).2.2.1 = some (tyX1 k) := by decide +kernel
abbrev cX1_init : ByteArray := prog_3_method_1_code
def yX1_init : MethodName := ⟨RX1, "<init>", "()V"⟩
abbrev cX1_clear : ByteArray := prog_3_method_2_code
def yX1_clear : MethodName := ⟨RX1, "clear", "()V"⟩
abbrev cX1_totalPaid : ByteArray := prog_3_method_3_code
def yX1_totalPaid : MethodName := ⟨RX1, "totalPaid", "()I"⟩
def RX2 : String := "PastureBids"
def TX2 : u_T := fun k => match k with
  | 0 => ("PastureBids", "reserves", "[I", true)
  | 1 => ("PastureBids", "fieldCount", "I", false)
  | 2 => ("PastureBids", "ins", "[Z", true)
  | 3 => ("PastureBids", "bidderCount", "I", false)
  | 4 => ("PastureBids", "owners", "[I", true)
  | 5 => ("PastureBids", "bundles", "[I", true)
  | 6 => ("PastureBids", "prices", "[I", true)
  | 7 => ("PastureBids", "gains", "[I", true)
  | 8 => ("PastureBids", "worths", "[I", true)
  | 9 => ("PastureBids", "withdrawn", "[Z", true)
  | 10 => ("PastureBids", "bidCount", "I", false)
  | 11 => ("PastureBids", "sale", "LPastureBids$Sale;", true)
  | 12 => ("PastureBids", "imagined", "LPastureBids$Sale;", true)
  | _ => ("PastureBids", "search", "LPastureBids$BestSet;", true)
def tyX2 : Nat → FieldType := fun k => match k with
  | 0 => .array .int
  | 1 => .int
  | 2 => .array .boolean
  | 3 => .int
  | 4 => .array .int
  | 5 => .array .int
  | 6 => .array .int
  | 7 => .array .int
  | 8 => .array .int
  | 9 => .array .boolean
  | 10 => .int
  | 11 => .object "PastureBids$Sale"
  | 12 => .object "PastureBids$Sale"
  | _ => .object "PastureBids$BestSet"
abbrev wsX20 : List Cond := u_ws RX2 TX2 14
theorem nmX2 : ∀ a, a < 14 → ∀ b, b < 14 → a ≠ b → (TX2 a).2.1 ≠ (TX2 b).2.1 := by decide +kernel
theorem tyX2_ok : ∀ k, k < 14 → parseFieldDescriptor (TX2 k).2.2.1 = some (tyX2 k) := by decide +kernel
abbrev cX2_init : ByteArray := prog_1_method_1_code
def yX2_init : MethodName := ⟨RX2, "<init>", "()V"⟩
abbrev cX2_field : ByteArray := prog_1_method_2_code
def yX2_field : MethodName := ⟨RX2, "field", "(I)I"⟩
abbrev cX2_setReserve : ByteArray := prog_1_method_3_code
def yX2_setReserve : MethodName := ⟨RX2, "setReserve", "(II)I"⟩
abbrev cX2_join : ByteArray := prog_1_method_4_code
def yX2_join : MethodName := ⟨RX2, "join", "()I"⟩
abbrev cX2_setIn : ByteArray := prog_1_method_5_code
def yX2_setIn : MethodName := ⟨RX2, "setIn", "(IZ)Z"⟩
abbrev cX2_bid : ByteArray := prog_1_method_6_code
def yX2_bid : MethodName := ⟨RX2, "bid", "(III)I"⟩
abbrev cX2_setPrice : ByteArray := prog_1_method_7_code
def yX2_setPrice : MethodName := ⟨RX2, "setPrice", "(II)I"⟩
abbrev cX2_setWorth : ByteArray := prog_1_method_8_code
def yX2_setWorth : MethodName := ⟨RX2, "setWorth", "(II)I"⟩
abbrev cX2_withdraw : ByteArray := prog_1_method_9_code
def yX2_withdraw : MethodName := ⟨RX2, "withdraw", "(I)I"⟩
abbrev cX2_told : ByteArray := prog_1_method_10_code
def yX2_told : MethodName := ⟨RX2, "told", "(II)I"⟩
abbrev cX2_about : ByteArray := prog_1_method_11_code
def yX2_about : MethodName := ⟨RX2, "about", "(II)I"⟩
abbrev cX2_land : ByteArray := prog_1_method_12_code
def yX2_land : MethodName := ⟨RX2, "land", "(II)I"⟩
abbrev cX2_count : ByteArray := prog_1_method_13_code
def yX2_count : MethodName := ⟨RX2, "count", "(I)I"⟩
abbrev cX2_alone : ByteArray := prog_1_method_14_code
def yX2_alone : MethodName := ⟨RX2, "alone", "(II)I"⟩
abbrev cX2_would : ByteArray := prog_1_method_15_code
def yX2_would : MethodName := ⟨RX2, "would", "(III)I"⟩
abbrev cX2_least : ByteArray := prog_1_method_16_code
def yX2_least : MethodName := ⟨RX2, "least", "(I)I"⟩
abbrev cX2_rival : ByteArray := prog_1_method_17_code
def yX2_rival : MethodName := ⟨RX2, "rival", "()I"⟩
abbrev cX2_mean : ByteArray := prog_1_method_18_code
def yX2_mean : MethodName := ⟨RX2, "mean", "()D"⟩
abbrev cX2_digest : ByteArray := prog_1_method_19_code
def yX2_digest : MethodName := ⟨RX2, "digest", "()J"⟩
abbrev cX2_digestField : ByteArray := prog_1_method_20_code
def yX2_digestField : MethodName := ⟨RX2, "digestField", "(JI)J"⟩
abbrev cX2_requireField : ByteArray := prog_1_method_21_code
def yX2_requireField : MethodName := ⟨RX2, "requireField", "(I)V"⟩
abbrev cX2_requireBidder : ByteArray := prog_1_method_22_code
def yX2_requireBidder : MethodName := ⟨RX2, "requireBidder", "(I)V"⟩
abbrev cX2_requireBid : ByteArray := prog_1_method_23_code
def yX2_requireBid : MethodName := ⟨RX2, "requireBid", "(I)V"⟩
abbrev cX2_requireWhat : ByteArray := prog_1_method_24_code
def yX2_requireWhat : MethodName := ⟨RX2, "requireWhat", "(II)V"⟩
abbrev cX2_requireReserve : ByteArray := prog_1_method_25_code
def yX2_requireReserve : MethodName := ⟨RX2, "requireReserve", "(I)V"⟩
abbrev cX2_requireAmount : ByteArray := prog_1_method_26_code
def yX2_requireAmount : MethodName := ⟨RX2, "requireAmount", "(I)V"⟩
abbrev cX2_requireBundle : ByteArray := prog_1_method_27_code
def yX2_requireBundle : MethodName := ⟨RX2, "requireBundle", "(I)V"⟩
abbrev cX2_putPrice : ByteArray := prog_1_method_28_code
def yX2_putPrice : MethodName := ⟨RX2, "putPrice", "(II)V"⟩
abbrev cX2_reservesOf : ByteArray := prog_1_method_29_code
def yX2_reservesOf : MethodName := ⟨RX2, "reservesOf", "(I)I"⟩
abbrev cX2_hasField : ByteArray := prog_1_method_30_code
def yX2_hasField : MethodName := ⟨RX2, "hasField", "(II)Z"⟩
abbrev cX2_counts : ByteArray := prog_1_method_31_code
def yX2_counts : MethodName := ⟨RX2, "counts", "(I)Z"⟩
abbrev cX2_bidsLeft : ByteArray := prog_1_method_32_code
def yX2_bidsLeft : MethodName := ⟨RX2, "bidsLeft", "()I"⟩
abbrev cX2_bidsLeftOf : ByteArray := prog_1_method_33_code
def yX2_bidsLeftOf : MethodName := ⟨RX2, "bidsLeftOf", "(I)I"⟩
abbrev cX2_countingBidsWith : ByteArray := prog_1_method_34_code
def yX2_countingBidsWith : MethodName := ⟨RX2, "countingBidsWith", "(I)I"⟩
abbrev cX2_ownerOf : ByteArray := prog_1_method_35_code
def yX2_ownerOf : MethodName := ⟨RX2, "ownerOf", "(I)I"⟩
abbrev cX2_asNumber : ByteArray := prog_1_method_36_code
def yX2_asNumber : MethodName := ⟨RX2, "asNumber", "(Z)I"⟩
abbrev cX2_settle : ByteArray := prog_1_method_37_code
def yX2_settle : MethodName := ⟨RX2, "settle", "(LPastureBids$Sale;I)V"⟩
abbrev cX2_award : ByteArray := prog_1_method_38_code
def yX2_award : MethodName := ⟨RX2, "award", "(LPastureBids$Sale;I)V"⟩
abbrev cX2_findWinners : ByteArray := prog_1_method_39_code
def yX2_findWinners : MethodName := ⟨RX2, "findWinners", "(LPastureBids$BestSet;I)V"⟩
abbrev cX2_seek : ByteArray := prog_1_method_40_code
def yX2_seek : MethodName := ⟨RX2, "seek", "(LPastureBids$BestSet;IIIII)V"⟩
abbrev cX2_seekWith : ByteArray := prog_1_method_41_code
def yX2_seekWith : MethodName := ⟨RX2, "seekWith", "(LPastureBids$BestSet;IIIII)V"⟩
abbrev cX2_winsWith : ByteArray := prog_1_method_42_code
def yX2_winsWith : MethodName := ⟨RX2, "winsWith", "(II)Z"⟩
abbrev cX2_profit : ByteArray := prog_1_method_43_code
def yX2_profit : MethodName := ⟨RX2, "profit", "(LPastureBids$Sale;I)I"⟩
abbrev cX2_totalProfit : ByteArray := prog_1_method_44_code
def yX2_totalProfit : MethodName := ⟨RX2, "totalProfit", "()I"⟩
abbrev cX2_winningPrices : ByteArray := prog_1_method_45_code
def yX2_winningPrices : MethodName := ⟨RX2, "winningPrices", "()I"⟩
abbrev cX2_soldFields : ByteArray := prog_1_method_46_code
def yX2_soldFields : MethodName := ⟨RX2, "soldFields", "()I"⟩
abbrev cX2_winnerOfField : ByteArray := prog_1_method_47_code
def yX2_winnerOfField : MethodName := ⟨RX2, "winnerOfField", "(I)I"⟩
abbrev cX2_highestAlone : ByteArray := prog_1_method_48_code
def yX2_highestAlone : MethodName := ⟨RX2, "highestAlone", "(II)I"⟩
abbrev cX2_secondPrice : ByteArray := prog_1_method_49_code
def yX2_secondPrice : MethodName := ⟨RX2, "secondPrice", "(II)I"⟩
def RX3 : String := "PastureBidsModel"
def TX3 : u_T := fun k => match k with
  | 0 => ("PastureBidsModel", "thrown", "I", false)
  | 1 => ("PastureBidsModel", "fields", "I", false)
  | 2 => ("PastureBidsModel", "bidders", "I", false)
  | 3 => ("PastureBidsModel", "bids", "I", false)
  | 4 => ("PastureBidsModel", "out", "I", false)
  | 5 => ("PastureBidsModel", "reserves", "[I", true)
  | 6 => ("PastureBidsModel", "rows", "[I", true)
  | 7 => ("PastureBidsModel", "land", "[I", true)
  | 8 => ("PastureBidsModel", "people", "[I", true)
  | 9 => ("PastureBidsModel", "gains", "[I", true)
  | _ => ("PastureBidsModel", "sizes", "[I", true)
def tyX3 : Nat → FieldType := fun k => match k with
  | 0 => .int
  | 1 => .int
  | 2 => .int
  | 3 => .int
  | 4 => .int
  | 5 => .array .int
  | 6 => .array .int
  | 7 => .array .int
  | 8 => .array .int
  | 9 => .array .int
  | _ => .array .int
abbrev wsX30 : List Cond := u_ws RX3 TX3 11
theorem nmX3 : ∀ a, a < 11 → ∀ b, b < 11 → a ≠ b → (TX3 a).2.1 ≠ (TX3 b).2.1 := by decide +kernel
theorem tyX3_ok : ∀ k, k < 11 → parseFieldDescriptor (TX3 k).2.2.1 = some (tyX3 k) := by decide +kernel
abbrev cX3_init : ByteArray := prog_5_method_1_code
def yX3_init : MethodName := ⟨RX3, "<init>", "()V"⟩
abbrev cX3_thrown : ByteArray := prog_5_method_2_code
def yX3_thrown : MethodName := ⟨RX3, "thrown", "()I"⟩
abbrev cX3_fail : ByteArray := prog_5_method_3_code
def yX3_fail : MethodName := ⟨RX3, "fail", "(I)I"⟩
abbrev cX3_isIn : ByteArray := prog_5_method_4_code
def yX3_isIn : MethodName := ⟨RX3, "isIn", "(III)Z"⟩
abbrev cX3_isPrice : ByteArray := prog_5_method_5_code
def yX3_isPrice : MethodName := ⟨RX3, "isPrice", "(I)Z"⟩
abbrev cX3_isField : ByteArray := prog_5_method_6_code
def yX3_isField : MethodName := ⟨RX3, "isField", "(I)Z"⟩
abbrev cX3_isBidder : ByteArray := prog_5_method_7_code
def yX3_isBidder : MethodName := ⟨RX3, "isBidder", "(I)Z"⟩
abbrev cX3_isBid : ByteArray := prog_5_method_8_code
def yX3_isBid : MethodName := ⟨RX3, "isBid", "(I)Z"⟩
abbrev cX3_bi : ByteArray := prog_5_method_9_code
def yX3_bi : MethodName := ⟨RX3, "bi", "(II)I"⟩
abbrev cX3_bit : ByteArray := prog_5_method_10_code
def yX3_bit : MethodName := ⟨RX3, "bit", "(II)I"⟩
abbrev cX3_reserveOf : ByteArray := prog_5_method_11_code
def yX3_reserveOf : MethodName := ⟨RX3, "reserveOf", "(I)I"⟩
abbrev cX3_gain : ByteArray := prog_5_method_12_code
def yX3_gain : MethodName := ⟨RX3, "gain", "(I)I"⟩
abbrev cX3_isCounted : ByteArray := prog_5_method_13_code
def yX3_isCounted : MethodName := ⟨RX3, "isCounted", "(I)Z"⟩
abbrev cX3_sale : ByteArray := prog_5_method_14_code
def yX3_sale : MethodName := ⟨RX3, "sale", "()I"⟩
abbrev cX3_sumWithout : ByteArray := prog_5_method_15_code
def yX3_sumWithout : MethodName := ⟨RX3, "sumWithout", "(I)I"⟩
abbrev cX3_bidOf : ByteArray := prog_5_method_16_code
def yX3_bidOf : MethodName := ⟨RX3, "bidOf", "(II)I"⟩
abbrev cX3_paid : ByteArray := prog_5_method_17_code
def yX3_paid : MethodName := ⟨RX3, "paid", "(I)I"⟩
abbrev cX3_profit : ByteArray := prog_5_method_18_code
def yX3_profit : MethodName := ⟨RX3, "profit", "(I)I"⟩
abbrev cX3_allPaid : ByteArray := prog_5_method_19_code
def yX3_allPaid : MethodName := ⟨RX3, "allPaid", "()I"⟩
abbrev cX3_field : ByteArray := prog_5_method_20_code
def yX3_field : MethodName := ⟨RX3, "field", "(I)I"⟩
abbrev cX3_setReserve : ByteArray := prog_5_method_21_code
def yX3_setReserve : MethodName := ⟨RX3, "setReserve", "(II)I"⟩
abbrev cX3_join : ByteArray := prog_5_method_22_code
def yX3_join : MethodName := ⟨RX3, "join", "()I"⟩
abbrev cX3_setIn : ByteArray := prog_5_method_23_code
def yX3_setIn : MethodName := ⟨RX3, "setIn", "(IZ)Z"⟩
abbrev cX3_bid : ByteArray := prog_5_method_24_code
def yX3_bid : MethodName := ⟨RX3, "bid", "(III)I"⟩
abbrev cX3_change : ByteArray := prog_5_method_25_code
def yX3_change : MethodName := ⟨RX3, "change", "(III)I"⟩
abbrev cX3_setPrice : ByteArray := prog_5_method_26_code
def yX3_setPrice : MethodName := ⟨RX3, "setPrice", "(II)I"⟩
abbrev cX3_setWorth : ByteArray := prog_5_method_27_code
def yX3_setWorth : MethodName := ⟨RX3, "setWorth", "(II)I"⟩
abbrev cX3_withdraw : ByteArray := prog_5_method_28_code
def yX3_withdraw : MethodName := ⟨RX3, "withdraw", "(I)I"⟩
abbrev cX3_bidTold : ByteArray := prog_5_method_29_code
def yX3_bidTold : MethodName := ⟨RX3, "bidTold", "(II)I"⟩
abbrev cX3_told : ByteArray := prog_5_method_30_code
def yX3_told : MethodName := ⟨RX3, "told", "(II)I"⟩
abbrev cX3_bidderTold : ByteArray := prog_5_method_31_code
def yX3_bidderTold : MethodName := ⟨RX3, "bidderTold", "(II)I"⟩
abbrev cX3_about : ByteArray := prog_5_method_32_code
def yX3_about : MethodName := ⟨RX3, "about", "(II)I"⟩
abbrev cX3_fieldTold : ByteArray := prog_5_method_33_code
def yX3_fieldTold : MethodName := ⟨RX3, "fieldTold", "(II)I"⟩
abbrev cX3_land : ByteArray := prog_5_method_34_code
def yX3_land : MethodName := ⟨RX3, "land", "(II)I"⟩
abbrev cX3_counted : ByteArray := prog_5_method_35_code
def yX3_counted : MethodName := ⟨RX3, "counted", "(I)I"⟩
abbrev cX3_count : ByteArray := prog_5_method_36_code
def yX3_count : MethodName := ⟨RX3, "count", "(I)I"⟩
abbrev cX3_aloneTold : ByteArray := prog_5_method_37_code
def yX3_aloneTold : MethodName := ⟨RX3, "aloneTold", "(II)I"⟩
abbrev cX3_alone : ByteArray := prog_5_method_38_code
def yX3_alone : MethodName := ⟨RX3, "alone", "(II)I"⟩
abbrev cX3_tried : ByteArray := prog_5_method_39_code
def yX3_tried : MethodName := ⟨RX3, "tried", "(III)I"⟩
abbrev cX3_would : ByteArray := prog_5_method_40_code
def yX3_would : MethodName := ⟨RX3, "would", "(III)I"⟩
abbrev cX3_least : ByteArray := prog_5_method_41_code
def yX3_least : MethodName := ⟨RX3, "least", "(I)I"⟩
abbrev cX3_rival : ByteArray := prog_5_method_42_code
def yX3_rival : MethodName := ⟨RX3, "rival", "()I"⟩
abbrev cX3_mean : ByteArray := prog_5_method_43_code
def yX3_mean : MethodName := ⟨RX3, "mean", "()D"⟩
abbrev cX3_digest : ByteArray := prog_5_method_44_code
def yX3_digest : MethodName := ⟨RX3, "digest", "()J"⟩
def RJx145de : String := "java/io/Serializable"
def TJx145de : u_T := fun k => match k with
  | _ => ("", "", "", false)
def tyJx145de : Nat → FieldType := fun k => match k with
  | _ => .int
abbrev wsJx145de0 : List Cond := u_ws RJx145de TJx145de 0
theorem nmJx145de : ∀ a, a < 0 → ∀ b, b < 0 → a ≠ b → (TJx145de a).2.1 ≠ (TJx145de b).2.1 := by decide +kernel
theorem tyJx145de_ok : ∀ k, k < 0 → parseFieldDescriptor (TJx145de k).2.2.1 = some (tyJx145de k) := by decide +kernel
def RJ6 : String := "java/lang/Integer"
def TJ6 : u_T := fun k => match k with
  | _ => ("", "", "", false)
def tyJ6 : Nat → FieldType := fun k => match k with
  | _ => .int
abbrev wsJ60 : List Cond := u_ws RJ6 TJ6 0
theorem nmJ6 : ∀ a, a < 0 → ∀ b, b < 0 → a ≠ b → (TJ6 a).2.1 ≠ (TJ6 b).2.1 := by decide +kernel
theorem tyJ6_ok : ∀ k, k < 0 → parseFieldDescriptor (TJ6 k).2.2.1 = some (tyJ6 k) := by decide +kernel
abbrev cJ6_bitCount_0f7a4 : ByteArray := prog_10_method_49_code
def yJ6_bitCount_0f7a4 : MethodName := ⟨RJ6, "bitCount", "(I)I"⟩
def RJ9 : String := "java/lang/Math"
def TJ9 : u_T := fun k => match k with
  | _ => ("", "", "", false)
def tyJ9 : Nat → FieldType := fun k => match k with
  | _ => .int
abbrev wsJ90 : List Cond := u_ws RJ9 TJ9 0
theorem nmJ9 : ∀ a, a < 0 → ∀ b, b < 0 → a ≠ b → (TJ9 a).2.1 ≠ (TJ9 b).2.1 := by decide +kernel
theorem tyJ9_ok : ∀ k, k < 0 → parseFieldDescriptor (TJ9 k).2.2.1 = some (tyJ9 k) := by decide +kernel
abbrev cJ9_max_7cf53 : ByteArray := prog_11_method_65_code
def yJ9_max_7cf53 : MethodName := ⟨RJ9, "max", "(II)I"⟩
def RJ0 : String := "java/lang/String"
def TJ0 : u_T := fun k => match k with
  | _ => ("", "", "", false)
def tyJ0 : Nat → FieldType := fun k => match k with
  | _ => .int
abbrev wsJ00 : List Cond := u_ws RJ0 TJ0 0
theorem nmJ0 : ∀ a, a < 0 → ∀ b, b < 0 → a ≠ b → (TJ0 a).2.1 ≠ (TJ0 b).2.1 := by decide +kernel
theorem tyJ0_ok : ∀ k, k < 0 → parseFieldDescriptor (TJ0 k).2.2.1 = some (tyJ0 k) := by decide +kernel
def RJ10 : String := "java/lang/System"
def TJ10 : u_T := fun k => match k with
  | _ => ("", "", "", false)
def tyJ10 : Nat → FieldType := fun k => match k with
  | _ => .int
abbrev wsJ100 : List Cond := u_ws RJ10 TJ10 0
theorem nmJ10 : ∀ a, a < 0 → ∀ b, b < 0 → a ≠ b → (TJ10 a).2.1 ≠ (TJ10 b).2.1 := by decide +kernel
theorem tyJ10_ok : ∀ k, k < 0 → parseFieldDescriptor (TJ10 k).2.2.1 = some (tyJ10 k) := by decide +kernel
def RJ7 : String := "java/util/Arrays"
def TJ7 : u_T := fun k => match k with
  | _ => ("", "", "", false)
def tyJ7 : Nat → FieldType := fun k => match k with
  | _ => .int
abbrev wsJ70 : List Cond := u_ws RJ7 TJ7 0
theorem nmJ7 : ∀ a, a < 0 → ∀ b, b < 0 → a ≠ b → (TJ7 a).2.1 ≠ (TJ7 b).2.1 := by decide +kernel
theorem tyJ7_ok : ∀ k, k < 0 → parseFieldDescriptor (TJ7 k).2.2.1 = some (tyJ7 k) := by decide +kernel
abbrev cJ7_fill_53178 : ByteArray := prog_16_method_103_code
def yJ7_fill_53178 : MethodName := ⟨RJ7, "fill", "([II)V"⟩
def RL : String := "PastureBidsLaw"
abbrev cL_field : ByteArray := method_3_code
def yL_field : MethodName := ⟨RL, "field", "(LPastureBids;I[J)I"⟩
abbrev cL_setReserve : ByteArray := method_4_code
def yL_setReserve : MethodName := ⟨RL, "setReserve", "(LPastureBids;II[J)I"⟩
abbrev cL_join : ByteArray := method_5_code
def yL_join : MethodName := ⟨RL, "join", "(LPastureBids;[J)I"⟩
abbrev cL_setIn : ByteArray := method_6_code
def yL_setIn : MethodName := ⟨RL, "setIn", "(LPastureBids;IZ[J)I"⟩
abbrev cL_bid : ByteArray := method_7_code
def yL_bid : MethodName := ⟨RL, "bid", "(LPastureBids;III[J)I"⟩
abbrev cL_setPrice : ByteArray := method_8_code
def yL_setPrice : MethodName := ⟨RL, "setPrice", "(LPastureBids;II[J)I"⟩
abbrev cL_setWorth : ByteArray := method_9_code
def yL_setWorth : MethodName := ⟨RL, "setWorth", "(LPastureBids;II[J)I"⟩
abbrev cL_withdraw : ByteArray := method_10_code
def yL_withdraw : MethodName := ⟨RL, "withdraw", "(LPastureBids;I[J)I"⟩
abbrev cL_told : ByteArray := method_11_code
def yL_told : MethodName := ⟨RL, "told", "(LPastureBids;II[J)I"⟩
abbrev cL_about : ByteArray := method_12_code
def yL_about : MethodName := ⟨RL, "about", "(LPastureBids;II[J)I"⟩
abbrev cL_land : ByteArray := method_13_code
def yL_land : MethodName := ⟨RL, "land", "(LPastureBids;II[J)I"⟩
abbrev cL_count : ByteArray := method_14_code
def yL_count : MethodName := ⟨RL, "count", "(LPastureBids;I[J)I"⟩
abbrev cL_alone : ByteArray := method_15_code
def yL_alone : MethodName := ⟨RL, "alone", "(LPastureBids;II[J)I"⟩
abbrev cL_would : ByteArray := method_16_code
def yL_would : MethodName := ⟨RL, "would", "(LPastureBids;III[J)I"⟩
abbrev cL_least : ByteArray := method_17_code
def yL_least : MethodName := ⟨RL, "least", "(LPastureBids;I[J)I"⟩
abbrev cL_law : ByteArray := code
def yL_law : MethodName := ⟨RL, "law", "([I)Z"⟩
def wsX0_init : List Cond := .code yX0_init cX0_init 1 none :: ([.methodLink RX0 1 objectInit, .instanceMethod objectInit, .code objectInit ⟨#[0xb1]⟩ 1 none])
def wsX0_clear : List Cond := .code yX0_clear cX0_clear 1 none :: ([.fieldLink RX0 7 "PastureBids$BestSet" "gained" "I", .fieldLink RX0 13 "PastureBids$BestSet" "bids" "I"] ++ wsX00)
def wsJ6_bitCount_0f7a4 : List Cond := .code yJ6_bitCount_0f7a4 cJ6_bitCount_0f7a4 1 (some .int) :: ([.constant RJ6 265 (1431655765), .constant RJ6 266 (858993459), .constant RJ6 267 (252645135)])
def wsX0_isBeatenBy : List Cond := .code yX0_isBeatenBy cX0_isBeatenBy 5 (some .boolean) :: ([.fieldLink RX0 7 "PastureBids$BestSet" "gained" "I", .fieldLink RX0 13 "PastureBids$BestSet" "bids" "I", .methodLink RX0 20 yJ6_bitCount_0f7a4, .static yJ6_bitCount_0f7a4, .initialized RJ6, .code yJ6_bitCount_0f7a4 cJ6_bitCount_0f7a4 1 (some .int), .constant RJ6 265 (1431655765), .constant RJ6 266 (858993459), .constant RJ6 267 (252645135)] ++ wsX00)
def wsX0_consider : List Cond := .code yX0_consider cX0_consider 3 none :: ([.fieldLink RX0 7 "PastureBids$BestSet" "gained" "I", .fieldLink RX0 13 "PastureBids$BestSet" "bids" "I", .methodLink RX0 16 yX0_isBeatenBy, .instanceMethod yX0_isBeatenBy, .selects RX0 yX0_isBeatenBy yX0_isBeatenBy, .initialized RX0, .code yX0_isBeatenBy cX0_isBeatenBy 5 (some .boolean), .methodLink RX0 20 yJ6_bitCount_0f7a4, .static yJ6_bitCount_0f7a4, .initialized RJ6, .code yJ6_bitCount_0f7a4 cJ6_bitCount_0f7a4 1 (some .int), .constant RJ6 265 (1431655765), .constant RJ6 266 (858993459), .constant RJ6 267 (252645135)] ++ wsX00)
def wsX0_has : List Cond := .code yX0_has cX0_has 2 (some .boolean) :: ([.fieldLink RX0 13 "PastureBids$BestSet" "bids" "I"] ++ wsX00)
def wsX1_init : List Cond := .code yX1_init cX1_init 1 none :: ([.methodLink RX1 3 objectInit, .instanceMethod objectInit, .code objectInit ⟨#[0xb1]⟩ 1 none, .classLink RX1 9 RX0, .instantiable RX0 2, .initialized RX0, .fieldLink RX1 12 "PastureBids$Sale" "winners" "LPastureBids$BestSet;", .arrayClass .int, .fieldLink RX1 18 "PastureBids$Sale" "winningBids" "[I", .fieldLink RX1 22 "PastureBids$Sale" "paid" "[I", .fieldLink RX1 25 "PastureBids$Sale" "gainedWithout" "[I", .instanceMethod yX0_init, .code yX0_init cX0_init 1 none, .methodLink RX0 1 objectInit] ++ wsX00 ++ wsX10)
def wsJ7_fill_53178 : List Cond := .code yJ7_fill_53178 cJ7_fill_53178 4 none :: ([])
def wsX1_clear : List Cond := .code yX1_clear cX1_clear 1 none :: ([.fieldLink RX1 12 "PastureBids$Sale" "winners" "LPastureBids$BestSet;", .fieldLink RX1 18 "PastureBids$Sale" "winningBids" "[I", .fieldLink RX1 22 "PastureBids$Sale" "paid" "[I", .fieldLink RX1 25 "PastureBids$Sale" "gainedWithout" "[I", .instanceMethod yX0_clear, .initialized RX0, .selects RX0 yX0_clear yX0_clear, .code yX0_clear cX0_clear 1 none, .fieldLink RX0 7 "PastureBids$BestSet" "gained" "I", .fieldLink RX0 13 "PastureBids$BestSet" "bids" "I", .methodLink RX1 31 yJ7_fill_53178, .static yJ7_fill_53178, .initialized RJ7, .code yJ7_fill_53178 cJ7_fill_53178 4 none] ++ wsX10 ++ wsX00)
def wsX1_totalPaid : List Cond := .code yX1_totalPaid cX1_totalPaid 6 (some .int) :: ([.fieldLink RX1 22 "PastureBids$Sale" "paid" "[I"] ++ wsX10)
def wsX2_counts : List Cond := .code yX2_counts cX2_counts 2 (some .boolean) :: ([.fieldLink RX2 32 "PastureBids" "withdrawn" "[Z", .fieldLink RX2 13 "PastureBids" "ins" "[Z", .fieldLink RX2 17 "PastureBids" "owners" "[I", .fieldLink RX2 26 "PastureBids" "gains" "[I"] ++ wsX20)
def wsX2_seek_r1 : List Cond := [Cond.fieldLink RX2 74 "PastureBids" "bidCount" "I", Cond.instanceMethod yX0_consider, Cond.initialized RX0, Cond.selects RX0 yX0_consider yX0_consider, Cond.code yX0_consider cX0_consider 3 none, Cond.fieldLink RX0 7 "PastureBids$BestSet" "gained" "I", Cond.fieldLink RX0 13 "PastureBids$BestSet" "bids" "I", Cond.methodLink RX0 16 yX0_isBeatenBy, Cond.instanceMethod yX0_isBeatenBy, Cond.selects RX0 yX0_isBeatenBy yX0_isBeatenBy, Cond.code yX0_isBeatenBy cX0_isBeatenBy 5 (some .boolean), Cond.methodLink RX0 20 yJ6_bitCount_0f7a4, Cond.static yJ6_bitCount_0f7a4, Cond.initialized RJ6, Cond.code yJ6_bitCount_0f7a4 cJ6_bitCount_0f7a4 1 (some .int), Cond.constant RJ6 265 (1431655765), Cond.constant RJ6 266 (858993459), Cond.constant RJ6 267 (252645135), Cond.methodLink RX2 250 yX2_seekWith, Cond.instanceMethod yX2_seekWith, Cond.selects RX2 yX2_seekWith yX2_seekWith, Cond.initialized RX2, Cond.code yX2_seekWith cX2_seekWith 9 none, Cond.fieldLink RX2 17 "PastureBids" "owners" "[I"]
def wsX2_seek_r2 : List Cond := [Cond.fieldLink RX2 20 "PastureBids" "bundles" "[I", Cond.fieldLink RX2 26 "PastureBids" "gains" "[I", Cond.methodLink RX2 113 yX2_counts, Cond.instanceMethod yX2_counts, Cond.selects RX2 yX2_counts yX2_counts, Cond.code yX2_counts cX2_counts 2 (some .boolean), Cond.fieldLink RX2 32 "PastureBids" "withdrawn" "[Z", Cond.fieldLink RX2 13 "PastureBids" "ins" "[Z", Cond.methodLink RX2 243 yX2_seek, Cond.instanceMethod yX2_seek, Cond.selects RX2 yX2_seek yX2_seek]
def wsX2_seek : List Cond := .code yX2_seek cX2_seek 8 none :: ((wsX2_seek_r1 ++ wsX2_seek_r2) ++ wsX20 ++ wsX00)
def wsX2_seekWith_r1 : List Cond := [Cond.fieldLink RX2 17 "PastureBids" "owners" "[I", Cond.fieldLink RX2 20 "PastureBids" "bundles" "[I", Cond.fieldLink RX2 26 "PastureBids" "gains" "[I", Cond.methodLink RX2 113 yX2_counts, Cond.instanceMethod yX2_counts, Cond.selects RX2 yX2_counts yX2_counts, Cond.initialized RX2, Cond.code yX2_counts cX2_counts 2 (some .boolean), Cond.fieldLink RX2 32 "PastureBids" "withdrawn" "[Z", Cond.fieldLink RX2 13 "PastureBids" "ins" "[Z", Cond.methodLink RX2 243 yX2_seek, Cond.instanceMethod yX2_seek, Cond.selects RX2 yX2_seek yX2_seek, Cond.code yX2_seek cX2_seek 8 none, Cond.fieldLink RX2 74 "PastureBids" "bidCount" "I", Cond.instanceMethod yX0_consider, Cond.initialized RX0, Cond.selects RX0 yX0_consider yX0_consider, Cond.code yX0_consider cX0_consider 3 none, Cond.fieldLink RX0 7 "PastureBids$BestSet" "gained" "I", Cond.fieldLink RX0 13 "PastureBids$BestSet" "bids" "I", Cond.methodLink RX0 16 yX0_isBeatenBy, Cond.instanceMethod yX0_isBeatenBy, Cond.selects RX0 yX0_isBeatenBy yX0_isBeatenBy]
def wsX2_seekWith_r2 : List Cond := [Cond.code yX0_isBeatenBy cX0_isBeatenBy 5 (some .boolean), Cond.methodLink RX0 20 yJ6_bitCount_0f7a4, Cond.static yJ6_bitCount_0f7a4, Cond.initialized RJ6, Cond.code yJ6_bitCount_0f7a4 cJ6_bitCount_0f7a4 1 (some .int), Cond.constant RJ6 265 (1431655765), Cond.constant RJ6 266 (858993459), Cond.constant RJ6 267 (252645135), Cond.methodLink RX2 250 yX2_seekWith, Cond.instanceMethod yX2_seekWith, Cond.selects RX2 yX2_seekWith yX2_seekWith]
def wsX2_seekWith : List Cond := .code yX2_seekWith cX2_seekWith 9 none :: ((wsX2_seekWith_r1 ++ wsX2_seekWith_r2) ++ wsX20 ++ wsX00)
def wsX2_findWinners_r1 : List Cond := [Cond.instanceMethod yX0_clear, Cond.initialized RX0, Cond.selects RX0 yX0_clear yX0_clear, Cond.code yX0_clear cX0_clear 1 none, Cond.fieldLink RX0 7 "PastureBids$BestSet" "gained" "I", Cond.fieldLink RX0 13 "PastureBids$BestSet" "bids" "I", Cond.methodLink RX2 243 yX2_seek, Cond.instanceMethod yX2_seek, Cond.selects RX2 yX2_seek yX2_seek, Cond.initialized RX2, Cond.code yX2_seek cX2_seek 8 none, Cond.fieldLink RX2 74 "PastureBids" "bidCount" "I", Cond.instanceMethod yX0_consider, Cond.selects RX0 yX0_consider yX0_consider, Cond.code yX0_consider cX0_consider 3 none, Cond.methodLink RX0 16 yX0_isBeatenBy, Cond.instanceMethod yX0_isBeatenBy, Cond.selects RX0 yX0_isBeatenBy yX0_isBeatenBy, Cond.code yX0_isBeatenBy cX0_isBeatenBy 5 (some .boolean), Cond.methodLink RX0 20 yJ6_bitCount_0f7a4, Cond.static yJ6_bitCount_0f7a4, Cond.initialized RJ6, Cond.code yJ6_bitCount_0f7a4 cJ6_bitCount_0f7a4 1 (some .int), Cond.constant RJ6 265 (1431655765)]
def wsX2_findWinners_r2 : List Cond := [Cond.constant RJ6 266 (858993459), Cond.constant RJ6 267 (252645135), Cond.methodLink RX2 250 yX2_seekWith, Cond.instanceMethod yX2_seekWith, Cond.selects RX2 yX2_seekWith yX2_seekWith, Cond.code yX2_seekWith cX2_seekWith 9 none, Cond.fieldLink RX2 17 "PastureBids" "owners" "[I", Cond.fieldLink RX2 20 "PastureBids" "bundles" "[I", Cond.fieldLink RX2 26 "PastureBids" "gains" "[I", Cond.methodLink RX2 113 yX2_counts, Cond.instanceMethod yX2_counts, Cond.selects RX2 yX2_counts yX2_counts, Cond.code yX2_counts cX2_counts 2 (some .boolean), Cond.fieldLink RX2 32 "PastureBids" "withdrawn" "[Z", Cond.fieldLink RX2 13 "PastureBids" "ins" "[Z"]
def wsX2_findWinners : List Cond := .code yX2_findWinners cX2_findWinners 3 none :: ((wsX2_findWinners_r1 ++ wsX2_findWinners_r2) ++ wsX00 ++ wsX20)
def wsX2_hasField : List Cond := .code yX2_hasField cX2_hasField 2 (some .boolean) :: ([])
def wsX2_reservesOf : List Cond := .code yX2_reservesOf cX2_reservesOf 4 (some .int) :: ([.fieldLink RX2 60 "PastureBids" "fieldCount" "I", .fieldLink RX2 9 "PastureBids" "reserves" "[I", .methodLink RX2 229 yX2_hasField, .static yX2_hasField, .initialized RX2, .code yX2_hasField cX2_hasField 2 (some .boolean)] ++ wsX20)
def wsX2_award : List Cond := .code yX2_award cX2_award 5 none :: ([.fieldLink RX2 17 "PastureBids" "owners" "[I", .fieldLink RX2 26 "PastureBids" "gains" "[I", .fieldLink RX2 20 "PastureBids" "bundles" "[I", .methodLink RX2 226 yX2_reservesOf, .instanceMethod yX2_reservesOf, .selects RX2 yX2_reservesOf yX2_reservesOf, .initialized RX2, .code yX2_reservesOf cX2_reservesOf 4 (some .int), .fieldLink RX2 60 "PastureBids" "fieldCount" "I", .fieldLink RX2 9 "PastureBids" "reserves" "[I", .methodLink RX2 229 yX2_hasField, .static yX2_hasField, .code yX2_hasField cX2_hasField 2 (some .boolean)] ++ wsX20 ++ wsX10 ++ wsX00)
def wsX2_settle_r1 : List Cond := [Cond.fieldLink RX2 81 "PastureBids" "bidderCount" "I", Cond.fieldLink RX2 48 "PastureBids" "search" "LPastureBids$BestSet;", Cond.fieldLink RX2 74 "PastureBids" "bidCount" "I", Cond.instanceMethod yX1_clear, Cond.initialized RX1, Cond.selects RX1 yX1_clear yX1_clear, Cond.code yX1_clear cX1_clear 1 none, Cond.fieldLink RX1 12 "PastureBids$Sale" "winners" "LPastureBids$BestSet;", Cond.fieldLink RX1 18 "PastureBids$Sale" "winningBids" "[I", Cond.fieldLink RX1 22 "PastureBids$Sale" "paid" "[I", Cond.fieldLink RX1 25 "PastureBids$Sale" "gainedWithout" "[I", Cond.instanceMethod yX0_clear, Cond.initialized RX0, Cond.selects RX0 yX0_clear yX0_clear, Cond.code yX0_clear cX0_clear 1 none, Cond.fieldLink RX0 7 "PastureBids$BestSet" "gained" "I", Cond.fieldLink RX0 13 "PastureBids$BestSet" "bids" "I", Cond.methodLink RX1 31 yJ7_fill_53178, Cond.static yJ7_fill_53178, Cond.initialized RJ7, Cond.code yJ7_fill_53178 cJ7_fill_53178 4 none, Cond.methodLink RX2 235 yX2_findWinners, Cond.instanceMethod yX2_findWinners, Cond.selects RX2 yX2_findWinners yX2_findWinners]
def wsX2_settle_r2 : List Cond := [Cond.initialized RX2, Cond.code yX2_findWinners cX2_findWinners 3 none, Cond.methodLink RX2 243 yX2_seek, Cond.instanceMethod yX2_seek, Cond.selects RX2 yX2_seek yX2_seek, Cond.code yX2_seek cX2_seek 8 none, Cond.instanceMethod yX0_consider, Cond.selects RX0 yX0_consider yX0_consider, Cond.code yX0_consider cX0_consider 3 none, Cond.methodLink RX0 16 yX0_isBeatenBy, Cond.instanceMethod yX0_isBeatenBy, Cond.selects RX0 yX0_isBeatenBy yX0_isBeatenBy, Cond.code yX0_isBeatenBy cX0_isBeatenBy 5 (some .boolean), Cond.methodLink RX0 20 yJ6_bitCount_0f7a4, Cond.static yJ6_bitCount_0f7a4, Cond.initialized RJ6, Cond.code yJ6_bitCount_0f7a4 cJ6_bitCount_0f7a4 1 (some .int), Cond.constant RJ6 265 (1431655765), Cond.constant RJ6 266 (858993459), Cond.constant RJ6 267 (252645135), Cond.methodLink RX2 250 yX2_seekWith, Cond.instanceMethod yX2_seekWith, Cond.selects RX2 yX2_seekWith yX2_seekWith, Cond.code yX2_seekWith cX2_seekWith 9 none]
def wsX2_settle_r3 : List Cond := [Cond.fieldLink RX2 17 "PastureBids" "owners" "[I", Cond.fieldLink RX2 20 "PastureBids" "bundles" "[I", Cond.fieldLink RX2 26 "PastureBids" "gains" "[I", Cond.methodLink RX2 113 yX2_counts, Cond.instanceMethod yX2_counts, Cond.selects RX2 yX2_counts yX2_counts, Cond.code yX2_counts cX2_counts 2 (some .boolean), Cond.fieldLink RX2 32 "PastureBids" "withdrawn" "[Z", Cond.fieldLink RX2 13 "PastureBids" "ins" "[Z", Cond.instanceMethod yX0_has, Cond.selects RX0 yX0_has yX0_has, Cond.code yX0_has cX0_has 2 (some .boolean), Cond.methodLink RX2 239 yX2_award, Cond.instanceMethod yX2_award, Cond.selects RX2 yX2_award yX2_award, Cond.code yX2_award cX2_award 5 none, Cond.methodLink RX2 226 yX2_reservesOf, Cond.instanceMethod yX2_reservesOf, Cond.selects RX2 yX2_reservesOf yX2_reservesOf, Cond.code yX2_reservesOf cX2_reservesOf 4 (some .int), Cond.fieldLink RX2 60 "PastureBids" "fieldCount" "I", Cond.fieldLink RX2 9 "PastureBids" "reserves" "[I", Cond.methodLink RX2 229 yX2_hasField, Cond.static yX2_hasField]
def wsX2_settle_r4 : List Cond := [Cond.code yX2_hasField cX2_hasField 2 (some .boolean)]
def wsX2_settle : List Cond := .code yX2_settle cX2_settle 4 none :: ((wsX2_settle_r1 ++ (wsX2_settle_r2 ++ (wsX2_settle_r3 ++ wsX2_settle_r4))) ++ wsX10 ++ wsX20 ++ wsX00)
def wsX2_init_r1 : List Cond := [Cond.methodLink RX2 1 objectInit, Cond.instanceMethod objectInit, Cond.code objectInit ⟨#[0xb1]⟩ 1 none, Cond.arrayClass .int, Cond.fieldLink RX2 9 "PastureBids" "reserves" "[I", Cond.arrayClass .boolean, Cond.fieldLink RX2 13 "PastureBids" "ins" "[Z", Cond.fieldLink RX2 17 "PastureBids" "owners" "[I", Cond.fieldLink RX2 20 "PastureBids" "bundles" "[I", Cond.fieldLink RX2 23 "PastureBids" "prices" "[I", Cond.fieldLink RX2 26 "PastureBids" "gains" "[I", Cond.fieldLink RX2 29 "PastureBids" "worths" "[I", Cond.fieldLink RX2 32 "PastureBids" "withdrawn" "[Z", Cond.classLink RX2 35 RX1, Cond.instantiable RX1 4, Cond.initialized RX1, Cond.fieldLink RX2 38 "PastureBids" "sale" "LPastureBids$Sale;", Cond.fieldLink RX2 42 "PastureBids" "imagined" "LPastureBids$Sale;", Cond.classLink RX2 45 RX0, Cond.instantiable RX0 2, Cond.initialized RX0, Cond.fieldLink RX2 48 "PastureBids" "search" "LPastureBids$BestSet;", Cond.instanceMethod yX1_init, Cond.code yX1_init cX1_init 1 none]
def wsX2_init_r2 : List Cond := [Cond.methodLink RX1 3 objectInit, Cond.classLink RX1 9 RX0, Cond.fieldLink RX1 12 "PastureBids$Sale" "winners" "LPastureBids$BestSet;", Cond.fieldLink RX1 18 "PastureBids$Sale" "winningBids" "[I", Cond.fieldLink RX1 22 "PastureBids$Sale" "paid" "[I", Cond.fieldLink RX1 25 "PastureBids$Sale" "gainedWithout" "[I", Cond.instanceMethod yX0_init, Cond.code yX0_init cX0_init 1 none, Cond.methodLink RX0 1 objectInit, Cond.methodLink RX2 52 yX2_settle, Cond.instanceMethod yX2_settle, Cond.selects RX2 yX2_settle yX2_settle, Cond.initialized RX2, Cond.code yX2_settle cX2_settle 4 none, Cond.fieldLink RX2 81 "PastureBids" "bidderCount" "I", Cond.fieldLink RX2 74 "PastureBids" "bidCount" "I", Cond.instanceMethod yX1_clear, Cond.selects RX1 yX1_clear yX1_clear, Cond.code yX1_clear cX1_clear 1 none, Cond.instanceMethod yX0_clear, Cond.selects RX0 yX0_clear yX0_clear, Cond.code yX0_clear cX0_clear 1 none, Cond.fieldLink RX0 7 "PastureBids$BestSet" "gained" "I", Cond.fieldLink RX0 13 "PastureBids$BestSet" "bids" "I"]
def wsX2_init_r3 : List Cond := [Cond.methodLink RX1 31 yJ7_fill_53178, Cond.static yJ7_fill_53178, Cond.initialized RJ7, Cond.code yJ7_fill_53178 cJ7_fill_53178 4 none, Cond.methodLink RX2 235 yX2_findWinners, Cond.instanceMethod yX2_findWinners, Cond.selects RX2 yX2_findWinners yX2_findWinners, Cond.code yX2_findWinners cX2_findWinners 3 none, Cond.methodLink RX2 243 yX2_seek, Cond.instanceMethod yX2_seek, Cond.selects RX2 yX2_seek yX2_seek, Cond.code yX2_seek cX2_seek 8 none, Cond.instanceMethod yX0_consider, Cond.selects RX0 yX0_consider yX0_consider, Cond.code yX0_consider cX0_consider 3 none, Cond.methodLink RX0 16 yX0_isBeatenBy, Cond.instanceMethod yX0_isBeatenBy, Cond.selects RX0 yX0_isBeatenBy yX0_isBeatenBy, Cond.code yX0_isBeatenBy cX0_isBeatenBy 5 (some .boolean), Cond.methodLink RX0 20 yJ6_bitCount_0f7a4, Cond.static yJ6_bitCount_0f7a4, Cond.initialized RJ6, Cond.code yJ6_bitCount_0f7a4 cJ6_bitCount_0f7a4 1 (some .int), Cond.constant RJ6 265 (1431655765)]
def wsX2_init_r4 : List Cond := [Cond.constant RJ6 266 (858993459), Cond.constant RJ6 267 (252645135), Cond.methodLink RX2 250 yX2_seekWith, Cond.instanceMethod yX2_seekWith, Cond.selects RX2 yX2_seekWith yX2_seekWith, Cond.code yX2_seekWith cX2_seekWith 9 none, Cond.methodLink RX2 113 yX2_counts, Cond.instanceMethod yX2_counts, Cond.selects RX2 yX2_counts yX2_counts, Cond.code yX2_counts cX2_counts 2 (some .boolean), Cond.instanceMethod yX0_has, Cond.selects RX0 yX0_has yX0_has, Cond.code yX0_has cX0_has 2 (some .boolean), Cond.methodLink RX2 239 yX2_award, Cond.instanceMethod yX2_award, Cond.selects RX2 yX2_award yX2_award, Cond.code yX2_award cX2_award 5 none, Cond.methodLink RX2 226 yX2_reservesOf, Cond.instanceMethod yX2_reservesOf, Cond.selects RX2 yX2_reservesOf yX2_reservesOf, Cond.code yX2_reservesOf cX2_reservesOf 4 (some .int), Cond.fieldLink RX2 60 "PastureBids" "fieldCount" "I", Cond.methodLink RX2 229 yX2_hasField, Cond.static yX2_hasField]
def wsX2_init_r5 : List Cond := [Cond.code yX2_hasField cX2_hasField 2 (some .boolean)]
def wsX2_init : List Cond := .code yX2_init cX2_init 1 none :: ((wsX2_init_r1 ++ (wsX2_init_r2 ++ (wsX2_init_r3 ++ (wsX2_init_r4 ++ wsX2_init_r5)))) ++ wsX20 ++ wsX10 ++ wsX00)
def wsX2_requireReserve : List Cond := .code yX2_requireReserve cX2_requireReserve 1 none :: ([.classLink RX2 217 "java/lang/IllegalArgumentException", .initialized "java/lang/IllegalArgumentException"] ++ (vx_atS RX2 221 "java/lang/IllegalArgumentException" ["java/lang/RuntimeException", "java/lang/Exception"]).filter goodWord)
def wsX2_field : List Cond := .code yX2_field cX2_field 3 (some .int) :: ([.classLink RX2 64 "java/lang/IllegalStateException", .initialized "java/lang/IllegalStateException", .fieldLink RX2 60 "PastureBids" "fieldCount" "I", .fieldLink RX2 9 "PastureBids" "reserves" "[I", .methodLink RX2 56 yX2_requireReserve, .static yX2_requireReserve, .initialized RX2, .code yX2_requireReserve cX2_requireReserve 1 none, .classLink RX2 217 "java/lang/IllegalArgumentException", .initialized "java/lang/IllegalArgumentException"] ++ wsX20 ++ (vx_atS RX2 68 "java/lang/IllegalStateException" ["java/lang/RuntimeException", "java/lang/Exception"]).filter goodWord ++ (vx_atS RX2 221 "java/lang/IllegalArgumentException" ["java/lang/RuntimeException", "java/lang/Exception"]).filter goodWord)
def wsX2_requireField : List Cond := .code yX2_requireField cX2_requireField 2 none :: ([.classLink RX2 206 "java/lang/IndexOutOfBoundsException", .initialized "java/lang/IndexOutOfBoundsException", .fieldLink RX2 60 "PastureBids" "fieldCount" "I"] ++ wsX20 ++ (vx_atS RX2 210 "java/lang/IndexOutOfBoundsException" ["java/lang/RuntimeException", "java/lang/Exception"]).filter goodWord)
def wsX2_putPrice : List Cond := .code yX2_putPrice cX2_putPrice 3 none :: ([.fieldLink RX2 23 "PastureBids" "prices" "[I", .fieldLink RX2 26 "PastureBids" "gains" "[I", .fieldLink RX2 20 "PastureBids" "bundles" "[I", .methodLink RX2 226 yX2_reservesOf, .instanceMethod yX2_reservesOf, .selects RX2 yX2_reservesOf yX2_reservesOf, .initialized RX2, .code yX2_reservesOf cX2_reservesOf 4 (some .int), .fieldLink RX2 60 "PastureBids" "fieldCount" "I", .fieldLink RX2 9 "PastureBids" "reserves" "[I", .methodLink RX2 229 yX2_hasField, .static yX2_hasField, .code yX2_hasField cX2_hasField 2 (some .boolean)] ++ wsX20)
def wsX2_setReserve_r1 : List Cond := [Cond.fieldLink RX2 9 "PastureBids" "reserves" "[I", Cond.fieldLink RX2 74 "PastureBids" "bidCount" "I", Cond.fieldLink RX2 23 "PastureBids" "prices" "[I", Cond.fieldLink RX2 38 "PastureBids" "sale" "LPastureBids$Sale;", Cond.methodLink RX2 71 yX2_requireField, Cond.instanceMethod yX2_requireField, Cond.selects RX2 yX2_requireField yX2_requireField, Cond.initialized RX2, Cond.code yX2_requireField cX2_requireField 2 none, Cond.classLink RX2 206 "java/lang/IndexOutOfBoundsException", Cond.initialized "java/lang/IndexOutOfBoundsException", Cond.fieldLink RX2 60 "PastureBids" "fieldCount" "I", Cond.methodLink RX2 56 yX2_requireReserve, Cond.static yX2_requireReserve, Cond.code yX2_requireReserve cX2_requireReserve 1 none, Cond.classLink RX2 217 "java/lang/IllegalArgumentException", Cond.initialized "java/lang/IllegalArgumentException", Cond.methodLink RX2 77 yX2_putPrice, Cond.instanceMethod yX2_putPrice, Cond.selects RX2 yX2_putPrice yX2_putPrice, Cond.code yX2_putPrice cX2_putPrice 3 none, Cond.fieldLink RX2 26 "PastureBids" "gains" "[I", Cond.fieldLink RX2 20 "PastureBids" "bundles" "[I", Cond.methodLink RX2 226 yX2_reservesOf]
def wsX2_setReserve_r2 : List Cond := [Cond.instanceMethod yX2_reservesOf, Cond.selects RX2 yX2_reservesOf yX2_reservesOf, Cond.code yX2_reservesOf cX2_reservesOf 4 (some .int), Cond.methodLink RX2 229 yX2_hasField, Cond.static yX2_hasField, Cond.code yX2_hasField cX2_hasField 2 (some .boolean), Cond.methodLink RX2 52 yX2_settle, Cond.instanceMethod yX2_settle, Cond.selects RX2 yX2_settle yX2_settle, Cond.code yX2_settle cX2_settle 4 none, Cond.fieldLink RX2 81 "PastureBids" "bidderCount" "I", Cond.fieldLink RX2 48 "PastureBids" "search" "LPastureBids$BestSet;", Cond.instanceMethod yX1_clear, Cond.initialized RX1, Cond.selects RX1 yX1_clear yX1_clear, Cond.code yX1_clear cX1_clear 1 none, Cond.fieldLink RX1 12 "PastureBids$Sale" "winners" "LPastureBids$BestSet;", Cond.fieldLink RX1 18 "PastureBids$Sale" "winningBids" "[I", Cond.fieldLink RX1 22 "PastureBids$Sale" "paid" "[I", Cond.fieldLink RX1 25 "PastureBids$Sale" "gainedWithout" "[I", Cond.instanceMethod yX0_clear, Cond.initialized RX0, Cond.selects RX0 yX0_clear yX0_clear, Cond.code yX0_clear cX0_clear 1 none]
def wsX2_setReserve_r3 : List Cond := [Cond.fieldLink RX0 7 "PastureBids$BestSet" "gained" "I", Cond.fieldLink RX0 13 "PastureBids$BestSet" "bids" "I", Cond.methodLink RX1 31 yJ7_fill_53178, Cond.static yJ7_fill_53178, Cond.initialized RJ7, Cond.code yJ7_fill_53178 cJ7_fill_53178 4 none, Cond.methodLink RX2 235 yX2_findWinners, Cond.instanceMethod yX2_findWinners, Cond.selects RX2 yX2_findWinners yX2_findWinners, Cond.code yX2_findWinners cX2_findWinners 3 none, Cond.methodLink RX2 243 yX2_seek, Cond.instanceMethod yX2_seek, Cond.selects RX2 yX2_seek yX2_seek, Cond.code yX2_seek cX2_seek 8 none, Cond.instanceMethod yX0_consider, Cond.selects RX0 yX0_consider yX0_consider, Cond.code yX0_consider cX0_consider 3 none, Cond.methodLink RX0 16 yX0_isBeatenBy, Cond.instanceMethod yX0_isBeatenBy, Cond.selects RX0 yX0_isBeatenBy yX0_isBeatenBy, Cond.code yX0_isBeatenBy cX0_isBeatenBy 5 (some .boolean), Cond.methodLink RX0 20 yJ6_bitCount_0f7a4, Cond.static yJ6_bitCount_0f7a4, Cond.initialized RJ6]
def wsX2_setReserve_r4 : List Cond := [Cond.code yJ6_bitCount_0f7a4 cJ6_bitCount_0f7a4 1 (some .int), Cond.constant RJ6 265 (1431655765), Cond.constant RJ6 266 (858993459), Cond.constant RJ6 267 (252645135), Cond.methodLink RX2 250 yX2_seekWith, Cond.instanceMethod yX2_seekWith, Cond.selects RX2 yX2_seekWith yX2_seekWith, Cond.code yX2_seekWith cX2_seekWith 9 none, Cond.fieldLink RX2 17 "PastureBids" "owners" "[I", Cond.methodLink RX2 113 yX2_counts, Cond.instanceMethod yX2_counts, Cond.selects RX2 yX2_counts yX2_counts, Cond.code yX2_counts cX2_counts 2 (some .boolean), Cond.fieldLink RX2 32 "PastureBids" "withdrawn" "[Z", Cond.fieldLink RX2 13 "PastureBids" "ins" "[Z", Cond.instanceMethod yX0_has, Cond.selects RX0 yX0_has yX0_has, Cond.code yX0_has cX0_has 2 (some .boolean), Cond.methodLink RX2 239 yX2_award, Cond.instanceMethod yX2_award, Cond.selects RX2 yX2_award yX2_award, Cond.code yX2_award cX2_award 5 none]
def wsX2_setReserve : List Cond := .code yX2_setReserve cX2_setReserve 5 (some .int) :: ((wsX2_setReserve_r1 ++ (wsX2_setReserve_r2 ++ (wsX2_setReserve_r3 ++ wsX2_setReserve_r4))) ++ wsX20 ++ wsX10 ++ wsX00 ++ (vx_atS RX2 210 "java/lang/IndexOutOfBoundsException" ["java/lang/RuntimeException", "java/lang/Exception"]).filter goodWord ++ (vx_atS RX2 221 "java/lang/IllegalArgumentException" ["java/lang/RuntimeException", "java/lang/Exception"]).filter goodWord)
def wsX2_join_r1 : List Cond := [Cond.classLink RX2 64 "java/lang/IllegalStateException", Cond.initialized "java/lang/IllegalStateException", Cond.fieldLink RX2 81 "PastureBids" "bidderCount" "I", Cond.fieldLink RX2 13 "PastureBids" "ins" "[Z", Cond.fieldLink RX2 38 "PastureBids" "sale" "LPastureBids$Sale;", Cond.methodLink RX2 52 yX2_settle, Cond.instanceMethod yX2_settle, Cond.selects RX2 yX2_settle yX2_settle, Cond.initialized RX2, Cond.code yX2_settle cX2_settle 4 none, Cond.fieldLink RX2 48 "PastureBids" "search" "LPastureBids$BestSet;", Cond.fieldLink RX2 74 "PastureBids" "bidCount" "I", Cond.instanceMethod yX1_clear, Cond.initialized RX1, Cond.selects RX1 yX1_clear yX1_clear, Cond.code yX1_clear cX1_clear 1 none, Cond.fieldLink RX1 12 "PastureBids$Sale" "winners" "LPastureBids$BestSet;", Cond.fieldLink RX1 18 "PastureBids$Sale" "winningBids" "[I", Cond.fieldLink RX1 22 "PastureBids$Sale" "paid" "[I", Cond.fieldLink RX1 25 "PastureBids$Sale" "gainedWithout" "[I", Cond.instanceMethod yX0_clear, Cond.initialized RX0, Cond.selects RX0 yX0_clear yX0_clear, Cond.code yX0_clear cX0_clear 1 none]
def wsX2_join_r2 : List Cond := [Cond.fieldLink RX0 7 "PastureBids$BestSet" "gained" "I", Cond.fieldLink RX0 13 "PastureBids$BestSet" "bids" "I", Cond.methodLink RX1 31 yJ7_fill_53178, Cond.static yJ7_fill_53178, Cond.initialized RJ7, Cond.code yJ7_fill_53178 cJ7_fill_53178 4 none, Cond.methodLink RX2 235 yX2_findWinners, Cond.instanceMethod yX2_findWinners, Cond.selects RX2 yX2_findWinners yX2_findWinners, Cond.code yX2_findWinners cX2_findWinners 3 none, Cond.methodLink RX2 243 yX2_seek, Cond.instanceMethod yX2_seek, Cond.selects RX2 yX2_seek yX2_seek, Cond.code yX2_seek cX2_seek 8 none, Cond.instanceMethod yX0_consider, Cond.selects RX0 yX0_consider yX0_consider, Cond.code yX0_consider cX0_consider 3 none, Cond.methodLink RX0 16 yX0_isBeatenBy, Cond.instanceMethod yX0_isBeatenBy, Cond.selects RX0 yX0_isBeatenBy yX0_isBeatenBy, Cond.code yX0_isBeatenBy cX0_isBeatenBy 5 (some .boolean), Cond.methodLink RX0 20 yJ6_bitCount_0f7a4, Cond.static yJ6_bitCount_0f7a4, Cond.initialized RJ6]
def wsX2_join_r3 : List Cond := [Cond.code yJ6_bitCount_0f7a4 cJ6_bitCount_0f7a4 1 (some .int), Cond.constant RJ6 265 (1431655765), Cond.constant RJ6 266 (858993459), Cond.constant RJ6 267 (252645135), Cond.methodLink RX2 250 yX2_seekWith, Cond.instanceMethod yX2_seekWith, Cond.selects RX2 yX2_seekWith yX2_seekWith, Cond.code yX2_seekWith cX2_seekWith 9 none, Cond.fieldLink RX2 17 "PastureBids" "owners" "[I", Cond.fieldLink RX2 20 "PastureBids" "bundles" "[I", Cond.fieldLink RX2 26 "PastureBids" "gains" "[I", Cond.methodLink RX2 113 yX2_counts, Cond.instanceMethod yX2_counts, Cond.selects RX2 yX2_counts yX2_counts, Cond.code yX2_counts cX2_counts 2 (some .boolean), Cond.fieldLink RX2 32 "PastureBids" "withdrawn" "[Z", Cond.instanceMethod yX0_has, Cond.selects RX0 yX0_has yX0_has, Cond.code yX0_has cX0_has 2 (some .boolean), Cond.methodLink RX2 239 yX2_award, Cond.instanceMethod yX2_award, Cond.selects RX2 yX2_award yX2_award, Cond.code yX2_award cX2_award 5 none, Cond.methodLink RX2 226 yX2_reservesOf]
def wsX2_join_r4 : List Cond := [Cond.instanceMethod yX2_reservesOf, Cond.selects RX2 yX2_reservesOf yX2_reservesOf, Cond.code yX2_reservesOf cX2_reservesOf 4 (some .int), Cond.fieldLink RX2 60 "PastureBids" "fieldCount" "I", Cond.fieldLink RX2 9 "PastureBids" "reserves" "[I", Cond.methodLink RX2 229 yX2_hasField, Cond.static yX2_hasField, Cond.code yX2_hasField cX2_hasField 2 (some .boolean)]
def wsX2_join : List Cond := .code yX2_join cX2_join 2 (some .int) :: ((wsX2_join_r1 ++ (wsX2_join_r2 ++ (wsX2_join_r3 ++ wsX2_join_r4))) ++ wsX20 ++ wsX10 ++ wsX00 ++ (vx_atS RX2 68 "java/lang/IllegalStateException" ["java/lang/RuntimeException", "java/lang/Exception"]).filter goodWord)
def wsX2_requireBidder : List Cond := .code yX2_requireBidder cX2_requireBidder 2 none :: ([.classLink RX2 206 "java/lang/IndexOutOfBoundsException", .initialized "java/lang/IndexOutOfBoundsException", .fieldLink RX2 81 "PastureBids" "bidderCount" "I"] ++ wsX20 ++ (vx_atS RX2 210 "java/lang/IndexOutOfBoundsException" ["java/lang/RuntimeException", "java/lang/Exception"]).filter goodWord)
def wsX2_setIn_r1 : List Cond := [Cond.fieldLink RX2 13 "PastureBids" "ins" "[Z", Cond.fieldLink RX2 38 "PastureBids" "sale" "LPastureBids$Sale;", Cond.methodLink RX2 86 yX2_requireBidder, Cond.instanceMethod yX2_requireBidder, Cond.selects RX2 yX2_requireBidder yX2_requireBidder, Cond.initialized RX2, Cond.code yX2_requireBidder cX2_requireBidder 2 none, Cond.classLink RX2 206 "java/lang/IndexOutOfBoundsException", Cond.initialized "java/lang/IndexOutOfBoundsException", Cond.fieldLink RX2 81 "PastureBids" "bidderCount" "I", Cond.methodLink RX2 52 yX2_settle, Cond.instanceMethod yX2_settle, Cond.selects RX2 yX2_settle yX2_settle, Cond.code yX2_settle cX2_settle 4 none, Cond.fieldLink RX2 48 "PastureBids" "search" "LPastureBids$BestSet;", Cond.fieldLink RX2 74 "PastureBids" "bidCount" "I", Cond.instanceMethod yX1_clear, Cond.initialized RX1, Cond.selects RX1 yX1_clear yX1_clear, Cond.code yX1_clear cX1_clear 1 none, Cond.fieldLink RX1 12 "PastureBids$Sale" "winners" "LPastureBids$BestSet;", Cond.fieldLink RX1 18 "PastureBids$Sale" "winningBids" "[I", Cond.fieldLink RX1 22 "PastureBids$Sale" "paid" "[I", Cond.fieldLink RX1 25 "PastureBids$Sale" "gainedWithout" "[I"]
def wsX2_setIn_r2 : List Cond := [Cond.instanceMethod yX0_clear, Cond.initialized RX0, Cond.selects RX0 yX0_clear yX0_clear, Cond.code yX0_clear cX0_clear 1 none, Cond.fieldLink RX0 7 "PastureBids$BestSet" "gained" "I", Cond.fieldLink RX0 13 "PastureBids$BestSet" "bids" "I", Cond.methodLink RX1 31 yJ7_fill_53178, Cond.static yJ7_fill_53178, Cond.initialized RJ7, Cond.code yJ7_fill_53178 cJ7_fill_53178 4 none, Cond.methodLink RX2 235 yX2_findWinners, Cond.instanceMethod yX2_findWinners, Cond.selects RX2 yX2_findWinners yX2_findWinners, Cond.code yX2_findWinners cX2_findWinners 3 none, Cond.methodLink RX2 243 yX2_seek, Cond.instanceMethod yX2_seek, Cond.selects RX2 yX2_seek yX2_seek, Cond.code yX2_seek cX2_seek 8 none, Cond.instanceMethod yX0_consider, Cond.selects RX0 yX0_consider yX0_consider, Cond.code yX0_consider cX0_consider 3 none, Cond.methodLink RX0 16 yX0_isBeatenBy, Cond.instanceMethod yX0_isBeatenBy, Cond.selects RX0 yX0_isBeatenBy yX0_isBeatenBy]
def wsX2_setIn_r3 : List Cond := [Cond.code yX0_isBeatenBy cX0_isBeatenBy 5 (some .boolean), Cond.methodLink RX0 20 yJ6_bitCount_0f7a4, Cond.static yJ6_bitCount_0f7a4, Cond.initialized RJ6, Cond.code yJ6_bitCount_0f7a4 cJ6_bitCount_0f7a4 1 (some .int), Cond.constant RJ6 265 (1431655765), Cond.constant RJ6 266 (858993459), Cond.constant RJ6 267 (252645135), Cond.methodLink RX2 250 yX2_seekWith, Cond.instanceMethod yX2_seekWith, Cond.selects RX2 yX2_seekWith yX2_seekWith, Cond.code yX2_seekWith cX2_seekWith 9 none, Cond.fieldLink RX2 17 "PastureBids" "owners" "[I", Cond.fieldLink RX2 20 "PastureBids" "bundles" "[I", Cond.fieldLink RX2 26 "PastureBids" "gains" "[I", Cond.methodLink RX2 113 yX2_counts, Cond.instanceMethod yX2_counts, Cond.selects RX2 yX2_counts yX2_counts, Cond.code yX2_counts cX2_counts 2 (some .boolean), Cond.fieldLink RX2 32 "PastureBids" "withdrawn" "[Z", Cond.instanceMethod yX0_has, Cond.selects RX0 yX0_has yX0_has, Cond.code yX0_has cX0_has 2 (some .boolean), Cond.methodLink RX2 239 yX2_award]
def wsX2_setIn_r4 : List Cond := [Cond.instanceMethod yX2_award, Cond.selects RX2 yX2_award yX2_award, Cond.code yX2_award cX2_award 5 none, Cond.methodLink RX2 226 yX2_reservesOf, Cond.instanceMethod yX2_reservesOf, Cond.selects RX2 yX2_reservesOf yX2_reservesOf, Cond.code yX2_reservesOf cX2_reservesOf 4 (some .int), Cond.fieldLink RX2 60 "PastureBids" "fieldCount" "I", Cond.fieldLink RX2 9 "PastureBids" "reserves" "[I", Cond.methodLink RX2 229 yX2_hasField, Cond.static yX2_hasField, Cond.code yX2_hasField cX2_hasField 2 (some .boolean)]
def wsX2_setIn : List Cond := .code yX2_setIn cX2_setIn 4 (some .boolean) :: ((wsX2_setIn_r1 ++ (wsX2_setIn_r2 ++ (wsX2_setIn_r3 ++ wsX2_setIn_r4))) ++ wsX20 ++ wsX10 ++ wsX00 ++ (vx_atS RX2 210 "java/lang/IndexOutOfBoundsException" ["java/lang/RuntimeException", "java/lang/Exception"]).filter goodWord)
def wsX2_requireBundle : List Cond := .code yX2_requireBundle cX2_requireBundle 2 none :: ([.classLink RX2 217 "java/lang/IllegalArgumentException", .initialized "java/lang/IllegalArgumentException", .fieldLink RX2 60 "PastureBids" "fieldCount" "I"] ++ wsX20 ++ (vx_atS RX2 221 "java/lang/IllegalArgumentException" ["java/lang/RuntimeException", "java/lang/Exception"]).filter goodWord)
def wsX2_requireAmount : List Cond := .code yX2_requireAmount cX2_requireAmount 1 none :: ([.classLink RX2 217 "java/lang/IllegalArgumentException", .initialized "java/lang/IllegalArgumentException"] ++ (vx_atS RX2 221 "java/lang/IllegalArgumentException" ["java/lang/RuntimeException", "java/lang/Exception"]).filter goodWord)
def wsX2_bid_r1 : List Cond := [Cond.classLink RX2 64 "java/lang/IllegalStateException", Cond.initialized "java/lang/IllegalStateException", Cond.fieldLink RX2 74 "PastureBids" "bidCount" "I", Cond.fieldLink RX2 17 "PastureBids" "owners" "[I", Cond.fieldLink RX2 20 "PastureBids" "bundles" "[I", Cond.fieldLink RX2 29 "PastureBids" "worths" "[I", Cond.fieldLink RX2 38 "PastureBids" "sale" "LPastureBids$Sale;", Cond.methodLink RX2 86 yX2_requireBidder, Cond.instanceMethod yX2_requireBidder, Cond.selects RX2 yX2_requireBidder yX2_requireBidder, Cond.initialized RX2, Cond.code yX2_requireBidder cX2_requireBidder 2 none, Cond.classLink RX2 206 "java/lang/IndexOutOfBoundsException", Cond.initialized "java/lang/IndexOutOfBoundsException", Cond.fieldLink RX2 81 "PastureBids" "bidderCount" "I", Cond.methodLink RX2 89 yX2_requireBundle, Cond.instanceMethod yX2_requireBundle, Cond.selects RX2 yX2_requireBundle yX2_requireBundle, Cond.code yX2_requireBundle cX2_requireBundle 2 none, Cond.classLink RX2 217 "java/lang/IllegalArgumentException", Cond.initialized "java/lang/IllegalArgumentException", Cond.fieldLink RX2 60 "PastureBids" "fieldCount" "I", Cond.methodLink RX2 92 yX2_requireAmount, Cond.static yX2_requireAmount]
def wsX2_bid_r2 : List Cond := [Cond.code yX2_requireAmount cX2_requireAmount 1 none, Cond.methodLink RX2 77 yX2_putPrice, Cond.instanceMethod yX2_putPrice, Cond.selects RX2 yX2_putPrice yX2_putPrice, Cond.code yX2_putPrice cX2_putPrice 3 none, Cond.fieldLink RX2 23 "PastureBids" "prices" "[I", Cond.fieldLink RX2 26 "PastureBids" "gains" "[I", Cond.methodLink RX2 226 yX2_reservesOf, Cond.instanceMethod yX2_reservesOf, Cond.selects RX2 yX2_reservesOf yX2_reservesOf, Cond.code yX2_reservesOf cX2_reservesOf 4 (some .int), Cond.fieldLink RX2 9 "PastureBids" "reserves" "[I", Cond.methodLink RX2 229 yX2_hasField, Cond.static yX2_hasField, Cond.code yX2_hasField cX2_hasField 2 (some .boolean), Cond.methodLink RX2 52 yX2_settle, Cond.instanceMethod yX2_settle, Cond.selects RX2 yX2_settle yX2_settle, Cond.code yX2_settle cX2_settle 4 none, Cond.fieldLink RX2 48 "PastureBids" "search" "LPastureBids$BestSet;", Cond.instanceMethod yX1_clear, Cond.initialized RX1, Cond.selects RX1 yX1_clear yX1_clear, Cond.code yX1_clear cX1_clear 1 none]
def wsX2_bid_r3 : List Cond := [Cond.fieldLink RX1 12 "PastureBids$Sale" "winners" "LPastureBids$BestSet;", Cond.fieldLink RX1 18 "PastureBids$Sale" "winningBids" "[I", Cond.fieldLink RX1 22 "PastureBids$Sale" "paid" "[I", Cond.fieldLink RX1 25 "PastureBids$Sale" "gainedWithout" "[I", Cond.instanceMethod yX0_clear, Cond.initialized RX0, Cond.selects RX0 yX0_clear yX0_clear, Cond.code yX0_clear cX0_clear 1 none, Cond.fieldLink RX0 7 "PastureBids$BestSet" "gained" "I", Cond.fieldLink RX0 13 "PastureBids$BestSet" "bids" "I", Cond.methodLink RX1 31 yJ7_fill_53178, Cond.static yJ7_fill_53178, Cond.initialized RJ7, Cond.code yJ7_fill_53178 cJ7_fill_53178 4 none, Cond.methodLink RX2 235 yX2_findWinners, Cond.instanceMethod yX2_findWinners, Cond.selects RX2 yX2_findWinners yX2_findWinners, Cond.code yX2_findWinners cX2_findWinners 3 none, Cond.methodLink RX2 243 yX2_seek, Cond.instanceMethod yX2_seek, Cond.selects RX2 yX2_seek yX2_seek, Cond.code yX2_seek cX2_seek 8 none, Cond.instanceMethod yX0_consider, Cond.selects RX0 yX0_consider yX0_consider]
def wsX2_bid_r4 : List Cond := [Cond.code yX0_consider cX0_consider 3 none, Cond.methodLink RX0 16 yX0_isBeatenBy, Cond.instanceMethod yX0_isBeatenBy, Cond.selects RX0 yX0_isBeatenBy yX0_isBeatenBy, Cond.code yX0_isBeatenBy cX0_isBeatenBy 5 (some .boolean), Cond.methodLink RX0 20 yJ6_bitCount_0f7a4, Cond.static yJ6_bitCount_0f7a4, Cond.initialized RJ6, Cond.code yJ6_bitCount_0f7a4 cJ6_bitCount_0f7a4 1 (some .int), Cond.constant RJ6 265 (1431655765), Cond.constant RJ6 266 (858993459), Cond.constant RJ6 267 (252645135), Cond.methodLink RX2 250 yX2_seekWith, Cond.instanceMethod yX2_seekWith, Cond.selects RX2 yX2_seekWith yX2_seekWith, Cond.code yX2_seekWith cX2_seekWith 9 none, Cond.methodLink RX2 113 yX2_counts, Cond.instanceMethod yX2_counts, Cond.selects RX2 yX2_counts yX2_counts, Cond.code yX2_counts cX2_counts 2 (some .boolean), Cond.fieldLink RX2 32 "PastureBids" "withdrawn" "[Z", Cond.fieldLink RX2 13 "PastureBids" "ins" "[Z", Cond.instanceMethod yX0_has, Cond.selects RX0 yX0_has yX0_has]
def wsX2_bid_r5 : List Cond := [Cond.code yX0_has cX0_has 2 (some .boolean), Cond.methodLink RX2 239 yX2_award, Cond.instanceMethod yX2_award, Cond.selects RX2 yX2_award yX2_award, Cond.code yX2_award cX2_award 5 none]
def wsX2_bid : List Cond := .code yX2_bid cX2_bid 5 (some .int) :: ((wsX2_bid_r1 ++ (wsX2_bid_r2 ++ (wsX2_bid_r3 ++ (wsX2_bid_r4 ++ wsX2_bid_r5)))) ++ wsX20 ++ wsX10 ++ wsX00 ++ (vx_atS RX2 68 "java/lang/IllegalStateException" ["java/lang/RuntimeException", "java/lang/Exception"]).filter goodWord ++ (vx_atS RX2 210 "java/lang/IndexOutOfBoundsException" ["java/lang/RuntimeException", "java/lang/Exception"]).filter goodWord ++ (vx_atS RX2 221 "java/lang/IllegalArgumentException" ["java/lang/RuntimeException", "java/lang/Exception"]).filter goodWord)
def wsX2_requireBid : List Cond := .code yX2_requireBid cX2_requireBid 2 none :: ([.classLink RX2 206 "java/lang/IndexOutOfBoundsException", .initialized "java/lang/IndexOutOfBoundsException", .fieldLink RX2 74 "PastureBids" "bidCount" "I"] ++ wsX20 ++ (vx_atS RX2 210 "java/lang/IndexOutOfBoundsException" ["java/lang/RuntimeException", "java/lang/Exception"]).filter goodWord)
def wsX2_setPrice_r1 : List Cond := [Cond.fieldLink RX2 23 "PastureBids" "prices" "[I", Cond.fieldLink RX2 38 "PastureBids" "sale" "LPastureBids$Sale;", Cond.methodLink RX2 97 yX2_requireBid, Cond.instanceMethod yX2_requireBid, Cond.selects RX2 yX2_requireBid yX2_requireBid, Cond.initialized RX2, Cond.code yX2_requireBid cX2_requireBid 2 none, Cond.classLink RX2 206 "java/lang/IndexOutOfBoundsException", Cond.initialized "java/lang/IndexOutOfBoundsException", Cond.fieldLink RX2 74 "PastureBids" "bidCount" "I", Cond.methodLink RX2 92 yX2_requireAmount, Cond.static yX2_requireAmount, Cond.code yX2_requireAmount cX2_requireAmount 1 none, Cond.classLink RX2 217 "java/lang/IllegalArgumentException", Cond.initialized "java/lang/IllegalArgumentException", Cond.methodLink RX2 77 yX2_putPrice, Cond.instanceMethod yX2_putPrice, Cond.selects RX2 yX2_putPrice yX2_putPrice, Cond.code yX2_putPrice cX2_putPrice 3 none, Cond.fieldLink RX2 26 "PastureBids" "gains" "[I", Cond.fieldLink RX2 20 "PastureBids" "bundles" "[I", Cond.methodLink RX2 226 yX2_reservesOf, Cond.instanceMethod yX2_reservesOf, Cond.selects RX2 yX2_reservesOf yX2_reservesOf]
def wsX2_setPrice_r2 : List Cond := [Cond.code yX2_reservesOf cX2_reservesOf 4 (some .int), Cond.fieldLink RX2 60 "PastureBids" "fieldCount" "I", Cond.fieldLink RX2 9 "PastureBids" "reserves" "[I", Cond.methodLink RX2 229 yX2_hasField, Cond.static yX2_hasField, Cond.code yX2_hasField cX2_hasField 2 (some .boolean), Cond.methodLink RX2 52 yX2_settle, Cond.instanceMethod yX2_settle, Cond.selects RX2 yX2_settle yX2_settle, Cond.code yX2_settle cX2_settle 4 none, Cond.fieldLink RX2 81 "PastureBids" "bidderCount" "I", Cond.fieldLink RX2 48 "PastureBids" "search" "LPastureBids$BestSet;", Cond.instanceMethod yX1_clear, Cond.initialized RX1, Cond.selects RX1 yX1_clear yX1_clear, Cond.code yX1_clear cX1_clear 1 none, Cond.fieldLink RX1 12 "PastureBids$Sale" "winners" "LPastureBids$BestSet;", Cond.fieldLink RX1 18 "PastureBids$Sale" "winningBids" "[I", Cond.fieldLink RX1 22 "PastureBids$Sale" "paid" "[I", Cond.fieldLink RX1 25 "PastureBids$Sale" "gainedWithout" "[I", Cond.instanceMethod yX0_clear, Cond.initialized RX0, Cond.selects RX0 yX0_clear yX0_clear, Cond.code yX0_clear cX0_clear 1 none]
def wsX2_setPrice_r3 : List Cond := [Cond.fieldLink RX0 7 "PastureBids$BestSet" "gained" "I", Cond.fieldLink RX0 13 "PastureBids$BestSet" "bids" "I", Cond.methodLink RX1 31 yJ7_fill_53178, Cond.static yJ7_fill_53178, Cond.initialized RJ7, Cond.code yJ7_fill_53178 cJ7_fill_53178 4 none, Cond.methodLink RX2 235 yX2_findWinners, Cond.instanceMethod yX2_findWinners, Cond.selects RX2 yX2_findWinners yX2_findWinners, Cond.code yX2_findWinners cX2_findWinners 3 none, Cond.methodLink RX2 243 yX2_seek, Cond.instanceMethod yX2_seek, Cond.selects RX2 yX2_seek yX2_seek, Cond.code yX2_seek cX2_seek 8 none, Cond.instanceMethod yX0_consider, Cond.selects RX0 yX0_consider yX0_consider, Cond.code yX0_consider cX0_consider 3 none, Cond.methodLink RX0 16 yX0_isBeatenBy, Cond.instanceMethod yX0_isBeatenBy, Cond.selects RX0 yX0_isBeatenBy yX0_isBeatenBy, Cond.code yX0_isBeatenBy cX0_isBeatenBy 5 (some .boolean), Cond.methodLink RX0 20 yJ6_bitCount_0f7a4, Cond.static yJ6_bitCount_0f7a4, Cond.initialized RJ6]
def wsX2_setPrice_r4 : List Cond := [Cond.code yJ6_bitCount_0f7a4 cJ6_bitCount_0f7a4 1 (some .int), Cond.constant RJ6 265 (1431655765), Cond.constant RJ6 266 (858993459), Cond.constant RJ6 267 (252645135), Cond.methodLink RX2 250 yX2_seekWith, Cond.instanceMethod yX2_seekWith, Cond.selects RX2 yX2_seekWith yX2_seekWith, Cond.code yX2_seekWith cX2_seekWith 9 none, Cond.fieldLink RX2 17 "PastureBids" "owners" "[I", Cond.methodLink RX2 113 yX2_counts, Cond.instanceMethod yX2_counts, Cond.selects RX2 yX2_counts yX2_counts, Cond.code yX2_counts cX2_counts 2 (some .boolean), Cond.fieldLink RX2 32 "PastureBids" "withdrawn" "[Z", Cond.fieldLink RX2 13 "PastureBids" "ins" "[Z", Cond.instanceMethod yX0_has, Cond.selects RX0 yX0_has yX0_has, Cond.code yX0_has cX0_has 2 (some .boolean), Cond.methodLink RX2 239 yX2_award, Cond.instanceMethod yX2_award, Cond.selects RX2 yX2_award yX2_award, Cond.code yX2_award cX2_award 5 none]
def wsX2_setPrice : List Cond := .code yX2_setPrice cX2_setPrice 4 (some .int) :: ((wsX2_setPrice_r1 ++ (wsX2_setPrice_r2 ++ (wsX2_setPrice_r3 ++ wsX2_setPrice_r4))) ++ wsX20 ++ wsX10 ++ wsX00 ++ (vx_atS RX2 210 "java/lang/IndexOutOfBoundsException" ["java/lang/RuntimeException", "java/lang/Exception"]).filter goodWord ++ (vx_atS RX2 221 "java/lang/IllegalArgumentException" ["java/lang/RuntimeException", "java/lang/Exception"]).filter goodWord)
def wsX2_setWorth : List Cond := .code yX2_setWorth cX2_setWorth 4 (some .int) :: ([.fieldLink RX2 29 "PastureBids" "worths" "[I", .methodLink RX2 97 yX2_requireBid, .instanceMethod yX2_requireBid, .selects RX2 yX2_requireBid yX2_requireBid, .initialized RX2, .code yX2_requireBid cX2_requireBid 2 none, .classLink RX2 206 "java/lang/IndexOutOfBoundsException", .initialized "java/lang/IndexOutOfBoundsException", .fieldLink RX2 74 "PastureBids" "bidCount" "I", .methodLink RX2 92 yX2_requireAmount, .static yX2_requireAmount, .code yX2_requireAmount cX2_requireAmount 1 none, .classLink RX2 217 "java/lang/IllegalArgumentException", .initialized "java/lang/IllegalArgumentException"] ++ wsX20 ++ (vx_atS RX2 210 "java/lang/IndexOutOfBoundsException" ["java/lang/RuntimeException", "java/lang/Exception"]).filter goodWord ++ (vx_atS RX2 221 "java/lang/IllegalArgumentException" ["java/lang/RuntimeException", "java/lang/Exception"]).filter goodWord)
def wsX2_bidsLeftOf : List Cond := .code yX2_bidsLeftOf cX2_bidsLeftOf 4 (some .int) :: ([.fieldLink RX2 74 "PastureBids" "bidCount" "I", .fieldLink RX2 17 "PastureBids" "owners" "[I", .fieldLink RX2 32 "PastureBids" "withdrawn" "[Z"] ++ wsX20)
def wsX2_bidsLeft : List Cond := .code yX2_bidsLeft cX2_bidsLeft 3 (some .int) :: ([.fieldLink RX2 81 "PastureBids" "bidderCount" "I", .methodLink RX2 123 yX2_bidsLeftOf, .instanceMethod yX2_bidsLeftOf, .selects RX2 yX2_bidsLeftOf yX2_bidsLeftOf, .initialized RX2, .code yX2_bidsLeftOf cX2_bidsLeftOf 4 (some .int), .fieldLink RX2 74 "PastureBids" "bidCount" "I", .fieldLink RX2 17 "PastureBids" "owners" "[I", .fieldLink RX2 32 "PastureBids" "withdrawn" "[Z"] ++ wsX20)
def wsX2_withdraw_r1 : List Cond := [Cond.classLink RX2 64 "java/lang/IllegalStateException", Cond.initialized "java/lang/IllegalStateException", Cond.fieldLink RX2 32 "PastureBids" "withdrawn" "[Z", Cond.fieldLink RX2 38 "PastureBids" "sale" "LPastureBids$Sale;", Cond.methodLink RX2 97 yX2_requireBid, Cond.instanceMethod yX2_requireBid, Cond.selects RX2 yX2_requireBid yX2_requireBid, Cond.initialized RX2, Cond.code yX2_requireBid cX2_requireBid 2 none, Cond.classLink RX2 206 "java/lang/IndexOutOfBoundsException", Cond.initialized "java/lang/IndexOutOfBoundsException", Cond.fieldLink RX2 74 "PastureBids" "bidCount" "I", Cond.methodLink RX2 52 yX2_settle, Cond.instanceMethod yX2_settle, Cond.selects RX2 yX2_settle yX2_settle, Cond.code yX2_settle cX2_settle 4 none, Cond.fieldLink RX2 81 "PastureBids" "bidderCount" "I", Cond.fieldLink RX2 48 "PastureBids" "search" "LPastureBids$BestSet;", Cond.instanceMethod yX1_clear, Cond.initialized RX1, Cond.selects RX1 yX1_clear yX1_clear, Cond.code yX1_clear cX1_clear 1 none, Cond.fieldLink RX1 12 "PastureBids$Sale" "winners" "LPastureBids$BestSet;", Cond.fieldLink RX1 18 "PastureBids$Sale" "winningBids" "[I"]
def wsX2_withdraw_r2 : List Cond := [Cond.fieldLink RX1 22 "PastureBids$Sale" "paid" "[I", Cond.fieldLink RX1 25 "PastureBids$Sale" "gainedWithout" "[I", Cond.instanceMethod yX0_clear, Cond.initialized RX0, Cond.selects RX0 yX0_clear yX0_clear, Cond.code yX0_clear cX0_clear 1 none, Cond.fieldLink RX0 7 "PastureBids$BestSet" "gained" "I", Cond.fieldLink RX0 13 "PastureBids$BestSet" "bids" "I", Cond.methodLink RX1 31 yJ7_fill_53178, Cond.static yJ7_fill_53178, Cond.initialized RJ7, Cond.code yJ7_fill_53178 cJ7_fill_53178 4 none, Cond.methodLink RX2 235 yX2_findWinners, Cond.instanceMethod yX2_findWinners, Cond.selects RX2 yX2_findWinners yX2_findWinners, Cond.code yX2_findWinners cX2_findWinners 3 none, Cond.methodLink RX2 243 yX2_seek, Cond.instanceMethod yX2_seek, Cond.selects RX2 yX2_seek yX2_seek, Cond.code yX2_seek cX2_seek 8 none, Cond.instanceMethod yX0_consider, Cond.selects RX0 yX0_consider yX0_consider, Cond.code yX0_consider cX0_consider 3 none, Cond.methodLink RX0 16 yX0_isBeatenBy]
def wsX2_withdraw_r3 : List Cond := [Cond.instanceMethod yX0_isBeatenBy, Cond.selects RX0 yX0_isBeatenBy yX0_isBeatenBy, Cond.code yX0_isBeatenBy cX0_isBeatenBy 5 (some .boolean), Cond.methodLink RX0 20 yJ6_bitCount_0f7a4, Cond.static yJ6_bitCount_0f7a4, Cond.initialized RJ6, Cond.code yJ6_bitCount_0f7a4 cJ6_bitCount_0f7a4 1 (some .int), Cond.constant RJ6 265 (1431655765), Cond.constant RJ6 266 (858993459), Cond.constant RJ6 267 (252645135), Cond.methodLink RX2 250 yX2_seekWith, Cond.instanceMethod yX2_seekWith, Cond.selects RX2 yX2_seekWith yX2_seekWith, Cond.code yX2_seekWith cX2_seekWith 9 none, Cond.fieldLink RX2 17 "PastureBids" "owners" "[I", Cond.fieldLink RX2 20 "PastureBids" "bundles" "[I", Cond.fieldLink RX2 26 "PastureBids" "gains" "[I", Cond.methodLink RX2 113 yX2_counts, Cond.instanceMethod yX2_counts, Cond.selects RX2 yX2_counts yX2_counts, Cond.code yX2_counts cX2_counts 2 (some .boolean), Cond.fieldLink RX2 13 "PastureBids" "ins" "[Z", Cond.instanceMethod yX0_has, Cond.selects RX0 yX0_has yX0_has]
def wsX2_withdraw_r4 : List Cond := [Cond.code yX0_has cX0_has 2 (some .boolean), Cond.methodLink RX2 239 yX2_award, Cond.instanceMethod yX2_award, Cond.selects RX2 yX2_award yX2_award, Cond.code yX2_award cX2_award 5 none, Cond.methodLink RX2 226 yX2_reservesOf, Cond.instanceMethod yX2_reservesOf, Cond.selects RX2 yX2_reservesOf yX2_reservesOf, Cond.code yX2_reservesOf cX2_reservesOf 4 (some .int), Cond.fieldLink RX2 60 "PastureBids" "fieldCount" "I", Cond.fieldLink RX2 9 "PastureBids" "reserves" "[I", Cond.methodLink RX2 229 yX2_hasField, Cond.static yX2_hasField, Cond.code yX2_hasField cX2_hasField 2 (some .boolean), Cond.methodLink RX2 102 yX2_bidsLeft, Cond.instanceMethod yX2_bidsLeft, Cond.selects RX2 yX2_bidsLeft yX2_bidsLeft, Cond.code yX2_bidsLeft cX2_bidsLeft 3 (some .int), Cond.methodLink RX2 123 yX2_bidsLeftOf, Cond.instanceMethod yX2_bidsLeftOf, Cond.selects RX2 yX2_bidsLeftOf yX2_bidsLeftOf, Cond.code yX2_bidsLeftOf cX2_bidsLeftOf 4 (some .int)]
def wsX2_withdraw : List Cond := .code yX2_withdraw cX2_withdraw 2 (some .int) :: ((wsX2_withdraw_r1 ++ (wsX2_withdraw_r2 ++ (wsX2_withdraw_r3 ++ wsX2_withdraw_r4))) ++ wsX20 ++ wsX10 ++ wsX00 ++ (vx_atS RX2 68 "java/lang/IllegalStateException" ["java/lang/RuntimeException", "java/lang/Exception"]).filter goodWord ++ (vx_atS RX2 210 "java/lang/IndexOutOfBoundsException" ["java/lang/RuntimeException", "java/lang/Exception"]).filter goodWord)
def wsX2_requireWhat : List Cond := .code yX2_requireWhat cX2_requireWhat 2 none :: ([.classLink RX2 206 "java/lang/IndexOutOfBoundsException", .initialized "java/lang/IndexOutOfBoundsException"] ++ (vx_atS RX2 210 "java/lang/IndexOutOfBoundsException" ["java/lang/RuntimeException", "java/lang/Exception"]).filter goodWord)
def wsX2_asNumber : List Cond := .code yX2_asNumber cX2_asNumber 1 (some .int) :: ([])
def wsX2_told_r1 : List Cond := [Cond.fieldLink RX2 17 "PastureBids" "owners" "[I", Cond.fieldLink RX2 20 "PastureBids" "bundles" "[I", Cond.fieldLink RX2 23 "PastureBids" "prices" "[I", Cond.fieldLink RX2 29 "PastureBids" "worths" "[I", Cond.fieldLink RX2 32 "PastureBids" "withdrawn" "[Z", Cond.fieldLink RX2 26 "PastureBids" "gains" "[I", Cond.fieldLink RX2 38 "PastureBids" "sale" "LPastureBids$Sale;", Cond.methodLink RX2 97 yX2_requireBid, Cond.instanceMethod yX2_requireBid, Cond.selects RX2 yX2_requireBid yX2_requireBid, Cond.initialized RX2, Cond.code yX2_requireBid cX2_requireBid 2 none, Cond.classLink RX2 206 "java/lang/IndexOutOfBoundsException", Cond.initialized "java/lang/IndexOutOfBoundsException", Cond.fieldLink RX2 74 "PastureBids" "bidCount" "I", Cond.methodLink RX2 106 yX2_requireWhat, Cond.static yX2_requireWhat, Cond.code yX2_requireWhat cX2_requireWhat 2 none, Cond.methodLink RX2 109 yX2_asNumber, Cond.static yX2_asNumber, Cond.code yX2_asNumber cX2_asNumber 1 (some .int), Cond.methodLink RX2 113 yX2_counts, Cond.instanceMethod yX2_counts, Cond.selects RX2 yX2_counts yX2_counts]
def wsX2_told_r2 : List Cond := [Cond.code yX2_counts cX2_counts 2 (some .boolean), Cond.fieldLink RX2 13 "PastureBids" "ins" "[Z", Cond.instanceMethod yX0_has, Cond.initialized RX0, Cond.selects RX0 yX0_has yX0_has, Cond.code yX0_has cX0_has 2 (some .boolean), Cond.fieldLink RX0 13 "PastureBids$BestSet" "bids" "I"]
def wsX2_told : List Cond := .code yX2_told cX2_told 3 (some .int) :: ((wsX2_told_r1 ++ wsX2_told_r2) ++ wsX20 ++ wsX10 ++ wsX00 ++ (vx_atS RX2 210 "java/lang/IndexOutOfBoundsException" ["java/lang/RuntimeException", "java/lang/Exception"]).filter goodWord)
def wsX2_profit : List Cond := .code yX2_profit cX2_profit 4 (some .int) :: ([.fieldLink RX2 29 "PastureBids" "worths" "[I"] ++ wsX10 ++ wsX20)
def wsX2_about_r1 : List Cond := [Cond.fieldLink RX2 13 "PastureBids" "ins" "[Z", Cond.fieldLink RX2 38 "PastureBids" "sale" "LPastureBids$Sale;", Cond.methodLink RX2 86 yX2_requireBidder, Cond.instanceMethod yX2_requireBidder, Cond.selects RX2 yX2_requireBidder yX2_requireBidder, Cond.initialized RX2, Cond.code yX2_requireBidder cX2_requireBidder 2 none, Cond.classLink RX2 206 "java/lang/IndexOutOfBoundsException", Cond.initialized "java/lang/IndexOutOfBoundsException", Cond.fieldLink RX2 81 "PastureBids" "bidderCount" "I", Cond.methodLink RX2 106 yX2_requireWhat, Cond.static yX2_requireWhat, Cond.code yX2_requireWhat cX2_requireWhat 2 none, Cond.methodLink RX2 109 yX2_asNumber, Cond.static yX2_asNumber, Cond.code yX2_asNumber cX2_asNumber 1 (some .int), Cond.methodLink RX2 123 yX2_bidsLeftOf, Cond.instanceMethod yX2_bidsLeftOf, Cond.selects RX2 yX2_bidsLeftOf yX2_bidsLeftOf, Cond.code yX2_bidsLeftOf cX2_bidsLeftOf 4 (some .int), Cond.fieldLink RX2 74 "PastureBids" "bidCount" "I", Cond.fieldLink RX2 17 "PastureBids" "owners" "[I", Cond.fieldLink RX2 32 "PastureBids" "withdrawn" "[Z", Cond.methodLink RX2 133 yX2_profit]
def wsX2_about_r2 : List Cond := [Cond.instanceMethod yX2_profit, Cond.selects RX2 yX2_profit yX2_profit, Cond.code yX2_profit cX2_profit 4 (some .int), Cond.fieldLink RX2 29 "PastureBids" "worths" "[I"]
def wsX2_about : List Cond := .code yX2_about cX2_about 3 (some .int) :: ((wsX2_about_r1 ++ wsX2_about_r2) ++ wsX20 ++ wsX10 ++ (vx_atS RX2 210 "java/lang/IndexOutOfBoundsException" ["java/lang/RuntimeException", "java/lang/Exception"]).filter goodWord)
def wsX2_winnerOfField : List Cond := .code yX2_winnerOfField cX2_winnerOfField 3 (some .int) :: ([.fieldLink RX2 74 "PastureBids" "bidCount" "I", .fieldLink RX2 38 "PastureBids" "sale" "LPastureBids$Sale;", .fieldLink RX2 20 "PastureBids" "bundles" "[I", .instanceMethod yX0_has, .initialized RX0, .selects RX0 yX0_has yX0_has, .code yX0_has cX0_has 2 (some .boolean), .fieldLink RX0 13 "PastureBids$BestSet" "bids" "I", .methodLink RX2 229 yX2_hasField, .static yX2_hasField, .initialized RX2, .code yX2_hasField cX2_hasField 2 (some .boolean)] ++ wsX20 ++ wsX10 ++ wsX00)
def wsX2_ownerOf : List Cond := .code yX2_ownerOf cX2_ownerOf 2 (some .int) :: ([.fieldLink RX2 17 "PastureBids" "owners" "[I"] ++ wsX20)
def wsX2_countingBidsWith : List Cond := .code yX2_countingBidsWith cX2_countingBidsWith 4 (some .int) :: ([.fieldLink RX2 74 "PastureBids" "bidCount" "I", .fieldLink RX2 20 "PastureBids" "bundles" "[I", .methodLink RX2 113 yX2_counts, .instanceMethod yX2_counts, .selects RX2 yX2_counts yX2_counts, .initialized RX2, .code yX2_counts cX2_counts 2 (some .boolean), .fieldLink RX2 32 "PastureBids" "withdrawn" "[Z", .fieldLink RX2 13 "PastureBids" "ins" "[Z", .fieldLink RX2 17 "PastureBids" "owners" "[I", .fieldLink RX2 26 "PastureBids" "gains" "[I", .methodLink RX2 229 yX2_hasField, .static yX2_hasField, .code yX2_hasField cX2_hasField 2 (some .boolean)] ++ wsX20)
def wsX2_land_r1 : List Cond := [Cond.fieldLink RX2 9 "PastureBids" "reserves" "[I", Cond.methodLink RX2 71 yX2_requireField, Cond.instanceMethod yX2_requireField, Cond.selects RX2 yX2_requireField yX2_requireField, Cond.initialized RX2, Cond.code yX2_requireField cX2_requireField 2 none, Cond.classLink RX2 206 "java/lang/IndexOutOfBoundsException", Cond.initialized "java/lang/IndexOutOfBoundsException", Cond.fieldLink RX2 60 "PastureBids" "fieldCount" "I", Cond.methodLink RX2 106 yX2_requireWhat, Cond.static yX2_requireWhat, Cond.code yX2_requireWhat cX2_requireWhat 2 none, Cond.methodLink RX2 140 yX2_winnerOfField, Cond.instanceMethod yX2_winnerOfField, Cond.selects RX2 yX2_winnerOfField yX2_winnerOfField, Cond.code yX2_winnerOfField cX2_winnerOfField 3 (some .int), Cond.fieldLink RX2 74 "PastureBids" "bidCount" "I", Cond.fieldLink RX2 38 "PastureBids" "sale" "LPastureBids$Sale;", Cond.fieldLink RX2 20 "PastureBids" "bundles" "[I", Cond.instanceMethod yX0_has, Cond.initialized RX0, Cond.selects RX0 yX0_has yX0_has, Cond.code yX0_has cX0_has 2 (some .boolean), Cond.fieldLink RX0 13 "PastureBids$BestSet" "bids" "I"]
def wsX2_land_r2 : List Cond := [Cond.methodLink RX2 229 yX2_hasField, Cond.static yX2_hasField, Cond.code yX2_hasField cX2_hasField 2 (some .boolean), Cond.methodLink RX2 143 yX2_ownerOf, Cond.instanceMethod yX2_ownerOf, Cond.selects RX2 yX2_ownerOf yX2_ownerOf, Cond.code yX2_ownerOf cX2_ownerOf 2 (some .int), Cond.fieldLink RX2 17 "PastureBids" "owners" "[I", Cond.methodLink RX2 146 yX2_countingBidsWith, Cond.instanceMethod yX2_countingBidsWith, Cond.selects RX2 yX2_countingBidsWith yX2_countingBidsWith, Cond.code yX2_countingBidsWith cX2_countingBidsWith 4 (some .int), Cond.methodLink RX2 113 yX2_counts, Cond.instanceMethod yX2_counts, Cond.selects RX2 yX2_counts yX2_counts, Cond.code yX2_counts cX2_counts 2 (some .boolean), Cond.fieldLink RX2 32 "PastureBids" "withdrawn" "[Z", Cond.fieldLink RX2 13 "PastureBids" "ins" "[Z", Cond.fieldLink RX2 26 "PastureBids" "gains" "[I"]
def wsX2_land : List Cond := .code yX2_land cX2_land 3 (some .int) :: ((wsX2_land_r1 ++ wsX2_land_r2) ++ wsX20 ++ wsX10 ++ wsX00 ++ (vx_atS RX2 210 "java/lang/IndexOutOfBoundsException" ["java/lang/RuntimeException", "java/lang/Exception"]).filter goodWord)
def wsX2_soldFields : List Cond := .code yX2_soldFields cX2_soldFields 3 (some .int) :: ([.fieldLink RX2 74 "PastureBids" "bidCount" "I", .fieldLink RX2 38 "PastureBids" "sale" "LPastureBids$Sale;", .fieldLink RX2 20 "PastureBids" "bundles" "[I", .instanceMethod yX0_has, .initialized RX0, .selects RX0 yX0_has yX0_has, .code yX0_has cX0_has 2 (some .boolean), .fieldLink RX0 13 "PastureBids$BestSet" "bids" "I"] ++ wsX20 ++ wsX10 ++ wsX00)
def wsX2_totalProfit : List Cond := .code yX2_totalProfit cX2_totalProfit 3 (some .int) :: ([.fieldLink RX2 81 "PastureBids" "bidderCount" "I", .fieldLink RX2 38 "PastureBids" "sale" "LPastureBids$Sale;", .methodLink RX2 133 yX2_profit, .instanceMethod yX2_profit, .selects RX2 yX2_profit yX2_profit, .initialized RX2, .code yX2_profit cX2_profit 4 (some .int), .fieldLink RX2 29 "PastureBids" "worths" "[I"] ++ wsX20 ++ wsX10)
def wsX2_winningPrices : List Cond := .code yX2_winningPrices cX2_winningPrices 3 (some .int) :: ([.fieldLink RX2 74 "PastureBids" "bidCount" "I", .fieldLink RX2 38 "PastureBids" "sale" "LPastureBids$Sale;", .fieldLink RX2 23 "PastureBids" "prices" "[I", .instanceMethod yX0_has, .initialized RX0, .selects RX0 yX0_has yX0_has, .code yX0_has cX0_has 2 (some .boolean), .fieldLink RX0 13 "PastureBids$BestSet" "bids" "I"] ++ wsX20 ++ wsX10 ++ wsX00)
def wsX2_count_r1 : List Cond := [Cond.fieldLink RX2 60 "PastureBids" "fieldCount" "I", Cond.fieldLink RX2 81 "PastureBids" "bidderCount" "I", Cond.fieldLink RX2 74 "PastureBids" "bidCount" "I", Cond.fieldLink RX2 38 "PastureBids" "sale" "LPastureBids$Sale;", Cond.methodLink RX2 106 yX2_requireWhat, Cond.static yX2_requireWhat, Cond.initialized RX2, Cond.code yX2_requireWhat cX2_requireWhat 2 none, Cond.classLink RX2 206 "java/lang/IndexOutOfBoundsException", Cond.initialized "java/lang/IndexOutOfBoundsException", Cond.methodLink RX2 155 yJ6_bitCount_0f7a4, Cond.static yJ6_bitCount_0f7a4, Cond.initialized RJ6, Cond.code yJ6_bitCount_0f7a4 cJ6_bitCount_0f7a4 1 (some .int), Cond.constant RJ6 265 (1431655765), Cond.constant RJ6 266 (858993459), Cond.constant RJ6 267 (252645135), Cond.methodLink RX2 160 yX2_soldFields, Cond.instanceMethod yX2_soldFields, Cond.selects RX2 yX2_soldFields yX2_soldFields, Cond.code yX2_soldFields cX2_soldFields 3 (some .int), Cond.fieldLink RX2 20 "PastureBids" "bundles" "[I", Cond.instanceMethod yX0_has, Cond.initialized RX0]
def wsX2_count_r2 : List Cond := [Cond.selects RX0 yX0_has yX0_has, Cond.code yX0_has cX0_has 2 (some .boolean), Cond.fieldLink RX0 13 "PastureBids$BestSet" "bids" "I", Cond.instanceMethod yX1_totalPaid, Cond.initialized RX1, Cond.selects RX1 yX1_totalPaid yX1_totalPaid, Cond.code yX1_totalPaid cX1_totalPaid 6 (some .int), Cond.fieldLink RX1 22 "PastureBids$Sale" "paid" "[I", Cond.methodLink RX2 166 yX2_totalProfit, Cond.instanceMethod yX2_totalProfit, Cond.selects RX2 yX2_totalProfit yX2_totalProfit, Cond.code yX2_totalProfit cX2_totalProfit 3 (some .int), Cond.methodLink RX2 133 yX2_profit, Cond.instanceMethod yX2_profit, Cond.selects RX2 yX2_profit yX2_profit, Cond.code yX2_profit cX2_profit 4 (some .int), Cond.fieldLink RX2 29 "PastureBids" "worths" "[I", Cond.methodLink RX2 169 yX2_winningPrices, Cond.instanceMethod yX2_winningPrices, Cond.selects RX2 yX2_winningPrices yX2_winningPrices, Cond.code yX2_winningPrices cX2_winningPrices 3 (some .int), Cond.fieldLink RX2 23 "PastureBids" "prices" "[I"]
def wsX2_count : List Cond := .code yX2_count cX2_count 2 (some .int) :: ((wsX2_count_r1 ++ wsX2_count_r2) ++ wsX20 ++ wsX10 ++ wsX00 ++ (vx_atS RX2 210 "java/lang/IndexOutOfBoundsException" ["java/lang/RuntimeException", "java/lang/Exception"]).filter goodWord)
def wsX2_highestAlone : List Cond := .code yX2_highestAlone cX2_highestAlone 6 (some .int) :: ([.fieldLink RX2 74 "PastureBids" "bidCount" "I", .fieldLink RX2 20 "PastureBids" "bundles" "[I", .fieldLink RX2 17 "PastureBids" "owners" "[I", .fieldLink RX2 23 "PastureBids" "prices" "[I", .methodLink RX2 113 yX2_counts, .instanceMethod yX2_counts, .selects RX2 yX2_counts yX2_counts, .initialized RX2, .code yX2_counts cX2_counts 2 (some .boolean), .fieldLink RX2 32 "PastureBids" "withdrawn" "[Z", .fieldLink RX2 13 "PastureBids" "ins" "[Z", .fieldLink RX2 26 "PastureBids" "gains" "[I"] ++ wsX20)
def wsX2_secondPrice : List Cond := .code yX2_secondPrice cX2_secondPrice 4 (some .int) :: ([.fieldLink RX2 17 "PastureBids" "owners" "[I", .fieldLink RX2 9 "PastureBids" "reserves" "[I", .fieldLink RX2 23 "PastureBids" "prices" "[I", .methodLink RX2 172 yX2_highestAlone, .instanceMethod yX2_highestAlone, .selects RX2 yX2_highestAlone yX2_highestAlone, .initialized RX2, .code yX2_highestAlone cX2_highestAlone 6 (some .int), .fieldLink RX2 74 "PastureBids" "bidCount" "I", .fieldLink RX2 20 "PastureBids" "bundles" "[I", .methodLink RX2 113 yX2_counts, .instanceMethod yX2_counts, .selects RX2 yX2_counts yX2_counts, .code yX2_counts cX2_counts 2 (some .boolean), .fieldLink RX2 32 "PastureBids" "withdrawn" "[Z", .fieldLink RX2 13 "PastureBids" "ins" "[Z", .fieldLink RX2 26 "PastureBids" "gains" "[I"] ++ wsX20)
def wsX2_alone_r1 : List Cond := [Cond.fieldLink RX2 17 "PastureBids" "owners" "[I", Cond.methodLink RX2 71 yX2_requireField, Cond.instanceMethod yX2_requireField, Cond.selects RX2 yX2_requireField yX2_requireField, Cond.initialized RX2, Cond.code yX2_requireField cX2_requireField 2 none, Cond.classLink RX2 206 "java/lang/IndexOutOfBoundsException", Cond.initialized "java/lang/IndexOutOfBoundsException", Cond.fieldLink RX2 60 "PastureBids" "fieldCount" "I", Cond.methodLink RX2 106 yX2_requireWhat, Cond.static yX2_requireWhat, Cond.code yX2_requireWhat cX2_requireWhat 2 none, Cond.methodLink RX2 172 yX2_highestAlone, Cond.instanceMethod yX2_highestAlone, Cond.selects RX2 yX2_highestAlone yX2_highestAlone, Cond.code yX2_highestAlone cX2_highestAlone 6 (some .int), Cond.fieldLink RX2 74 "PastureBids" "bidCount" "I", Cond.fieldLink RX2 20 "PastureBids" "bundles" "[I", Cond.fieldLink RX2 23 "PastureBids" "prices" "[I", Cond.methodLink RX2 113 yX2_counts, Cond.instanceMethod yX2_counts, Cond.selects RX2 yX2_counts yX2_counts, Cond.code yX2_counts cX2_counts 2 (some .boolean), Cond.fieldLink RX2 32 "PastureBids" "withdrawn" "[Z"]
def wsX2_alone_r2 : List Cond := [Cond.fieldLink RX2 13 "PastureBids" "ins" "[Z", Cond.fieldLink RX2 26 "PastureBids" "gains" "[I", Cond.methodLink RX2 176 yX2_secondPrice, Cond.instanceMethod yX2_secondPrice, Cond.selects RX2 yX2_secondPrice yX2_secondPrice, Cond.code yX2_secondPrice cX2_secondPrice 4 (some .int), Cond.fieldLink RX2 9 "PastureBids" "reserves" "[I"]
def wsX2_alone : List Cond := .code yX2_alone cX2_alone 4 (some .int) :: ((wsX2_alone_r1 ++ wsX2_alone_r2) ++ wsX20 ++ (vx_atS RX2 210 "java/lang/IndexOutOfBoundsException" ["java/lang/RuntimeException", "java/lang/Exception"]).filter goodWord)
def wsX2_would_r1 : List Cond := [Cond.fieldLink RX2 23 "PastureBids" "prices" "[I", Cond.fieldLink RX2 42 "PastureBids" "imagined" "LPastureBids$Sale;", Cond.fieldLink RX2 17 "PastureBids" "owners" "[I", Cond.methodLink RX2 97 yX2_requireBid, Cond.instanceMethod yX2_requireBid, Cond.selects RX2 yX2_requireBid yX2_requireBid, Cond.initialized RX2, Cond.code yX2_requireBid cX2_requireBid 2 none, Cond.classLink RX2 206 "java/lang/IndexOutOfBoundsException", Cond.initialized "java/lang/IndexOutOfBoundsException", Cond.fieldLink RX2 74 "PastureBids" "bidCount" "I", Cond.methodLink RX2 106 yX2_requireWhat, Cond.static yX2_requireWhat, Cond.code yX2_requireWhat cX2_requireWhat 2 none, Cond.methodLink RX2 92 yX2_requireAmount, Cond.static yX2_requireAmount, Cond.code yX2_requireAmount cX2_requireAmount 1 none, Cond.classLink RX2 217 "java/lang/IllegalArgumentException", Cond.initialized "java/lang/IllegalArgumentException", Cond.methodLink RX2 77 yX2_putPrice, Cond.instanceMethod yX2_putPrice, Cond.selects RX2 yX2_putPrice yX2_putPrice, Cond.code yX2_putPrice cX2_putPrice 3 none, Cond.fieldLink RX2 26 "PastureBids" "gains" "[I"]
def wsX2_would_r2 : List Cond := [Cond.fieldLink RX2 20 "PastureBids" "bundles" "[I", Cond.methodLink RX2 226 yX2_reservesOf, Cond.instanceMethod yX2_reservesOf, Cond.selects RX2 yX2_reservesOf yX2_reservesOf, Cond.code yX2_reservesOf cX2_reservesOf 4 (some .int), Cond.fieldLink RX2 60 "PastureBids" "fieldCount" "I", Cond.fieldLink RX2 9 "PastureBids" "reserves" "[I", Cond.methodLink RX2 229 yX2_hasField, Cond.static yX2_hasField, Cond.code yX2_hasField cX2_hasField 2 (some .boolean), Cond.methodLink RX2 52 yX2_settle, Cond.instanceMethod yX2_settle, Cond.selects RX2 yX2_settle yX2_settle, Cond.code yX2_settle cX2_settle 4 none, Cond.fieldLink RX2 81 "PastureBids" "bidderCount" "I", Cond.fieldLink RX2 48 "PastureBids" "search" "LPastureBids$BestSet;", Cond.instanceMethod yX1_clear, Cond.initialized RX1, Cond.selects RX1 yX1_clear yX1_clear, Cond.code yX1_clear cX1_clear 1 none, Cond.fieldLink RX1 12 "PastureBids$Sale" "winners" "LPastureBids$BestSet;", Cond.fieldLink RX1 18 "PastureBids$Sale" "winningBids" "[I", Cond.fieldLink RX1 22 "PastureBids$Sale" "paid" "[I", Cond.fieldLink RX1 25 "PastureBids$Sale" "gainedWithout" "[I"]
def wsX2_would_r3 : List Cond := [Cond.instanceMethod yX0_clear, Cond.initialized RX0, Cond.selects RX0 yX0_clear yX0_clear, Cond.code yX0_clear cX0_clear 1 none, Cond.fieldLink RX0 7 "PastureBids$BestSet" "gained" "I", Cond.fieldLink RX0 13 "PastureBids$BestSet" "bids" "I", Cond.methodLink RX1 31 yJ7_fill_53178, Cond.static yJ7_fill_53178, Cond.initialized RJ7, Cond.code yJ7_fill_53178 cJ7_fill_53178 4 none, Cond.methodLink RX2 235 yX2_findWinners, Cond.instanceMethod yX2_findWinners, Cond.selects RX2 yX2_findWinners yX2_findWinners, Cond.code yX2_findWinners cX2_findWinners 3 none, Cond.methodLink RX2 243 yX2_seek, Cond.instanceMethod yX2_seek, Cond.selects RX2 yX2_seek yX2_seek, Cond.code yX2_seek cX2_seek 8 none, Cond.instanceMethod yX0_consider, Cond.selects RX0 yX0_consider yX0_consider, Cond.code yX0_consider cX0_consider 3 none, Cond.methodLink RX0 16 yX0_isBeatenBy, Cond.instanceMethod yX0_isBeatenBy, Cond.selects RX0 yX0_isBeatenBy yX0_isBeatenBy]
def wsX2_would_r4 : List Cond := [Cond.code yX0_isBeatenBy cX0_isBeatenBy 5 (some .boolean), Cond.methodLink RX0 20 yJ6_bitCount_0f7a4, Cond.static yJ6_bitCount_0f7a4, Cond.initialized RJ6, Cond.code yJ6_bitCount_0f7a4 cJ6_bitCount_0f7a4 1 (some .int), Cond.constant RJ6 265 (1431655765), Cond.constant RJ6 266 (858993459), Cond.constant RJ6 267 (252645135), Cond.methodLink RX2 250 yX2_seekWith, Cond.instanceMethod yX2_seekWith, Cond.selects RX2 yX2_seekWith yX2_seekWith, Cond.code yX2_seekWith cX2_seekWith 9 none, Cond.methodLink RX2 113 yX2_counts, Cond.instanceMethod yX2_counts, Cond.selects RX2 yX2_counts yX2_counts, Cond.code yX2_counts cX2_counts 2 (some .boolean), Cond.fieldLink RX2 32 "PastureBids" "withdrawn" "[Z", Cond.fieldLink RX2 13 "PastureBids" "ins" "[Z", Cond.instanceMethod yX0_has, Cond.selects RX0 yX0_has yX0_has, Cond.code yX0_has cX0_has 2 (some .boolean), Cond.methodLink RX2 239 yX2_award, Cond.instanceMethod yX2_award, Cond.selects RX2 yX2_award yX2_award]
def wsX2_would_r5 : List Cond := [Cond.code yX2_award cX2_award 5 none, Cond.methodLink RX2 109 yX2_asNumber, Cond.static yX2_asNumber, Cond.code yX2_asNumber cX2_asNumber 1 (some .int), Cond.methodLink RX2 133 yX2_profit, Cond.instanceMethod yX2_profit, Cond.selects RX2 yX2_profit yX2_profit, Cond.code yX2_profit cX2_profit 4 (some .int), Cond.fieldLink RX2 29 "PastureBids" "worths" "[I"]
def wsX2_would : List Cond := .code yX2_would cX2_would 5 (some .int) :: ((wsX2_would_r1 ++ (wsX2_would_r2 ++ (wsX2_would_r3 ++ (wsX2_would_r4 ++ wsX2_would_r5)))) ++ wsX20 ++ wsX10 ++ wsX00 ++ (vx_atS RX2 210 "java/lang/IndexOutOfBoundsException" ["java/lang/RuntimeException", "java/lang/Exception"]).filter goodWord ++ (vx_atS RX2 221 "java/lang/IllegalArgumentException" ["java/lang/RuntimeException", "java/lang/Exception"]).filter goodWord)
def wsX2_winsWith_r1 : List Cond := [Cond.fieldLink RX2 48 "PastureBids" "search" "LPastureBids$BestSet;", Cond.methodLink RX2 77 yX2_putPrice, Cond.instanceMethod yX2_putPrice, Cond.selects RX2 yX2_putPrice yX2_putPrice, Cond.initialized RX2, Cond.code yX2_putPrice cX2_putPrice 3 none, Cond.fieldLink RX2 23 "PastureBids" "prices" "[I", Cond.fieldLink RX2 26 "PastureBids" "gains" "[I", Cond.fieldLink RX2 20 "PastureBids" "bundles" "[I", Cond.methodLink RX2 226 yX2_reservesOf, Cond.instanceMethod yX2_reservesOf, Cond.selects RX2 yX2_reservesOf yX2_reservesOf, Cond.code yX2_reservesOf cX2_reservesOf 4 (some .int), Cond.fieldLink RX2 60 "PastureBids" "fieldCount" "I", Cond.fieldLink RX2 9 "PastureBids" "reserves" "[I", Cond.methodLink RX2 229 yX2_hasField, Cond.static yX2_hasField, Cond.code yX2_hasField cX2_hasField 2 (some .boolean), Cond.methodLink RX2 235 yX2_findWinners, Cond.instanceMethod yX2_findWinners, Cond.selects RX2 yX2_findWinners yX2_findWinners, Cond.code yX2_findWinners cX2_findWinners 3 none, Cond.instanceMethod yX0_clear, Cond.initialized RX0]
def wsX2_winsWith_r2 : List Cond := [Cond.selects RX0 yX0_clear yX0_clear, Cond.code yX0_clear cX0_clear 1 none, Cond.fieldLink RX0 7 "PastureBids$BestSet" "gained" "I", Cond.fieldLink RX0 13 "PastureBids$BestSet" "bids" "I", Cond.methodLink RX2 243 yX2_seek, Cond.instanceMethod yX2_seek, Cond.selects RX2 yX2_seek yX2_seek, Cond.code yX2_seek cX2_seek 8 none, Cond.fieldLink RX2 74 "PastureBids" "bidCount" "I", Cond.instanceMethod yX0_consider, Cond.selects RX0 yX0_consider yX0_consider, Cond.code yX0_consider cX0_consider 3 none, Cond.methodLink RX0 16 yX0_isBeatenBy, Cond.instanceMethod yX0_isBeatenBy, Cond.selects RX0 yX0_isBeatenBy yX0_isBeatenBy, Cond.code yX0_isBeatenBy cX0_isBeatenBy 5 (some .boolean), Cond.methodLink RX0 20 yJ6_bitCount_0f7a4, Cond.static yJ6_bitCount_0f7a4, Cond.initialized RJ6, Cond.code yJ6_bitCount_0f7a4 cJ6_bitCount_0f7a4 1 (some .int), Cond.constant RJ6 265 (1431655765), Cond.constant RJ6 266 (858993459), Cond.constant RJ6 267 (252645135), Cond.methodLink RX2 250 yX2_seekWith]
def wsX2_winsWith_r3 : List Cond := [Cond.instanceMethod yX2_seekWith, Cond.selects RX2 yX2_seekWith yX2_seekWith, Cond.code yX2_seekWith cX2_seekWith 9 none, Cond.fieldLink RX2 17 "PastureBids" "owners" "[I", Cond.methodLink RX2 113 yX2_counts, Cond.instanceMethod yX2_counts, Cond.selects RX2 yX2_counts yX2_counts, Cond.code yX2_counts cX2_counts 2 (some .boolean), Cond.fieldLink RX2 32 "PastureBids" "withdrawn" "[Z", Cond.fieldLink RX2 13 "PastureBids" "ins" "[Z", Cond.instanceMethod yX0_has, Cond.selects RX0 yX0_has yX0_has, Cond.code yX0_has cX0_has 2 (some .boolean)]
def wsX2_winsWith : List Cond := .code yX2_winsWith cX2_winsWith 3 (some .boolean) :: ((wsX2_winsWith_r1 ++ (wsX2_winsWith_r2 ++ wsX2_winsWith_r3)) ++ wsX20 ++ wsX00)
def wsX2_least_r1 : List Cond := [Cond.fieldLink RX2 23 "PastureBids" "prices" "[I", Cond.methodLink RX2 97 yX2_requireBid, Cond.instanceMethod yX2_requireBid, Cond.selects RX2 yX2_requireBid yX2_requireBid, Cond.initialized RX2, Cond.code yX2_requireBid cX2_requireBid 2 none, Cond.classLink RX2 206 "java/lang/IndexOutOfBoundsException", Cond.initialized "java/lang/IndexOutOfBoundsException", Cond.fieldLink RX2 74 "PastureBids" "bidCount" "I", Cond.methodLink RX2 179 yX2_winsWith, Cond.instanceMethod yX2_winsWith, Cond.selects RX2 yX2_winsWith yX2_winsWith, Cond.code yX2_winsWith cX2_winsWith 3 (some .boolean), Cond.fieldLink RX2 48 "PastureBids" "search" "LPastureBids$BestSet;", Cond.methodLink RX2 77 yX2_putPrice, Cond.instanceMethod yX2_putPrice, Cond.selects RX2 yX2_putPrice yX2_putPrice, Cond.code yX2_putPrice cX2_putPrice 3 none, Cond.fieldLink RX2 26 "PastureBids" "gains" "[I", Cond.fieldLink RX2 20 "PastureBids" "bundles" "[I", Cond.methodLink RX2 226 yX2_reservesOf, Cond.instanceMethod yX2_reservesOf, Cond.selects RX2 yX2_reservesOf yX2_reservesOf, Cond.code yX2_reservesOf cX2_reservesOf 4 (some .int)]
def wsX2_least_r2 : List Cond := [Cond.fieldLink RX2 60 "PastureBids" "fieldCount" "I", Cond.fieldLink RX2 9 "PastureBids" "reserves" "[I", Cond.methodLink RX2 229 yX2_hasField, Cond.static yX2_hasField, Cond.code yX2_hasField cX2_hasField 2 (some .boolean), Cond.methodLink RX2 235 yX2_findWinners, Cond.instanceMethod yX2_findWinners, Cond.selects RX2 yX2_findWinners yX2_findWinners, Cond.code yX2_findWinners cX2_findWinners 3 none, Cond.instanceMethod yX0_clear, Cond.initialized RX0, Cond.selects RX0 yX0_clear yX0_clear, Cond.code yX0_clear cX0_clear 1 none, Cond.fieldLink RX0 7 "PastureBids$BestSet" "gained" "I", Cond.fieldLink RX0 13 "PastureBids$BestSet" "bids" "I", Cond.methodLink RX2 243 yX2_seek, Cond.instanceMethod yX2_seek, Cond.selects RX2 yX2_seek yX2_seek, Cond.code yX2_seek cX2_seek 8 none, Cond.instanceMethod yX0_consider, Cond.selects RX0 yX0_consider yX0_consider, Cond.code yX0_consider cX0_consider 3 none, Cond.methodLink RX0 16 yX0_isBeatenBy, Cond.instanceMethod yX0_isBeatenBy]
def wsX2_least_r3 : List Cond := [Cond.selects RX0 yX0_isBeatenBy yX0_isBeatenBy, Cond.code yX0_isBeatenBy cX0_isBeatenBy 5 (some .boolean), Cond.methodLink RX0 20 yJ6_bitCount_0f7a4, Cond.static yJ6_bitCount_0f7a4, Cond.initialized RJ6, Cond.code yJ6_bitCount_0f7a4 cJ6_bitCount_0f7a4 1 (some .int), Cond.constant RJ6 265 (1431655765), Cond.constant RJ6 266 (858993459), Cond.constant RJ6 267 (252645135), Cond.methodLink RX2 250 yX2_seekWith, Cond.instanceMethod yX2_seekWith, Cond.selects RX2 yX2_seekWith yX2_seekWith, Cond.code yX2_seekWith cX2_seekWith 9 none, Cond.fieldLink RX2 17 "PastureBids" "owners" "[I", Cond.methodLink RX2 113 yX2_counts, Cond.instanceMethod yX2_counts, Cond.selects RX2 yX2_counts yX2_counts, Cond.code yX2_counts cX2_counts 2 (some .boolean), Cond.fieldLink RX2 32 "PastureBids" "withdrawn" "[Z", Cond.fieldLink RX2 13 "PastureBids" "ins" "[Z", Cond.instanceMethod yX0_has, Cond.selects RX0 yX0_has yX0_has, Cond.code yX0_has cX0_has 2 (some .boolean)]
def wsX2_least : List Cond := .code yX2_least cX2_least 6 (some .int) :: ((wsX2_least_r1 ++ (wsX2_least_r2 ++ wsX2_least_r3)) ++ wsX20 ++ wsX00 ++ (vx_atS RX2 210 "java/lang/IndexOutOfBoundsException" ["java/lang/RuntimeException", "java/lang/Exception"]).filter goodWord)
def wsX2_rival_r1 : List Cond := [Cond.fieldLink RX2 81 "PastureBids" "bidderCount" "I", Cond.fieldLink RX2 42 "PastureBids" "imagined" "LPastureBids$Sale;", Cond.methodLink RX2 52 yX2_settle, Cond.instanceMethod yX2_settle, Cond.selects RX2 yX2_settle yX2_settle, Cond.initialized RX2, Cond.code yX2_settle cX2_settle 4 none, Cond.fieldLink RX2 48 "PastureBids" "search" "LPastureBids$BestSet;", Cond.fieldLink RX2 74 "PastureBids" "bidCount" "I", Cond.instanceMethod yX1_clear, Cond.initialized RX1, Cond.selects RX1 yX1_clear yX1_clear, Cond.code yX1_clear cX1_clear 1 none, Cond.fieldLink RX1 12 "PastureBids$Sale" "winners" "LPastureBids$BestSet;", Cond.fieldLink RX1 18 "PastureBids$Sale" "winningBids" "[I", Cond.fieldLink RX1 22 "PastureBids$Sale" "paid" "[I", Cond.fieldLink RX1 25 "PastureBids$Sale" "gainedWithout" "[I", Cond.instanceMethod yX0_clear, Cond.initialized RX0, Cond.selects RX0 yX0_clear yX0_clear, Cond.code yX0_clear cX0_clear 1 none, Cond.fieldLink RX0 7 "PastureBids$BestSet" "gained" "I", Cond.fieldLink RX0 13 "PastureBids$BestSet" "bids" "I", Cond.methodLink RX1 31 yJ7_fill_53178]
def wsX2_rival_r2 : List Cond := [Cond.static yJ7_fill_53178, Cond.initialized RJ7, Cond.code yJ7_fill_53178 cJ7_fill_53178 4 none, Cond.methodLink RX2 235 yX2_findWinners, Cond.instanceMethod yX2_findWinners, Cond.selects RX2 yX2_findWinners yX2_findWinners, Cond.code yX2_findWinners cX2_findWinners 3 none, Cond.methodLink RX2 243 yX2_seek, Cond.instanceMethod yX2_seek, Cond.selects RX2 yX2_seek yX2_seek, Cond.code yX2_seek cX2_seek 8 none, Cond.instanceMethod yX0_consider, Cond.selects RX0 yX0_consider yX0_consider, Cond.code yX0_consider cX0_consider 3 none, Cond.methodLink RX0 16 yX0_isBeatenBy, Cond.instanceMethod yX0_isBeatenBy, Cond.selects RX0 yX0_isBeatenBy yX0_isBeatenBy, Cond.code yX0_isBeatenBy cX0_isBeatenBy 5 (some .boolean), Cond.methodLink RX0 20 yJ6_bitCount_0f7a4, Cond.static yJ6_bitCount_0f7a4, Cond.initialized RJ6, Cond.code yJ6_bitCount_0f7a4 cJ6_bitCount_0f7a4 1 (some .int), Cond.constant RJ6 265 (1431655765), Cond.constant RJ6 266 (858993459)]
def wsX2_rival_r3 : List Cond := [Cond.constant RJ6 267 (252645135), Cond.methodLink RX2 250 yX2_seekWith, Cond.instanceMethod yX2_seekWith, Cond.selects RX2 yX2_seekWith yX2_seekWith, Cond.code yX2_seekWith cX2_seekWith 9 none, Cond.fieldLink RX2 17 "PastureBids" "owners" "[I", Cond.fieldLink RX2 20 "PastureBids" "bundles" "[I", Cond.fieldLink RX2 26 "PastureBids" "gains" "[I", Cond.methodLink RX2 113 yX2_counts, Cond.instanceMethod yX2_counts, Cond.selects RX2 yX2_counts yX2_counts, Cond.code yX2_counts cX2_counts 2 (some .boolean), Cond.fieldLink RX2 32 "PastureBids" "withdrawn" "[Z", Cond.fieldLink RX2 13 "PastureBids" "ins" "[Z", Cond.instanceMethod yX0_has, Cond.selects RX0 yX0_has yX0_has, Cond.code yX0_has cX0_has 2 (some .boolean), Cond.methodLink RX2 239 yX2_award, Cond.instanceMethod yX2_award, Cond.selects RX2 yX2_award yX2_award, Cond.code yX2_award cX2_award 5 none, Cond.methodLink RX2 226 yX2_reservesOf, Cond.instanceMethod yX2_reservesOf, Cond.selects RX2 yX2_reservesOf yX2_reservesOf]
def wsX2_rival_r4 : List Cond := [Cond.code yX2_reservesOf cX2_reservesOf 4 (some .int), Cond.fieldLink RX2 60 "PastureBids" "fieldCount" "I", Cond.fieldLink RX2 9 "PastureBids" "reserves" "[I", Cond.methodLink RX2 229 yX2_hasField, Cond.static yX2_hasField, Cond.code yX2_hasField cX2_hasField 2 (some .boolean), Cond.instanceMethod yX1_totalPaid, Cond.selects RX1 yX1_totalPaid yX1_totalPaid, Cond.code yX1_totalPaid cX1_totalPaid 6 (some .int)]
def wsX2_rival : List Cond := .code yX2_rival cX2_rival 5 (some .int) :: ((wsX2_rival_r1 ++ (wsX2_rival_r2 ++ (wsX2_rival_r3 ++ wsX2_rival_r4))) ++ wsX20 ++ wsX10 ++ wsX00)
def wsX2_mean : List Cond := .code yX2_mean cX2_mean 2 (some .double) :: ([.fieldLink RX2 38 "PastureBids" "sale" "LPastureBids$Sale;", .methodLink RX2 155 yJ6_bitCount_0f7a4, .static yJ6_bitCount_0f7a4, .initialized RJ6, .code yJ6_bitCount_0f7a4 cJ6_bitCount_0f7a4 1 (some .int), .constant RJ6 265 (1431655765), .constant RJ6 266 (858993459), .constant RJ6 267 (252645135), .instanceMethod yX1_totalPaid, .initialized RX1, .selects RX1 yX1_totalPaid yX1_totalPaid, .code yX1_totalPaid cX1_totalPaid 6 (some .int), .fieldLink RX1 22 "PastureBids$Sale" "paid" "[I"] ++ wsX20 ++ wsX10 ++ wsX00)
def wsX2_digestField_r1 : List Cond := [Cond.constantLong RX2 185 (31), Cond.methodLink RX2 200 yX2_land, Cond.instanceMethod yX2_land, Cond.selects RX2 yX2_land yX2_land, Cond.initialized RX2, Cond.code yX2_land cX2_land 3 (some .int), Cond.fieldLink RX2 9 "PastureBids" "reserves" "[I", Cond.methodLink RX2 71 yX2_requireField, Cond.instanceMethod yX2_requireField, Cond.selects RX2 yX2_requireField yX2_requireField, Cond.code yX2_requireField cX2_requireField 2 none, Cond.classLink RX2 206 "java/lang/IndexOutOfBoundsException", Cond.initialized "java/lang/IndexOutOfBoundsException", Cond.fieldLink RX2 60 "PastureBids" "fieldCount" "I", Cond.methodLink RX2 106 yX2_requireWhat, Cond.static yX2_requireWhat, Cond.code yX2_requireWhat cX2_requireWhat 2 none, Cond.methodLink RX2 140 yX2_winnerOfField, Cond.instanceMethod yX2_winnerOfField, Cond.selects RX2 yX2_winnerOfField yX2_winnerOfField, Cond.code yX2_winnerOfField cX2_winnerOfField 3 (some .int), Cond.fieldLink RX2 74 "PastureBids" "bidCount" "I", Cond.fieldLink RX2 38 "PastureBids" "sale" "LPastureBids$Sale;", Cond.fieldLink RX2 20 "PastureBids" "bundles" "[I"]
def wsX2_digestField_r2 : List Cond := [Cond.instanceMethod yX0_has, Cond.initialized RX0, Cond.selects RX0 yX0_has yX0_has, Cond.code yX0_has cX0_has 2 (some .boolean), Cond.fieldLink RX0 13 "PastureBids$BestSet" "bids" "I", Cond.methodLink RX2 229 yX2_hasField, Cond.static yX2_hasField, Cond.code yX2_hasField cX2_hasField 2 (some .boolean), Cond.methodLink RX2 143 yX2_ownerOf, Cond.instanceMethod yX2_ownerOf, Cond.selects RX2 yX2_ownerOf yX2_ownerOf, Cond.code yX2_ownerOf cX2_ownerOf 2 (some .int), Cond.fieldLink RX2 17 "PastureBids" "owners" "[I", Cond.methodLink RX2 146 yX2_countingBidsWith, Cond.instanceMethod yX2_countingBidsWith, Cond.selects RX2 yX2_countingBidsWith yX2_countingBidsWith, Cond.code yX2_countingBidsWith cX2_countingBidsWith 4 (some .int), Cond.methodLink RX2 113 yX2_counts, Cond.instanceMethod yX2_counts, Cond.selects RX2 yX2_counts yX2_counts, Cond.code yX2_counts cX2_counts 2 (some .boolean), Cond.fieldLink RX2 32 "PastureBids" "withdrawn" "[Z", Cond.fieldLink RX2 13 "PastureBids" "ins" "[Z", Cond.fieldLink RX2 26 "PastureBids" "gains" "[I"]
def wsX2_digestField_r3 : List Cond := [Cond.methodLink RX2 203 yX2_alone, Cond.instanceMethod yX2_alone, Cond.selects RX2 yX2_alone yX2_alone, Cond.code yX2_alone cX2_alone 4 (some .int), Cond.methodLink RX2 172 yX2_highestAlone, Cond.instanceMethod yX2_highestAlone, Cond.selects RX2 yX2_highestAlone yX2_highestAlone, Cond.code yX2_highestAlone cX2_highestAlone 6 (some .int), Cond.fieldLink RX2 23 "PastureBids" "prices" "[I", Cond.methodLink RX2 176 yX2_secondPrice, Cond.instanceMethod yX2_secondPrice, Cond.selects RX2 yX2_secondPrice yX2_secondPrice, Cond.code yX2_secondPrice cX2_secondPrice 4 (some .int)]
def wsX2_digestField : List Cond := .code yX2_digestField cX2_digestField 7 (some .long) :: ((wsX2_digestField_r1 ++ (wsX2_digestField_r2 ++ wsX2_digestField_r3)) ++ wsX20 ++ wsX10 ++ wsX00 ++ (vx_atS RX2 210 "java/lang/IndexOutOfBoundsException" ["java/lang/RuntimeException", "java/lang/Exception"]).filter goodWord)
def wsX2_digest_r1 : List Cond := [Cond.constantLong RX2 183 (1619), Cond.constantLong RX2 185 (31), Cond.fieldLink RX2 60 "PastureBids" "fieldCount" "I", Cond.fieldLink RX2 81 "PastureBids" "bidderCount" "I", Cond.fieldLink RX2 74 "PastureBids" "bidCount" "I", Cond.methodLink RX2 187 yX2_count, Cond.instanceMethod yX2_count, Cond.selects RX2 yX2_count yX2_count, Cond.initialized RX2, Cond.code yX2_count cX2_count 2 (some .int), Cond.fieldLink RX2 38 "PastureBids" "sale" "LPastureBids$Sale;", Cond.methodLink RX2 106 yX2_requireWhat, Cond.static yX2_requireWhat, Cond.code yX2_requireWhat cX2_requireWhat 2 none, Cond.classLink RX2 206 "java/lang/IndexOutOfBoundsException", Cond.initialized "java/lang/IndexOutOfBoundsException", Cond.methodLink RX2 155 yJ6_bitCount_0f7a4, Cond.static yJ6_bitCount_0f7a4, Cond.initialized RJ6, Cond.code yJ6_bitCount_0f7a4 cJ6_bitCount_0f7a4 1 (some .int), Cond.constant RJ6 265 (1431655765), Cond.constant RJ6 266 (858993459), Cond.constant RJ6 267 (252645135), Cond.methodLink RX2 160 yX2_soldFields]
def wsX2_digest_r2 : List Cond := [Cond.instanceMethod yX2_soldFields, Cond.selects RX2 yX2_soldFields yX2_soldFields, Cond.code yX2_soldFields cX2_soldFields 3 (some .int), Cond.fieldLink RX2 20 "PastureBids" "bundles" "[I", Cond.instanceMethod yX0_has, Cond.initialized RX0, Cond.selects RX0 yX0_has yX0_has, Cond.code yX0_has cX0_has 2 (some .boolean), Cond.fieldLink RX0 13 "PastureBids$BestSet" "bids" "I", Cond.instanceMethod yX1_totalPaid, Cond.initialized RX1, Cond.selects RX1 yX1_totalPaid yX1_totalPaid, Cond.code yX1_totalPaid cX1_totalPaid 6 (some .int), Cond.fieldLink RX1 22 "PastureBids$Sale" "paid" "[I", Cond.methodLink RX2 166 yX2_totalProfit, Cond.instanceMethod yX2_totalProfit, Cond.selects RX2 yX2_totalProfit yX2_totalProfit, Cond.code yX2_totalProfit cX2_totalProfit 3 (some .int), Cond.methodLink RX2 133 yX2_profit, Cond.instanceMethod yX2_profit, Cond.selects RX2 yX2_profit yX2_profit, Cond.code yX2_profit cX2_profit 4 (some .int), Cond.fieldLink RX2 29 "PastureBids" "worths" "[I", Cond.methodLink RX2 169 yX2_winningPrices]
def wsX2_digest_r3 : List Cond := [Cond.instanceMethod yX2_winningPrices, Cond.selects RX2 yX2_winningPrices yX2_winningPrices, Cond.code yX2_winningPrices cX2_winningPrices 3 (some .int), Cond.fieldLink RX2 23 "PastureBids" "prices" "[I", Cond.methodLink RX2 190 yX2_digestField, Cond.instanceMethod yX2_digestField, Cond.selects RX2 yX2_digestField yX2_digestField, Cond.code yX2_digestField cX2_digestField 7 (some .long), Cond.methodLink RX2 200 yX2_land, Cond.instanceMethod yX2_land, Cond.selects RX2 yX2_land yX2_land, Cond.code yX2_land cX2_land 3 (some .int), Cond.fieldLink RX2 9 "PastureBids" "reserves" "[I", Cond.methodLink RX2 71 yX2_requireField, Cond.instanceMethod yX2_requireField, Cond.selects RX2 yX2_requireField yX2_requireField, Cond.code yX2_requireField cX2_requireField 2 none, Cond.methodLink RX2 140 yX2_winnerOfField, Cond.instanceMethod yX2_winnerOfField, Cond.selects RX2 yX2_winnerOfField yX2_winnerOfField, Cond.code yX2_winnerOfField cX2_winnerOfField 3 (some .int), Cond.methodLink RX2 229 yX2_hasField, Cond.static yX2_hasField, Cond.code yX2_hasField cX2_hasField 2 (some .boolean)]
def wsX2_digest_r4 : List Cond := [Cond.methodLink RX2 143 yX2_ownerOf, Cond.instanceMethod yX2_ownerOf, Cond.selects RX2 yX2_ownerOf yX2_ownerOf, Cond.code yX2_ownerOf cX2_ownerOf 2 (some .int), Cond.fieldLink RX2 17 "PastureBids" "owners" "[I", Cond.methodLink RX2 146 yX2_countingBidsWith, Cond.instanceMethod yX2_countingBidsWith, Cond.selects RX2 yX2_countingBidsWith yX2_countingBidsWith, Cond.code yX2_countingBidsWith cX2_countingBidsWith 4 (some .int), Cond.methodLink RX2 113 yX2_counts, Cond.instanceMethod yX2_counts, Cond.selects RX2 yX2_counts yX2_counts, Cond.code yX2_counts cX2_counts 2 (some .boolean), Cond.fieldLink RX2 32 "PastureBids" "withdrawn" "[Z", Cond.fieldLink RX2 13 "PastureBids" "ins" "[Z", Cond.fieldLink RX2 26 "PastureBids" "gains" "[I", Cond.methodLink RX2 203 yX2_alone, Cond.instanceMethod yX2_alone, Cond.selects RX2 yX2_alone yX2_alone, Cond.code yX2_alone cX2_alone 4 (some .int), Cond.methodLink RX2 172 yX2_highestAlone, Cond.instanceMethod yX2_highestAlone, Cond.selects RX2 yX2_highestAlone yX2_highestAlone, Cond.code yX2_highestAlone cX2_highestAlone 6 (some .int)]
def wsX2_digest_r5 : List Cond := [Cond.methodLink RX2 176 yX2_secondPrice, Cond.instanceMethod yX2_secondPrice, Cond.selects RX2 yX2_secondPrice yX2_secondPrice, Cond.code yX2_secondPrice cX2_secondPrice 4 (some .int), Cond.methodLink RX2 194 yX2_about, Cond.instanceMethod yX2_about, Cond.selects RX2 yX2_about yX2_about, Cond.code yX2_about cX2_about 3 (some .int), Cond.methodLink RX2 86 yX2_requireBidder, Cond.instanceMethod yX2_requireBidder, Cond.selects RX2 yX2_requireBidder yX2_requireBidder, Cond.code yX2_requireBidder cX2_requireBidder 2 none, Cond.methodLink RX2 109 yX2_asNumber, Cond.static yX2_asNumber, Cond.code yX2_asNumber cX2_asNumber 1 (some .int), Cond.methodLink RX2 123 yX2_bidsLeftOf, Cond.instanceMethod yX2_bidsLeftOf, Cond.selects RX2 yX2_bidsLeftOf yX2_bidsLeftOf, Cond.code yX2_bidsLeftOf cX2_bidsLeftOf 4 (some .int), Cond.methodLink RX2 197 yX2_told, Cond.instanceMethod yX2_told, Cond.selects RX2 yX2_told yX2_told, Cond.code yX2_told cX2_told 3 (some .int), Cond.methodLink RX2 97 yX2_requireBid]
def wsX2_digest_r6 : List Cond := [Cond.instanceMethod yX2_requireBid, Cond.selects RX2 yX2_requireBid yX2_requireBid, Cond.code yX2_requireBid cX2_requireBid 2 none]
def wsX2_digest : List Cond := .code yX2_digest cX2_digest 5 (some .long) :: ((wsX2_digest_r1 ++ (wsX2_digest_r2 ++ (wsX2_digest_r3 ++ (wsX2_digest_r4 ++ (wsX2_digest_r5 ++ wsX2_digest_r6))))) ++ wsX20 ++ wsX10 ++ wsX00 ++ (vx_atS RX2 210 "java/lang/IndexOutOfBoundsException" ["java/lang/RuntimeException", "java/lang/Exception"]).filter goodWord)
def wsX3_init : List Cond := .code yX3_init cX3_init 1 none :: ([.methodLink RX3 1 objectInit, .instanceMethod objectInit, .code objectInit ⟨#[0xb1]⟩ 1 none, .arrayClass .int, .fieldLink RX3 9 "PastureBidsModel" "reserves" "[I", .fieldLink RX3 13 "PastureBidsModel" "rows" "[I", .fieldLink RX3 16 "PastureBidsModel" "land" "[I", .fieldLink RX3 19 "PastureBidsModel" "people" "[I", .fieldLink RX3 22 "PastureBidsModel" "gains" "[I", .fieldLink RX3 25 "PastureBidsModel" "sizes" "[I"] ++ wsX30)
def wsX3_thrown : List Cond := .code yX3_thrown cX3_thrown 1 (some .int) :: ([.fieldLink RX3 28 "PastureBidsModel" "thrown" "I"] ++ wsX30)
def wsX3_fail : List Cond := .code yX3_fail cX3_fail 2 (some .int) :: ([.fieldLink RX3 28 "PastureBidsModel" "thrown" "I"] ++ wsX30)
def wsX3_isIn : List Cond := .code yX3_isIn cX3_isIn 3 (some .boolean) :: ([])
def wsX3_isPrice : List Cond := .code yX3_isPrice cX3_isPrice 1 (some .boolean) :: ([.methodLink RX3 32 yX3_isIn, .static yX3_isIn, .initialized RX3, .code yX3_isIn cX3_isIn 3 (some .boolean)])
def wsX3_isField : List Cond := .code yX3_isField cX3_isField 2 (some .boolean) :: ([.fieldLink RX3 36 "PastureBidsModel" "fields" "I", .methodLink RX3 32 yX3_isIn, .static yX3_isIn, .initialized RX3, .code yX3_isIn cX3_isIn 3 (some .boolean)] ++ wsX30)
def wsX3_isBidder : List Cond := .code yX3_isBidder cX3_isBidder 2 (some .boolean) :: ([.fieldLink RX3 39 "PastureBidsModel" "bidders" "I", .methodLink RX3 32 yX3_isIn, .static yX3_isIn, .initialized RX3, .code yX3_isIn cX3_isIn 3 (some .boolean)] ++ wsX30)
def wsX3_isBid : List Cond := .code yX3_isBid cX3_isBid 2 (some .boolean) :: ([.fieldLink RX3 42 "PastureBidsModel" "bids" "I", .methodLink RX3 32 yX3_isIn, .static yX3_isIn, .initialized RX3, .code yX3_isIn cX3_isIn 3 (some .boolean)] ++ wsX30)
def wsX3_bi : List Cond := .code yX3_bi cX3_bi 3 (some .int) :: ([.fieldLink RX3 13 "PastureBidsModel" "rows" "[I"] ++ wsX30)
def wsX3_bit : List Cond := .code yX3_bit cX3_bit 2 (some .int) :: ([])
def wsX3_reserveOf : List Cond := .code yX3_reserveOf cX3_reserveOf 4 (some .int) :: ([.fieldLink RX3 36 "PastureBidsModel" "fields" "I", .fieldLink RX3 9 "PastureBidsModel" "reserves" "[I", .methodLink RX3 45 yX3_bit, .static yX3_bit, .initialized RX3, .code yX3_bit cX3_bit 2 (some .int)] ++ wsX30)
def wsX3_gain : List Cond := .code yX3_gain cX3_gain 2 (some .int) :: ([.methodLink RX3 49 yX3_bi, .instanceMethod yX3_bi, .selects RX3 yX3_bi yX3_bi, .initialized RX3, .code yX3_bi cX3_bi 3 (some .int), .fieldLink RX3 13 "PastureBidsModel" "rows" "[I", .methodLink RX3 52 yX3_reserveOf, .instanceMethod yX3_reserveOf, .selects RX3 yX3_reserveOf yX3_reserveOf, .code yX3_reserveOf cX3_reserveOf 4 (some .int), .fieldLink RX3 36 "PastureBidsModel" "fields" "I", .fieldLink RX3 9 "PastureBidsModel" "reserves" "[I", .methodLink RX3 45 yX3_bit, .static yX3_bit, .code yX3_bit cX3_bit 2 (some .int)] ++ wsX30)
def wsX3_isCounted : List Cond := .code yX3_isCounted cX3_isCounted 2 (some .boolean) :: ([.fieldLink RX3 56 "PastureBidsModel" "out" "I", .methodLink RX3 49 yX3_bi, .instanceMethod yX3_bi, .selects RX3 yX3_bi yX3_bi, .initialized RX3, .code yX3_bi cX3_bi 3 (some .int), .fieldLink RX3 13 "PastureBidsModel" "rows" "[I", .methodLink RX3 45 yX3_bit, .static yX3_bit, .code yX3_bit cX3_bit 2 (some .int), .methodLink RX3 59 yX3_gain, .instanceMethod yX3_gain, .selects RX3 yX3_gain yX3_gain, .code yX3_gain cX3_gain 2 (some .int), .methodLink RX3 52 yX3_reserveOf, .instanceMethod yX3_reserveOf, .selects RX3 yX3_reserveOf yX3_reserveOf, .code yX3_reserveOf cX3_reserveOf 4 (some .int), .fieldLink RX3 36 "PastureBidsModel" "fields" "I", .fieldLink RX3 9 "PastureBidsModel" "reserves" "[I"] ++ wsX30)
def wsX3_sale_r1 : List Cond := [Cond.fieldLink RX3 22 "PastureBidsModel" "gains" "[I", Cond.fieldLink RX3 25 "PastureBidsModel" "sizes" "[I", Cond.fieldLink RX3 42 "PastureBidsModel" "bids" "I", Cond.fieldLink RX3 16 "PastureBidsModel" "land" "[I", Cond.fieldLink RX3 19 "PastureBidsModel" "people" "[I", Cond.methodLink RX3 62 yX3_isCounted, Cond.instanceMethod yX3_isCounted, Cond.selects RX3 yX3_isCounted yX3_isCounted, Cond.initialized RX3, Cond.code yX3_isCounted cX3_isCounted 2 (some .boolean), Cond.fieldLink RX3 56 "PastureBidsModel" "out" "I", Cond.methodLink RX3 49 yX3_bi, Cond.instanceMethod yX3_bi, Cond.selects RX3 yX3_bi yX3_bi, Cond.code yX3_bi cX3_bi 3 (some .int), Cond.fieldLink RX3 13 "PastureBidsModel" "rows" "[I", Cond.methodLink RX3 45 yX3_bit, Cond.static yX3_bit, Cond.code yX3_bit cX3_bit 2 (some .int), Cond.methodLink RX3 59 yX3_gain, Cond.instanceMethod yX3_gain, Cond.selects RX3 yX3_gain yX3_gain, Cond.code yX3_gain cX3_gain 2 (some .int), Cond.methodLink RX3 52 yX3_reserveOf]
def wsX3_sale_r2 : List Cond := [Cond.instanceMethod yX3_reserveOf, Cond.selects RX3 yX3_reserveOf yX3_reserveOf, Cond.code yX3_reserveOf cX3_reserveOf 4 (some .int), Cond.fieldLink RX3 36 "PastureBidsModel" "fields" "I", Cond.fieldLink RX3 9 "PastureBidsModel" "reserves" "[I"]
def wsX3_sale : List Cond := .code yX3_sale cX3_sale 8 (some .int) :: ((wsX3_sale_r1 ++ wsX3_sale_r2) ++ wsX30)
def wsX3_sumWithout_r1 : List Cond := [Cond.fieldLink RX3 56 "PastureBidsModel" "out" "I", Cond.fieldLink RX3 22 "PastureBidsModel" "gains" "[I", Cond.methodLink RX3 66 yX3_sale, Cond.instanceMethod yX3_sale, Cond.selects RX3 yX3_sale yX3_sale, Cond.initialized RX3, Cond.code yX3_sale cX3_sale 8 (some .int), Cond.fieldLink RX3 25 "PastureBidsModel" "sizes" "[I", Cond.fieldLink RX3 42 "PastureBidsModel" "bids" "I", Cond.fieldLink RX3 16 "PastureBidsModel" "land" "[I", Cond.fieldLink RX3 19 "PastureBidsModel" "people" "[I", Cond.methodLink RX3 62 yX3_isCounted, Cond.instanceMethod yX3_isCounted, Cond.selects RX3 yX3_isCounted yX3_isCounted, Cond.code yX3_isCounted cX3_isCounted 2 (some .boolean), Cond.methodLink RX3 49 yX3_bi, Cond.instanceMethod yX3_bi, Cond.selects RX3 yX3_bi yX3_bi, Cond.code yX3_bi cX3_bi 3 (some .int), Cond.fieldLink RX3 13 "PastureBidsModel" "rows" "[I", Cond.methodLink RX3 45 yX3_bit, Cond.static yX3_bit, Cond.code yX3_bit cX3_bit 2 (some .int), Cond.methodLink RX3 59 yX3_gain]
def wsX3_sumWithout_r2 : List Cond := [Cond.instanceMethod yX3_gain, Cond.selects RX3 yX3_gain yX3_gain, Cond.code yX3_gain cX3_gain 2 (some .int), Cond.methodLink RX3 52 yX3_reserveOf, Cond.instanceMethod yX3_reserveOf, Cond.selects RX3 yX3_reserveOf yX3_reserveOf, Cond.code yX3_reserveOf cX3_reserveOf 4 (some .int), Cond.fieldLink RX3 36 "PastureBidsModel" "fields" "I", Cond.fieldLink RX3 9 "PastureBidsModel" "reserves" "[I"]
def wsX3_sumWithout : List Cond := .code yX3_sumWithout cX3_sumWithout 4 (some .int) :: ((wsX3_sumWithout_r1 ++ wsX3_sumWithout_r2) ++ wsX30)
def wsX3_bidOf : List Cond := .code yX3_bidOf cX3_bidOf 4 (some .int) :: ([.fieldLink RX3 42 "PastureBidsModel" "bids" "I", .methodLink RX3 45 yX3_bit, .static yX3_bit, .initialized RX3, .code yX3_bit cX3_bit 2 (some .int), .methodLink RX3 49 yX3_bi, .instanceMethod yX3_bi, .selects RX3 yX3_bi yX3_bi, .code yX3_bi cX3_bi 3 (some .int), .fieldLink RX3 13 "PastureBidsModel" "rows" "[I"] ++ wsX30)
def wsX3_paid_r1 : List Cond := [Cond.fieldLink RX3 22 "PastureBidsModel" "gains" "[I", Cond.methodLink RX3 66 yX3_sale, Cond.instanceMethod yX3_sale, Cond.selects RX3 yX3_sale yX3_sale, Cond.initialized RX3, Cond.code yX3_sale cX3_sale 8 (some .int), Cond.fieldLink RX3 25 "PastureBidsModel" "sizes" "[I", Cond.fieldLink RX3 42 "PastureBidsModel" "bids" "I", Cond.fieldLink RX3 16 "PastureBidsModel" "land" "[I", Cond.fieldLink RX3 19 "PastureBidsModel" "people" "[I", Cond.methodLink RX3 62 yX3_isCounted, Cond.instanceMethod yX3_isCounted, Cond.selects RX3 yX3_isCounted yX3_isCounted, Cond.code yX3_isCounted cX3_isCounted 2 (some .boolean), Cond.fieldLink RX3 56 "PastureBidsModel" "out" "I", Cond.methodLink RX3 49 yX3_bi, Cond.instanceMethod yX3_bi, Cond.selects RX3 yX3_bi yX3_bi, Cond.code yX3_bi cX3_bi 3 (some .int), Cond.fieldLink RX3 13 "PastureBidsModel" "rows" "[I", Cond.methodLink RX3 45 yX3_bit, Cond.static yX3_bit, Cond.code yX3_bit cX3_bit 2 (some .int), Cond.methodLink RX3 59 yX3_gain]
def wsX3_paid_r2 : List Cond := [Cond.instanceMethod yX3_gain, Cond.selects RX3 yX3_gain yX3_gain, Cond.code yX3_gain cX3_gain 2 (some .int), Cond.methodLink RX3 52 yX3_reserveOf, Cond.instanceMethod yX3_reserveOf, Cond.selects RX3 yX3_reserveOf yX3_reserveOf, Cond.code yX3_reserveOf cX3_reserveOf 4 (some .int), Cond.fieldLink RX3 36 "PastureBidsModel" "fields" "I", Cond.fieldLink RX3 9 "PastureBidsModel" "reserves" "[I", Cond.methodLink RX3 70 yX3_bidOf, Cond.instanceMethod yX3_bidOf, Cond.selects RX3 yX3_bidOf yX3_bidOf, Cond.code yX3_bidOf cX3_bidOf 4 (some .int), Cond.methodLink RX3 73 yX3_sumWithout, Cond.instanceMethod yX3_sumWithout, Cond.selects RX3 yX3_sumWithout yX3_sumWithout, Cond.code yX3_sumWithout cX3_sumWithout 4 (some .int)]
def wsX3_paid : List Cond := .code yX3_paid cX3_paid 5 (some .int) :: ((wsX3_paid_r1 ++ wsX3_paid_r2) ++ wsX30)
def wsX3_profit_r1 : List Cond := [Cond.methodLink RX3 66 yX3_sale, Cond.instanceMethod yX3_sale, Cond.selects RX3 yX3_sale yX3_sale, Cond.initialized RX3, Cond.code yX3_sale cX3_sale 8 (some .int), Cond.fieldLink RX3 22 "PastureBidsModel" "gains" "[I", Cond.fieldLink RX3 25 "PastureBidsModel" "sizes" "[I", Cond.fieldLink RX3 42 "PastureBidsModel" "bids" "I", Cond.fieldLink RX3 16 "PastureBidsModel" "land" "[I", Cond.fieldLink RX3 19 "PastureBidsModel" "people" "[I", Cond.methodLink RX3 62 yX3_isCounted, Cond.instanceMethod yX3_isCounted, Cond.selects RX3 yX3_isCounted yX3_isCounted, Cond.code yX3_isCounted cX3_isCounted 2 (some .boolean), Cond.fieldLink RX3 56 "PastureBidsModel" "out" "I", Cond.methodLink RX3 49 yX3_bi, Cond.instanceMethod yX3_bi, Cond.selects RX3 yX3_bi yX3_bi, Cond.code yX3_bi cX3_bi 3 (some .int), Cond.fieldLink RX3 13 "PastureBidsModel" "rows" "[I", Cond.methodLink RX3 45 yX3_bit, Cond.static yX3_bit, Cond.code yX3_bit cX3_bit 2 (some .int), Cond.methodLink RX3 59 yX3_gain]
def wsX3_profit_r2 : List Cond := [Cond.instanceMethod yX3_gain, Cond.selects RX3 yX3_gain yX3_gain, Cond.code yX3_gain cX3_gain 2 (some .int), Cond.methodLink RX3 52 yX3_reserveOf, Cond.instanceMethod yX3_reserveOf, Cond.selects RX3 yX3_reserveOf yX3_reserveOf, Cond.code yX3_reserveOf cX3_reserveOf 4 (some .int), Cond.fieldLink RX3 36 "PastureBidsModel" "fields" "I", Cond.fieldLink RX3 9 "PastureBidsModel" "reserves" "[I", Cond.methodLink RX3 70 yX3_bidOf, Cond.instanceMethod yX3_bidOf, Cond.selects RX3 yX3_bidOf yX3_bidOf, Cond.code yX3_bidOf cX3_bidOf 4 (some .int), Cond.methodLink RX3 76 yX3_paid, Cond.instanceMethod yX3_paid, Cond.selects RX3 yX3_paid yX3_paid, Cond.code yX3_paid cX3_paid 5 (some .int), Cond.methodLink RX3 73 yX3_sumWithout, Cond.instanceMethod yX3_sumWithout, Cond.selects RX3 yX3_sumWithout yX3_sumWithout, Cond.code yX3_sumWithout cX3_sumWithout 4 (some .int)]
def wsX3_profit : List Cond := .code yX3_profit cX3_profit 3 (some .int) :: ((wsX3_profit_r1 ++ wsX3_profit_r2) ++ wsX30)
def wsX3_allPaid_r1 : List Cond := [Cond.fieldLink RX3 39 "PastureBidsModel" "bidders" "I", Cond.methodLink RX3 76 yX3_paid, Cond.instanceMethod yX3_paid, Cond.selects RX3 yX3_paid yX3_paid, Cond.initialized RX3, Cond.code yX3_paid cX3_paid 5 (some .int), Cond.fieldLink RX3 22 "PastureBidsModel" "gains" "[I", Cond.methodLink RX3 66 yX3_sale, Cond.instanceMethod yX3_sale, Cond.selects RX3 yX3_sale yX3_sale, Cond.code yX3_sale cX3_sale 8 (some .int), Cond.fieldLink RX3 25 "PastureBidsModel" "sizes" "[I", Cond.fieldLink RX3 42 "PastureBidsModel" "bids" "I", Cond.fieldLink RX3 16 "PastureBidsModel" "land" "[I", Cond.fieldLink RX3 19 "PastureBidsModel" "people" "[I", Cond.methodLink RX3 62 yX3_isCounted, Cond.instanceMethod yX3_isCounted, Cond.selects RX3 yX3_isCounted yX3_isCounted, Cond.code yX3_isCounted cX3_isCounted 2 (some .boolean), Cond.fieldLink RX3 56 "PastureBidsModel" "out" "I", Cond.methodLink RX3 49 yX3_bi, Cond.instanceMethod yX3_bi, Cond.selects RX3 yX3_bi yX3_bi, Cond.code yX3_bi cX3_bi 3 (some .int)]
def wsX3_allPaid_r2 : List Cond := [Cond.fieldLink RX3 13 "PastureBidsModel" "rows" "[I", Cond.methodLink RX3 45 yX3_bit, Cond.static yX3_bit, Cond.code yX3_bit cX3_bit 2 (some .int), Cond.methodLink RX3 59 yX3_gain, Cond.instanceMethod yX3_gain, Cond.selects RX3 yX3_gain yX3_gain, Cond.code yX3_gain cX3_gain 2 (some .int), Cond.methodLink RX3 52 yX3_reserveOf, Cond.instanceMethod yX3_reserveOf, Cond.selects RX3 yX3_reserveOf yX3_reserveOf, Cond.code yX3_reserveOf cX3_reserveOf 4 (some .int), Cond.fieldLink RX3 36 "PastureBidsModel" "fields" "I", Cond.fieldLink RX3 9 "PastureBidsModel" "reserves" "[I", Cond.methodLink RX3 70 yX3_bidOf, Cond.instanceMethod yX3_bidOf, Cond.selects RX3 yX3_bidOf yX3_bidOf, Cond.code yX3_bidOf cX3_bidOf 4 (some .int), Cond.methodLink RX3 73 yX3_sumWithout, Cond.instanceMethod yX3_sumWithout, Cond.selects RX3 yX3_sumWithout yX3_sumWithout, Cond.code yX3_sumWithout cX3_sumWithout 4 (some .int)]
def wsX3_allPaid : List Cond := .code yX3_allPaid cX3_allPaid 3 (some .int) :: ((wsX3_allPaid_r1 ++ wsX3_allPaid_r2) ++ wsX30)
def wsX3_field : List Cond := .code yX3_field cX3_field 2 (some .int) :: ([.fieldLink RX3 28 "PastureBidsModel" "thrown" "I", .fieldLink RX3 36 "PastureBidsModel" "fields" "I", .fieldLink RX3 9 "PastureBidsModel" "reserves" "[I", .methodLink RX3 32 yX3_isIn, .static yX3_isIn, .initialized RX3, .code yX3_isIn cX3_isIn 3 (some .boolean), .methodLink RX3 79 yX3_fail, .instanceMethod yX3_fail, .selects RX3 yX3_fail yX3_fail, .code yX3_fail cX3_fail 2 (some .int)] ++ wsX30)
def wsX3_setReserve : List Cond := .code yX3_setReserve cX3_setReserve 4 (some .int) :: ([.fieldLink RX3 28 "PastureBidsModel" "thrown" "I", .fieldLink RX3 9 "PastureBidsModel" "reserves" "[I", .methodLink RX3 82 yX3_isField, .instanceMethod yX3_isField, .selects RX3 yX3_isField yX3_isField, .initialized RX3, .code yX3_isField cX3_isField 2 (some .boolean), .fieldLink RX3 36 "PastureBidsModel" "fields" "I", .methodLink RX3 32 yX3_isIn, .static yX3_isIn, .code yX3_isIn cX3_isIn 3 (some .boolean), .methodLink RX3 79 yX3_fail, .instanceMethod yX3_fail, .selects RX3 yX3_fail yX3_fail, .code yX3_fail cX3_fail 2 (some .int)] ++ wsX30)
def wsX3_join : List Cond := .code yX3_join cX3_join 1 (some .int) :: ([.fieldLink RX3 28 "PastureBidsModel" "thrown" "I", .fieldLink RX3 39 "PastureBidsModel" "bidders" "I", .methodLink RX3 79 yX3_fail, .instanceMethod yX3_fail, .selects RX3 yX3_fail yX3_fail, .initialized RX3, .code yX3_fail cX3_fail 2 (some .int)] ++ wsX30)
def wsX3_setIn : List Cond := .code yX3_setIn cX3_setIn 4 (some .boolean) :: ([.fieldLink RX3 28 "PastureBidsModel" "thrown" "I", .fieldLink RX3 56 "PastureBidsModel" "out" "I", .methodLink RX3 85 yX3_isBidder, .instanceMethod yX3_isBidder, .selects RX3 yX3_isBidder yX3_isBidder, .initialized RX3, .code yX3_isBidder cX3_isBidder 2 (some .boolean), .fieldLink RX3 39 "PastureBidsModel" "bidders" "I", .methodLink RX3 32 yX3_isIn, .static yX3_isIn, .code yX3_isIn cX3_isIn 3 (some .boolean), .methodLink RX3 45 yX3_bit, .static yX3_bit, .code yX3_bit cX3_bit 2 (some .int)] ++ wsX30)
def wsX3_bid_r1 : List Cond := [Cond.fieldLink RX3 28 "PastureBidsModel" "thrown" "I", Cond.fieldLink RX3 36 "PastureBidsModel" "fields" "I", Cond.fieldLink RX3 42 "PastureBidsModel" "bids" "I", Cond.arrayClass .int, Cond.fieldLink RX3 13 "PastureBidsModel" "rows" "[I", Cond.methodLink RX3 91 arraycopyName, Cond.native arraycopyName, Cond.static arraycopyName, Cond.initialized "java/lang/System", Cond.methodLink RX3 85 yX3_isBidder, Cond.instanceMethod yX3_isBidder, Cond.selects RX3 yX3_isBidder yX3_isBidder, Cond.initialized RX3, Cond.code yX3_isBidder cX3_isBidder 2 (some .boolean), Cond.fieldLink RX3 39 "PastureBidsModel" "bidders" "I", Cond.methodLink RX3 32 yX3_isIn, Cond.static yX3_isIn, Cond.code yX3_isIn cX3_isIn 3 (some .boolean), Cond.methodLink RX3 79 yX3_fail, Cond.instanceMethod yX3_fail, Cond.selects RX3 yX3_fail yX3_fail, Cond.code yX3_fail cX3_fail 2 (some .int), Cond.methodLink RX3 88 yX3_isPrice, Cond.static yX3_isPrice]
def wsX3_bid_r2 : List Cond := [Cond.code yX3_isPrice cX3_isPrice 1 (some .boolean)]
def wsX3_bid : List Cond := .code yX3_bid cX3_bid 5 (some .int) :: ((wsX3_bid_r1 ++ wsX3_bid_r2) ++ wsX30)
def wsX3_change : List Cond := .code yX3_change cX3_change 5 (some .int) :: ([.fieldLink RX3 13 "PastureBidsModel" "rows" "[I", .methodLink RX3 97 yX3_isBid, .instanceMethod yX3_isBid, .selects RX3 yX3_isBid yX3_isBid, .initialized RX3, .code yX3_isBid cX3_isBid 2 (some .boolean), .fieldLink RX3 42 "PastureBidsModel" "bids" "I", .methodLink RX3 32 yX3_isIn, .static yX3_isIn, .code yX3_isIn cX3_isIn 3 (some .boolean), .methodLink RX3 79 yX3_fail, .instanceMethod yX3_fail, .selects RX3 yX3_fail yX3_fail, .code yX3_fail cX3_fail 2 (some .int), .fieldLink RX3 28 "PastureBidsModel" "thrown" "I", .methodLink RX3 88 yX3_isPrice, .static yX3_isPrice, .code yX3_isPrice cX3_isPrice 1 (some .boolean), .methodLink RX3 49 yX3_bi, .instanceMethod yX3_bi, .selects RX3 yX3_bi yX3_bi, .code yX3_bi cX3_bi 3 (some .int)] ++ wsX30)
def wsX3_setPrice_r1 : List Cond := [Cond.fieldLink RX3 28 "PastureBidsModel" "thrown" "I", Cond.methodLink RX3 100 yX3_change, Cond.instanceMethod yX3_change, Cond.selects RX3 yX3_change yX3_change, Cond.initialized RX3, Cond.code yX3_change cX3_change 5 (some .int), Cond.fieldLink RX3 13 "PastureBidsModel" "rows" "[I", Cond.methodLink RX3 97 yX3_isBid, Cond.instanceMethod yX3_isBid, Cond.selects RX3 yX3_isBid yX3_isBid, Cond.code yX3_isBid cX3_isBid 2 (some .boolean), Cond.fieldLink RX3 42 "PastureBidsModel" "bids" "I", Cond.methodLink RX3 32 yX3_isIn, Cond.static yX3_isIn, Cond.code yX3_isIn cX3_isIn 3 (some .boolean), Cond.methodLink RX3 79 yX3_fail, Cond.instanceMethod yX3_fail, Cond.selects RX3 yX3_fail yX3_fail, Cond.code yX3_fail cX3_fail 2 (some .int), Cond.methodLink RX3 88 yX3_isPrice, Cond.static yX3_isPrice, Cond.code yX3_isPrice cX3_isPrice 1 (some .boolean), Cond.methodLink RX3 49 yX3_bi, Cond.instanceMethod yX3_bi]
def wsX3_setPrice_r2 : List Cond := [Cond.selects RX3 yX3_bi yX3_bi, Cond.code yX3_bi cX3_bi 3 (some .int)]
def wsX3_setPrice : List Cond := .code yX3_setPrice cX3_setPrice 3 (some .int) :: ((wsX3_setPrice_r1 ++ wsX3_setPrice_r2) ++ wsX30)
def wsX3_setWorth_r1 : List Cond := [Cond.fieldLink RX3 28 "PastureBidsModel" "thrown" "I", Cond.methodLink RX3 100 yX3_change, Cond.instanceMethod yX3_change, Cond.selects RX3 yX3_change yX3_change, Cond.initialized RX3, Cond.code yX3_change cX3_change 5 (some .int), Cond.fieldLink RX3 13 "PastureBidsModel" "rows" "[I", Cond.methodLink RX3 97 yX3_isBid, Cond.instanceMethod yX3_isBid, Cond.selects RX3 yX3_isBid yX3_isBid, Cond.code yX3_isBid cX3_isBid 2 (some .boolean), Cond.fieldLink RX3 42 "PastureBidsModel" "bids" "I", Cond.methodLink RX3 32 yX3_isIn, Cond.static yX3_isIn, Cond.code yX3_isIn cX3_isIn 3 (some .boolean), Cond.methodLink RX3 79 yX3_fail, Cond.instanceMethod yX3_fail, Cond.selects RX3 yX3_fail yX3_fail, Cond.code yX3_fail cX3_fail 2 (some .int), Cond.methodLink RX3 88 yX3_isPrice, Cond.static yX3_isPrice, Cond.code yX3_isPrice cX3_isPrice 1 (some .boolean), Cond.methodLink RX3 49 yX3_bi, Cond.instanceMethod yX3_bi]
def wsX3_setWorth_r2 : List Cond := [Cond.selects RX3 yX3_bi yX3_bi, Cond.code yX3_bi cX3_bi 3 (some .int)]
def wsX3_setWorth : List Cond := .code yX3_setWorth cX3_setWorth 3 (some .int) :: ((wsX3_setWorth_r1 ++ wsX3_setWorth_r2) ++ wsX30)
def wsX3_withdraw : List Cond := .code yX3_withdraw cX3_withdraw 4 (some .int) :: ([.fieldLink RX3 28 "PastureBidsModel" "thrown" "I", .fieldLink RX3 13 "PastureBidsModel" "rows" "[I", .fieldLink RX3 42 "PastureBidsModel" "bids" "I", .methodLink RX3 97 yX3_isBid, .instanceMethod yX3_isBid, .selects RX3 yX3_isBid yX3_isBid, .initialized RX3, .code yX3_isBid cX3_isBid 2 (some .boolean), .methodLink RX3 32 yX3_isIn, .static yX3_isIn, .code yX3_isIn cX3_isIn 3 (some .boolean), .methodLink RX3 79 yX3_fail, .instanceMethod yX3_fail, .selects RX3 yX3_fail yX3_fail, .code yX3_fail cX3_fail 2 (some .int), .methodLink RX3 49 yX3_bi, .instanceMethod yX3_bi, .selects RX3 yX3_bi yX3_bi, .code yX3_bi cX3_bi 3 (some .int)] ++ wsX30)
def wsX3_bidTold_r1 : List Cond := [Cond.methodLink RX3 59 yX3_gain, Cond.instanceMethod yX3_gain, Cond.selects RX3 yX3_gain yX3_gain, Cond.initialized RX3, Cond.code yX3_gain cX3_gain 2 (some .int), Cond.methodLink RX3 49 yX3_bi, Cond.instanceMethod yX3_bi, Cond.selects RX3 yX3_bi yX3_bi, Cond.code yX3_bi cX3_bi 3 (some .int), Cond.fieldLink RX3 13 "PastureBidsModel" "rows" "[I", Cond.methodLink RX3 52 yX3_reserveOf, Cond.instanceMethod yX3_reserveOf, Cond.selects RX3 yX3_reserveOf yX3_reserveOf, Cond.code yX3_reserveOf cX3_reserveOf 4 (some .int), Cond.fieldLink RX3 36 "PastureBidsModel" "fields" "I", Cond.fieldLink RX3 9 "PastureBidsModel" "reserves" "[I", Cond.methodLink RX3 45 yX3_bit, Cond.static yX3_bit, Cond.code yX3_bit cX3_bit 2 (some .int), Cond.methodLink RX3 62 yX3_isCounted, Cond.instanceMethod yX3_isCounted, Cond.selects RX3 yX3_isCounted yX3_isCounted, Cond.code yX3_isCounted cX3_isCounted 2 (some .boolean), Cond.fieldLink RX3 56 "PastureBidsModel" "out" "I"]
def wsX3_bidTold_r2 : List Cond := [Cond.methodLink RX3 66 yX3_sale, Cond.instanceMethod yX3_sale, Cond.selects RX3 yX3_sale yX3_sale, Cond.code yX3_sale cX3_sale 8 (some .int), Cond.fieldLink RX3 22 "PastureBidsModel" "gains" "[I", Cond.fieldLink RX3 25 "PastureBidsModel" "sizes" "[I", Cond.fieldLink RX3 42 "PastureBidsModel" "bids" "I", Cond.fieldLink RX3 16 "PastureBidsModel" "land" "[I", Cond.fieldLink RX3 19 "PastureBidsModel" "people" "[I"]
def wsX3_bidTold : List Cond := .code yX3_bidTold cX3_bidTold 3 (some .int) :: ((wsX3_bidTold_r1 ++ wsX3_bidTold_r2) ++ wsX30)
def wsX3_told_r1 : List Cond := [Cond.fieldLink RX3 28 "PastureBidsModel" "thrown" "I", Cond.methodLink RX3 97 yX3_isBid, Cond.instanceMethod yX3_isBid, Cond.selects RX3 yX3_isBid yX3_isBid, Cond.initialized RX3, Cond.code yX3_isBid cX3_isBid 2 (some .boolean), Cond.fieldLink RX3 42 "PastureBidsModel" "bids" "I", Cond.methodLink RX3 32 yX3_isIn, Cond.static yX3_isIn, Cond.code yX3_isIn cX3_isIn 3 (some .boolean), Cond.methodLink RX3 104 yX3_bidTold, Cond.instanceMethod yX3_bidTold, Cond.selects RX3 yX3_bidTold yX3_bidTold, Cond.code yX3_bidTold cX3_bidTold 3 (some .int), Cond.methodLink RX3 59 yX3_gain, Cond.instanceMethod yX3_gain, Cond.selects RX3 yX3_gain yX3_gain, Cond.code yX3_gain cX3_gain 2 (some .int), Cond.methodLink RX3 49 yX3_bi, Cond.instanceMethod yX3_bi, Cond.selects RX3 yX3_bi yX3_bi, Cond.code yX3_bi cX3_bi 3 (some .int), Cond.fieldLink RX3 13 "PastureBidsModel" "rows" "[I", Cond.methodLink RX3 52 yX3_reserveOf]
def wsX3_told_r2 : List Cond := [Cond.instanceMethod yX3_reserveOf, Cond.selects RX3 yX3_reserveOf yX3_reserveOf, Cond.code yX3_reserveOf cX3_reserveOf 4 (some .int), Cond.fieldLink RX3 36 "PastureBidsModel" "fields" "I", Cond.fieldLink RX3 9 "PastureBidsModel" "reserves" "[I", Cond.methodLink RX3 45 yX3_bit, Cond.static yX3_bit, Cond.code yX3_bit cX3_bit 2 (some .int), Cond.methodLink RX3 62 yX3_isCounted, Cond.instanceMethod yX3_isCounted, Cond.selects RX3 yX3_isCounted yX3_isCounted, Cond.code yX3_isCounted cX3_isCounted 2 (some .boolean), Cond.fieldLink RX3 56 "PastureBidsModel" "out" "I", Cond.methodLink RX3 66 yX3_sale, Cond.instanceMethod yX3_sale, Cond.selects RX3 yX3_sale yX3_sale, Cond.code yX3_sale cX3_sale 8 (some .int), Cond.fieldLink RX3 22 "PastureBidsModel" "gains" "[I", Cond.fieldLink RX3 25 "PastureBidsModel" "sizes" "[I", Cond.fieldLink RX3 16 "PastureBidsModel" "land" "[I", Cond.fieldLink RX3 19 "PastureBidsModel" "people" "[I", Cond.methodLink RX3 79 yX3_fail, Cond.instanceMethod yX3_fail, Cond.selects RX3 yX3_fail yX3_fail]
def wsX3_told_r3 : List Cond := [Cond.code yX3_fail cX3_fail 2 (some .int)]
def wsX3_told : List Cond := .code yX3_told cX3_told 3 (some .int) :: ((wsX3_told_r1 ++ (wsX3_told_r2 ++ wsX3_told_r3)) ++ wsX30)
def wsX3_bidderTold_r1 : List Cond := [Cond.fieldLink RX3 56 "PastureBidsModel" "out" "I", Cond.fieldLink RX3 42 "PastureBidsModel" "bids" "I", Cond.methodLink RX3 45 yX3_bit, Cond.static yX3_bit, Cond.initialized RX3, Cond.code yX3_bit cX3_bit 2 (some .int), Cond.methodLink RX3 49 yX3_bi, Cond.instanceMethod yX3_bi, Cond.selects RX3 yX3_bi yX3_bi, Cond.code yX3_bi cX3_bi 3 (some .int), Cond.fieldLink RX3 13 "PastureBidsModel" "rows" "[I", Cond.methodLink RX3 66 yX3_sale, Cond.instanceMethod yX3_sale, Cond.selects RX3 yX3_sale yX3_sale, Cond.code yX3_sale cX3_sale 8 (some .int), Cond.fieldLink RX3 22 "PastureBidsModel" "gains" "[I", Cond.fieldLink RX3 25 "PastureBidsModel" "sizes" "[I", Cond.fieldLink RX3 16 "PastureBidsModel" "land" "[I", Cond.fieldLink RX3 19 "PastureBidsModel" "people" "[I", Cond.methodLink RX3 62 yX3_isCounted, Cond.instanceMethod yX3_isCounted, Cond.selects RX3 yX3_isCounted yX3_isCounted, Cond.code yX3_isCounted cX3_isCounted 2 (some .boolean), Cond.methodLink RX3 59 yX3_gain]
def wsX3_bidderTold_r2 : List Cond := [Cond.instanceMethod yX3_gain, Cond.selects RX3 yX3_gain yX3_gain, Cond.code yX3_gain cX3_gain 2 (some .int), Cond.methodLink RX3 52 yX3_reserveOf, Cond.instanceMethod yX3_reserveOf, Cond.selects RX3 yX3_reserveOf yX3_reserveOf, Cond.code yX3_reserveOf cX3_reserveOf 4 (some .int), Cond.fieldLink RX3 36 "PastureBidsModel" "fields" "I", Cond.fieldLink RX3 9 "PastureBidsModel" "reserves" "[I", Cond.methodLink RX3 70 yX3_bidOf, Cond.instanceMethod yX3_bidOf, Cond.selects RX3 yX3_bidOf yX3_bidOf, Cond.code yX3_bidOf cX3_bidOf 4 (some .int), Cond.methodLink RX3 76 yX3_paid, Cond.instanceMethod yX3_paid, Cond.selects RX3 yX3_paid yX3_paid, Cond.code yX3_paid cX3_paid 5 (some .int), Cond.methodLink RX3 73 yX3_sumWithout, Cond.instanceMethod yX3_sumWithout, Cond.selects RX3 yX3_sumWithout yX3_sumWithout, Cond.code yX3_sumWithout cX3_sumWithout 4 (some .int), Cond.methodLink RX3 107 yX3_profit, Cond.instanceMethod yX3_profit, Cond.selects RX3 yX3_profit yX3_profit]
def wsX3_bidderTold_r3 : List Cond := [Cond.code yX3_profit cX3_profit 3 (some .int)]
def wsX3_bidderTold : List Cond := .code yX3_bidderTold cX3_bidderTold 5 (some .int) :: ((wsX3_bidderTold_r1 ++ (wsX3_bidderTold_r2 ++ wsX3_bidderTold_r3)) ++ wsX30)
def wsX3_about_r1 : List Cond := [Cond.fieldLink RX3 28 "PastureBidsModel" "thrown" "I", Cond.methodLink RX3 85 yX3_isBidder, Cond.instanceMethod yX3_isBidder, Cond.selects RX3 yX3_isBidder yX3_isBidder, Cond.initialized RX3, Cond.code yX3_isBidder cX3_isBidder 2 (some .boolean), Cond.fieldLink RX3 39 "PastureBidsModel" "bidders" "I", Cond.methodLink RX3 32 yX3_isIn, Cond.static yX3_isIn, Cond.code yX3_isIn cX3_isIn 3 (some .boolean), Cond.methodLink RX3 110 yX3_bidderTold, Cond.instanceMethod yX3_bidderTold, Cond.selects RX3 yX3_bidderTold yX3_bidderTold, Cond.code yX3_bidderTold cX3_bidderTold 5 (some .int), Cond.fieldLink RX3 56 "PastureBidsModel" "out" "I", Cond.fieldLink RX3 42 "PastureBidsModel" "bids" "I", Cond.methodLink RX3 45 yX3_bit, Cond.static yX3_bit, Cond.code yX3_bit cX3_bit 2 (some .int), Cond.methodLink RX3 49 yX3_bi, Cond.instanceMethod yX3_bi, Cond.selects RX3 yX3_bi yX3_bi, Cond.code yX3_bi cX3_bi 3 (some .int), Cond.fieldLink RX3 13 "PastureBidsModel" "rows" "[I"]
def wsX3_about_r2 : List Cond := [Cond.methodLink RX3 66 yX3_sale, Cond.instanceMethod yX3_sale, Cond.selects RX3 yX3_sale yX3_sale, Cond.code yX3_sale cX3_sale 8 (some .int), Cond.fieldLink RX3 22 "PastureBidsModel" "gains" "[I", Cond.fieldLink RX3 25 "PastureBidsModel" "sizes" "[I", Cond.fieldLink RX3 16 "PastureBidsModel" "land" "[I", Cond.fieldLink RX3 19 "PastureBidsModel" "people" "[I", Cond.methodLink RX3 62 yX3_isCounted, Cond.instanceMethod yX3_isCounted, Cond.selects RX3 yX3_isCounted yX3_isCounted, Cond.code yX3_isCounted cX3_isCounted 2 (some .boolean), Cond.methodLink RX3 59 yX3_gain, Cond.instanceMethod yX3_gain, Cond.selects RX3 yX3_gain yX3_gain, Cond.code yX3_gain cX3_gain 2 (some .int), Cond.methodLink RX3 52 yX3_reserveOf, Cond.instanceMethod yX3_reserveOf, Cond.selects RX3 yX3_reserveOf yX3_reserveOf, Cond.code yX3_reserveOf cX3_reserveOf 4 (some .int), Cond.fieldLink RX3 36 "PastureBidsModel" "fields" "I", Cond.fieldLink RX3 9 "PastureBidsModel" "reserves" "[I", Cond.methodLink RX3 70 yX3_bidOf, Cond.instanceMethod yX3_bidOf]
def wsX3_about_r3 : List Cond := [Cond.selects RX3 yX3_bidOf yX3_bidOf, Cond.code yX3_bidOf cX3_bidOf 4 (some .int), Cond.methodLink RX3 76 yX3_paid, Cond.instanceMethod yX3_paid, Cond.selects RX3 yX3_paid yX3_paid, Cond.code yX3_paid cX3_paid 5 (some .int), Cond.methodLink RX3 73 yX3_sumWithout, Cond.instanceMethod yX3_sumWithout, Cond.selects RX3 yX3_sumWithout yX3_sumWithout, Cond.code yX3_sumWithout cX3_sumWithout 4 (some .int), Cond.methodLink RX3 107 yX3_profit, Cond.instanceMethod yX3_profit, Cond.selects RX3 yX3_profit yX3_profit, Cond.code yX3_profit cX3_profit 3 (some .int), Cond.methodLink RX3 79 yX3_fail, Cond.instanceMethod yX3_fail, Cond.selects RX3 yX3_fail yX3_fail, Cond.code yX3_fail cX3_fail 2 (some .int)]
def wsX3_about : List Cond := .code yX3_about cX3_about 3 (some .int) :: ((wsX3_about_r1 ++ (wsX3_about_r2 ++ wsX3_about_r3)) ++ wsX30)
def wsX3_fieldTold_r1 : List Cond := [Cond.fieldLink RX3 9 "PastureBidsModel" "reserves" "[I", Cond.fieldLink RX3 42 "PastureBidsModel" "bids" "I", Cond.methodLink RX3 66 yX3_sale, Cond.instanceMethod yX3_sale, Cond.selects RX3 yX3_sale yX3_sale, Cond.initialized RX3, Cond.code yX3_sale cX3_sale 8 (some .int), Cond.fieldLink RX3 22 "PastureBidsModel" "gains" "[I", Cond.fieldLink RX3 25 "PastureBidsModel" "sizes" "[I", Cond.fieldLink RX3 16 "PastureBidsModel" "land" "[I", Cond.fieldLink RX3 19 "PastureBidsModel" "people" "[I", Cond.methodLink RX3 62 yX3_isCounted, Cond.instanceMethod yX3_isCounted, Cond.selects RX3 yX3_isCounted yX3_isCounted, Cond.code yX3_isCounted cX3_isCounted 2 (some .boolean), Cond.fieldLink RX3 56 "PastureBidsModel" "out" "I", Cond.methodLink RX3 49 yX3_bi, Cond.instanceMethod yX3_bi, Cond.selects RX3 yX3_bi yX3_bi, Cond.code yX3_bi cX3_bi 3 (some .int), Cond.fieldLink RX3 13 "PastureBidsModel" "rows" "[I", Cond.methodLink RX3 45 yX3_bit, Cond.static yX3_bit, Cond.code yX3_bit cX3_bit 2 (some .int)]
def wsX3_fieldTold_r2 : List Cond := [Cond.methodLink RX3 59 yX3_gain, Cond.instanceMethod yX3_gain, Cond.selects RX3 yX3_gain yX3_gain, Cond.code yX3_gain cX3_gain 2 (some .int), Cond.methodLink RX3 52 yX3_reserveOf, Cond.instanceMethod yX3_reserveOf, Cond.selects RX3 yX3_reserveOf yX3_reserveOf, Cond.code yX3_reserveOf cX3_reserveOf 4 (some .int), Cond.fieldLink RX3 36 "PastureBidsModel" "fields" "I"]
def wsX3_fieldTold : List Cond := .code yX3_fieldTold cX3_fieldTold 6 (some .int) :: ((wsX3_fieldTold_r1 ++ wsX3_fieldTold_r2) ++ wsX30)
def wsX3_land_r1 : List Cond := [Cond.fieldLink RX3 28 "PastureBidsModel" "thrown" "I", Cond.methodLink RX3 82 yX3_isField, Cond.instanceMethod yX3_isField, Cond.selects RX3 yX3_isField yX3_isField, Cond.initialized RX3, Cond.code yX3_isField cX3_isField 2 (some .boolean), Cond.fieldLink RX3 36 "PastureBidsModel" "fields" "I", Cond.methodLink RX3 32 yX3_isIn, Cond.static yX3_isIn, Cond.code yX3_isIn cX3_isIn 3 (some .boolean), Cond.methodLink RX3 113 yX3_fieldTold, Cond.instanceMethod yX3_fieldTold, Cond.selects RX3 yX3_fieldTold yX3_fieldTold, Cond.code yX3_fieldTold cX3_fieldTold 6 (some .int), Cond.fieldLink RX3 9 "PastureBidsModel" "reserves" "[I", Cond.fieldLink RX3 42 "PastureBidsModel" "bids" "I", Cond.methodLink RX3 66 yX3_sale, Cond.instanceMethod yX3_sale, Cond.selects RX3 yX3_sale yX3_sale, Cond.code yX3_sale cX3_sale 8 (some .int), Cond.fieldLink RX3 22 "PastureBidsModel" "gains" "[I", Cond.fieldLink RX3 25 "PastureBidsModel" "sizes" "[I", Cond.fieldLink RX3 16 "PastureBidsModel" "land" "[I", Cond.fieldLink RX3 19 "PastureBidsModel" "people" "[I"]
def wsX3_land_r2 : List Cond := [Cond.methodLink RX3 62 yX3_isCounted, Cond.instanceMethod yX3_isCounted, Cond.selects RX3 yX3_isCounted yX3_isCounted, Cond.code yX3_isCounted cX3_isCounted 2 (some .boolean), Cond.fieldLink RX3 56 "PastureBidsModel" "out" "I", Cond.methodLink RX3 49 yX3_bi, Cond.instanceMethod yX3_bi, Cond.selects RX3 yX3_bi yX3_bi, Cond.code yX3_bi cX3_bi 3 (some .int), Cond.fieldLink RX3 13 "PastureBidsModel" "rows" "[I", Cond.methodLink RX3 45 yX3_bit, Cond.static yX3_bit, Cond.code yX3_bit cX3_bit 2 (some .int), Cond.methodLink RX3 59 yX3_gain, Cond.instanceMethod yX3_gain, Cond.selects RX3 yX3_gain yX3_gain, Cond.code yX3_gain cX3_gain 2 (some .int), Cond.methodLink RX3 52 yX3_reserveOf, Cond.instanceMethod yX3_reserveOf, Cond.selects RX3 yX3_reserveOf yX3_reserveOf, Cond.code yX3_reserveOf cX3_reserveOf 4 (some .int), Cond.methodLink RX3 79 yX3_fail, Cond.instanceMethod yX3_fail, Cond.selects RX3 yX3_fail yX3_fail]
def wsX3_land_r3 : List Cond := [Cond.code yX3_fail cX3_fail 2 (some .int)]
def wsX3_land : List Cond := .code yX3_land cX3_land 3 (some .int) :: ((wsX3_land_r1 ++ (wsX3_land_r2 ++ wsX3_land_r3)) ++ wsX30)
def wsX3_counted_r1 : List Cond := [Cond.fieldLink RX3 36 "PastureBidsModel" "fields" "I", Cond.fieldLink RX3 39 "PastureBidsModel" "bidders" "I", Cond.fieldLink RX3 42 "PastureBidsModel" "bids" "I", Cond.fieldLink RX3 22 "PastureBidsModel" "gains" "[I", Cond.fieldLink RX3 25 "PastureBidsModel" "sizes" "[I", Cond.methodLink RX3 66 yX3_sale, Cond.instanceMethod yX3_sale, Cond.selects RX3 yX3_sale yX3_sale, Cond.initialized RX3, Cond.code yX3_sale cX3_sale 8 (some .int), Cond.fieldLink RX3 16 "PastureBidsModel" "land" "[I", Cond.fieldLink RX3 19 "PastureBidsModel" "people" "[I", Cond.methodLink RX3 62 yX3_isCounted, Cond.instanceMethod yX3_isCounted, Cond.selects RX3 yX3_isCounted yX3_isCounted, Cond.code yX3_isCounted cX3_isCounted 2 (some .boolean), Cond.fieldLink RX3 56 "PastureBidsModel" "out" "I", Cond.methodLink RX3 49 yX3_bi, Cond.instanceMethod yX3_bi, Cond.selects RX3 yX3_bi yX3_bi, Cond.code yX3_bi cX3_bi 3 (some .int), Cond.fieldLink RX3 13 "PastureBidsModel" "rows" "[I", Cond.methodLink RX3 45 yX3_bit, Cond.static yX3_bit]
def wsX3_counted_r2 : List Cond := [Cond.code yX3_bit cX3_bit 2 (some .int), Cond.methodLink RX3 59 yX3_gain, Cond.instanceMethod yX3_gain, Cond.selects RX3 yX3_gain yX3_gain, Cond.code yX3_gain cX3_gain 2 (some .int), Cond.methodLink RX3 52 yX3_reserveOf, Cond.instanceMethod yX3_reserveOf, Cond.selects RX3 yX3_reserveOf yX3_reserveOf, Cond.code yX3_reserveOf cX3_reserveOf 4 (some .int), Cond.fieldLink RX3 9 "PastureBidsModel" "reserves" "[I", Cond.methodLink RX3 113 yX3_fieldTold, Cond.instanceMethod yX3_fieldTold, Cond.selects RX3 yX3_fieldTold yX3_fieldTold, Cond.code yX3_fieldTold cX3_fieldTold 6 (some .int), Cond.methodLink RX3 116 yX3_allPaid, Cond.instanceMethod yX3_allPaid, Cond.selects RX3 yX3_allPaid yX3_allPaid, Cond.code yX3_allPaid cX3_allPaid 3 (some .int), Cond.methodLink RX3 76 yX3_paid, Cond.instanceMethod yX3_paid, Cond.selects RX3 yX3_paid yX3_paid, Cond.code yX3_paid cX3_paid 5 (some .int), Cond.methodLink RX3 70 yX3_bidOf, Cond.instanceMethod yX3_bidOf]
def wsX3_counted_r3 : List Cond := [Cond.selects RX3 yX3_bidOf yX3_bidOf, Cond.code yX3_bidOf cX3_bidOf 4 (some .int), Cond.methodLink RX3 73 yX3_sumWithout, Cond.instanceMethod yX3_sumWithout, Cond.selects RX3 yX3_sumWithout yX3_sumWithout, Cond.code yX3_sumWithout cX3_sumWithout 4 (some .int), Cond.methodLink RX3 107 yX3_profit, Cond.instanceMethod yX3_profit, Cond.selects RX3 yX3_profit yX3_profit, Cond.code yX3_profit cX3_profit 3 (some .int)]
def wsX3_counted : List Cond := .code yX3_counted cX3_counted 5 (some .int) :: ((wsX3_counted_r1 ++ (wsX3_counted_r2 ++ wsX3_counted_r3)) ++ wsX30)
def wsX3_count_r1 : List Cond := [Cond.fieldLink RX3 28 "PastureBidsModel" "thrown" "I", Cond.methodLink RX3 32 yX3_isIn, Cond.static yX3_isIn, Cond.initialized RX3, Cond.code yX3_isIn cX3_isIn 3 (some .boolean), Cond.methodLink RX3 119 yX3_counted, Cond.instanceMethod yX3_counted, Cond.selects RX3 yX3_counted yX3_counted, Cond.code yX3_counted cX3_counted 5 (some .int), Cond.fieldLink RX3 36 "PastureBidsModel" "fields" "I", Cond.fieldLink RX3 39 "PastureBidsModel" "bidders" "I", Cond.fieldLink RX3 42 "PastureBidsModel" "bids" "I", Cond.fieldLink RX3 22 "PastureBidsModel" "gains" "[I", Cond.fieldLink RX3 25 "PastureBidsModel" "sizes" "[I", Cond.methodLink RX3 66 yX3_sale, Cond.instanceMethod yX3_sale, Cond.selects RX3 yX3_sale yX3_sale, Cond.code yX3_sale cX3_sale 8 (some .int), Cond.fieldLink RX3 16 "PastureBidsModel" "land" "[I", Cond.fieldLink RX3 19 "PastureBidsModel" "people" "[I", Cond.methodLink RX3 62 yX3_isCounted, Cond.instanceMethod yX3_isCounted, Cond.selects RX3 yX3_isCounted yX3_isCounted, Cond.code yX3_isCounted cX3_isCounted 2 (some .boolean)]
def wsX3_count_r2 : List Cond := [Cond.fieldLink RX3 56 "PastureBidsModel" "out" "I", Cond.methodLink RX3 49 yX3_bi, Cond.instanceMethod yX3_bi, Cond.selects RX3 yX3_bi yX3_bi, Cond.code yX3_bi cX3_bi 3 (some .int), Cond.fieldLink RX3 13 "PastureBidsModel" "rows" "[I", Cond.methodLink RX3 45 yX3_bit, Cond.static yX3_bit, Cond.code yX3_bit cX3_bit 2 (some .int), Cond.methodLink RX3 59 yX3_gain, Cond.instanceMethod yX3_gain, Cond.selects RX3 yX3_gain yX3_gain, Cond.code yX3_gain cX3_gain 2 (some .int), Cond.methodLink RX3 52 yX3_reserveOf, Cond.instanceMethod yX3_reserveOf, Cond.selects RX3 yX3_reserveOf yX3_reserveOf, Cond.code yX3_reserveOf cX3_reserveOf 4 (some .int), Cond.fieldLink RX3 9 "PastureBidsModel" "reserves" "[I", Cond.methodLink RX3 113 yX3_fieldTold, Cond.instanceMethod yX3_fieldTold, Cond.selects RX3 yX3_fieldTold yX3_fieldTold, Cond.code yX3_fieldTold cX3_fieldTold 6 (some .int), Cond.methodLink RX3 116 yX3_allPaid, Cond.instanceMethod yX3_allPaid]
def wsX3_count_r3 : List Cond := [Cond.selects RX3 yX3_allPaid yX3_allPaid, Cond.code yX3_allPaid cX3_allPaid 3 (some .int), Cond.methodLink RX3 76 yX3_paid, Cond.instanceMethod yX3_paid, Cond.selects RX3 yX3_paid yX3_paid, Cond.code yX3_paid cX3_paid 5 (some .int), Cond.methodLink RX3 70 yX3_bidOf, Cond.instanceMethod yX3_bidOf, Cond.selects RX3 yX3_bidOf yX3_bidOf, Cond.code yX3_bidOf cX3_bidOf 4 (some .int), Cond.methodLink RX3 73 yX3_sumWithout, Cond.instanceMethod yX3_sumWithout, Cond.selects RX3 yX3_sumWithout yX3_sumWithout, Cond.code yX3_sumWithout cX3_sumWithout 4 (some .int), Cond.methodLink RX3 107 yX3_profit, Cond.instanceMethod yX3_profit, Cond.selects RX3 yX3_profit yX3_profit, Cond.code yX3_profit cX3_profit 3 (some .int), Cond.methodLink RX3 79 yX3_fail, Cond.instanceMethod yX3_fail, Cond.selects RX3 yX3_fail yX3_fail, Cond.code yX3_fail cX3_fail 2 (some .int)]
def wsX3_count : List Cond := .code yX3_count cX3_count 2 (some .int) :: ((wsX3_count_r1 ++ (wsX3_count_r2 ++ wsX3_count_r3)) ++ wsX30)
def wsX3_aloneTold_r1 : List Cond := [Cond.fieldLink RX3 42 "PastureBidsModel" "bids" "I", Cond.fieldLink RX3 9 "PastureBidsModel" "reserves" "[I", Cond.methodLink RX3 122 Lib.Math.max.name, Cond.static Lib.Math.max.name, Cond.initialized "java/lang/Math", Cond.code Lib.Math.max.name Lib.Math.max.code 2 (some .int), Cond.methodLink RX3 62 yX3_isCounted, Cond.instanceMethod yX3_isCounted, Cond.selects RX3 yX3_isCounted yX3_isCounted, Cond.initialized RX3, Cond.code yX3_isCounted cX3_isCounted 2 (some .boolean), Cond.fieldLink RX3 56 "PastureBidsModel" "out" "I", Cond.methodLink RX3 49 yX3_bi, Cond.instanceMethod yX3_bi, Cond.selects RX3 yX3_bi yX3_bi, Cond.code yX3_bi cX3_bi 3 (some .int), Cond.fieldLink RX3 13 "PastureBidsModel" "rows" "[I", Cond.methodLink RX3 45 yX3_bit, Cond.static yX3_bit, Cond.code yX3_bit cX3_bit 2 (some .int), Cond.methodLink RX3 59 yX3_gain, Cond.instanceMethod yX3_gain, Cond.selects RX3 yX3_gain yX3_gain, Cond.code yX3_gain cX3_gain 2 (some .int)]
def wsX3_aloneTold_r2 : List Cond := [Cond.methodLink RX3 52 yX3_reserveOf, Cond.instanceMethod yX3_reserveOf, Cond.selects RX3 yX3_reserveOf yX3_reserveOf, Cond.code yX3_reserveOf cX3_reserveOf 4 (some .int), Cond.fieldLink RX3 36 "PastureBidsModel" "fields" "I"]
def wsX3_aloneTold : List Cond := .code yX3_aloneTold cX3_aloneTold 6 (some .int) :: ((wsX3_aloneTold_r1 ++ wsX3_aloneTold_r2) ++ wsX30)
def wsX3_alone_r1 : List Cond := [Cond.fieldLink RX3 28 "PastureBidsModel" "thrown" "I", Cond.methodLink RX3 82 yX3_isField, Cond.instanceMethod yX3_isField, Cond.selects RX3 yX3_isField yX3_isField, Cond.initialized RX3, Cond.code yX3_isField cX3_isField 2 (some .boolean), Cond.fieldLink RX3 36 "PastureBidsModel" "fields" "I", Cond.methodLink RX3 32 yX3_isIn, Cond.static yX3_isIn, Cond.code yX3_isIn cX3_isIn 3 (some .boolean), Cond.methodLink RX3 127 yX3_aloneTold, Cond.instanceMethod yX3_aloneTold, Cond.selects RX3 yX3_aloneTold yX3_aloneTold, Cond.code yX3_aloneTold cX3_aloneTold 6 (some .int), Cond.fieldLink RX3 42 "PastureBidsModel" "bids" "I", Cond.fieldLink RX3 9 "PastureBidsModel" "reserves" "[I", Cond.methodLink RX3 122 Lib.Math.max.name, Cond.static Lib.Math.max.name, Cond.initialized "java/lang/Math", Cond.code Lib.Math.max.name Lib.Math.max.code 2 (some .int), Cond.methodLink RX3 62 yX3_isCounted, Cond.instanceMethod yX3_isCounted, Cond.selects RX3 yX3_isCounted yX3_isCounted, Cond.code yX3_isCounted cX3_isCounted 2 (some .boolean)]
def wsX3_alone_r2 : List Cond := [Cond.fieldLink RX3 56 "PastureBidsModel" "out" "I", Cond.methodLink RX3 49 yX3_bi, Cond.instanceMethod yX3_bi, Cond.selects RX3 yX3_bi yX3_bi, Cond.code yX3_bi cX3_bi 3 (some .int), Cond.fieldLink RX3 13 "PastureBidsModel" "rows" "[I", Cond.methodLink RX3 45 yX3_bit, Cond.static yX3_bit, Cond.code yX3_bit cX3_bit 2 (some .int), Cond.methodLink RX3 59 yX3_gain, Cond.instanceMethod yX3_gain, Cond.selects RX3 yX3_gain yX3_gain, Cond.code yX3_gain cX3_gain 2 (some .int), Cond.methodLink RX3 52 yX3_reserveOf, Cond.instanceMethod yX3_reserveOf, Cond.selects RX3 yX3_reserveOf yX3_reserveOf, Cond.code yX3_reserveOf cX3_reserveOf 4 (some .int), Cond.methodLink RX3 79 yX3_fail, Cond.instanceMethod yX3_fail, Cond.selects RX3 yX3_fail yX3_fail, Cond.code yX3_fail cX3_fail 2 (some .int)]
def wsX3_alone : List Cond := .code yX3_alone cX3_alone 3 (some .int) :: ((wsX3_alone_r1 ++ wsX3_alone_r2) ++ wsX30)
def wsX3_tried_r1 : List Cond := [Cond.fieldLink RX3 13 "PastureBidsModel" "rows" "[I", Cond.fieldLink RX3 22 "PastureBidsModel" "gains" "[I", Cond.methodLink RX3 49 yX3_bi, Cond.instanceMethod yX3_bi, Cond.selects RX3 yX3_bi yX3_bi, Cond.initialized RX3, Cond.code yX3_bi cX3_bi 3 (some .int), Cond.methodLink RX3 66 yX3_sale, Cond.instanceMethod yX3_sale, Cond.selects RX3 yX3_sale yX3_sale, Cond.code yX3_sale cX3_sale 8 (some .int), Cond.fieldLink RX3 25 "PastureBidsModel" "sizes" "[I", Cond.fieldLink RX3 42 "PastureBidsModel" "bids" "I", Cond.fieldLink RX3 16 "PastureBidsModel" "land" "[I", Cond.fieldLink RX3 19 "PastureBidsModel" "people" "[I", Cond.methodLink RX3 62 yX3_isCounted, Cond.instanceMethod yX3_isCounted, Cond.selects RX3 yX3_isCounted yX3_isCounted, Cond.code yX3_isCounted cX3_isCounted 2 (some .boolean), Cond.fieldLink RX3 56 "PastureBidsModel" "out" "I", Cond.methodLink RX3 45 yX3_bit, Cond.static yX3_bit, Cond.code yX3_bit cX3_bit 2 (some .int), Cond.methodLink RX3 59 yX3_gain]
def wsX3_tried_r2 : List Cond := [Cond.instanceMethod yX3_gain, Cond.selects RX3 yX3_gain yX3_gain, Cond.code yX3_gain cX3_gain 2 (some .int), Cond.methodLink RX3 52 yX3_reserveOf, Cond.instanceMethod yX3_reserveOf, Cond.selects RX3 yX3_reserveOf yX3_reserveOf, Cond.code yX3_reserveOf cX3_reserveOf 4 (some .int), Cond.fieldLink RX3 36 "PastureBidsModel" "fields" "I", Cond.fieldLink RX3 9 "PastureBidsModel" "reserves" "[I", Cond.methodLink RX3 76 yX3_paid, Cond.instanceMethod yX3_paid, Cond.selects RX3 yX3_paid yX3_paid, Cond.code yX3_paid cX3_paid 5 (some .int), Cond.methodLink RX3 70 yX3_bidOf, Cond.instanceMethod yX3_bidOf, Cond.selects RX3 yX3_bidOf yX3_bidOf, Cond.code yX3_bidOf cX3_bidOf 4 (some .int), Cond.methodLink RX3 73 yX3_sumWithout, Cond.instanceMethod yX3_sumWithout, Cond.selects RX3 yX3_sumWithout yX3_sumWithout, Cond.code yX3_sumWithout cX3_sumWithout 4 (some .int), Cond.methodLink RX3 107 yX3_profit, Cond.instanceMethod yX3_profit, Cond.selects RX3 yX3_profit yX3_profit]
def wsX3_tried_r3 : List Cond := [Cond.code yX3_profit cX3_profit 3 (some .int)]
def wsX3_tried : List Cond := .code yX3_tried cX3_tried 6 (some .int) :: ((wsX3_tried_r1 ++ (wsX3_tried_r2 ++ wsX3_tried_r3)) ++ wsX30)
def wsX3_would_r1 : List Cond := [Cond.fieldLink RX3 28 "PastureBidsModel" "thrown" "I", Cond.methodLink RX3 97 yX3_isBid, Cond.instanceMethod yX3_isBid, Cond.selects RX3 yX3_isBid yX3_isBid, Cond.initialized RX3, Cond.code yX3_isBid cX3_isBid 2 (some .boolean), Cond.fieldLink RX3 42 "PastureBidsModel" "bids" "I", Cond.methodLink RX3 32 yX3_isIn, Cond.static yX3_isIn, Cond.code yX3_isIn cX3_isIn 3 (some .boolean), Cond.methodLink RX3 79 yX3_fail, Cond.instanceMethod yX3_fail, Cond.selects RX3 yX3_fail yX3_fail, Cond.code yX3_fail cX3_fail 2 (some .int), Cond.methodLink RX3 88 yX3_isPrice, Cond.static yX3_isPrice, Cond.code yX3_isPrice cX3_isPrice 1 (some .boolean), Cond.methodLink RX3 130 yX3_tried, Cond.instanceMethod yX3_tried, Cond.selects RX3 yX3_tried yX3_tried, Cond.code yX3_tried cX3_tried 6 (some .int), Cond.fieldLink RX3 13 "PastureBidsModel" "rows" "[I", Cond.fieldLink RX3 22 "PastureBidsModel" "gains" "[I", Cond.methodLink RX3 49 yX3_bi]
def wsX3_would_r2 : List Cond := [Cond.instanceMethod yX3_bi, Cond.selects RX3 yX3_bi yX3_bi, Cond.code yX3_bi cX3_bi 3 (some .int), Cond.methodLink RX3 66 yX3_sale, Cond.instanceMethod yX3_sale, Cond.selects RX3 yX3_sale yX3_sale, Cond.code yX3_sale cX3_sale 8 (some .int), Cond.fieldLink RX3 25 "PastureBidsModel" "sizes" "[I", Cond.fieldLink RX3 16 "PastureBidsModel" "land" "[I", Cond.fieldLink RX3 19 "PastureBidsModel" "people" "[I", Cond.methodLink RX3 62 yX3_isCounted, Cond.instanceMethod yX3_isCounted, Cond.selects RX3 yX3_isCounted yX3_isCounted, Cond.code yX3_isCounted cX3_isCounted 2 (some .boolean), Cond.fieldLink RX3 56 "PastureBidsModel" "out" "I", Cond.methodLink RX3 45 yX3_bit, Cond.static yX3_bit, Cond.code yX3_bit cX3_bit 2 (some .int), Cond.methodLink RX3 59 yX3_gain, Cond.instanceMethod yX3_gain, Cond.selects RX3 yX3_gain yX3_gain, Cond.code yX3_gain cX3_gain 2 (some .int), Cond.methodLink RX3 52 yX3_reserveOf, Cond.instanceMethod yX3_reserveOf]
def wsX3_would_r3 : List Cond := [Cond.selects RX3 yX3_reserveOf yX3_reserveOf, Cond.code yX3_reserveOf cX3_reserveOf 4 (some .int), Cond.fieldLink RX3 36 "PastureBidsModel" "fields" "I", Cond.fieldLink RX3 9 "PastureBidsModel" "reserves" "[I", Cond.methodLink RX3 76 yX3_paid, Cond.instanceMethod yX3_paid, Cond.selects RX3 yX3_paid yX3_paid, Cond.code yX3_paid cX3_paid 5 (some .int), Cond.methodLink RX3 70 yX3_bidOf, Cond.instanceMethod yX3_bidOf, Cond.selects RX3 yX3_bidOf yX3_bidOf, Cond.code yX3_bidOf cX3_bidOf 4 (some .int), Cond.methodLink RX3 73 yX3_sumWithout, Cond.instanceMethod yX3_sumWithout, Cond.selects RX3 yX3_sumWithout yX3_sumWithout, Cond.code yX3_sumWithout cX3_sumWithout 4 (some .int), Cond.methodLink RX3 107 yX3_profit, Cond.instanceMethod yX3_profit, Cond.selects RX3 yX3_profit yX3_profit, Cond.code yX3_profit cX3_profit 3 (some .int)]
def wsX3_would : List Cond := .code yX3_would cX3_would 4 (some .int) :: ((wsX3_would_r1 ++ (wsX3_would_r2 ++ wsX3_would_r3)) ++ wsX30)
def wsX3_least_r1 : List Cond := [Cond.fieldLink RX3 28 "PastureBidsModel" "thrown" "I", Cond.methodLink RX3 97 yX3_isBid, Cond.instanceMethod yX3_isBid, Cond.selects RX3 yX3_isBid yX3_isBid, Cond.initialized RX3, Cond.code yX3_isBid cX3_isBid 2 (some .boolean), Cond.fieldLink RX3 42 "PastureBidsModel" "bids" "I", Cond.methodLink RX3 32 yX3_isIn, Cond.static yX3_isIn, Cond.code yX3_isIn cX3_isIn 3 (some .boolean), Cond.methodLink RX3 79 yX3_fail, Cond.instanceMethod yX3_fail, Cond.selects RX3 yX3_fail yX3_fail, Cond.code yX3_fail cX3_fail 2 (some .int), Cond.methodLink RX3 130 yX3_tried, Cond.instanceMethod yX3_tried, Cond.selects RX3 yX3_tried yX3_tried, Cond.code yX3_tried cX3_tried 6 (some .int), Cond.fieldLink RX3 13 "PastureBidsModel" "rows" "[I", Cond.fieldLink RX3 22 "PastureBidsModel" "gains" "[I", Cond.methodLink RX3 49 yX3_bi, Cond.instanceMethod yX3_bi, Cond.selects RX3 yX3_bi yX3_bi, Cond.code yX3_bi cX3_bi 3 (some .int)]
def wsX3_least_r2 : List Cond := [Cond.methodLink RX3 66 yX3_sale, Cond.instanceMethod yX3_sale, Cond.selects RX3 yX3_sale yX3_sale, Cond.code yX3_sale cX3_sale 8 (some .int), Cond.fieldLink RX3 25 "PastureBidsModel" "sizes" "[I", Cond.fieldLink RX3 16 "PastureBidsModel" "land" "[I", Cond.fieldLink RX3 19 "PastureBidsModel" "people" "[I", Cond.methodLink RX3 62 yX3_isCounted, Cond.instanceMethod yX3_isCounted, Cond.selects RX3 yX3_isCounted yX3_isCounted, Cond.code yX3_isCounted cX3_isCounted 2 (some .boolean), Cond.fieldLink RX3 56 "PastureBidsModel" "out" "I", Cond.methodLink RX3 45 yX3_bit, Cond.static yX3_bit, Cond.code yX3_bit cX3_bit 2 (some .int), Cond.methodLink RX3 59 yX3_gain, Cond.instanceMethod yX3_gain, Cond.selects RX3 yX3_gain yX3_gain, Cond.code yX3_gain cX3_gain 2 (some .int), Cond.methodLink RX3 52 yX3_reserveOf, Cond.instanceMethod yX3_reserveOf, Cond.selects RX3 yX3_reserveOf yX3_reserveOf, Cond.code yX3_reserveOf cX3_reserveOf 4 (some .int), Cond.fieldLink RX3 36 "PastureBidsModel" "fields" "I"]
def wsX3_least_r3 : List Cond := [Cond.fieldLink RX3 9 "PastureBidsModel" "reserves" "[I", Cond.methodLink RX3 76 yX3_paid, Cond.instanceMethod yX3_paid, Cond.selects RX3 yX3_paid yX3_paid, Cond.code yX3_paid cX3_paid 5 (some .int), Cond.methodLink RX3 70 yX3_bidOf, Cond.instanceMethod yX3_bidOf, Cond.selects RX3 yX3_bidOf yX3_bidOf, Cond.code yX3_bidOf cX3_bidOf 4 (some .int), Cond.methodLink RX3 73 yX3_sumWithout, Cond.instanceMethod yX3_sumWithout, Cond.selects RX3 yX3_sumWithout yX3_sumWithout, Cond.code yX3_sumWithout cX3_sumWithout 4 (some .int), Cond.methodLink RX3 107 yX3_profit, Cond.instanceMethod yX3_profit, Cond.selects RX3 yX3_profit yX3_profit, Cond.code yX3_profit cX3_profit 3 (some .int)]
def wsX3_least : List Cond := .code yX3_least cX3_least 5 (some .int) :: ((wsX3_least_r1 ++ (wsX3_least_r2 ++ wsX3_least_r3)) ++ wsX30)
def wsX3_rival_r1 : List Cond := [Cond.fieldLink RX3 28 "PastureBidsModel" "thrown" "I", Cond.fieldLink RX3 56 "PastureBidsModel" "out" "I", Cond.fieldLink RX3 39 "PastureBidsModel" "bidders" "I", Cond.methodLink RX3 116 yX3_allPaid, Cond.instanceMethod yX3_allPaid, Cond.selects RX3 yX3_allPaid yX3_allPaid, Cond.initialized RX3, Cond.code yX3_allPaid cX3_allPaid 3 (some .int), Cond.methodLink RX3 76 yX3_paid, Cond.instanceMethod yX3_paid, Cond.selects RX3 yX3_paid yX3_paid, Cond.code yX3_paid cX3_paid 5 (some .int), Cond.fieldLink RX3 22 "PastureBidsModel" "gains" "[I", Cond.methodLink RX3 66 yX3_sale, Cond.instanceMethod yX3_sale, Cond.selects RX3 yX3_sale yX3_sale, Cond.code yX3_sale cX3_sale 8 (some .int), Cond.fieldLink RX3 25 "PastureBidsModel" "sizes" "[I", Cond.fieldLink RX3 42 "PastureBidsModel" "bids" "I", Cond.fieldLink RX3 16 "PastureBidsModel" "land" "[I", Cond.fieldLink RX3 19 "PastureBidsModel" "people" "[I", Cond.methodLink RX3 62 yX3_isCounted, Cond.instanceMethod yX3_isCounted, Cond.selects RX3 yX3_isCounted yX3_isCounted]
def wsX3_rival_r2 : List Cond := [Cond.code yX3_isCounted cX3_isCounted 2 (some .boolean), Cond.methodLink RX3 49 yX3_bi, Cond.instanceMethod yX3_bi, Cond.selects RX3 yX3_bi yX3_bi, Cond.code yX3_bi cX3_bi 3 (some .int), Cond.fieldLink RX3 13 "PastureBidsModel" "rows" "[I", Cond.methodLink RX3 45 yX3_bit, Cond.static yX3_bit, Cond.code yX3_bit cX3_bit 2 (some .int), Cond.methodLink RX3 59 yX3_gain, Cond.instanceMethod yX3_gain, Cond.selects RX3 yX3_gain yX3_gain, Cond.code yX3_gain cX3_gain 2 (some .int), Cond.methodLink RX3 52 yX3_reserveOf, Cond.instanceMethod yX3_reserveOf, Cond.selects RX3 yX3_reserveOf yX3_reserveOf, Cond.code yX3_reserveOf cX3_reserveOf 4 (some .int), Cond.fieldLink RX3 36 "PastureBidsModel" "fields" "I", Cond.fieldLink RX3 9 "PastureBidsModel" "reserves" "[I", Cond.methodLink RX3 70 yX3_bidOf, Cond.instanceMethod yX3_bidOf, Cond.selects RX3 yX3_bidOf yX3_bidOf, Cond.code yX3_bidOf cX3_bidOf 4 (some .int), Cond.methodLink RX3 73 yX3_sumWithout]
def wsX3_rival_r3 : List Cond := [Cond.instanceMethod yX3_sumWithout, Cond.selects RX3 yX3_sumWithout yX3_sumWithout, Cond.code yX3_sumWithout cX3_sumWithout 4 (some .int)]
def wsX3_rival : List Cond := .code yX3_rival cX3_rival 6 (some .int) :: ((wsX3_rival_r1 ++ (wsX3_rival_r2 ++ wsX3_rival_r3)) ++ wsX30)
def wsX3_mean_r1 : List Cond := [Cond.fieldLink RX3 28 "PastureBidsModel" "thrown" "I", Cond.fieldLink RX3 25 "PastureBidsModel" "sizes" "[I", Cond.methodLink RX3 66 yX3_sale, Cond.instanceMethod yX3_sale, Cond.selects RX3 yX3_sale yX3_sale, Cond.initialized RX3, Cond.code yX3_sale cX3_sale 8 (some .int), Cond.fieldLink RX3 22 "PastureBidsModel" "gains" "[I", Cond.fieldLink RX3 42 "PastureBidsModel" "bids" "I", Cond.fieldLink RX3 16 "PastureBidsModel" "land" "[I", Cond.fieldLink RX3 19 "PastureBidsModel" "people" "[I", Cond.methodLink RX3 62 yX3_isCounted, Cond.instanceMethod yX3_isCounted, Cond.selects RX3 yX3_isCounted yX3_isCounted, Cond.code yX3_isCounted cX3_isCounted 2 (some .boolean), Cond.fieldLink RX3 56 "PastureBidsModel" "out" "I", Cond.methodLink RX3 49 yX3_bi, Cond.instanceMethod yX3_bi, Cond.selects RX3 yX3_bi yX3_bi, Cond.code yX3_bi cX3_bi 3 (some .int), Cond.fieldLink RX3 13 "PastureBidsModel" "rows" "[I", Cond.methodLink RX3 45 yX3_bit, Cond.static yX3_bit, Cond.code yX3_bit cX3_bit 2 (some .int)]
def wsX3_mean_r2 : List Cond := [Cond.methodLink RX3 59 yX3_gain, Cond.instanceMethod yX3_gain, Cond.selects RX3 yX3_gain yX3_gain, Cond.code yX3_gain cX3_gain 2 (some .int), Cond.methodLink RX3 52 yX3_reserveOf, Cond.instanceMethod yX3_reserveOf, Cond.selects RX3 yX3_reserveOf yX3_reserveOf, Cond.code yX3_reserveOf cX3_reserveOf 4 (some .int), Cond.fieldLink RX3 36 "PastureBidsModel" "fields" "I", Cond.fieldLink RX3 9 "PastureBidsModel" "reserves" "[I", Cond.methodLink RX3 116 yX3_allPaid, Cond.instanceMethod yX3_allPaid, Cond.selects RX3 yX3_allPaid yX3_allPaid, Cond.code yX3_allPaid cX3_allPaid 3 (some .int), Cond.fieldLink RX3 39 "PastureBidsModel" "bidders" "I", Cond.methodLink RX3 76 yX3_paid, Cond.instanceMethod yX3_paid, Cond.selects RX3 yX3_paid yX3_paid, Cond.code yX3_paid cX3_paid 5 (some .int), Cond.methodLink RX3 70 yX3_bidOf, Cond.instanceMethod yX3_bidOf, Cond.selects RX3 yX3_bidOf yX3_bidOf, Cond.code yX3_bidOf cX3_bidOf 4 (some .int), Cond.methodLink RX3 73 yX3_sumWithout]
def wsX3_mean_r3 : List Cond := [Cond.instanceMethod yX3_sumWithout, Cond.selects RX3 yX3_sumWithout yX3_sumWithout, Cond.code yX3_sumWithout cX3_sumWithout 4 (some .int)]
def wsX3_mean : List Cond := .code yX3_mean cX3_mean 2 (some .double) :: ((wsX3_mean_r1 ++ (wsX3_mean_r2 ++ wsX3_mean_r3)) ++ wsX30)
def wsX3_digest_r1 : List Cond := [Cond.fieldLink RX3 28 "PastureBidsModel" "thrown" "I", Cond.constantLong RX3 133 (1619), Cond.constantLong RX3 135 (31), Cond.fieldLink RX3 36 "PastureBidsModel" "fields" "I", Cond.fieldLink RX3 39 "PastureBidsModel" "bidders" "I", Cond.fieldLink RX3 42 "PastureBidsModel" "bids" "I", Cond.methodLink RX3 119 yX3_counted, Cond.instanceMethod yX3_counted, Cond.selects RX3 yX3_counted yX3_counted, Cond.initialized RX3, Cond.code yX3_counted cX3_counted 5 (some .int), Cond.fieldLink RX3 22 "PastureBidsModel" "gains" "[I", Cond.fieldLink RX3 25 "PastureBidsModel" "sizes" "[I", Cond.methodLink RX3 66 yX3_sale, Cond.instanceMethod yX3_sale, Cond.selects RX3 yX3_sale yX3_sale, Cond.code yX3_sale cX3_sale 8 (some .int), Cond.fieldLink RX3 16 "PastureBidsModel" "land" "[I", Cond.fieldLink RX3 19 "PastureBidsModel" "people" "[I", Cond.methodLink RX3 62 yX3_isCounted, Cond.instanceMethod yX3_isCounted, Cond.selects RX3 yX3_isCounted yX3_isCounted, Cond.code yX3_isCounted cX3_isCounted 2 (some .boolean), Cond.fieldLink RX3 56 "PastureBidsModel" "out" "I"]
def wsX3_digest_r2 : List Cond := [Cond.methodLink RX3 49 yX3_bi, Cond.instanceMethod yX3_bi, Cond.selects RX3 yX3_bi yX3_bi, Cond.code yX3_bi cX3_bi 3 (some .int), Cond.fieldLink RX3 13 "PastureBidsModel" "rows" "[I", Cond.methodLink RX3 45 yX3_bit, Cond.static yX3_bit, Cond.code yX3_bit cX3_bit 2 (some .int), Cond.methodLink RX3 59 yX3_gain, Cond.instanceMethod yX3_gain, Cond.selects RX3 yX3_gain yX3_gain, Cond.code yX3_gain cX3_gain 2 (some .int), Cond.methodLink RX3 52 yX3_reserveOf, Cond.instanceMethod yX3_reserveOf, Cond.selects RX3 yX3_reserveOf yX3_reserveOf, Cond.code yX3_reserveOf cX3_reserveOf 4 (some .int), Cond.fieldLink RX3 9 "PastureBidsModel" "reserves" "[I", Cond.methodLink RX3 113 yX3_fieldTold, Cond.instanceMethod yX3_fieldTold, Cond.selects RX3 yX3_fieldTold yX3_fieldTold, Cond.code yX3_fieldTold cX3_fieldTold 6 (some .int), Cond.methodLink RX3 116 yX3_allPaid, Cond.instanceMethod yX3_allPaid, Cond.selects RX3 yX3_allPaid yX3_allPaid]
def wsX3_digest_r3 : List Cond := [Cond.code yX3_allPaid cX3_allPaid 3 (some .int), Cond.methodLink RX3 76 yX3_paid, Cond.instanceMethod yX3_paid, Cond.selects RX3 yX3_paid yX3_paid, Cond.code yX3_paid cX3_paid 5 (some .int), Cond.methodLink RX3 70 yX3_bidOf, Cond.instanceMethod yX3_bidOf, Cond.selects RX3 yX3_bidOf yX3_bidOf, Cond.code yX3_bidOf cX3_bidOf 4 (some .int), Cond.methodLink RX3 73 yX3_sumWithout, Cond.instanceMethod yX3_sumWithout, Cond.selects RX3 yX3_sumWithout yX3_sumWithout, Cond.code yX3_sumWithout cX3_sumWithout 4 (some .int), Cond.methodLink RX3 107 yX3_profit, Cond.instanceMethod yX3_profit, Cond.selects RX3 yX3_profit yX3_profit, Cond.code yX3_profit cX3_profit 3 (some .int), Cond.methodLink RX3 127 yX3_aloneTold, Cond.instanceMethod yX3_aloneTold, Cond.selects RX3 yX3_aloneTold yX3_aloneTold, Cond.code yX3_aloneTold cX3_aloneTold 6 (some .int), Cond.methodLink RX3 122 Lib.Math.max.name, Cond.static Lib.Math.max.name, Cond.initialized "java/lang/Math"]
def wsX3_digest_r4 : List Cond := [Cond.code Lib.Math.max.name Lib.Math.max.code 2 (some .int), Cond.methodLink RX3 110 yX3_bidderTold, Cond.instanceMethod yX3_bidderTold, Cond.selects RX3 yX3_bidderTold yX3_bidderTold, Cond.code yX3_bidderTold cX3_bidderTold 5 (some .int), Cond.methodLink RX3 104 yX3_bidTold, Cond.instanceMethod yX3_bidTold, Cond.selects RX3 yX3_bidTold yX3_bidTold, Cond.code yX3_bidTold cX3_bidTold 3 (some .int)]
def wsX3_digest : List Cond := .code yX3_digest cX3_digest 5 (some .long) :: ((wsX3_digest_r1 ++ (wsX3_digest_r2 ++ (wsX3_digest_r3 ++ wsX3_digest_r4))) ++ wsX30)
def wsJ9_max_7cf53 : List Cond := .code yJ9_max_7cf53 cJ9_max_7cf53 2 (some .int) :: ([])
def wsL_field : List Cond := .codeWith yL_field cL_field 4 (some .int) [(0, 9, 12, 13), (0, 9, 15, 15)] :: ([.classLink RL 13 "java/lang/IllegalArgumentException", .classLink RL 15 "java/lang/IllegalStateException", .methodLink RL 7 yX2_field, .instanceMethod yX2_field, .selects RX2 yX2_field yX2_field, .initialized RX2, .code yX2_field cX2_field 3 (some .int), .classLink RX2 64 "java/lang/IllegalStateException", .initialized "java/lang/IllegalStateException", .fieldLink RX2 60 "PastureBids" "fieldCount" "I", .fieldLink RX2 9 "PastureBids" "reserves" "[I", .methodLink RX2 56 yX2_requireReserve, .static yX2_requireReserve, .code yX2_requireReserve cX2_requireReserve 1 none, .classLink RX2 217 "java/lang/IllegalArgumentException", .initialized "java/lang/IllegalArgumentException"] ++ wsX20 ++ (vx_atS RX2 68 "java/lang/IllegalStateException" ["java/lang/RuntimeException", "java/lang/Exception"]).filter goodWord ++ (vx_atS RX2 221 "java/lang/IllegalArgumentException" ["java/lang/RuntimeException", "java/lang/Exception"]).filter goodWord)
def wsL_setReserve_r1 : List Cond := [Cond.classLink RL 21 "java/lang/IndexOutOfBoundsException", Cond.classLink RL 13 "java/lang/IllegalArgumentException", Cond.methodLink RL 17 yX2_setReserve, Cond.instanceMethod yX2_setReserve, Cond.selects RX2 yX2_setReserve yX2_setReserve, Cond.initialized RX2, Cond.code yX2_setReserve cX2_setReserve 5 (some .int), Cond.fieldLink RX2 9 "PastureBids" "reserves" "[I", Cond.fieldLink RX2 74 "PastureBids" "bidCount" "I", Cond.fieldLink RX2 23 "PastureBids" "prices" "[I", Cond.fieldLink RX2 38 "PastureBids" "sale" "LPastureBids$Sale;", Cond.methodLink RX2 71 yX2_requireField, Cond.instanceMethod yX2_requireField, Cond.selects RX2 yX2_requireField yX2_requireField, Cond.code yX2_requireField cX2_requireField 2 none, Cond.classLink RX2 206 "java/lang/IndexOutOfBoundsException", Cond.initialized "java/lang/IndexOutOfBoundsException", Cond.fieldLink RX2 60 "PastureBids" "fieldCount" "I", Cond.methodLink RX2 56 yX2_requireReserve, Cond.static yX2_requireReserve, Cond.code yX2_requireReserve cX2_requireReserve 1 none, Cond.classLink RX2 217 "java/lang/IllegalArgumentException", Cond.initialized "java/lang/IllegalArgumentException", Cond.methodLink RX2 77 yX2_putPrice]
def wsL_setReserve_r2 : List Cond := [Cond.instanceMethod yX2_putPrice, Cond.selects RX2 yX2_putPrice yX2_putPrice, Cond.code yX2_putPrice cX2_putPrice 3 none, Cond.fieldLink RX2 26 "PastureBids" "gains" "[I", Cond.fieldLink RX2 20 "PastureBids" "bundles" "[I", Cond.methodLink RX2 226 yX2_reservesOf, Cond.instanceMethod yX2_reservesOf, Cond.selects RX2 yX2_reservesOf yX2_reservesOf, Cond.code yX2_reservesOf cX2_reservesOf 4 (some .int), Cond.methodLink RX2 229 yX2_hasField, Cond.static yX2_hasField, Cond.code yX2_hasField cX2_hasField 2 (some .boolean), Cond.methodLink RX2 52 yX2_settle, Cond.instanceMethod yX2_settle, Cond.selects RX2 yX2_settle yX2_settle, Cond.code yX2_settle cX2_settle 4 none, Cond.fieldLink RX2 81 "PastureBids" "bidderCount" "I", Cond.fieldLink RX2 48 "PastureBids" "search" "LPastureBids$BestSet;", Cond.instanceMethod yX1_clear, Cond.initialized RX1, Cond.selects RX1 yX1_clear yX1_clear, Cond.code yX1_clear cX1_clear 1 none, Cond.fieldLink RX1 12 "PastureBids$Sale" "winners" "LPastureBids$BestSet;", Cond.fieldLink RX1 18 "PastureBids$Sale" "winningBids" "[I"]
def wsL_setReserve_r3 : List Cond := [Cond.fieldLink RX1 22 "PastureBids$Sale" "paid" "[I", Cond.fieldLink RX1 25 "PastureBids$Sale" "gainedWithout" "[I", Cond.instanceMethod yX0_clear, Cond.initialized RX0, Cond.selects RX0 yX0_clear yX0_clear, Cond.code yX0_clear cX0_clear 1 none, Cond.fieldLink RX0 7 "PastureBids$BestSet" "gained" "I", Cond.fieldLink RX0 13 "PastureBids$BestSet" "bids" "I", Cond.methodLink RX1 31 yJ7_fill_53178, Cond.static yJ7_fill_53178, Cond.initialized RJ7, Cond.code yJ7_fill_53178 cJ7_fill_53178 4 none, Cond.methodLink RX2 235 yX2_findWinners, Cond.instanceMethod yX2_findWinners, Cond.selects RX2 yX2_findWinners yX2_findWinners, Cond.code yX2_findWinners cX2_findWinners 3 none, Cond.methodLink RX2 243 yX2_seek, Cond.instanceMethod yX2_seek, Cond.selects RX2 yX2_seek yX2_seek, Cond.code yX2_seek cX2_seek 8 none, Cond.instanceMethod yX0_consider, Cond.selects RX0 yX0_consider yX0_consider, Cond.code yX0_consider cX0_consider 3 none, Cond.methodLink RX0 16 yX0_isBeatenBy]
def wsL_setReserve_r4 : List Cond := [Cond.instanceMethod yX0_isBeatenBy, Cond.selects RX0 yX0_isBeatenBy yX0_isBeatenBy, Cond.code yX0_isBeatenBy cX0_isBeatenBy 5 (some .boolean), Cond.methodLink RX0 20 yJ6_bitCount_0f7a4, Cond.static yJ6_bitCount_0f7a4, Cond.initialized RJ6, Cond.code yJ6_bitCount_0f7a4 cJ6_bitCount_0f7a4 1 (some .int), Cond.constant RJ6 265 (1431655765), Cond.constant RJ6 266 (858993459), Cond.constant RJ6 267 (252645135), Cond.methodLink RX2 250 yX2_seekWith, Cond.instanceMethod yX2_seekWith, Cond.selects RX2 yX2_seekWith yX2_seekWith, Cond.code yX2_seekWith cX2_seekWith 9 none, Cond.fieldLink RX2 17 "PastureBids" "owners" "[I", Cond.methodLink RX2 113 yX2_counts, Cond.instanceMethod yX2_counts, Cond.selects RX2 yX2_counts yX2_counts, Cond.code yX2_counts cX2_counts 2 (some .boolean), Cond.fieldLink RX2 32 "PastureBids" "withdrawn" "[Z", Cond.fieldLink RX2 13 "PastureBids" "ins" "[Z", Cond.instanceMethod yX0_has, Cond.selects RX0 yX0_has yX0_has, Cond.code yX0_has cX0_has 2 (some .boolean)]
def wsL_setReserve_r5 : List Cond := [Cond.methodLink RX2 239 yX2_award, Cond.instanceMethod yX2_award, Cond.selects RX2 yX2_award yX2_award, Cond.code yX2_award cX2_award 5 none]
def wsL_setReserve : List Cond := .codeWith yL_setReserve cL_setReserve 5 (some .int) [(0, 10, 13, 21), (0, 10, 17, 13)] :: ((wsL_setReserve_r1 ++ (wsL_setReserve_r2 ++ (wsL_setReserve_r3 ++ (wsL_setReserve_r4 ++ wsL_setReserve_r5)))) ++ wsX20 ++ wsX10 ++ wsX00 ++ (vx_atS RX2 210 "java/lang/IndexOutOfBoundsException" ["java/lang/RuntimeException", "java/lang/Exception"]).filter goodWord ++ (vx_atS RX2 221 "java/lang/IllegalArgumentException" ["java/lang/RuntimeException", "java/lang/Exception"]).filter goodWord)
def wsL_join_r1 : List Cond := [Cond.classLink RL 15 "java/lang/IllegalStateException", Cond.methodLink RL 23 yX2_join, Cond.instanceMethod yX2_join, Cond.selects RX2 yX2_join yX2_join, Cond.initialized RX2, Cond.code yX2_join cX2_join 2 (some .int), Cond.classLink RX2 64 "java/lang/IllegalStateException", Cond.initialized "java/lang/IllegalStateException", Cond.fieldLink RX2 81 "PastureBids" "bidderCount" "I", Cond.fieldLink RX2 13 "PastureBids" "ins" "[Z", Cond.fieldLink RX2 38 "PastureBids" "sale" "LPastureBids$Sale;", Cond.methodLink RX2 52 yX2_settle, Cond.instanceMethod yX2_settle, Cond.selects RX2 yX2_settle yX2_settle, Cond.code yX2_settle cX2_settle 4 none, Cond.fieldLink RX2 48 "PastureBids" "search" "LPastureBids$BestSet;", Cond.fieldLink RX2 74 "PastureBids" "bidCount" "I", Cond.instanceMethod yX1_clear, Cond.initialized RX1, Cond.selects RX1 yX1_clear yX1_clear, Cond.code yX1_clear cX1_clear 1 none, Cond.fieldLink RX1 12 "PastureBids$Sale" "winners" "LPastureBids$BestSet;", Cond.fieldLink RX1 18 "PastureBids$Sale" "winningBids" "[I", Cond.fieldLink RX1 22 "PastureBids$Sale" "paid" "[I"]
def wsL_join_r2 : List Cond := [Cond.fieldLink RX1 25 "PastureBids$Sale" "gainedWithout" "[I", Cond.instanceMethod yX0_clear, Cond.initialized RX0, Cond.selects RX0 yX0_clear yX0_clear, Cond.code yX0_clear cX0_clear 1 none, Cond.fieldLink RX0 7 "PastureBids$BestSet" "gained" "I", Cond.fieldLink RX0 13 "PastureBids$BestSet" "bids" "I", Cond.methodLink RX1 31 yJ7_fill_53178, Cond.static yJ7_fill_53178, Cond.initialized RJ7, Cond.code yJ7_fill_53178 cJ7_fill_53178 4 none, Cond.methodLink RX2 235 yX2_findWinners, Cond.instanceMethod yX2_findWinners, Cond.selects RX2 yX2_findWinners yX2_findWinners, Cond.code yX2_findWinners cX2_findWinners 3 none, Cond.methodLink RX2 243 yX2_seek, Cond.instanceMethod yX2_seek, Cond.selects RX2 yX2_seek yX2_seek, Cond.code yX2_seek cX2_seek 8 none, Cond.instanceMethod yX0_consider, Cond.selects RX0 yX0_consider yX0_consider, Cond.code yX0_consider cX0_consider 3 none, Cond.methodLink RX0 16 yX0_isBeatenBy, Cond.instanceMethod yX0_isBeatenBy]
def wsL_join_r3 : List Cond := [Cond.selects RX0 yX0_isBeatenBy yX0_isBeatenBy, Cond.code yX0_isBeatenBy cX0_isBeatenBy 5 (some .boolean), Cond.methodLink RX0 20 yJ6_bitCount_0f7a4, Cond.static yJ6_bitCount_0f7a4, Cond.initialized RJ6, Cond.code yJ6_bitCount_0f7a4 cJ6_bitCount_0f7a4 1 (some .int), Cond.constant RJ6 265 (1431655765), Cond.constant RJ6 266 (858993459), Cond.constant RJ6 267 (252645135), Cond.methodLink RX2 250 yX2_seekWith, Cond.instanceMethod yX2_seekWith, Cond.selects RX2 yX2_seekWith yX2_seekWith, Cond.code yX2_seekWith cX2_seekWith 9 none, Cond.fieldLink RX2 17 "PastureBids" "owners" "[I", Cond.fieldLink RX2 20 "PastureBids" "bundles" "[I", Cond.fieldLink RX2 26 "PastureBids" "gains" "[I", Cond.methodLink RX2 113 yX2_counts, Cond.instanceMethod yX2_counts, Cond.selects RX2 yX2_counts yX2_counts, Cond.code yX2_counts cX2_counts 2 (some .boolean), Cond.fieldLink RX2 32 "PastureBids" "withdrawn" "[Z", Cond.instanceMethod yX0_has, Cond.selects RX0 yX0_has yX0_has, Cond.code yX0_has cX0_has 2 (some .boolean)]
def wsL_join_r4 : List Cond := [Cond.methodLink RX2 239 yX2_award, Cond.instanceMethod yX2_award, Cond.selects RX2 yX2_award yX2_award, Cond.code yX2_award cX2_award 5 none, Cond.methodLink RX2 226 yX2_reservesOf, Cond.instanceMethod yX2_reservesOf, Cond.selects RX2 yX2_reservesOf yX2_reservesOf, Cond.code yX2_reservesOf cX2_reservesOf 4 (some .int), Cond.fieldLink RX2 60 "PastureBids" "fieldCount" "I", Cond.fieldLink RX2 9 "PastureBids" "reserves" "[I", Cond.methodLink RX2 229 yX2_hasField, Cond.static yX2_hasField, Cond.code yX2_hasField cX2_hasField 2 (some .boolean)]
def wsL_join : List Cond := .codeWith yL_join cL_join 3 (some .int) [(0, 8, 11, 15)] :: ((wsL_join_r1 ++ (wsL_join_r2 ++ (wsL_join_r3 ++ wsL_join_r4))) ++ wsX20 ++ wsX10 ++ wsX00 ++ (vx_atS RX2 68 "java/lang/IllegalStateException" ["java/lang/RuntimeException", "java/lang/Exception"]).filter goodWord)
def wsL_setIn_r1 : List Cond := [Cond.classLink RL 21 "java/lang/IndexOutOfBoundsException", Cond.methodLink RL 27 yX2_setIn, Cond.instanceMethod yX2_setIn, Cond.selects RX2 yX2_setIn yX2_setIn, Cond.initialized RX2, Cond.code yX2_setIn cX2_setIn 4 (some .boolean), Cond.fieldLink RX2 13 "PastureBids" "ins" "[Z", Cond.fieldLink RX2 38 "PastureBids" "sale" "LPastureBids$Sale;", Cond.methodLink RX2 86 yX2_requireBidder, Cond.instanceMethod yX2_requireBidder, Cond.selects RX2 yX2_requireBidder yX2_requireBidder, Cond.code yX2_requireBidder cX2_requireBidder 2 none, Cond.classLink RX2 206 "java/lang/IndexOutOfBoundsException", Cond.initialized "java/lang/IndexOutOfBoundsException", Cond.fieldLink RX2 81 "PastureBids" "bidderCount" "I", Cond.methodLink RX2 52 yX2_settle, Cond.instanceMethod yX2_settle, Cond.selects RX2 yX2_settle yX2_settle, Cond.code yX2_settle cX2_settle 4 none, Cond.fieldLink RX2 48 "PastureBids" "search" "LPastureBids$BestSet;", Cond.fieldLink RX2 74 "PastureBids" "bidCount" "I", Cond.instanceMethod yX1_clear, Cond.initialized RX1, Cond.selects RX1 yX1_clear yX1_clear]
def wsL_setIn_r2 : List Cond := [Cond.code yX1_clear cX1_clear 1 none, Cond.fieldLink RX1 12 "PastureBids$Sale" "winners" "LPastureBids$BestSet;", Cond.fieldLink RX1 18 "PastureBids$Sale" "winningBids" "[I", Cond.fieldLink RX1 22 "PastureBids$Sale" "paid" "[I", Cond.fieldLink RX1 25 "PastureBids$Sale" "gainedWithout" "[I", Cond.instanceMethod yX0_clear, Cond.initialized RX0, Cond.selects RX0 yX0_clear yX0_clear, Cond.code yX0_clear cX0_clear 1 none, Cond.fieldLink RX0 7 "PastureBids$BestSet" "gained" "I", Cond.fieldLink RX0 13 "PastureBids$BestSet" "bids" "I", Cond.methodLink RX1 31 yJ7_fill_53178, Cond.static yJ7_fill_53178, Cond.initialized RJ7, Cond.code yJ7_fill_53178 cJ7_fill_53178 4 none, Cond.methodLink RX2 235 yX2_findWinners, Cond.instanceMethod yX2_findWinners, Cond.selects RX2 yX2_findWinners yX2_findWinners, Cond.code yX2_findWinners cX2_findWinners 3 none, Cond.methodLink RX2 243 yX2_seek, Cond.instanceMethod yX2_seek, Cond.selects RX2 yX2_seek yX2_seek, Cond.code yX2_seek cX2_seek 8 none, Cond.instanceMethod yX0_consider]
def wsL_setIn_r3 : List Cond := [Cond.selects RX0 yX0_consider yX0_consider, Cond.code yX0_consider cX0_consider 3 none, Cond.methodLink RX0 16 yX0_isBeatenBy, Cond.instanceMethod yX0_isBeatenBy, Cond.selects RX0 yX0_isBeatenBy yX0_isBeatenBy, Cond.code yX0_isBeatenBy cX0_isBeatenBy 5 (some .boolean), Cond.methodLink RX0 20 yJ6_bitCount_0f7a4, Cond.static yJ6_bitCount_0f7a4, Cond.initialized RJ6, Cond.code yJ6_bitCount_0f7a4 cJ6_bitCount_0f7a4 1 (some .int), Cond.constant RJ6 265 (1431655765), Cond.constant RJ6 266 (858993459), Cond.constant RJ6 267 (252645135), Cond.methodLink RX2 250 yX2_seekWith, Cond.instanceMethod yX2_seekWith, Cond.selects RX2 yX2_seekWith yX2_seekWith, Cond.code yX2_seekWith cX2_seekWith 9 none, Cond.fieldLink RX2 17 "PastureBids" "owners" "[I", Cond.fieldLink RX2 20 "PastureBids" "bundles" "[I", Cond.fieldLink RX2 26 "PastureBids" "gains" "[I", Cond.methodLink RX2 113 yX2_counts, Cond.instanceMethod yX2_counts, Cond.selects RX2 yX2_counts yX2_counts, Cond.code yX2_counts cX2_counts 2 (some .boolean)]
def wsL_setIn_r4 : List Cond := [Cond.fieldLink RX2 32 "PastureBids" "withdrawn" "[Z", Cond.instanceMethod yX0_has, Cond.selects RX0 yX0_has yX0_has, Cond.code yX0_has cX0_has 2 (some .boolean), Cond.methodLink RX2 239 yX2_award, Cond.instanceMethod yX2_award, Cond.selects RX2 yX2_award yX2_award, Cond.code yX2_award cX2_award 5 none, Cond.methodLink RX2 226 yX2_reservesOf, Cond.instanceMethod yX2_reservesOf, Cond.selects RX2 yX2_reservesOf yX2_reservesOf, Cond.code yX2_reservesOf cX2_reservesOf 4 (some .int), Cond.fieldLink RX2 60 "PastureBids" "fieldCount" "I", Cond.fieldLink RX2 9 "PastureBids" "reserves" "[I", Cond.methodLink RX2 229 yX2_hasField, Cond.static yX2_hasField, Cond.code yX2_hasField cX2_hasField 2 (some .boolean)]
def wsL_setIn : List Cond := .codeWith yL_setIn cL_setIn 5 (some .int) [(0, 17, 20, 21)] :: ((wsL_setIn_r1 ++ (wsL_setIn_r2 ++ (wsL_setIn_r3 ++ wsL_setIn_r4))) ++ wsX20 ++ wsX10 ++ wsX00 ++ (vx_atS RX2 210 "java/lang/IndexOutOfBoundsException" ["java/lang/RuntimeException", "java/lang/Exception"]).filter goodWord)
def wsL_bid_r1 : List Cond := [Cond.classLink RL 21 "java/lang/IndexOutOfBoundsException", Cond.classLink RL 13 "java/lang/IllegalArgumentException", Cond.classLink RL 15 "java/lang/IllegalStateException", Cond.methodLink RL 31 yX2_bid, Cond.instanceMethod yX2_bid, Cond.selects RX2 yX2_bid yX2_bid, Cond.initialized RX2, Cond.code yX2_bid cX2_bid 5 (some .int), Cond.classLink RX2 64 "java/lang/IllegalStateException", Cond.initialized "java/lang/IllegalStateException", Cond.fieldLink RX2 74 "PastureBids" "bidCount" "I", Cond.fieldLink RX2 17 "PastureBids" "owners" "[I", Cond.fieldLink RX2 20 "PastureBids" "bundles" "[I", Cond.fieldLink RX2 29 "PastureBids" "worths" "[I", Cond.fieldLink RX2 38 "PastureBids" "sale" "LPastureBids$Sale;", Cond.methodLink RX2 86 yX2_requireBidder, Cond.instanceMethod yX2_requireBidder, Cond.selects RX2 yX2_requireBidder yX2_requireBidder, Cond.code yX2_requireBidder cX2_requireBidder 2 none, Cond.classLink RX2 206 "java/lang/IndexOutOfBoundsException", Cond.initialized "java/lang/IndexOutOfBoundsException", Cond.fieldLink RX2 81 "PastureBids" "bidderCount" "I", Cond.methodLink RX2 89 yX2_requireBundle, Cond.instanceMethod yX2_requireBundle]
def wsL_bid_r2 : List Cond := [Cond.selects RX2 yX2_requireBundle yX2_requireBundle, Cond.code yX2_requireBundle cX2_requireBundle 2 none, Cond.classLink RX2 217 "java/lang/IllegalArgumentException", Cond.initialized "java/lang/IllegalArgumentException", Cond.fieldLink RX2 60 "PastureBids" "fieldCount" "I", Cond.methodLink RX2 92 yX2_requireAmount, Cond.static yX2_requireAmount, Cond.code yX2_requireAmount cX2_requireAmount 1 none, Cond.methodLink RX2 77 yX2_putPrice, Cond.instanceMethod yX2_putPrice, Cond.selects RX2 yX2_putPrice yX2_putPrice, Cond.code yX2_putPrice cX2_putPrice 3 none, Cond.fieldLink RX2 23 "PastureBids" "prices" "[I", Cond.fieldLink RX2 26 "PastureBids" "gains" "[I", Cond.methodLink RX2 226 yX2_reservesOf, Cond.instanceMethod yX2_reservesOf, Cond.selects RX2 yX2_reservesOf yX2_reservesOf, Cond.code yX2_reservesOf cX2_reservesOf 4 (some .int), Cond.fieldLink RX2 9 "PastureBids" "reserves" "[I", Cond.methodLink RX2 229 yX2_hasField, Cond.static yX2_hasField, Cond.code yX2_hasField cX2_hasField 2 (some .boolean), Cond.methodLink RX2 52 yX2_settle, Cond.instanceMethod yX2_settle]
def wsL_bid_r3 : List Cond := [Cond.selects RX2 yX2_settle yX2_settle, Cond.code yX2_settle cX2_settle 4 none, Cond.fieldLink RX2 48 "PastureBids" "search" "LPastureBids$BestSet;", Cond.instanceMethod yX1_clear, Cond.initialized RX1, Cond.selects RX1 yX1_clear yX1_clear, Cond.code yX1_clear cX1_clear 1 none, Cond.fieldLink RX1 12 "PastureBids$Sale" "winners" "LPastureBids$BestSet;", Cond.fieldLink RX1 18 "PastureBids$Sale" "winningBids" "[I", Cond.fieldLink RX1 22 "PastureBids$Sale" "paid" "[I", Cond.fieldLink RX1 25 "PastureBids$Sale" "gainedWithout" "[I", Cond.instanceMethod yX0_clear, Cond.initialized RX0, Cond.selects RX0 yX0_clear yX0_clear, Cond.code yX0_clear cX0_clear 1 none, Cond.fieldLink RX0 7 "PastureBids$BestSet" "gained" "I", Cond.fieldLink RX0 13 "PastureBids$BestSet" "bids" "I", Cond.methodLink RX1 31 yJ7_fill_53178, Cond.static yJ7_fill_53178, Cond.initialized RJ7, Cond.code yJ7_fill_53178 cJ7_fill_53178 4 none, Cond.methodLink RX2 235 yX2_findWinners, Cond.instanceMethod yX2_findWinners, Cond.selects RX2 yX2_findWinners yX2_findWinners]
def wsL_bid_r4 : List Cond := [Cond.code yX2_findWinners cX2_findWinners 3 none, Cond.methodLink RX2 243 yX2_seek, Cond.instanceMethod yX2_seek, Cond.selects RX2 yX2_seek yX2_seek, Cond.code yX2_seek cX2_seek 8 none, Cond.instanceMethod yX0_consider, Cond.selects RX0 yX0_consider yX0_consider, Cond.code yX0_consider cX0_consider 3 none, Cond.methodLink RX0 16 yX0_isBeatenBy, Cond.instanceMethod yX0_isBeatenBy, Cond.selects RX0 yX0_isBeatenBy yX0_isBeatenBy, Cond.code yX0_isBeatenBy cX0_isBeatenBy 5 (some .boolean), Cond.methodLink RX0 20 yJ6_bitCount_0f7a4, Cond.static yJ6_bitCount_0f7a4, Cond.initialized RJ6, Cond.code yJ6_bitCount_0f7a4 cJ6_bitCount_0f7a4 1 (some .int), Cond.constant RJ6 265 (1431655765), Cond.constant RJ6 266 (858993459), Cond.constant RJ6 267 (252645135), Cond.methodLink RX2 250 yX2_seekWith, Cond.instanceMethod yX2_seekWith, Cond.selects RX2 yX2_seekWith yX2_seekWith, Cond.code yX2_seekWith cX2_seekWith 9 none, Cond.methodLink RX2 113 yX2_counts]
def wsL_bid_r5 : List Cond := [Cond.instanceMethod yX2_counts, Cond.selects RX2 yX2_counts yX2_counts, Cond.code yX2_counts cX2_counts 2 (some .boolean), Cond.fieldLink RX2 32 "PastureBids" "withdrawn" "[Z", Cond.fieldLink RX2 13 "PastureBids" "ins" "[Z", Cond.instanceMethod yX0_has, Cond.selects RX0 yX0_has yX0_has, Cond.code yX0_has cX0_has 2 (some .boolean), Cond.methodLink RX2 239 yX2_award, Cond.instanceMethod yX2_award, Cond.selects RX2 yX2_award yX2_award, Cond.code yX2_award cX2_award 5 none]
def wsL_bid : List Cond := .codeWith yL_bid cL_bid 6 (some .int) [(0, 12, 15, 21), (0, 12, 19, 13), (0, 12, 23, 15)] :: ((wsL_bid_r1 ++ (wsL_bid_r2 ++ (wsL_bid_r3 ++ (wsL_bid_r4 ++ wsL_bid_r5)))) ++ wsX20 ++ wsX10 ++ wsX00 ++ (vx_atS RX2 68 "java/lang/IllegalStateException" ["java/lang/RuntimeException", "java/lang/Exception"]).filter goodWord ++ (vx_atS RX2 210 "java/lang/IndexOutOfBoundsException" ["java/lang/RuntimeException", "java/lang/Exception"]).filter goodWord ++ (vx_atS RX2 221 "java/lang/IllegalArgumentException" ["java/lang/RuntimeException", "java/lang/Exception"]).filter goodWord)
def wsL_setPrice_r1 : List Cond := [Cond.classLink RL 21 "java/lang/IndexOutOfBoundsException", Cond.classLink RL 13 "java/lang/IllegalArgumentException", Cond.methodLink RL 35 yX2_setPrice, Cond.instanceMethod yX2_setPrice, Cond.selects RX2 yX2_setPrice yX2_setPrice, Cond.initialized RX2, Cond.code yX2_setPrice cX2_setPrice 4 (some .int), Cond.fieldLink RX2 23 "PastureBids" "prices" "[I", Cond.fieldLink RX2 38 "PastureBids" "sale" "LPastureBids$Sale;", Cond.methodLink RX2 97 yX2_requireBid, Cond.instanceMethod yX2_requireBid, Cond.selects RX2 yX2_requireBid yX2_requireBid, Cond.code yX2_requireBid cX2_requireBid 2 none, Cond.classLink RX2 206 "java/lang/IndexOutOfBoundsException", Cond.initialized "java/lang/IndexOutOfBoundsException", Cond.fieldLink RX2 74 "PastureBids" "bidCount" "I", Cond.methodLink RX2 92 yX2_requireAmount, Cond.static yX2_requireAmount, Cond.code yX2_requireAmount cX2_requireAmount 1 none, Cond.classLink RX2 217 "java/lang/IllegalArgumentException", Cond.initialized "java/lang/IllegalArgumentException", Cond.methodLink RX2 77 yX2_putPrice, Cond.instanceMethod yX2_putPrice, Cond.selects RX2 yX2_putPrice yX2_putPrice]
def wsL_setPrice_r2 : List Cond := [Cond.code yX2_putPrice cX2_putPrice 3 none, Cond.fieldLink RX2 26 "PastureBids" "gains" "[I", Cond.fieldLink RX2 20 "PastureBids" "bundles" "[I", Cond.methodLink RX2 226 yX2_reservesOf, Cond.instanceMethod yX2_reservesOf, Cond.selects RX2 yX2_reservesOf yX2_reservesOf, Cond.code yX2_reservesOf cX2_reservesOf 4 (some .int), Cond.fieldLink RX2 60 "PastureBids" "fieldCount" "I", Cond.fieldLink RX2 9 "PastureBids" "reserves" "[I", Cond.methodLink RX2 229 yX2_hasField, Cond.static yX2_hasField, Cond.code yX2_hasField cX2_hasField 2 (some .boolean), Cond.methodLink RX2 52 yX2_settle, Cond.instanceMethod yX2_settle, Cond.selects RX2 yX2_settle yX2_settle, Cond.code yX2_settle cX2_settle 4 none, Cond.fieldLink RX2 81 "PastureBids" "bidderCount" "I", Cond.fieldLink RX2 48 "PastureBids" "search" "LPastureBids$BestSet;", Cond.instanceMethod yX1_clear, Cond.initialized RX1, Cond.selects RX1 yX1_clear yX1_clear, Cond.code yX1_clear cX1_clear 1 none, Cond.fieldLink RX1 12 "PastureBids$Sale" "winners" "LPastureBids$BestSet;", Cond.fieldLink RX1 18 "PastureBids$Sale" "winningBids" "[I"]
def wsL_setPrice_r3 : List Cond := [Cond.fieldLink RX1 22 "PastureBids$Sale" "paid" "[I", Cond.fieldLink RX1 25 "PastureBids$Sale" "gainedWithout" "[I", Cond.instanceMethod yX0_clear, Cond.initialized RX0, Cond.selects RX0 yX0_clear yX0_clear, Cond.code yX0_clear cX0_clear 1 none, Cond.fieldLink RX0 7 "PastureBids$BestSet" "gained" "I", Cond.fieldLink RX0 13 "PastureBids$BestSet" "bids" "I", Cond.methodLink RX1 31 yJ7_fill_53178, Cond.static yJ7_fill_53178, Cond.initialized RJ7, Cond.code yJ7_fill_53178 cJ7_fill_53178 4 none, Cond.methodLink RX2 235 yX2_findWinners, Cond.instanceMethod yX2_findWinners, Cond.selects RX2 yX2_findWinners yX2_findWinners, Cond.code yX2_findWinners cX2_findWinners 3 none, Cond.methodLink RX2 243 yX2_seek, Cond.instanceMethod yX2_seek, Cond.selects RX2 yX2_seek yX2_seek, Cond.code yX2_seek cX2_seek 8 none, Cond.instanceMethod yX0_consider, Cond.selects RX0 yX0_consider yX0_consider, Cond.code yX0_consider cX0_consider 3 none, Cond.methodLink RX0 16 yX0_isBeatenBy]
def wsL_setPrice_r4 : List Cond := [Cond.instanceMethod yX0_isBeatenBy, Cond.selects RX0 yX0_isBeatenBy yX0_isBeatenBy, Cond.code yX0_isBeatenBy cX0_isBeatenBy 5 (some .boolean), Cond.methodLink RX0 20 yJ6_bitCount_0f7a4, Cond.static yJ6_bitCount_0f7a4, Cond.initialized RJ6, Cond.code yJ6_bitCount_0f7a4 cJ6_bitCount_0f7a4 1 (some .int), Cond.constant RJ6 265 (1431655765), Cond.constant RJ6 266 (858993459), Cond.constant RJ6 267 (252645135), Cond.methodLink RX2 250 yX2_seekWith, Cond.instanceMethod yX2_seekWith, Cond.selects RX2 yX2_seekWith yX2_seekWith, Cond.code yX2_seekWith cX2_seekWith 9 none, Cond.fieldLink RX2 17 "PastureBids" "owners" "[I", Cond.methodLink RX2 113 yX2_counts, Cond.instanceMethod yX2_counts, Cond.selects RX2 yX2_counts yX2_counts, Cond.code yX2_counts cX2_counts 2 (some .boolean), Cond.fieldLink RX2 32 "PastureBids" "withdrawn" "[Z", Cond.fieldLink RX2 13 "PastureBids" "ins" "[Z", Cond.instanceMethod yX0_has, Cond.selects RX0 yX0_has yX0_has, Cond.code yX0_has cX0_has 2 (some .boolean)]
def wsL_setPrice_r5 : List Cond := [Cond.methodLink RX2 239 yX2_award, Cond.instanceMethod yX2_award, Cond.selects RX2 yX2_award yX2_award, Cond.code yX2_award cX2_award 5 none]
def wsL_setPrice : List Cond := .codeWith yL_setPrice cL_setPrice 5 (some .int) [(0, 10, 13, 21), (0, 10, 17, 13)] :: ((wsL_setPrice_r1 ++ (wsL_setPrice_r2 ++ (wsL_setPrice_r3 ++ (wsL_setPrice_r4 ++ wsL_setPrice_r5)))) ++ wsX20 ++ wsX10 ++ wsX00 ++ (vx_atS RX2 210 "java/lang/IndexOutOfBoundsException" ["java/lang/RuntimeException", "java/lang/Exception"]).filter goodWord ++ (vx_atS RX2 221 "java/lang/IllegalArgumentException" ["java/lang/RuntimeException", "java/lang/Exception"]).filter goodWord)
def wsL_setWorth : List Cond := .codeWith yL_setWorth cL_setWorth 5 (some .int) [(0, 10, 13, 21), (0, 10, 17, 13)] :: ([.classLink RL 21 "java/lang/IndexOutOfBoundsException", .classLink RL 13 "java/lang/IllegalArgumentException", .methodLink RL 38 yX2_setWorth, .instanceMethod yX2_setWorth, .selects RX2 yX2_setWorth yX2_setWorth, .initialized RX2, .code yX2_setWorth cX2_setWorth 4 (some .int), .fieldLink RX2 29 "PastureBids" "worths" "[I", .methodLink RX2 97 yX2_requireBid, .instanceMethod yX2_requireBid, .selects RX2 yX2_requireBid yX2_requireBid, .code yX2_requireBid cX2_requireBid 2 none, .classLink RX2 206 "java/lang/IndexOutOfBoundsException", .initialized "java/lang/IndexOutOfBoundsException", .fieldLink RX2 74 "PastureBids" "bidCount" "I", .methodLink RX2 92 yX2_requireAmount, .static yX2_requireAmount, .code yX2_requireAmount cX2_requireAmount 1 none, .classLink RX2 217 "java/lang/IllegalArgumentException", .initialized "java/lang/IllegalArgumentException"] ++ wsX20 ++ (vx_atS RX2 210 "java/lang/IndexOutOfBoundsException" ["java/lang/RuntimeException", "java/lang/Exception"]).filter goodWord ++ (vx_atS RX2 221 "java/lang/IllegalArgumentException" ["java/lang/RuntimeException", "java/lang/Exception"]).filter goodWord)
def wsL_withdraw_r1 : List Cond := [Cond.classLink RL 21 "java/lang/IndexOutOfBoundsException", Cond.classLink RL 15 "java/lang/IllegalStateException", Cond.methodLink RL 41 yX2_withdraw, Cond.instanceMethod yX2_withdraw, Cond.selects RX2 yX2_withdraw yX2_withdraw, Cond.initialized RX2, Cond.code yX2_withdraw cX2_withdraw 2 (some .int), Cond.classLink RX2 64 "java/lang/IllegalStateException", Cond.initialized "java/lang/IllegalStateException", Cond.fieldLink RX2 32 "PastureBids" "withdrawn" "[Z", Cond.fieldLink RX2 38 "PastureBids" "sale" "LPastureBids$Sale;", Cond.methodLink RX2 97 yX2_requireBid, Cond.instanceMethod yX2_requireBid, Cond.selects RX2 yX2_requireBid yX2_requireBid, Cond.code yX2_requireBid cX2_requireBid 2 none, Cond.classLink RX2 206 "java/lang/IndexOutOfBoundsException", Cond.initialized "java/lang/IndexOutOfBoundsException", Cond.fieldLink RX2 74 "PastureBids" "bidCount" "I", Cond.methodLink RX2 52 yX2_settle, Cond.instanceMethod yX2_settle, Cond.selects RX2 yX2_settle yX2_settle, Cond.code yX2_settle cX2_settle 4 none, Cond.fieldLink RX2 81 "PastureBids" "bidderCount" "I", Cond.fieldLink RX2 48 "PastureBids" "search" "LPastureBids$BestSet;"]
def wsL_withdraw_r2 : List Cond := [Cond.instanceMethod yX1_clear, Cond.initialized RX1, Cond.selects RX1 yX1_clear yX1_clear, Cond.code yX1_clear cX1_clear 1 none, Cond.fieldLink RX1 12 "PastureBids$Sale" "winners" "LPastureBids$BestSet;", Cond.fieldLink RX1 18 "PastureBids$Sale" "winningBids" "[I", Cond.fieldLink RX1 22 "PastureBids$Sale" "paid" "[I", Cond.fieldLink RX1 25 "PastureBids$Sale" "gainedWithout" "[I", Cond.instanceMethod yX0_clear, Cond.initialized RX0, Cond.selects RX0 yX0_clear yX0_clear, Cond.code yX0_clear cX0_clear 1 none, Cond.fieldLink RX0 7 "PastureBids$BestSet" "gained" "I", Cond.fieldLink RX0 13 "PastureBids$BestSet" "bids" "I", Cond.methodLink RX1 31 yJ7_fill_53178, Cond.static yJ7_fill_53178, Cond.initialized RJ7, Cond.code yJ7_fill_53178 cJ7_fill_53178 4 none, Cond.methodLink RX2 235 yX2_findWinners, Cond.instanceMethod yX2_findWinners, Cond.selects RX2 yX2_findWinners yX2_findWinners, Cond.code yX2_findWinners cX2_findWinners 3 none, Cond.methodLink RX2 243 yX2_seek, Cond.instanceMethod yX2_seek]
def wsL_withdraw_r3 : List Cond := [Cond.selects RX2 yX2_seek yX2_seek, Cond.code yX2_seek cX2_seek 8 none, Cond.instanceMethod yX0_consider, Cond.selects RX0 yX0_consider yX0_consider, Cond.code yX0_consider cX0_consider 3 none, Cond.methodLink RX0 16 yX0_isBeatenBy, Cond.instanceMethod yX0_isBeatenBy, Cond.selects RX0 yX0_isBeatenBy yX0_isBeatenBy, Cond.code yX0_isBeatenBy cX0_isBeatenBy 5 (some .boolean), Cond.methodLink RX0 20 yJ6_bitCount_0f7a4, Cond.static yJ6_bitCount_0f7a4, Cond.initialized RJ6, Cond.code yJ6_bitCount_0f7a4 cJ6_bitCount_0f7a4 1 (some .int), Cond.constant RJ6 265 (1431655765), Cond.constant RJ6 266 (858993459), Cond.constant RJ6 267 (252645135), Cond.methodLink RX2 250 yX2_seekWith, Cond.instanceMethod yX2_seekWith, Cond.selects RX2 yX2_seekWith yX2_seekWith, Cond.code yX2_seekWith cX2_seekWith 9 none, Cond.fieldLink RX2 17 "PastureBids" "owners" "[I", Cond.fieldLink RX2 20 "PastureBids" "bundles" "[I", Cond.fieldLink RX2 26 "PastureBids" "gains" "[I", Cond.methodLink RX2 113 yX2_counts]
def wsL_withdraw_r4 : List Cond := [Cond.instanceMethod yX2_counts, Cond.selects RX2 yX2_counts yX2_counts, Cond.code yX2_counts cX2_counts 2 (some .boolean), Cond.fieldLink RX2 13 "PastureBids" "ins" "[Z", Cond.instanceMethod yX0_has, Cond.selects RX0 yX0_has yX0_has, Cond.code yX0_has cX0_has 2 (some .boolean), Cond.methodLink RX2 239 yX2_award, Cond.instanceMethod yX2_award, Cond.selects RX2 yX2_award yX2_award, Cond.code yX2_award cX2_award 5 none, Cond.methodLink RX2 226 yX2_reservesOf, Cond.instanceMethod yX2_reservesOf, Cond.selects RX2 yX2_reservesOf yX2_reservesOf, Cond.code yX2_reservesOf cX2_reservesOf 4 (some .int), Cond.fieldLink RX2 60 "PastureBids" "fieldCount" "I", Cond.fieldLink RX2 9 "PastureBids" "reserves" "[I", Cond.methodLink RX2 229 yX2_hasField, Cond.static yX2_hasField, Cond.code yX2_hasField cX2_hasField 2 (some .boolean), Cond.methodLink RX2 102 yX2_bidsLeft, Cond.instanceMethod yX2_bidsLeft, Cond.selects RX2 yX2_bidsLeft yX2_bidsLeft, Cond.code yX2_bidsLeft cX2_bidsLeft 3 (some .int)]
def wsL_withdraw_r5 : List Cond := [Cond.methodLink RX2 123 yX2_bidsLeftOf, Cond.instanceMethod yX2_bidsLeftOf, Cond.selects RX2 yX2_bidsLeftOf yX2_bidsLeftOf, Cond.code yX2_bidsLeftOf cX2_bidsLeftOf 4 (some .int)]
def wsL_withdraw : List Cond := .codeWith yL_withdraw cL_withdraw 4 (some .int) [(0, 9, 12, 21), (0, 9, 15, 15)] :: ((wsL_withdraw_r1 ++ (wsL_withdraw_r2 ++ (wsL_withdraw_r3 ++ (wsL_withdraw_r4 ++ wsL_withdraw_r5)))) ++ wsX20 ++ wsX10 ++ wsX00 ++ (vx_atS RX2 68 "java/lang/IllegalStateException" ["java/lang/RuntimeException", "java/lang/Exception"]).filter goodWord ++ (vx_atS RX2 210 "java/lang/IndexOutOfBoundsException" ["java/lang/RuntimeException", "java/lang/Exception"]).filter goodWord)
def wsL_told_r1 : List Cond := [Cond.classLink RL 21 "java/lang/IndexOutOfBoundsException", Cond.methodLink RL 44 yX2_told, Cond.instanceMethod yX2_told, Cond.selects RX2 yX2_told yX2_told, Cond.initialized RX2, Cond.code yX2_told cX2_told 3 (some .int), Cond.fieldLink RX2 17 "PastureBids" "owners" "[I", Cond.fieldLink RX2 20 "PastureBids" "bundles" "[I", Cond.fieldLink RX2 23 "PastureBids" "prices" "[I", Cond.fieldLink RX2 29 "PastureBids" "worths" "[I", Cond.fieldLink RX2 32 "PastureBids" "withdrawn" "[Z", Cond.fieldLink RX2 26 "PastureBids" "gains" "[I", Cond.fieldLink RX2 38 "PastureBids" "sale" "LPastureBids$Sale;", Cond.methodLink RX2 97 yX2_requireBid, Cond.instanceMethod yX2_requireBid, Cond.selects RX2 yX2_requireBid yX2_requireBid, Cond.code yX2_requireBid cX2_requireBid 2 none, Cond.classLink RX2 206 "java/lang/IndexOutOfBoundsException", Cond.initialized "java/lang/IndexOutOfBoundsException", Cond.fieldLink RX2 74 "PastureBids" "bidCount" "I", Cond.methodLink RX2 106 yX2_requireWhat, Cond.static yX2_requireWhat, Cond.code yX2_requireWhat cX2_requireWhat 2 none, Cond.methodLink RX2 109 yX2_asNumber]
def wsL_told_r2 : List Cond := [Cond.static yX2_asNumber, Cond.code yX2_asNumber cX2_asNumber 1 (some .int), Cond.methodLink RX2 113 yX2_counts, Cond.instanceMethod yX2_counts, Cond.selects RX2 yX2_counts yX2_counts, Cond.code yX2_counts cX2_counts 2 (some .boolean), Cond.fieldLink RX2 13 "PastureBids" "ins" "[Z", Cond.instanceMethod yX0_has, Cond.initialized RX0, Cond.selects RX0 yX0_has yX0_has, Cond.code yX0_has cX0_has 2 (some .boolean), Cond.fieldLink RX0 13 "PastureBids$BestSet" "bids" "I"]
def wsL_told : List Cond := .codeWith yL_told cL_told 5 (some .int) [(0, 10, 13, 21)] :: ((wsL_told_r1 ++ wsL_told_r2) ++ wsX20 ++ wsX10 ++ wsX00 ++ (vx_atS RX2 210 "java/lang/IndexOutOfBoundsException" ["java/lang/RuntimeException", "java/lang/Exception"]).filter goodWord)
def wsL_about_r1 : List Cond := [Cond.classLink RL 21 "java/lang/IndexOutOfBoundsException", Cond.methodLink RL 47 yX2_about, Cond.instanceMethod yX2_about, Cond.selects RX2 yX2_about yX2_about, Cond.initialized RX2, Cond.code yX2_about cX2_about 3 (some .int), Cond.fieldLink RX2 13 "PastureBids" "ins" "[Z", Cond.fieldLink RX2 38 "PastureBids" "sale" "LPastureBids$Sale;", Cond.methodLink RX2 86 yX2_requireBidder, Cond.instanceMethod yX2_requireBidder, Cond.selects RX2 yX2_requireBidder yX2_requireBidder, Cond.code yX2_requireBidder cX2_requireBidder 2 none, Cond.classLink RX2 206 "java/lang/IndexOutOfBoundsException", Cond.initialized "java/lang/IndexOutOfBoundsException", Cond.fieldLink RX2 81 "PastureBids" "bidderCount" "I", Cond.methodLink RX2 106 yX2_requireWhat, Cond.static yX2_requireWhat, Cond.code yX2_requireWhat cX2_requireWhat 2 none, Cond.methodLink RX2 109 yX2_asNumber, Cond.static yX2_asNumber, Cond.code yX2_asNumber cX2_asNumber 1 (some .int), Cond.methodLink RX2 123 yX2_bidsLeftOf, Cond.instanceMethod yX2_bidsLeftOf, Cond.selects RX2 yX2_bidsLeftOf yX2_bidsLeftOf]
def wsL_about_r2 : List Cond := [Cond.code yX2_bidsLeftOf cX2_bidsLeftOf 4 (some .int), Cond.fieldLink RX2 74 "PastureBids" "bidCount" "I", Cond.fieldLink RX2 17 "PastureBids" "owners" "[I", Cond.fieldLink RX2 32 "PastureBids" "withdrawn" "[Z", Cond.methodLink RX2 133 yX2_profit, Cond.instanceMethod yX2_profit, Cond.selects RX2 yX2_profit yX2_profit, Cond.code yX2_profit cX2_profit 4 (some .int), Cond.fieldLink RX2 29 "PastureBids" "worths" "[I"]
def wsL_about : List Cond := .codeWith yL_about cL_about 5 (some .int) [(0, 10, 13, 21)] :: ((wsL_about_r1 ++ wsL_about_r2) ++ wsX20 ++ wsX10 ++ (vx_atS RX2 210 "java/lang/IndexOutOfBoundsException" ["java/lang/RuntimeException", "java/lang/Exception"]).filter goodWord)
def wsL_land_r1 : List Cond := [Cond.classLink RL 21 "java/lang/IndexOutOfBoundsException", Cond.methodLink RL 50 yX2_land, Cond.instanceMethod yX2_land, Cond.selects RX2 yX2_land yX2_land, Cond.initialized RX2, Cond.code yX2_land cX2_land 3 (some .int), Cond.fieldLink RX2 9 "PastureBids" "reserves" "[I", Cond.methodLink RX2 71 yX2_requireField, Cond.instanceMethod yX2_requireField, Cond.selects RX2 yX2_requireField yX2_requireField, Cond.code yX2_requireField cX2_requireField 2 none, Cond.classLink RX2 206 "java/lang/IndexOutOfBoundsException", Cond.initialized "java/lang/IndexOutOfBoundsException", Cond.fieldLink RX2 60 "PastureBids" "fieldCount" "I", Cond.methodLink RX2 106 yX2_requireWhat, Cond.static yX2_requireWhat, Cond.code yX2_requireWhat cX2_requireWhat 2 none, Cond.methodLink RX2 140 yX2_winnerOfField, Cond.instanceMethod yX2_winnerOfField, Cond.selects RX2 yX2_winnerOfField yX2_winnerOfField, Cond.code yX2_winnerOfField cX2_winnerOfField 3 (some .int), Cond.fieldLink RX2 74 "PastureBids" "bidCount" "I", Cond.fieldLink RX2 38 "PastureBids" "sale" "LPastureBids$Sale;", Cond.fieldLink RX2 20 "PastureBids" "bundles" "[I"]
def wsL_land_r2 : List Cond := [Cond.instanceMethod yX0_has, Cond.initialized RX0, Cond.selects RX0 yX0_has yX0_has, Cond.code yX0_has cX0_has 2 (some .boolean), Cond.fieldLink RX0 13 "PastureBids$BestSet" "bids" "I", Cond.methodLink RX2 229 yX2_hasField, Cond.static yX2_hasField, Cond.code yX2_hasField cX2_hasField 2 (some .boolean), Cond.methodLink RX2 143 yX2_ownerOf, Cond.instanceMethod yX2_ownerOf, Cond.selects RX2 yX2_ownerOf yX2_ownerOf, Cond.code yX2_ownerOf cX2_ownerOf 2 (some .int), Cond.fieldLink RX2 17 "PastureBids" "owners" "[I", Cond.methodLink RX2 146 yX2_countingBidsWith, Cond.instanceMethod yX2_countingBidsWith, Cond.selects RX2 yX2_countingBidsWith yX2_countingBidsWith, Cond.code yX2_countingBidsWith cX2_countingBidsWith 4 (some .int), Cond.methodLink RX2 113 yX2_counts, Cond.instanceMethod yX2_counts, Cond.selects RX2 yX2_counts yX2_counts, Cond.code yX2_counts cX2_counts 2 (some .boolean), Cond.fieldLink RX2 32 "PastureBids" "withdrawn" "[Z", Cond.fieldLink RX2 13 "PastureBids" "ins" "[Z", Cond.fieldLink RX2 26 "PastureBids" "gains" "[I"]
def wsL_land : List Cond := .codeWith yL_land cL_land 5 (some .int) [(0, 10, 13, 21)] :: ((wsL_land_r1 ++ wsL_land_r2) ++ wsX20 ++ wsX10 ++ wsX00 ++ (vx_atS RX2 210 "java/lang/IndexOutOfBoundsException" ["java/lang/RuntimeException", "java/lang/Exception"]).filter goodWord)
def wsL_count_r1 : List Cond := [Cond.classLink RL 21 "java/lang/IndexOutOfBoundsException", Cond.methodLink RL 53 yX2_count, Cond.instanceMethod yX2_count, Cond.selects RX2 yX2_count yX2_count, Cond.initialized RX2, Cond.code yX2_count cX2_count 2 (some .int), Cond.fieldLink RX2 60 "PastureBids" "fieldCount" "I", Cond.fieldLink RX2 81 "PastureBids" "bidderCount" "I", Cond.fieldLink RX2 74 "PastureBids" "bidCount" "I", Cond.fieldLink RX2 38 "PastureBids" "sale" "LPastureBids$Sale;", Cond.methodLink RX2 106 yX2_requireWhat, Cond.static yX2_requireWhat, Cond.code yX2_requireWhat cX2_requireWhat 2 none, Cond.classLink RX2 206 "java/lang/IndexOutOfBoundsException", Cond.initialized "java/lang/IndexOutOfBoundsException", Cond.methodLink RX2 155 yJ6_bitCount_0f7a4, Cond.static yJ6_bitCount_0f7a4, Cond.initialized RJ6, Cond.code yJ6_bitCount_0f7a4 cJ6_bitCount_0f7a4 1 (some .int), Cond.constant RJ6 265 (1431655765), Cond.constant RJ6 266 (858993459), Cond.constant RJ6 267 (252645135), Cond.methodLink RX2 160 yX2_soldFields, Cond.instanceMethod yX2_soldFields]
def wsL_count_r2 : List Cond := [Cond.selects RX2 yX2_soldFields yX2_soldFields, Cond.code yX2_soldFields cX2_soldFields 3 (some .int), Cond.fieldLink RX2 20 "PastureBids" "bundles" "[I", Cond.instanceMethod yX0_has, Cond.initialized RX0, Cond.selects RX0 yX0_has yX0_has, Cond.code yX0_has cX0_has 2 (some .boolean), Cond.fieldLink RX0 13 "PastureBids$BestSet" "bids" "I", Cond.instanceMethod yX1_totalPaid, Cond.initialized RX1, Cond.selects RX1 yX1_totalPaid yX1_totalPaid, Cond.code yX1_totalPaid cX1_totalPaid 6 (some .int), Cond.fieldLink RX1 22 "PastureBids$Sale" "paid" "[I", Cond.methodLink RX2 166 yX2_totalProfit, Cond.instanceMethod yX2_totalProfit, Cond.selects RX2 yX2_totalProfit yX2_totalProfit, Cond.code yX2_totalProfit cX2_totalProfit 3 (some .int), Cond.methodLink RX2 133 yX2_profit, Cond.instanceMethod yX2_profit, Cond.selects RX2 yX2_profit yX2_profit, Cond.code yX2_profit cX2_profit 4 (some .int), Cond.fieldLink RX2 29 "PastureBids" "worths" "[I", Cond.methodLink RX2 169 yX2_winningPrices, Cond.instanceMethod yX2_winningPrices]
def wsL_count_r3 : List Cond := [Cond.selects RX2 yX2_winningPrices yX2_winningPrices, Cond.code yX2_winningPrices cX2_winningPrices 3 (some .int), Cond.fieldLink RX2 23 "PastureBids" "prices" "[I"]
def wsL_count : List Cond := .codeWith yL_count cL_count 4 (some .int) [(0, 9, 12, 21)] :: ((wsL_count_r1 ++ (wsL_count_r2 ++ wsL_count_r3)) ++ wsX20 ++ wsX10 ++ wsX00 ++ (vx_atS RX2 210 "java/lang/IndexOutOfBoundsException" ["java/lang/RuntimeException", "java/lang/Exception"]).filter goodWord)
def wsL_alone_r1 : List Cond := [Cond.classLink RL 21 "java/lang/IndexOutOfBoundsException", Cond.methodLink RL 56 yX2_alone, Cond.instanceMethod yX2_alone, Cond.selects RX2 yX2_alone yX2_alone, Cond.initialized RX2, Cond.code yX2_alone cX2_alone 4 (some .int), Cond.fieldLink RX2 17 "PastureBids" "owners" "[I", Cond.methodLink RX2 71 yX2_requireField, Cond.instanceMethod yX2_requireField, Cond.selects RX2 yX2_requireField yX2_requireField, Cond.code yX2_requireField cX2_requireField 2 none, Cond.classLink RX2 206 "java/lang/IndexOutOfBoundsException", Cond.initialized "java/lang/IndexOutOfBoundsException", Cond.fieldLink RX2 60 "PastureBids" "fieldCount" "I", Cond.methodLink RX2 106 yX2_requireWhat, Cond.static yX2_requireWhat, Cond.code yX2_requireWhat cX2_requireWhat 2 none, Cond.methodLink RX2 172 yX2_highestAlone, Cond.instanceMethod yX2_highestAlone, Cond.selects RX2 yX2_highestAlone yX2_highestAlone, Cond.code yX2_highestAlone cX2_highestAlone 6 (some .int), Cond.fieldLink RX2 74 "PastureBids" "bidCount" "I", Cond.fieldLink RX2 20 "PastureBids" "bundles" "[I", Cond.fieldLink RX2 23 "PastureBids" "prices" "[I"]
def wsL_alone_r2 : List Cond := [Cond.methodLink RX2 113 yX2_counts, Cond.instanceMethod yX2_counts, Cond.selects RX2 yX2_counts yX2_counts, Cond.code yX2_counts cX2_counts 2 (some .boolean), Cond.fieldLink RX2 32 "PastureBids" "withdrawn" "[Z", Cond.fieldLink RX2 13 "PastureBids" "ins" "[Z", Cond.fieldLink RX2 26 "PastureBids" "gains" "[I", Cond.methodLink RX2 176 yX2_secondPrice, Cond.instanceMethod yX2_secondPrice, Cond.selects RX2 yX2_secondPrice yX2_secondPrice, Cond.code yX2_secondPrice cX2_secondPrice 4 (some .int), Cond.fieldLink RX2 9 "PastureBids" "reserves" "[I"]
def wsL_alone : List Cond := .codeWith yL_alone cL_alone 5 (some .int) [(0, 10, 13, 21)] :: ((wsL_alone_r1 ++ wsL_alone_r2) ++ wsX20 ++ (vx_atS RX2 210 "java/lang/IndexOutOfBoundsException" ["java/lang/RuntimeException", "java/lang/Exception"]).filter goodWord)
def wsL_would_r1 : List Cond := [Cond.classLink RL 21 "java/lang/IndexOutOfBoundsException", Cond.classLink RL 13 "java/lang/IllegalArgumentException", Cond.methodLink RL 59 yX2_would, Cond.instanceMethod yX2_would, Cond.selects RX2 yX2_would yX2_would, Cond.initialized RX2, Cond.code yX2_would cX2_would 5 (some .int), Cond.fieldLink RX2 23 "PastureBids" "prices" "[I", Cond.fieldLink RX2 42 "PastureBids" "imagined" "LPastureBids$Sale;", Cond.fieldLink RX2 17 "PastureBids" "owners" "[I", Cond.methodLink RX2 97 yX2_requireBid, Cond.instanceMethod yX2_requireBid, Cond.selects RX2 yX2_requireBid yX2_requireBid, Cond.code yX2_requireBid cX2_requireBid 2 none, Cond.classLink RX2 206 "java/lang/IndexOutOfBoundsException", Cond.initialized "java/lang/IndexOutOfBoundsException", Cond.fieldLink RX2 74 "PastureBids" "bidCount" "I", Cond.methodLink RX2 106 yX2_requireWhat, Cond.static yX2_requireWhat, Cond.code yX2_requireWhat cX2_requireWhat 2 none, Cond.methodLink RX2 92 yX2_requireAmount, Cond.static yX2_requireAmount, Cond.code yX2_requireAmount cX2_requireAmount 1 none, Cond.classLink RX2 217 "java/lang/IllegalArgumentException"]
def wsL_would_r2 : List Cond := [Cond.initialized "java/lang/IllegalArgumentException", Cond.methodLink RX2 77 yX2_putPrice, Cond.instanceMethod yX2_putPrice, Cond.selects RX2 yX2_putPrice yX2_putPrice, Cond.code yX2_putPrice cX2_putPrice 3 none, Cond.fieldLink RX2 26 "PastureBids" "gains" "[I", Cond.fieldLink RX2 20 "PastureBids" "bundles" "[I", Cond.methodLink RX2 226 yX2_reservesOf, Cond.instanceMethod yX2_reservesOf, Cond.selects RX2 yX2_reservesOf yX2_reservesOf, Cond.code yX2_reservesOf cX2_reservesOf 4 (some .int), Cond.fieldLink RX2 60 "PastureBids" "fieldCount" "I", Cond.fieldLink RX2 9 "PastureBids" "reserves" "[I", Cond.methodLink RX2 229 yX2_hasField, Cond.static yX2_hasField, Cond.code yX2_hasField cX2_hasField 2 (some .boolean), Cond.methodLink RX2 52 yX2_settle, Cond.instanceMethod yX2_settle, Cond.selects RX2 yX2_settle yX2_settle, Cond.code yX2_settle cX2_settle 4 none, Cond.fieldLink RX2 81 "PastureBids" "bidderCount" "I", Cond.fieldLink RX2 48 "PastureBids" "search" "LPastureBids$BestSet;", Cond.instanceMethod yX1_clear, Cond.initialized RX1]
def wsL_would_r3 : List Cond := [Cond.selects RX1 yX1_clear yX1_clear, Cond.code yX1_clear cX1_clear 1 none, Cond.fieldLink RX1 12 "PastureBids$Sale" "winners" "LPastureBids$BestSet;", Cond.fieldLink RX1 18 "PastureBids$Sale" "winningBids" "[I", Cond.fieldLink RX1 22 "PastureBids$Sale" "paid" "[I", Cond.fieldLink RX1 25 "PastureBids$Sale" "gainedWithout" "[I", Cond.instanceMethod yX0_clear, Cond.initialized RX0, Cond.selects RX0 yX0_clear yX0_clear, Cond.code yX0_clear cX0_clear 1 none, Cond.fieldLink RX0 7 "PastureBids$BestSet" "gained" "I", Cond.fieldLink RX0 13 "PastureBids$BestSet" "bids" "I", Cond.methodLink RX1 31 yJ7_fill_53178, Cond.static yJ7_fill_53178, Cond.initialized RJ7, Cond.code yJ7_fill_53178 cJ7_fill_53178 4 none, Cond.methodLink RX2 235 yX2_findWinners, Cond.instanceMethod yX2_findWinners, Cond.selects RX2 yX2_findWinners yX2_findWinners, Cond.code yX2_findWinners cX2_findWinners 3 none, Cond.methodLink RX2 243 yX2_seek, Cond.instanceMethod yX2_seek, Cond.selects RX2 yX2_seek yX2_seek, Cond.code yX2_seek cX2_seek 8 none]
def wsL_would_r4 : List Cond := [Cond.instanceMethod yX0_consider, Cond.selects RX0 yX0_consider yX0_consider, Cond.code yX0_consider cX0_consider 3 none, Cond.methodLink RX0 16 yX0_isBeatenBy, Cond.instanceMethod yX0_isBeatenBy, Cond.selects RX0 yX0_isBeatenBy yX0_isBeatenBy, Cond.code yX0_isBeatenBy cX0_isBeatenBy 5 (some .boolean), Cond.methodLink RX0 20 yJ6_bitCount_0f7a4, Cond.static yJ6_bitCount_0f7a4, Cond.initialized RJ6, Cond.code yJ6_bitCount_0f7a4 cJ6_bitCount_0f7a4 1 (some .int), Cond.constant RJ6 265 (1431655765), Cond.constant RJ6 266 (858993459), Cond.constant RJ6 267 (252645135), Cond.methodLink RX2 250 yX2_seekWith, Cond.instanceMethod yX2_seekWith, Cond.selects RX2 yX2_seekWith yX2_seekWith, Cond.code yX2_seekWith cX2_seekWith 9 none, Cond.methodLink RX2 113 yX2_counts, Cond.instanceMethod yX2_counts, Cond.selects RX2 yX2_counts yX2_counts, Cond.code yX2_counts cX2_counts 2 (some .boolean), Cond.fieldLink RX2 32 "PastureBids" "withdrawn" "[Z", Cond.fieldLink RX2 13 "PastureBids" "ins" "[Z"]
def wsL_would_r5 : List Cond := [Cond.instanceMethod yX0_has, Cond.selects RX0 yX0_has yX0_has, Cond.code yX0_has cX0_has 2 (some .boolean), Cond.methodLink RX2 239 yX2_award, Cond.instanceMethod yX2_award, Cond.selects RX2 yX2_award yX2_award, Cond.code yX2_award cX2_award 5 none, Cond.methodLink RX2 109 yX2_asNumber, Cond.static yX2_asNumber, Cond.code yX2_asNumber cX2_asNumber 1 (some .int), Cond.methodLink RX2 133 yX2_profit, Cond.instanceMethod yX2_profit, Cond.selects RX2 yX2_profit yX2_profit, Cond.code yX2_profit cX2_profit 4 (some .int), Cond.fieldLink RX2 29 "PastureBids" "worths" "[I"]
def wsL_would : List Cond := .codeWith yL_would cL_would 6 (some .int) [(0, 12, 15, 21), (0, 12, 19, 13)] :: ((wsL_would_r1 ++ (wsL_would_r2 ++ (wsL_would_r3 ++ (wsL_would_r4 ++ wsL_would_r5)))) ++ wsX20 ++ wsX10 ++ wsX00 ++ (vx_atS RX2 210 "java/lang/IndexOutOfBoundsException" ["java/lang/RuntimeException", "java/lang/Exception"]).filter goodWord ++ (vx_atS RX2 221 "java/lang/IllegalArgumentException" ["java/lang/RuntimeException", "java/lang/Exception"]).filter goodWord)
def wsL_least_r1 : List Cond := [Cond.classLink RL 21 "java/lang/IndexOutOfBoundsException", Cond.methodLink RL 62 yX2_least, Cond.instanceMethod yX2_least, Cond.selects RX2 yX2_least yX2_least, Cond.initialized RX2, Cond.code yX2_least cX2_least 6 (some .int), Cond.fieldLink RX2 23 "PastureBids" "prices" "[I", Cond.methodLink RX2 97 yX2_requireBid, Cond.instanceMethod yX2_requireBid, Cond.selects RX2 yX2_requireBid yX2_requireBid, Cond.code yX2_requireBid cX2_requireBid 2 none, Cond.classLink RX2 206 "java/lang/IndexOutOfBoundsException", Cond.initialized "java/lang/IndexOutOfBoundsException", Cond.fieldLink RX2 74 "PastureBids" "bidCount" "I", Cond.methodLink RX2 179 yX2_winsWith, Cond.instanceMethod yX2_winsWith, Cond.selects RX2 yX2_winsWith yX2_winsWith, Cond.code yX2_winsWith cX2_winsWith 3 (some .boolean), Cond.fieldLink RX2 48 "PastureBids" "search" "LPastureBids$BestSet;", Cond.methodLink RX2 77 yX2_putPrice, Cond.instanceMethod yX2_putPrice, Cond.selects RX2 yX2_putPrice yX2_putPrice, Cond.code yX2_putPrice cX2_putPrice 3 none, Cond.fieldLink RX2 26 "PastureBids" "gains" "[I"]
def wsL_least_r2 : List Cond := [Cond.fieldLink RX2 20 "PastureBids" "bundles" "[I", Cond.methodLink RX2 226 yX2_reservesOf, Cond.instanceMethod yX2_reservesOf, Cond.selects RX2 yX2_reservesOf yX2_reservesOf, Cond.code yX2_reservesOf cX2_reservesOf 4 (some .int), Cond.fieldLink RX2 60 "PastureBids" "fieldCount" "I", Cond.fieldLink RX2 9 "PastureBids" "reserves" "[I", Cond.methodLink RX2 229 yX2_hasField, Cond.static yX2_hasField, Cond.code yX2_hasField cX2_hasField 2 (some .boolean), Cond.methodLink RX2 235 yX2_findWinners, Cond.instanceMethod yX2_findWinners, Cond.selects RX2 yX2_findWinners yX2_findWinners, Cond.code yX2_findWinners cX2_findWinners 3 none, Cond.instanceMethod yX0_clear, Cond.initialized RX0, Cond.selects RX0 yX0_clear yX0_clear, Cond.code yX0_clear cX0_clear 1 none, Cond.fieldLink RX0 7 "PastureBids$BestSet" "gained" "I", Cond.fieldLink RX0 13 "PastureBids$BestSet" "bids" "I", Cond.methodLink RX2 243 yX2_seek, Cond.instanceMethod yX2_seek, Cond.selects RX2 yX2_seek yX2_seek, Cond.code yX2_seek cX2_seek 8 none]
def wsL_least_r3 : List Cond := [Cond.instanceMethod yX0_consider, Cond.selects RX0 yX0_consider yX0_consider, Cond.code yX0_consider cX0_consider 3 none, Cond.methodLink RX0 16 yX0_isBeatenBy, Cond.instanceMethod yX0_isBeatenBy, Cond.selects RX0 yX0_isBeatenBy yX0_isBeatenBy, Cond.code yX0_isBeatenBy cX0_isBeatenBy 5 (some .boolean), Cond.methodLink RX0 20 yJ6_bitCount_0f7a4, Cond.static yJ6_bitCount_0f7a4, Cond.initialized RJ6, Cond.code yJ6_bitCount_0f7a4 cJ6_bitCount_0f7a4 1 (some .int), Cond.constant RJ6 265 (1431655765), Cond.constant RJ6 266 (858993459), Cond.constant RJ6 267 (252645135), Cond.methodLink RX2 250 yX2_seekWith, Cond.instanceMethod yX2_seekWith, Cond.selects RX2 yX2_seekWith yX2_seekWith, Cond.code yX2_seekWith cX2_seekWith 9 none, Cond.fieldLink RX2 17 "PastureBids" "owners" "[I", Cond.methodLink RX2 113 yX2_counts, Cond.instanceMethod yX2_counts, Cond.selects RX2 yX2_counts yX2_counts, Cond.code yX2_counts cX2_counts 2 (some .boolean), Cond.fieldLink RX2 32 "PastureBids" "withdrawn" "[Z"]
def wsL_least_r4 : List Cond := [Cond.fieldLink RX2 13 "PastureBids" "ins" "[Z", Cond.instanceMethod yX0_has, Cond.selects RX0 yX0_has yX0_has, Cond.code yX0_has cX0_has 2 (some .boolean)]
def wsL_least : List Cond := .codeWith yL_least cL_least 4 (some .int) [(0, 9, 12, 21)] :: ((wsL_least_r1 ++ (wsL_least_r2 ++ (wsL_least_r3 ++ wsL_least_r4))) ++ wsX20 ++ wsX00 ++ (vx_atS RX2 210 "java/lang/IndexOutOfBoundsException" ["java/lang/RuntimeException", "java/lang/Exception"]).filter goodWord)
def wsL_law0_r1 : List Cond := [Cond.classLink RL 8 RX2, Cond.instantiable RX2 14, Cond.initialized RX2, Cond.classLink RL 66 RX3, Cond.instantiable RX3 11, Cond.initialized RX3, Cond.arrayClass .long, Cond.methodLink RL 65 yX2_init, Cond.instanceMethod yX2_init, Cond.code yX2_init cX2_init 1 none, Cond.methodLink RX2 1 objectInit, Cond.instanceMethod objectInit, Cond.code objectInit ⟨#[0xb1]⟩ 1 none, Cond.arrayClass .int, Cond.fieldLink RX2 9 "PastureBids" "reserves" "[I", Cond.arrayClass .boolean, Cond.fieldLink RX2 13 "PastureBids" "ins" "[Z", Cond.fieldLink RX2 17 "PastureBids" "owners" "[I", Cond.fieldLink RX2 20 "PastureBids" "bundles" "[I", Cond.fieldLink RX2 23 "PastureBids" "prices" "[I", Cond.fieldLink RX2 26 "PastureBids" "gains" "[I", Cond.fieldLink RX2 29 "PastureBids" "worths" "[I", Cond.fieldLink RX2 32 "PastureBids" "withdrawn" "[Z", Cond.classLink RX2 35 RX1]
def wsL_law0_r2 : List Cond := [Cond.instantiable RX1 4, Cond.initialized RX1, Cond.fieldLink RX2 38 "PastureBids" "sale" "LPastureBids$Sale;", Cond.fieldLink RX2 42 "PastureBids" "imagined" "LPastureBids$Sale;", Cond.classLink RX2 45 RX0, Cond.instantiable RX0 2, Cond.initialized RX0, Cond.fieldLink RX2 48 "PastureBids" "search" "LPastureBids$BestSet;", Cond.instanceMethod yX1_init, Cond.code yX1_init cX1_init 1 none, Cond.methodLink RX1 3 objectInit, Cond.classLink RX1 9 RX0, Cond.fieldLink RX1 12 "PastureBids$Sale" "winners" "LPastureBids$BestSet;", Cond.fieldLink RX1 18 "PastureBids$Sale" "winningBids" "[I", Cond.fieldLink RX1 22 "PastureBids$Sale" "paid" "[I", Cond.fieldLink RX1 25 "PastureBids$Sale" "gainedWithout" "[I", Cond.instanceMethod yX0_init, Cond.code yX0_init cX0_init 1 none, Cond.methodLink RX0 1 objectInit, Cond.methodLink RX2 52 yX2_settle, Cond.instanceMethod yX2_settle, Cond.selects RX2 yX2_settle yX2_settle, Cond.code yX2_settle cX2_settle 4 none, Cond.fieldLink RX2 81 "PastureBids" "bidderCount" "I"]
def wsL_law0_r3 : List Cond := [Cond.fieldLink RX2 74 "PastureBids" "bidCount" "I", Cond.instanceMethod yX1_clear, Cond.selects RX1 yX1_clear yX1_clear, Cond.code yX1_clear cX1_clear 1 none, Cond.instanceMethod yX0_clear, Cond.selects RX0 yX0_clear yX0_clear, Cond.code yX0_clear cX0_clear 1 none, Cond.fieldLink RX0 7 "PastureBids$BestSet" "gained" "I", Cond.fieldLink RX0 13 "PastureBids$BestSet" "bids" "I", Cond.methodLink RX1 31 yJ7_fill_53178, Cond.static yJ7_fill_53178, Cond.initialized RJ7, Cond.code yJ7_fill_53178 cJ7_fill_53178 4 none, Cond.methodLink RX2 235 yX2_findWinners, Cond.instanceMethod yX2_findWinners, Cond.selects RX2 yX2_findWinners yX2_findWinners, Cond.code yX2_findWinners cX2_findWinners 3 none, Cond.methodLink RX2 243 yX2_seek, Cond.instanceMethod yX2_seek, Cond.selects RX2 yX2_seek yX2_seek, Cond.code yX2_seek cX2_seek 8 none, Cond.instanceMethod yX0_consider, Cond.selects RX0 yX0_consider yX0_consider, Cond.code yX0_consider cX0_consider 3 none]
def wsL_law0_r4 : List Cond := [Cond.methodLink RX0 16 yX0_isBeatenBy, Cond.instanceMethod yX0_isBeatenBy, Cond.selects RX0 yX0_isBeatenBy yX0_isBeatenBy, Cond.code yX0_isBeatenBy cX0_isBeatenBy 5 (some .boolean), Cond.methodLink RX0 20 yJ6_bitCount_0f7a4, Cond.static yJ6_bitCount_0f7a4, Cond.initialized RJ6, Cond.code yJ6_bitCount_0f7a4 cJ6_bitCount_0f7a4 1 (some .int), Cond.constant RJ6 265 (1431655765), Cond.constant RJ6 266 (858993459), Cond.constant RJ6 267 (252645135), Cond.methodLink RX2 250 yX2_seekWith, Cond.instanceMethod yX2_seekWith, Cond.selects RX2 yX2_seekWith yX2_seekWith, Cond.code yX2_seekWith cX2_seekWith 9 none, Cond.methodLink RX2 113 yX2_counts, Cond.instanceMethod yX2_counts, Cond.selects RX2 yX2_counts yX2_counts, Cond.code yX2_counts cX2_counts 2 (some .boolean), Cond.instanceMethod yX0_has, Cond.selects RX0 yX0_has yX0_has, Cond.code yX0_has cX0_has 2 (some .boolean), Cond.methodLink RX2 239 yX2_award, Cond.instanceMethod yX2_award]
def wsL_law0_r5 : List Cond := [Cond.selects RX2 yX2_award yX2_award, Cond.code yX2_award cX2_award 5 none, Cond.methodLink RX2 226 yX2_reservesOf, Cond.instanceMethod yX2_reservesOf, Cond.selects RX2 yX2_reservesOf yX2_reservesOf, Cond.code yX2_reservesOf cX2_reservesOf 4 (some .int), Cond.fieldLink RX2 60 "PastureBids" "fieldCount" "I", Cond.methodLink RX2 229 yX2_hasField, Cond.static yX2_hasField, Cond.code yX2_hasField cX2_hasField 2 (some .boolean), Cond.methodLink RL 68 yX3_init, Cond.instanceMethod yX3_init, Cond.code yX3_init cX3_init 1 none, Cond.methodLink RX3 1 objectInit, Cond.fieldLink RX3 9 "PastureBidsModel" "reserves" "[I", Cond.fieldLink RX3 13 "PastureBidsModel" "rows" "[I", Cond.fieldLink RX3 16 "PastureBidsModel" "land" "[I", Cond.fieldLink RX3 19 "PastureBidsModel" "people" "[I", Cond.fieldLink RX3 22 "PastureBidsModel" "gains" "[I", Cond.fieldLink RX3 25 "PastureBidsModel" "sizes" "[I", Cond.methodLink RL 69 yL_field, Cond.static yL_field, Cond.initialized RL, Cond.codeWith yL_field cL_field 4 (some .int) [(0, 9, 12, 13), (0, 9, 15, 15)]]
def wsL_law0_r6 : List Cond := [Cond.classLink RL 13 "java/lang/IllegalArgumentException", Cond.classLink RL 15 "java/lang/IllegalStateException", Cond.methodLink RL 7 yX2_field, Cond.instanceMethod yX2_field, Cond.selects RX2 yX2_field yX2_field, Cond.code yX2_field cX2_field 3 (some .int), Cond.classLink RX2 64 "java/lang/IllegalStateException", Cond.initialized "java/lang/IllegalStateException", Cond.methodLink RX2 56 yX2_requireReserve, Cond.static yX2_requireReserve, Cond.code yX2_requireReserve cX2_requireReserve 1 none, Cond.classLink RX2 217 "java/lang/IllegalArgumentException", Cond.initialized "java/lang/IllegalArgumentException", Cond.methodLink RL 74 yX3_field, Cond.instanceMethod yX3_field, Cond.selects RX3 yX3_field yX3_field, Cond.code yX3_field cX3_field 2 (some .int), Cond.fieldLink RX3 28 "PastureBidsModel" "thrown" "I", Cond.fieldLink RX3 36 "PastureBidsModel" "fields" "I", Cond.methodLink RX3 32 yX3_isIn, Cond.static yX3_isIn, Cond.code yX3_isIn cX3_isIn 3 (some .boolean), Cond.methodLink RX3 79 yX3_fail, Cond.instanceMethod yX3_fail]
def wsL_law0_r7 : List Cond := [Cond.selects RX3 yX3_fail yX3_fail, Cond.code yX3_fail cX3_fail 2 (some .int), Cond.methodLink RL 75 yX3_thrown, Cond.instanceMethod yX3_thrown, Cond.selects RX3 yX3_thrown yX3_thrown, Cond.code yX3_thrown cX3_thrown 1 (some .int), Cond.methodLink RL 78 yL_setReserve, Cond.static yL_setReserve, Cond.codeWith yL_setReserve cL_setReserve 5 (some .int) [(0, 10, 13, 21), (0, 10, 17, 13)], Cond.classLink RL 21 "java/lang/IndexOutOfBoundsException", Cond.methodLink RL 17 yX2_setReserve, Cond.instanceMethod yX2_setReserve, Cond.selects RX2 yX2_setReserve yX2_setReserve, Cond.code yX2_setReserve cX2_setReserve 5 (some .int), Cond.methodLink RX2 71 yX2_requireField, Cond.instanceMethod yX2_requireField, Cond.selects RX2 yX2_requireField yX2_requireField, Cond.code yX2_requireField cX2_requireField 2 none, Cond.classLink RX2 206 "java/lang/IndexOutOfBoundsException", Cond.initialized "java/lang/IndexOutOfBoundsException", Cond.methodLink RX2 77 yX2_putPrice, Cond.instanceMethod yX2_putPrice, Cond.selects RX2 yX2_putPrice yX2_putPrice, Cond.code yX2_putPrice cX2_putPrice 3 none]
def wsL_law0_r8 : List Cond := [Cond.methodLink RL 81 yX3_setReserve, Cond.instanceMethod yX3_setReserve, Cond.selects RX3 yX3_setReserve yX3_setReserve, Cond.code yX3_setReserve cX3_setReserve 4 (some .int), Cond.methodLink RX3 82 yX3_isField, Cond.instanceMethod yX3_isField, Cond.selects RX3 yX3_isField yX3_isField, Cond.code yX3_isField cX3_isField 2 (some .boolean), Cond.methodLink RL 82 yL_join, Cond.static yL_join, Cond.codeWith yL_join cL_join 3 (some .int) [(0, 8, 11, 15)], Cond.methodLink RL 23 yX2_join, Cond.instanceMethod yX2_join, Cond.selects RX2 yX2_join yX2_join, Cond.code yX2_join cX2_join 2 (some .int), Cond.methodLink RL 85 yX3_join, Cond.instanceMethod yX3_join, Cond.selects RX3 yX3_join yX3_join, Cond.code yX3_join cX3_join 1 (some .int), Cond.fieldLink RX3 39 "PastureBidsModel" "bidders" "I", Cond.methodLink RL 86 yL_setIn, Cond.static yL_setIn, Cond.codeWith yL_setIn cL_setIn 5 (some .int) [(0, 17, 20, 21)], Cond.methodLink RL 27 yX2_setIn]
def wsL_law0_r9 : List Cond := [Cond.instanceMethod yX2_setIn, Cond.selects RX2 yX2_setIn yX2_setIn, Cond.code yX2_setIn cX2_setIn 4 (some .boolean), Cond.methodLink RX2 86 yX2_requireBidder, Cond.instanceMethod yX2_requireBidder, Cond.selects RX2 yX2_requireBidder yX2_requireBidder, Cond.code yX2_requireBidder cX2_requireBidder 2 none, Cond.methodLink RL 89 yX3_setIn, Cond.instanceMethod yX3_setIn, Cond.selects RX3 yX3_setIn yX3_setIn, Cond.code yX3_setIn cX3_setIn 4 (some .boolean), Cond.fieldLink RX3 56 "PastureBidsModel" "out" "I", Cond.methodLink RX3 85 yX3_isBidder, Cond.instanceMethod yX3_isBidder, Cond.selects RX3 yX3_isBidder yX3_isBidder, Cond.code yX3_isBidder cX3_isBidder 2 (some .boolean), Cond.methodLink RX3 45 yX3_bit, Cond.static yX3_bit, Cond.code yX3_bit cX3_bit 2 (some .int), Cond.methodLink RL 90 yL_bid, Cond.static yL_bid, Cond.codeWith yL_bid cL_bid 6 (some .int) [(0, 12, 15, 21), (0, 12, 19, 13), (0, 12, 23, 15)], Cond.methodLink RL 31 yX2_bid, Cond.instanceMethod yX2_bid]
def wsL_law0_r10 : List Cond := [Cond.selects RX2 yX2_bid yX2_bid, Cond.code yX2_bid cX2_bid 5 (some .int), Cond.methodLink RX2 89 yX2_requireBundle, Cond.instanceMethod yX2_requireBundle, Cond.selects RX2 yX2_requireBundle yX2_requireBundle, Cond.code yX2_requireBundle cX2_requireBundle 2 none, Cond.methodLink RX2 92 yX2_requireAmount, Cond.static yX2_requireAmount, Cond.code yX2_requireAmount cX2_requireAmount 1 none, Cond.methodLink RL 93 yX3_bid, Cond.instanceMethod yX3_bid, Cond.selects RX3 yX3_bid yX3_bid, Cond.code yX3_bid cX3_bid 5 (some .int), Cond.fieldLink RX3 42 "PastureBidsModel" "bids" "I", Cond.methodLink RX3 91 arraycopyName, Cond.native arraycopyName, Cond.static arraycopyName, Cond.initialized "java/lang/System", Cond.methodLink RX3 88 yX3_isPrice, Cond.static yX3_isPrice, Cond.code yX3_isPrice cX3_isPrice 1 (some .boolean), Cond.methodLink RL 94 yL_setPrice, Cond.static yL_setPrice, Cond.codeWith yL_setPrice cL_setPrice 5 (some .int) [(0, 10, 13, 21), (0, 10, 17, 13)]]
def wsL_law0_r11 : List Cond := [Cond.methodLink RL 35 yX2_setPrice, Cond.instanceMethod yX2_setPrice, Cond.selects RX2 yX2_setPrice yX2_setPrice, Cond.code yX2_setPrice cX2_setPrice 4 (some .int), Cond.methodLink RX2 97 yX2_requireBid, Cond.instanceMethod yX2_requireBid, Cond.selects RX2 yX2_requireBid yX2_requireBid, Cond.code yX2_requireBid cX2_requireBid 2 none, Cond.methodLink RL 96 yX3_setPrice, Cond.instanceMethod yX3_setPrice, Cond.selects RX3 yX3_setPrice yX3_setPrice, Cond.code yX3_setPrice cX3_setPrice 3 (some .int), Cond.methodLink RX3 100 yX3_change, Cond.instanceMethod yX3_change, Cond.selects RX3 yX3_change yX3_change, Cond.code yX3_change cX3_change 5 (some .int), Cond.methodLink RX3 97 yX3_isBid, Cond.instanceMethod yX3_isBid, Cond.selects RX3 yX3_isBid yX3_isBid, Cond.code yX3_isBid cX3_isBid 2 (some .boolean), Cond.methodLink RX3 49 yX3_bi, Cond.instanceMethod yX3_bi, Cond.selects RX3 yX3_bi yX3_bi, Cond.code yX3_bi cX3_bi 3 (some .int)]
def wsL_law0_r12 : List Cond := [Cond.methodLink RL 97 yL_setWorth, Cond.static yL_setWorth, Cond.codeWith yL_setWorth cL_setWorth 5 (some .int) [(0, 10, 13, 21), (0, 10, 17, 13)], Cond.methodLink RL 38 yX2_setWorth, Cond.instanceMethod yX2_setWorth, Cond.selects RX2 yX2_setWorth yX2_setWorth, Cond.code yX2_setWorth cX2_setWorth 4 (some .int), Cond.methodLink RL 99 yX3_setWorth, Cond.instanceMethod yX3_setWorth, Cond.selects RX3 yX3_setWorth yX3_setWorth, Cond.code yX3_setWorth cX3_setWorth 3 (some .int), Cond.methodLink RL 100 yL_withdraw, Cond.static yL_withdraw, Cond.codeWith yL_withdraw cL_withdraw 4 (some .int) [(0, 9, 12, 21), (0, 9, 15, 15)], Cond.methodLink RL 41 yX2_withdraw, Cond.instanceMethod yX2_withdraw, Cond.selects RX2 yX2_withdraw yX2_withdraw, Cond.code yX2_withdraw cX2_withdraw 2 (some .int), Cond.methodLink RX2 102 yX2_bidsLeft, Cond.instanceMethod yX2_bidsLeft, Cond.selects RX2 yX2_bidsLeft yX2_bidsLeft, Cond.code yX2_bidsLeft cX2_bidsLeft 3 (some .int), Cond.methodLink RX2 123 yX2_bidsLeftOf, Cond.instanceMethod yX2_bidsLeftOf]
def wsL_law0_r13 : List Cond := [Cond.selects RX2 yX2_bidsLeftOf yX2_bidsLeftOf, Cond.code yX2_bidsLeftOf cX2_bidsLeftOf 4 (some .int), Cond.methodLink RL 102 yX3_withdraw, Cond.instanceMethod yX3_withdraw, Cond.selects RX3 yX3_withdraw yX3_withdraw, Cond.code yX3_withdraw cX3_withdraw 4 (some .int), Cond.methodLink RL 103 yL_told, Cond.static yL_told, Cond.codeWith yL_told cL_told 5 (some .int) [(0, 10, 13, 21)], Cond.methodLink RL 44 yX2_told, Cond.instanceMethod yX2_told, Cond.selects RX2 yX2_told yX2_told, Cond.code yX2_told cX2_told 3 (some .int), Cond.methodLink RX2 106 yX2_requireWhat, Cond.static yX2_requireWhat, Cond.code yX2_requireWhat cX2_requireWhat 2 none, Cond.methodLink RX2 109 yX2_asNumber, Cond.static yX2_asNumber, Cond.code yX2_asNumber cX2_asNumber 1 (some .int), Cond.methodLink RL 105 yX3_told, Cond.instanceMethod yX3_told, Cond.selects RX3 yX3_told yX3_told, Cond.code yX3_told cX3_told 3 (some .int), Cond.methodLink RX3 104 yX3_bidTold]
def wsL_law0_r14 : List Cond := [Cond.instanceMethod yX3_bidTold, Cond.selects RX3 yX3_bidTold yX3_bidTold, Cond.code yX3_bidTold cX3_bidTold 3 (some .int), Cond.methodLink RX3 59 yX3_gain, Cond.instanceMethod yX3_gain, Cond.selects RX3 yX3_gain yX3_gain, Cond.code yX3_gain cX3_gain 2 (some .int), Cond.methodLink RX3 52 yX3_reserveOf, Cond.instanceMethod yX3_reserveOf, Cond.selects RX3 yX3_reserveOf yX3_reserveOf, Cond.code yX3_reserveOf cX3_reserveOf 4 (some .int), Cond.methodLink RX3 62 yX3_isCounted, Cond.instanceMethod yX3_isCounted, Cond.selects RX3 yX3_isCounted yX3_isCounted, Cond.code yX3_isCounted cX3_isCounted 2 (some .boolean), Cond.methodLink RX3 66 yX3_sale, Cond.instanceMethod yX3_sale, Cond.selects RX3 yX3_sale yX3_sale, Cond.code yX3_sale cX3_sale 8 (some .int), Cond.methodLink RL 106 yL_about, Cond.static yL_about, Cond.codeWith yL_about cL_about 5 (some .int) [(0, 10, 13, 21)], Cond.methodLink RL 47 yX2_about, Cond.instanceMethod yX2_about]
def wsL_law0_r15 : List Cond := [Cond.selects RX2 yX2_about yX2_about, Cond.code yX2_about cX2_about 3 (some .int), Cond.methodLink RX2 133 yX2_profit, Cond.instanceMethod yX2_profit, Cond.selects RX2 yX2_profit yX2_profit, Cond.code yX2_profit cX2_profit 4 (some .int), Cond.methodLink RL 108 yX3_about, Cond.instanceMethod yX3_about, Cond.selects RX3 yX3_about yX3_about, Cond.code yX3_about cX3_about 3 (some .int), Cond.methodLink RX3 110 yX3_bidderTold, Cond.instanceMethod yX3_bidderTold, Cond.selects RX3 yX3_bidderTold yX3_bidderTold, Cond.code yX3_bidderTold cX3_bidderTold 5 (some .int), Cond.methodLink RX3 70 yX3_bidOf, Cond.instanceMethod yX3_bidOf, Cond.selects RX3 yX3_bidOf yX3_bidOf, Cond.code yX3_bidOf cX3_bidOf 4 (some .int), Cond.methodLink RX3 76 yX3_paid, Cond.instanceMethod yX3_paid, Cond.selects RX3 yX3_paid yX3_paid, Cond.code yX3_paid cX3_paid 5 (some .int), Cond.methodLink RX3 73 yX3_sumWithout, Cond.instanceMethod yX3_sumWithout]
def wsL_law0_r16 : List Cond := [Cond.selects RX3 yX3_sumWithout yX3_sumWithout, Cond.code yX3_sumWithout cX3_sumWithout 4 (some .int), Cond.methodLink RX3 107 yX3_profit, Cond.instanceMethod yX3_profit, Cond.selects RX3 yX3_profit yX3_profit, Cond.code yX3_profit cX3_profit 3 (some .int), Cond.methodLink RL 109 yL_land, Cond.static yL_land, Cond.codeWith yL_land cL_land 5 (some .int) [(0, 10, 13, 21)], Cond.methodLink RL 50 yX2_land, Cond.instanceMethod yX2_land, Cond.selects RX2 yX2_land yX2_land, Cond.code yX2_land cX2_land 3 (some .int), Cond.methodLink RX2 140 yX2_winnerOfField, Cond.instanceMethod yX2_winnerOfField, Cond.selects RX2 yX2_winnerOfField yX2_winnerOfField, Cond.code yX2_winnerOfField cX2_winnerOfField 3 (some .int), Cond.methodLink RX2 143 yX2_ownerOf, Cond.instanceMethod yX2_ownerOf, Cond.selects RX2 yX2_ownerOf yX2_ownerOf, Cond.code yX2_ownerOf cX2_ownerOf 2 (some .int), Cond.methodLink RX2 146 yX2_countingBidsWith, Cond.instanceMethod yX2_countingBidsWith, Cond.selects RX2 yX2_countingBidsWith yX2_countingBidsWith]
def wsL_law0_r17 : List Cond := [Cond.code yX2_countingBidsWith cX2_countingBidsWith 4 (some .int), Cond.methodLink RL 111 yX3_land, Cond.instanceMethod yX3_land, Cond.selects RX3 yX3_land yX3_land, Cond.code yX3_land cX3_land 3 (some .int), Cond.methodLink RX3 113 yX3_fieldTold, Cond.instanceMethod yX3_fieldTold, Cond.selects RX3 yX3_fieldTold yX3_fieldTold, Cond.code yX3_fieldTold cX3_fieldTold 6 (some .int), Cond.methodLink RL 112 yL_count, Cond.static yL_count, Cond.codeWith yL_count cL_count 4 (some .int) [(0, 9, 12, 21)], Cond.methodLink RL 53 yX2_count, Cond.instanceMethod yX2_count, Cond.selects RX2 yX2_count yX2_count, Cond.code yX2_count cX2_count 2 (some .int), Cond.methodLink RX2 155 yJ6_bitCount_0f7a4, Cond.methodLink RX2 160 yX2_soldFields, Cond.instanceMethod yX2_soldFields, Cond.selects RX2 yX2_soldFields yX2_soldFields, Cond.code yX2_soldFields cX2_soldFields 3 (some .int), Cond.instanceMethod yX1_totalPaid, Cond.selects RX1 yX1_totalPaid yX1_totalPaid, Cond.code yX1_totalPaid cX1_totalPaid 6 (some .int)]
def wsL_law0_r18 : List Cond := [Cond.methodLink RX2 166 yX2_totalProfit, Cond.instanceMethod yX2_totalProfit, Cond.selects RX2 yX2_totalProfit yX2_totalProfit, Cond.code yX2_totalProfit cX2_totalProfit 3 (some .int), Cond.methodLink RX2 169 yX2_winningPrices, Cond.instanceMethod yX2_winningPrices, Cond.selects RX2 yX2_winningPrices yX2_winningPrices, Cond.code yX2_winningPrices cX2_winningPrices 3 (some .int), Cond.methodLink RL 114 yX3_count, Cond.instanceMethod yX3_count, Cond.selects RX3 yX3_count yX3_count, Cond.code yX3_count cX3_count 2 (some .int), Cond.methodLink RX3 119 yX3_counted, Cond.instanceMethod yX3_counted, Cond.selects RX3 yX3_counted yX3_counted, Cond.code yX3_counted cX3_counted 5 (some .int), Cond.methodLink RX3 116 yX3_allPaid, Cond.instanceMethod yX3_allPaid, Cond.selects RX3 yX3_allPaid yX3_allPaid, Cond.code yX3_allPaid cX3_allPaid 3 (some .int), Cond.methodLink RL 115 yL_alone, Cond.static yL_alone, Cond.codeWith yL_alone cL_alone 5 (some .int) [(0, 10, 13, 21)], Cond.methodLink RL 56 yX2_alone]
def wsL_law0_r19 : List Cond := [Cond.instanceMethod yX2_alone, Cond.selects RX2 yX2_alone yX2_alone, Cond.code yX2_alone cX2_alone 4 (some .int), Cond.methodLink RX2 172 yX2_highestAlone, Cond.instanceMethod yX2_highestAlone, Cond.selects RX2 yX2_highestAlone yX2_highestAlone, Cond.code yX2_highestAlone cX2_highestAlone 6 (some .int), Cond.methodLink RX2 176 yX2_secondPrice, Cond.instanceMethod yX2_secondPrice, Cond.selects RX2 yX2_secondPrice yX2_secondPrice, Cond.code yX2_secondPrice cX2_secondPrice 4 (some .int), Cond.methodLink RL 117 yX3_alone, Cond.instanceMethod yX3_alone, Cond.selects RX3 yX3_alone yX3_alone, Cond.code yX3_alone cX3_alone 3 (some .int), Cond.methodLink RX3 127 yX3_aloneTold, Cond.instanceMethod yX3_aloneTold, Cond.selects RX3 yX3_aloneTold yX3_aloneTold, Cond.code yX3_aloneTold cX3_aloneTold 6 (some .int), Cond.methodLink RX3 122 Lib.Math.max.name, Cond.static Lib.Math.max.name, Cond.initialized "java/lang/Math", Cond.code Lib.Math.max.name Lib.Math.max.code 2 (some .int), Cond.methodLink RL 118 yL_would]
def wsL_law0_r20 : List Cond := [Cond.static yL_would, Cond.codeWith yL_would cL_would 6 (some .int) [(0, 12, 15, 21), (0, 12, 19, 13)], Cond.methodLink RL 59 yX2_would, Cond.instanceMethod yX2_would, Cond.selects RX2 yX2_would yX2_would, Cond.code yX2_would cX2_would 5 (some .int), Cond.methodLink RL 120 yX3_would, Cond.instanceMethod yX3_would, Cond.selects RX3 yX3_would yX3_would, Cond.code yX3_would cX3_would 4 (some .int), Cond.methodLink RX3 130 yX3_tried, Cond.instanceMethod yX3_tried, Cond.selects RX3 yX3_tried yX3_tried, Cond.code yX3_tried cX3_tried 6 (some .int), Cond.methodLink RL 121 yL_least, Cond.static yL_least, Cond.codeWith yL_least cL_least 4 (some .int) [(0, 9, 12, 21)], Cond.methodLink RL 62 yX2_least, Cond.instanceMethod yX2_least, Cond.selects RX2 yX2_least yX2_least, Cond.code yX2_least cX2_least 6 (some .int), Cond.methodLink RX2 179 yX2_winsWith, Cond.instanceMethod yX2_winsWith, Cond.selects RX2 yX2_winsWith yX2_winsWith]
def wsL_law0_r21 : List Cond := [Cond.code yX2_winsWith cX2_winsWith 3 (some .boolean), Cond.methodLink RL 123 yX3_least, Cond.instanceMethod yX3_least, Cond.selects RX3 yX3_least yX3_least, Cond.code yX3_least cX3_least 5 (some .int), Cond.methodLink RL 124 yX2_rival, Cond.instanceMethod yX2_rival, Cond.selects RX2 yX2_rival yX2_rival, Cond.code yX2_rival cX2_rival 5 (some .int), Cond.methodLink RL 127 yX3_rival, Cond.instanceMethod yX3_rival, Cond.selects RX3 yX3_rival yX3_rival, Cond.code yX3_rival cX3_rival 6 (some .int), Cond.methodLink RL 128 yX2_mean, Cond.instanceMethod yX2_mean, Cond.selects RX2 yX2_mean yX2_mean, Cond.code yX2_mean cX2_mean 2 (some .double), Cond.methodLink RL 132 yX3_mean, Cond.instanceMethod yX3_mean, Cond.selects RX3 yX3_mean yX3_mean, Cond.code yX3_mean cX3_mean 2 (some .double), Cond.methodLink RL 133 yX2_digest, Cond.instanceMethod yX2_digest, Cond.selects RX2 yX2_digest yX2_digest]
def wsL_law0_r22 : List Cond := [Cond.code yX2_digest cX2_digest 5 (some .long), Cond.constantLong RX2 183 (1619), Cond.constantLong RX2 185 (31), Cond.methodLink RX2 187 yX2_count, Cond.methodLink RX2 190 yX2_digestField, Cond.instanceMethod yX2_digestField, Cond.selects RX2 yX2_digestField yX2_digestField, Cond.code yX2_digestField cX2_digestField 7 (some .long), Cond.methodLink RX2 200 yX2_land, Cond.methodLink RX2 203 yX2_alone, Cond.methodLink RX2 194 yX2_about, Cond.methodLink RX2 197 yX2_told, Cond.methodLink RL 137 yX3_digest, Cond.instanceMethod yX3_digest, Cond.selects RX3 yX3_digest yX3_digest, Cond.code yX3_digest cX3_digest 5 (some .long), Cond.constantLong RX3 133 (1619), Cond.constantLong RX3 135 (31)]
def wsL_law0 : List Cond := (wsL_law0_r1 ++ (wsL_law0_r2 ++ (wsL_law0_r3 ++ (wsL_law0_r4 ++ (wsL_law0_r5 ++ (wsL_law0_r6 ++ (wsL_law0_r7 ++ (wsL_law0_r8 ++ (wsL_law0_r9 ++ (wsL_law0_r10 ++ (wsL_law0_r11 ++ (wsL_law0_r12 ++ (wsL_law0_r13 ++ (wsL_law0_r14 ++ (wsL_law0_r15 ++ (wsL_law0_r16 ++ (wsL_law0_r17 ++ (wsL_law0_r18 ++ (wsL_law0_r19 ++ (wsL_law0_r20 ++ (wsL_law0_r21 ++ wsL_law0_r22))))))))))))))))))))) ++ wsX20 ++ wsX30 ++ wsX10 ++ wsX00 ++ ([] : List Cond)
def wsL_law : List Cond := wsL_law0 ++ (vx_atS RX2 68 "java/lang/IllegalStateException" ["java/lang/RuntimeException", "java/lang/Exception"]).filter goodWord ++ (vx_atS RX2 221 "java/lang/IllegalArgumentException" ["java/lang/RuntimeException", "java/lang/Exception"]).filter goodWord ++ (vx_atS RX2 210 "java/lang/IndexOutOfBoundsException" ["java/lang/RuntimeException", "java/lang/Exception"]).filter goodWord
theorem inlX0 : ∀ w ∈ wsX00, w ∈ wsL_law := fun _ h => List.mem_append_left _ (List.mem_append_left _ (List.mem_append_left _ (List.mem_append_left _ (List.mem_append_right _ h))))
theorem inlX1 : ∀ w ∈ wsX10, w ∈ wsL_law := fun _ h => List.mem_append_left _ (List.mem_append_left _ (List.mem_append_left _ (List.mem_append_left _ (List.mem_append_left _ (List.mem_append_right _ h)))))
theorem inlX2 : ∀ w ∈ wsX20, w ∈ wsL_law := fun _ h => List.mem_append_left _ (List.mem_append_left _ (List.mem_append_left _ (List.mem_append_left _ (List.mem_append_left _ (List.mem_append_left _ (List.mem_append_left _ (List.mem_append_right _ h)))))))
theorem inlX3 : ∀ w ∈ wsX30, w ∈ wsL_law := fun _ h => List.mem_append_left _ (List.mem_append_left _ (List.mem_append_left _ (List.mem_append_left _ (List.mem_append_left _ (List.mem_append_left _ (List.mem_append_right _ h))))))
abbrev vwCl : List vw_C := [(RX0, TX0, 2), (RX1, TX1, 4), (RX2, TX2, 14), (RX3, TX3, 11)]
end
section
theorem dX0_init_0 : decode cX0_init 0 = .ok (.aload_n 0, 1) := by decide +kernel
theorem dX0_init_1 : decode cX0_init 1 = .ok (.invokespecial 1, 3) := by decide +kernel
theorem dX0_init_4 : decode cX0_init 4 = .ok (.return_, 1) := by decide +kernel
theorem dX0_clear_0 : decode cX0_clear 0 = .ok (.aload_n 0, 1) := by decide +kernel
theorem dX0_clear_1 : decode cX0_clear 1 = .ok (.iconst 0, 1) := by decide +kernel
theorem dX0_clear_2 : decode cX0_clear 2 = .ok (.putfield 7, 3) := by decide +kernel
theorem dX0_clear_5 : decode cX0_clear 5 = .ok (.aload_n 0, 1) := by decide +kernel
theorem dX0_clear_6 : decode cX0_clear 6 = .ok (.iconst 0, 1) := by decide +kernel
theorem dX0_clear_7 : decode cX0_clear 7 = .ok (.putfield 13, 3) := by decide +kernel
theorem dX0_clear_10 : decode cX0_clear 10 = .ok (.return_, 1) := by decide +kernel
set_option maxRecDepth 20000 in
theorem ggX0_consider_X0_isBeatenBy : GoodIn wsX0_consider wsX0_isBeatenBy := goodIn_r _ [7, 1, 2, 8, 9, 10, 11, 12, 13, 14, 15, 16] (by decide +kernel) (by decide +kernel)
set_option maxRecDepth 20000 in
theorem gX0_consider_X0_isBeatenBy : GoodIn wsX0_consider (wsV RX0 16 RX0 yX0_isBeatenBy wsX0_isBeatenBy) := goodIn_app (goodIn_of _ (by decide +kernel)) ggX0_consider_X0_isBeatenBy
theorem dX0_consider_0 : decode cX0_consider 0 = .ok (.aload_n 0, 1) := by decide +kernel
theorem dX0_consider_1 : decode cX0_consider 1 = .ok (.iload_n 1, 1) := by decide +kernel
theorem dX0_consider_2 : decode cX0_consider 2 = .ok (.iload_n 2, 1) := by decide +kernel
theorem dX0_consider_3 : decode cX0_consider 3 = .ok (.invokevirtual 16, 3) := by decide +kernel
theorem dX0_consider_6 : decode cX0_consider 6 = .ok (.ifCond .eq 13, 3) := by decide +kernel
theorem dX0_consider_9 : decode cX0_consider 9 = .ok (.aload_n 0, 1) := by decide +kernel
theorem dX0_consider_10 : decode cX0_consider 10 = .ok (.iload_n 1, 1) := by decide +kernel
theorem dX0_consider_11 : decode cX0_consider 11 = .ok (.putfield 7, 3) := by decide +kernel
theorem dX0_consider_14 : decode cX0_consider 14 = .ok (.aload_n 0, 1) := by decide +kernel
theorem dX0_consider_15 : decode cX0_consider 15 = .ok (.iload_n 2, 1) := by decide +kernel
theorem dX0_consider_16 : decode cX0_consider 16 = .ok (.putfield 13, 3) := by decide +kernel
theorem dX0_consider_19 : decode cX0_consider 19 = .ok (.return_, 1) := by decide +kernel
set_option maxRecDepth 20000 in
theorem ggX0_isBeatenBy_J6_bitCount_0f7a4 : GoodIn wsX0_isBeatenBy wsJ6_bitCount_0f7a4 := goodIn_r _ [6, 7, 8, 9] (by decide +kernel) (by decide +kernel)
set_option maxRecDepth 20000 in
theorem gX0_isBeatenBy_J6_bitCount_0f7a4 : GoodIn wsX0_isBeatenBy (va_wsS RX0 20 yJ6_bitCount_0f7a4 wsJ6_bitCount_0f7a4) := goodIn_app (goodIn_of _ (by decide +kernel)) ggX0_isBeatenBy_J6_bitCount_0f7a4
theorem dX0_isBeatenBy_0 : decode cX0_isBeatenBy 0 = .ok (.iload_n 1, 1) := by decide +kernel
theorem dX0_isBeatenBy_1 : decode cX0_isBeatenBy 1 = .ok (.aload_n 0, 1) := by decide +kernel
theorem dX0_isBeatenBy_2 : decode cX0_isBeatenBy 2 = .ok (.getfield 7, 3) := by decide +kernel
theorem dX0_isBeatenBy_5 : decode cX0_isBeatenBy 5 = .ok (.if_icmp .eq 17, 3) := by decide +kernel
theorem dX0_isBeatenBy_8 : decode cX0_isBeatenBy 8 = .ok (.iload_n 1, 1) := by decide +kernel
theorem dX0_isBeatenBy_9 : decode cX0_isBeatenBy 9 = .ok (.aload_n 0, 1) := by decide +kernel
theorem dX0_isBeatenBy_10 : decode cX0_isBeatenBy 10 = .ok (.getfield 7, 3) := by decide +kernel
theorem dX0_isBeatenBy_13 : decode cX0_isBeatenBy 13 = .ok (.if_icmp .le 7, 3) := by decide +kernel
theorem dX0_isBeatenBy_16 : decode cX0_isBeatenBy 16 = .ok (.iconst 1, 1) := by decide +kernel
theorem dX0_isBeatenBy_17 : decode cX0_isBeatenBy 17 = .ok (.goto 4, 3) := by decide +kernel
theorem dX0_isBeatenBy_20 : decode cX0_isBeatenBy 20 = .ok (.iconst 0, 1) := by decide +kernel
theorem dX0_isBeatenBy_21 : decode cX0_isBeatenBy 21 = .ok (.ireturn, 1) := by decide +kernel
theorem dX0_isBeatenBy_22 : decode cX0_isBeatenBy 22 = .ok (.aload_n 0, 1) := by decide +kernel
theorem dX0_isBeatenBy_23 : decode cX0_isBeatenBy 23 = .ok (.getfield 13, 3) := by decide +kernel
theorem dX0_isBeatenBy_26 : decode cX0_isBeatenBy 26 = .ok (.invokestatic 20, 3) := by decide +kernel
theorem dX0_isBeatenBy_29 : decode cX0_isBeatenBy 29 = .ok (.istore_n 3, 1) := by decide +kernel
theorem dX0_isBeatenBy_30 : decode cX0_isBeatenBy 30 = .ok (.iload_n 2, 1) := by decide +kernel
theorem dX0_isBeatenBy_31 : decode cX0_isBeatenBy 31 = .ok (.invokestatic 20, 3) := by decide +kernel
theorem dX0_isBeatenBy_34 : decode cX0_isBeatenBy 34 = .ok (.istore 4, 2) := by decide +kernel
theorem dX0_isBeatenBy_36 : decode cX0_isBeatenBy 36 = .ok (.iload 4, 2) := by decide +kernel
theorem dX0_isBeatenBy_38 : decode cX0_isBeatenBy 38 = .ok (.iload_n 3, 1) := by decide +kernel
theorem dX0_isBeatenBy_39 : decode cX0_isBeatenBy 39 = .ok (.if_icmp .eq 15, 3) := by decide +kernel
theorem dX0_isBeatenBy_42 : decode cX0_isBeatenBy 42 = .ok (.iload 4, 2) := by decide +kernel
theorem dX0_isBeatenBy_44 : decode cX0_isBeatenBy 44 = .ok (.iload_n 3, 1) := by decide +kernel
theorem dX0_isBeatenBy_45 : decode cX0_isBeatenBy 45 = .ok (.if_icmp .le 7, 3) := by decide +kernel
theorem dX0_isBeatenBy_48 : decode cX0_isBeatenBy 48 = .ok (.iconst 1, 1) := by decide +kernel
theorem dX0_isBeatenBy_49 : decode cX0_isBeatenBy 49 = .ok (.goto 4, 3) := by decide +kernel
theorem dX0_isBeatenBy_52 : decode cX0_isBeatenBy 52 = .ok (.iconst 0, 1) := by decide +kernel
theorem dX0_isBeatenBy_53 : decode cX0_isBeatenBy 53 = .ok (.ireturn, 1) := by decide +kernel
theorem dX0_isBeatenBy_54 : decode cX0_isBeatenBy 54 = .ok (.iload_n 2, 1) := by decide +kernel
theorem dX0_isBeatenBy_55 : decode cX0_isBeatenBy 55 = .ok (.aload_n 0, 1) := by decide +kernel
theorem dX0_isBeatenBy_56 : decode cX0_isBeatenBy 56 = .ok (.getfield 13, 3) := by decide +kernel
theorem dX0_isBeatenBy_59 : decode cX0_isBeatenBy 59 = .ok (.if_icmp .ge 7, 3) := by decide +kernel
theorem dX0_isBeatenBy_62 : decode cX0_isBeatenBy 62 = .ok (.iconst 1, 1) := by decide +kernel
theorem dX0_isBeatenBy_63 : decode cX0_isBeatenBy 63 = .ok (.goto 4, 3) := by decide +kernel
theorem dX0_isBeatenBy_66 : decode cX0_isBeatenBy 66 = .ok (.iconst 0, 1) := by decide +kernel
theorem dX0_isBeatenBy_67 : decode cX0_isBeatenBy 67 = .ok (.ireturn, 1) := by decide +kernel
theorem dX0_has_0 : decode cX0_has 0 = .ok (.aload_n 0, 1) := by decide +kernel
theorem dX0_has_1 : decode cX0_has 1 = .ok (.getfield 13, 3) := by decide +kernel
theorem dX0_has_4 : decode cX0_has 4 = .ok (.iconst 1, 1) := by decide +kernel
theorem dX0_has_5 : decode cX0_has 5 = .ok (.iload_n 1, 1) := by decide +kernel
theorem dX0_has_6 : decode cX0_has 6 = .ok (.ishl, 1) := by decide +kernel
theorem dX0_has_7 : decode cX0_has 7 = .ok (.iand, 1) := by decide +kernel
theorem dX0_has_8 : decode cX0_has 8 = .ok (.ifCond .eq 7, 3) := by decide +kernel
theorem dX0_has_11 : decode cX0_has 11 = .ok (.iconst 1, 1) := by decide +kernel
theorem dX0_has_12 : decode cX0_has 12 = .ok (.goto 4, 3) := by decide +kernel
theorem dX0_has_15 : decode cX0_has 15 = .ok (.iconst 0, 1) := by decide +kernel
theorem dX0_has_16 : decode cX0_has 16 = .ok (.ireturn, 1) := by decide +kernel
set_option maxRecDepth 20000 in
theorem ggX1_init_X0_init : GoodIn wsX1_init wsX0_init := goodIn_r _ [13, 14, 2, 3] (by decide +kernel) (by decide +kernel)
set_option maxRecDepth 20000 in
theorem gX1_init_X0_init_n11 : GoodIn wsX1_init (wsX0_init) := ggX1_init_X0_init
theorem dX1_init_0 : decode cX1_init 0 = .ok (.aload_n 0, 1) := by decide +kernel
theorem dX1_init_1 : decode cX1_init 1 = .ok (.invokespecial 3, 3) := by decide +kernel
theorem dX1_init_4 : decode cX1_init 4 = .ok (.aload_n 0, 1) := by decide +kernel
theorem dX1_init_5 : decode cX1_init 5 = .ok (.new 9, 3) := by decide +kernel
theorem dX1_init_8 : decode cX1_init 8 = .ok (.dup, 1) := by decide +kernel
theorem dX1_init_9 : decode cX1_init 9 = .ok (.invokespecial 11, 3) := by decide +kernel
theorem dX1_init_12 : decode cX1_init 12 = .ok (.putfield 12, 3) := by decide +kernel
theorem dX1_init_15 : decode cX1_init 15 = .ok (.aload_n 0, 1) := by decide +kernel
theorem dX1_init_16 : decode cX1_init 16 = .ok (.iconst 5, 1) := by decide +kernel
theorem dX1_init_17 : decode cX1_init 17 = .ok (.newarray .int, 2) := by decide +kernel
theorem dX1_init_19 : decode cX1_init 19 = .ok (.putfield 18, 3) := by decide +kernel
theorem dX1_init_22 : decode cX1_init 22 = .ok (.aload_n 0, 1) := by decide +kernel
theorem dX1_init_23 : decode cX1_init 23 = .ok (.iconst 5, 1) := by decide +kernel
theorem dX1_init_24 : decode cX1_init 24 = .ok (.newarray .int, 2) := by decide +kernel
theorem dX1_init_26 : decode cX1_init 26 = .ok (.putfield 22, 3) := by decide +kernel
theorem dX1_init_29 : decode cX1_init 29 = .ok (.aload_n 0, 1) := by decide +kernel
theorem dX1_init_30 : decode cX1_init 30 = .ok (.iconst 5, 1) := by decide +kernel
theorem dX1_init_31 : decode cX1_init 31 = .ok (.newarray .int, 2) := by decide +kernel
theorem dX1_init_33 : decode cX1_init 33 = .ok (.putfield 25, 3) := by decide +kernel
theorem dX1_init_36 : decode cX1_init 36 = .ok (.return_, 1) := by decide +kernel
set_option maxRecDepth 20000 in
theorem ggX1_clear_X0_clear : GoodIn wsX1_clear wsX0_clear := goodIn_r _ [8, 9, 10, 19, 20] (by decide +kernel) (by decide +kernel)
set_option maxRecDepth 20000 in
theorem gX1_clear_X0_clear_n28 : GoodIn wsX1_clear (wsX0_clear) := ggX1_clear_X0_clear
set_option maxRecDepth 20000 in
theorem ggX1_clear_J7_fill_53178 : GoodIn wsX1_clear wsJ7_fill_53178 := goodIn_r _ [14] (by decide +kernel) (by decide +kernel)
set_option maxRecDepth 20000 in
theorem gX1_clear_J7_fill_53178 : GoodIn wsX1_clear (va_wsS RX1 31 yJ7_fill_53178 wsJ7_fill_53178) := goodIn_app (goodIn_of _ (by decide +kernel)) ggX1_clear_J7_fill_53178
theorem dX1_clear_0 : decode cX1_clear 0 = .ok (.aload_n 0, 1) := by decide +kernel
theorem dX1_clear_1 : decode cX1_clear 1 = .ok (.getfield 12, 3) := by decide +kernel
theorem dX1_clear_4 : decode cX1_clear 4 = .ok (.invokevirtual 28, 3) := by decide +kernel
theorem dX1_clear_7 : decode cX1_clear 7 = .ok (.aload_n 0, 1) := by decide +kernel
theorem dX1_clear_8 : decode cX1_clear 8 = .ok (.getfield 18, 3) := by decide +kernel
theorem dX1_clear_11 : decode cX1_clear 11 = .ok (.iconst (-1), 1) := by decide +kernel
theorem dX1_clear_12 : decode cX1_clear 12 = .ok (.invokestatic 31, 3) := by decide +kernel
theorem dX1_clear_15 : decode cX1_clear 15 = .ok (.aload_n 0, 1) := by decide +kernel
theorem dX1_clear_16 : decode cX1_clear 16 = .ok (.getfield 22, 3) := by decide +kernel
theorem dX1_clear_19 : decode cX1_clear 19 = .ok (.iconst 0, 1) := by decide +kernel
theorem dX1_clear_20 : decode cX1_clear 20 = .ok (.invokestatic 31, 3) := by decide +kernel
theorem dX1_clear_23 : decode cX1_clear 23 = .ok (.aload_n 0, 1) := by decide +kernel
theorem dX1_clear_24 : decode cX1_clear 24 = .ok (.getfield 25, 3) := by decide +kernel
theorem dX1_clear_27 : decode cX1_clear 27 = .ok (.iconst 0, 1) := by decide +kernel
theorem dX1_clear_28 : decode cX1_clear 28 = .ok (.invokestatic 31, 3) := by decide +kernel
theorem dX1_clear_31 : decode cX1_clear 31 = .ok (.return_, 1) := by decide +kernel
theorem dX1_totalPaid_0 : decode cX1_totalPaid 0 = .ok (.iconst 0, 1) := by decide +kernel
theorem dX1_totalPaid_1 : decode cX1_totalPaid 1 = .ok (.istore_n 1, 1) := by decide +kernel
theorem dX1_totalPaid_2 : decode cX1_totalPaid 2 = .ok (.aload_n 0, 1) := by decide +kernel
theorem dX1_totalPaid_3 : decode cX1_totalPaid 3 = .ok (.getfield 22, 3) := by decide +kernel
theorem dX1_totalPaid_6 : decode cX1_totalPaid 6 = .ok (.astore_n 2, 1) := by decide +kernel
theorem dX1_totalPaid_7 : decode cX1_totalPaid 7 = .ok (.aload_n 2, 1) := by decide +kernel
theorem dX1_totalPaid_8 : decode cX1_totalPaid 8 = .ok (.arraylength, 1) := by decide +kernel
theorem dX1_totalPaid_9 : decode cX1_totalPaid 9 = .ok (.istore_n 3, 1) := by decide +kernel
theorem dX1_totalPaid_10 : decode cX1_totalPaid 10 = .ok (.iconst 0, 1) := by decide +kernel
theorem dX1_totalPaid_11 : decode cX1_totalPaid 11 = .ok (.istore 4, 2) := by decide +kernel
theorem dX1_totalPaid_13 : decode cX1_totalPaid 13 = .ok (.iload 4, 2) := by decide +kernel
theorem dX1_totalPaid_15 : decode cX1_totalPaid 15 = .ok (.iload_n 3, 1) := by decide +kernel
theorem dX1_totalPaid_16 : decode cX1_totalPaid 16 = .ok (.if_icmp .ge 20, 3) := by decide +kernel
theorem dX1_totalPaid_19 : decode cX1_totalPaid 19 = .ok (.aload_n 2, 1) := by decide +kernel
theorem dX1_totalPaid_20 : decode cX1_totalPaid 20 = .ok (.iload 4, 2) := by decide +kernel
theorem dX1_totalPaid_22 : decode cX1_totalPaid 22 = .ok (.iaload, 1) := by decide +kernel
theorem dX1_totalPaid_23 : decode cX1_totalPaid 23 = .ok (.istore 5, 2) := by decide +kernel
theorem dX1_totalPaid_25 : decode cX1_totalPaid 25 = .ok (.iload_n 1, 1) := by decide +kernel
theorem dX1_totalPaid_26 : decode cX1_totalPaid 26 = .ok (.iload 5, 2) := by decide +kernel
theorem dX1_totalPaid_28 : decode cX1_totalPaid 28 = .ok (.iadd, 1) := by decide +kernel
theorem dX1_totalPaid_29 : decode cX1_totalPaid 29 = .ok (.istore_n 1, 1) := by decide +kernel
theorem dX1_totalPaid_30 : decode cX1_totalPaid 30 = .ok (.iinc 4 1, 3) := by decide +kernel
theorem dX1_totalPaid_33 : decode cX1_totalPaid 33 = .ok (.goto (-20), 3) := by decide +kernel
theorem dX1_totalPaid_36 : decode cX1_totalPaid 36 = .ok (.iload_n 1, 1) := by decide +kernel
theorem dX1_totalPaid_37 : decode cX1_totalPaid 37 = .ok (.ireturn, 1) := by decide +kernel
theorem dJ6_bitCount_0f7a4_0 : decode cJ6_bitCount_0f7a4 0 = .ok (.iload_n 0, 1) := by decide +kernel
theorem dJ6_bitCount_0f7a4_1 : decode cJ6_bitCount_0f7a4 1 = .ok (.iload_n 0, 1) := by decide +kernel
theorem dJ6_bitCount_0f7a4_2 : decode cJ6_bitCount_0f7a4 2 = .ok (.iconst 1, 1) := by decide +kernel
theorem dJ6_bitCount_0f7a4_3 : decode cJ6_bitCount_0f7a4 3 = .ok (.iushr, 1) := by decide +kernel
theorem dJ6_bitCount_0f7a4_4 : decode cJ6_bitCount_0f7a4 4 = .ok (.ldc_w 265, 3) := by decide +kernel
theorem dJ6_bitCount_0f7a4_7 : decode cJ6_bitCount_0f7a4 7 = .ok (.iand, 1) := by decide +kernel
theorem dJ6_bitCount_0f7a4_8 : decode cJ6_bitCount_0f7a4 8 = .ok (.isub, 1) := by decide +kernel
theorem dJ6_bitCount_0f7a4_9 : decode cJ6_bitCount_0f7a4 9 = .ok (.istore_n 0, 1) := by decide +kernel
theorem dJ6_bitCount_0f7a4_10 : decode cJ6_bitCount_0f7a4 10 = .ok (.iload_n 0, 1) := by decide +kernel
theorem dJ6_bitCount_0f7a4_11 : decode cJ6_bitCount_0f7a4 11 = .ok (.ldc_w 266, 3) := by decide +kernel
theorem dJ6_bitCount_0f7a4_14 : decode cJ6_bitCount_0f7a4 14 = .ok (.iand, 1) := by decide +kernel
theorem dJ6_bitCount_0f7a4_15 : decode cJ6_bitCount_0f7a4 15 = .ok (.iload_n 0, 1) := by decide +kernel
theorem dJ6_bitCount_0f7a4_16 : decode cJ6_bitCount_0f7a4 16 = .ok (.iconst 2, 1) := by decide +kernel
theorem dJ6_bitCount_0f7a4_17 : decode cJ6_bitCount_0f7a4 17 = .ok (.iushr, 1) := by decide +kernel
theorem dJ6_bitCount_0f7a4_18 : decode cJ6_bitCount_0f7a4 18 = .ok (.ldc_w 266, 3) := by decide +kernel
theorem dJ6_bitCount_0f7a4_21 : decode cJ6_bitCount_0f7a4 21 = .ok (.iand, 1) := by decide +kernel
theorem dJ6_bitCount_0f7a4_22 : decode cJ6_bitCount_0f7a4 22 = .ok (.iadd, 1) := by decide +kernel
theorem dJ6_bitCount_0f7a4_23 : decode cJ6_bitCount_0f7a4 23 = .ok (.istore_n 0, 1) := by decide +kernel
theorem dJ6_bitCount_0f7a4_24 : decode cJ6_bitCount_0f7a4 24 = .ok (.iload_n 0, 1) := by decide +kernel
theorem dJ6_bitCount_0f7a4_25 : decode cJ6_bitCount_0f7a4 25 = .ok (.iload_n 0, 1) := by decide +kernel
theorem dJ6_bitCount_0f7a4_26 : decode cJ6_bitCount_0f7a4 26 = .ok (.iconst 4, 1) := by decide +kernel
theorem dJ6_bitCount_0f7a4_27 : decode cJ6_bitCount_0f7a4 27 = .ok (.iushr, 1) := by decide +kernel
theorem dJ6_bitCount_0f7a4_28 : decode cJ6_bitCount_0f7a4 28 = .ok (.iadd, 1) := by decide +kernel
theorem dJ6_bitCount_0f7a4_29 : decode cJ6_bitCount_0f7a4 29 = .ok (.ldc_w 267, 3) := by decide +kernel
theorem dJ6_bitCount_0f7a4_32 : decode cJ6_bitCount_0f7a4 32 = .ok (.iand, 1) := by decide +kernel
theorem dJ6_bitCount_0f7a4_33 : decode cJ6_bitCount_0f7a4 33 = .ok (.istore_n 0, 1) := by decide +kernel
theorem dJ6_bitCount_0f7a4_34 : decode cJ6_bitCount_0f7a4 34 = .ok (.iload_n 0, 1) := by decide +kernel
theorem dJ6_bitCount_0f7a4_35 : decode cJ6_bitCount_0f7a4 35 = .ok (.iload_n 0, 1) := by decide +kernel
theorem dJ6_bitCount_0f7a4_36 : decode cJ6_bitCount_0f7a4 36 = .ok (.bipush 8, 2) := by decide +kernel
theorem dJ6_bitCount_0f7a4_38 : decode cJ6_bitCount_0f7a4 38 = .ok (.iushr, 1) := by decide +kernel
theorem dJ6_bitCount_0f7a4_39 : decode cJ6_bitCount_0f7a4 39 = .ok (.iadd, 1) := by decide +kernel
theorem dJ6_bitCount_0f7a4_40 : decode cJ6_bitCount_0f7a4 40 = .ok (.istore_n 0, 1) := by decide +kernel
theorem dJ6_bitCount_0f7a4_41 : decode cJ6_bitCount_0f7a4 41 = .ok (.iload_n 0, 1) := by decide +kernel
theorem dJ6_bitCount_0f7a4_42 : decode cJ6_bitCount_0f7a4 42 = .ok (.iload_n 0, 1) := by decide +kernel
theorem dJ6_bitCount_0f7a4_43 : decode cJ6_bitCount_0f7a4 43 = .ok (.bipush 16, 2) := by decide +kernel
theorem dJ6_bitCount_0f7a4_45 : decode cJ6_bitCount_0f7a4 45 = .ok (.iushr, 1) := by decide +kernel
theorem dJ6_bitCount_0f7a4_46 : decode cJ6_bitCount_0f7a4 46 = .ok (.iadd, 1) := by decide +kernel
theorem dJ6_bitCount_0f7a4_47 : decode cJ6_bitCount_0f7a4 47 = .ok (.istore_n 0, 1) := by decide +kernel
theorem dJ6_bitCount_0f7a4_48 : decode cJ6_bitCount_0f7a4 48 = .ok (.iload_n 0, 1) := by decide +kernel
theorem dJ6_bitCount_0f7a4_49 : decode cJ6_bitCount_0f7a4 49 = .ok (.bipush 63, 2) := by decide +kernel
theorem dJ6_bitCount_0f7a4_51 : decode cJ6_bitCount_0f7a4 51 = .ok (.iand, 1) := by decide +kernel
theorem dJ6_bitCount_0f7a4_52 : decode cJ6_bitCount_0f7a4 52 = .ok (.ireturn, 1) := by decide +kernel
theorem dJ9_max_7cf53_0 : decode cJ9_max_7cf53 0 = .ok (.iload_n 0, 1) := by decide +kernel
theorem dJ9_max_7cf53_1 : decode cJ9_max_7cf53 1 = .ok (.iload_n 1, 1) := by decide +kernel
theorem dJ9_max_7cf53_2 : decode cJ9_max_7cf53 2 = .ok (.if_icmp .lt 7, 3) := by decide +kernel
theorem dJ9_max_7cf53_5 : decode cJ9_max_7cf53 5 = .ok (.iload_n 0, 1) := by decide +kernel
theorem dJ9_max_7cf53_6 : decode cJ9_max_7cf53 6 = .ok (.goto 4, 3) := by decide +kernel
theorem dJ9_max_7cf53_9 : decode cJ9_max_7cf53 9 = .ok (.iload_n 1, 1) := by decide +kernel
theorem dJ9_max_7cf53_10 : decode cJ9_max_7cf53 10 = .ok (.ireturn, 1) := by decide +kernel
theorem dJ7_fill_53178_0 : decode cJ7_fill_53178 0 = .ok (.iconst 0, 1) := by decide +kernel
theorem dJ7_fill_53178_1 : decode cJ7_fill_53178 1 = .ok (.istore_n 2, 1) := by decide +kernel
theorem dJ7_fill_53178_2 : decode cJ7_fill_53178 2 = .ok (.aload_n 0, 1) := by decide +kernel
theorem dJ7_fill_53178_3 : decode cJ7_fill_53178 3 = .ok (.arraylength, 1) := by decide +kernel
theorem dJ7_fill_53178_4 : decode cJ7_fill_53178 4 = .ok (.istore_n 3, 1) := by decide +kernel
theorem dJ7_fill_53178_5 : decode cJ7_fill_53178 5 = .ok (.iload_n 2, 1) := by decide +kernel
theorem dJ7_fill_53178_6 : decode cJ7_fill_53178 6 = .ok (.iload_n 3, 1) := by decide +kernel
theorem dJ7_fill_53178_7 : decode cJ7_fill_53178 7 = .ok (.if_icmp .ge 13, 3) := by decide +kernel
theorem dJ7_fill_53178_10 : decode cJ7_fill_53178 10 = .ok (.aload_n 0, 1) := by decide +kernel
theorem dJ7_fill_53178_11 : decode cJ7_fill_53178 11 = .ok (.iload_n 2, 1) := by decide +kernel
theorem dJ7_fill_53178_12 : decode cJ7_fill_53178 12 = .ok (.iload_n 1, 1) := by decide +kernel
theorem dJ7_fill_53178_13 : decode cJ7_fill_53178 13 = .ok (.iastore, 1) := by decide +kernel
theorem dJ7_fill_53178_14 : decode cJ7_fill_53178 14 = .ok (.iinc 2 1, 3) := by decide +kernel
theorem dJ7_fill_53178_17 : decode cJ7_fill_53178 17 = .ok (.goto (-12), 3) := by decide +kernel
theorem dJ7_fill_53178_20 : decode cJ7_fill_53178 20 = .ok (.return_, 1) := by decide +kernel
end
section
set_option maxRecDepth 20000 in
theorem ggX2_init_X1_init : GoodIn wsX2_init wsX1_init := goodIn_r _ [24, 25, 2, 3, 26, 20, 21, 27, 4, 28, 29, 30, 31, 32, 33, 116, 117, 112, 113, 114, 115] (by decide +kernel) (by decide +kernel)
set_option maxRecDepth 20000 in
theorem gX2_init_X1_init_n37 : GoodIn wsX2_init (wsX1_init) := ggX2_init_X1_init
set_option maxRecDepth 20000 in
theorem ggX2_init_X0_init : GoodIn wsX2_init wsX0_init := goodIn_r _ [32, 33, 2, 3] (by decide +kernel) (by decide +kernel)
set_option maxRecDepth 20000 in
theorem gX2_init_X0_init_n47 : GoodIn wsX2_init (wsX0_init) := ggX2_init_X0_init
set_option maxRecDepth 20000 in
theorem ggX2_init_X2_settle : GoodIn wsX2_init wsX2_settle := goodIn_r _ [38, 39, 22, 40, 41, 16, 42, 43, 27, 28, 29, 30, 44, 21, 45, 46, 47, 48, 49, 50, 51, 52, 53, 54, 55, 37, 56, 57, 58, 59, 60, 61, 62, 63, 64, 65, 66, 67, 68, 69, 70, 71, 72, 73, 74, 75, 76, 77, 78, 8, 9, 11, 79, 80, 81, 82, 13, 7, 83, 84, 85, 86, 87, 88, 89, 90, 91, 92, 93, 94, 5, 95, 96, 97, 112, 113, 114, 115, 98, 99, 100, 101, 102, 103, 104, 105, 106, 107, 108, 109, 110, 111, 116, 117] (by decide +kernel) (by decide +kernel)
set_option maxRecDepth 20000 in
theorem gX2_init_X2_settle : GoodIn wsX2_init (wsV RX2 52 RX2 yX2_settle wsX2_settle) := goodIn_app (goodIn_of _ (by decide +kernel)) ggX2_init_X2_settle
theorem dX2_init_0 : decode cX2_init 0 = .ok (.aload_n 0, 1) := by decide +kernel
theorem dX2_init_1 : decode cX2_init 1 = .ok (.invokespecial 1, 3) := by decide +kernel
theorem dX2_init_4 : decode cX2_init 4 = .ok (.aload_n 0, 1) := by decide +kernel
theorem dX2_init_5 : decode cX2_init 5 = .ok (.bipush 8, 2) := by decide +kernel
theorem dX2_init_7 : decode cX2_init 7 = .ok (.newarray .int, 2) := by decide +kernel
theorem dX2_init_9 : decode cX2_init 9 = .ok (.putfield 9, 3) := by decide +kernel
theorem dX2_init_12 : decode cX2_init 12 = .ok (.aload_n 0, 1) := by decide +kernel
theorem dX2_init_13 : decode cX2_init 13 = .ok (.iconst 5, 1) := by decide +kernel
theorem dX2_init_14 : decode cX2_init 14 = .ok (.newarray .boolean, 2) := by decide +kernel
theorem dX2_init_16 : decode cX2_init 16 = .ok (.putfield 13, 3) := by decide +kernel
theorem dX2_init_19 : decode cX2_init 19 = .ok (.aload_n 0, 1) := by decide +kernel
theorem dX2_init_20 : decode cX2_init 20 = .ok (.bipush 12, 2) := by decide +kernel
theorem dX2_init_22 : decode cX2_init 22 = .ok (.newarray .int, 2) := by decide +kernel
theorem dX2_init_24 : decode cX2_init 24 = .ok (.putfield 17, 3) := by decide +kernel
theorem dX2_init_27 : decode cX2_init 27 = .ok (.aload_n 0, 1) := by decide +kernel
theorem dX2_init_28 : decode cX2_init 28 = .ok (.bipush 12, 2) := by decide +kernel
theorem dX2_init_30 : decode cX2_init 30 = .ok (.newarray .int, 2) := by decide +kernel
theorem dX2_init_32 : decode cX2_init 32 = .ok (.putfield 20, 3) := by decide +kernel
theorem dX2_init_35 : decode cX2_init 35 = .ok (.aload_n 0, 1) := by decide +kernel
theorem dX2_init_36 : decode cX2_init 36 = .ok (.bipush 12, 2) := by decide +kernel
theorem dX2_init_38 : decode cX2_init 38 = .ok (.newarray .int, 2) := by decide +kernel
theorem dX2_init_40 : decode cX2_init 40 = .ok (.putfield 23, 3) := by decide +kernel
theorem dX2_init_43 : decode cX2_init 43 = .ok (.aload_n 0, 1) := by decide +kernel
theorem dX2_init_44 : decode cX2_init 44 = .ok (.bipush 12, 2) := by decide +kernel
theorem dX2_init_46 : decode cX2_init 46 = .ok (.newarray .int, 2) := by decide +kernel
theorem dX2_init_48 : decode cX2_init 48 = .ok (.putfield 26, 3) := by decide +kernel
theorem dX2_init_51 : decode cX2_init 51 = .ok (.aload_n 0, 1) := by decide +kernel
theorem dX2_init_52 : decode cX2_init 52 = .ok (.bipush 12, 2) := by decide +kernel
theorem dX2_init_54 : decode cX2_init 54 = .ok (.newarray .int, 2) := by decide +kernel
theorem dX2_init_56 : decode cX2_init 56 = .ok (.putfield 29, 3) := by decide +kernel
theorem dX2_init_59 : decode cX2_init 59 = .ok (.aload_n 0, 1) := by decide +kernel
theorem dX2_init_60 : decode cX2_init 60 = .ok (.bipush 12, 2) := by decide +kernel
theorem dX2_init_62 : decode cX2_init 62 = .ok (.newarray .boolean, 2) := by decide +kernel
theorem dX2_init_64 : decode cX2_init 64 = .ok (.putfield 32, 3) := by decide +kernel
theorem dX2_init_67 : decode cX2_init 67 = .ok (.aload_n 0, 1) := by decide +kernel
theorem dX2_init_68 : decode cX2_init 68 = .ok (.new 35, 3) := by decide +kernel
theorem dX2_init_71 : decode cX2_init 71 = .ok (.dup, 1) := by decide +kernel
theorem dX2_init_72 : decode cX2_init 72 = .ok (.invokespecial 37, 3) := by decide +kernel
theorem dX2_init_75 : decode cX2_init 75 = .ok (.putfield 38, 3) := by decide +kernel
theorem dX2_init_78 : decode cX2_init 78 = .ok (.aload_n 0, 1) := by decide +kernel
theorem dX2_init_79 : decode cX2_init 79 = .ok (.new 35, 3) := by decide +kernel
theorem dX2_init_82 : decode cX2_init 82 = .ok (.dup, 1) := by decide +kernel
theorem dX2_init_83 : decode cX2_init 83 = .ok (.invokespecial 37, 3) := by decide +kernel
theorem dX2_init_86 : decode cX2_init 86 = .ok (.putfield 42, 3) := by decide +kernel
theorem dX2_init_89 : decode cX2_init 89 = .ok (.aload_n 0, 1) := by decide +kernel
theorem dX2_init_90 : decode cX2_init 90 = .ok (.new 45, 3) := by decide +kernel
theorem dX2_init_93 : decode cX2_init 93 = .ok (.dup, 1) := by decide +kernel
theorem dX2_init_94 : decode cX2_init 94 = .ok (.invokespecial 47, 3) := by decide +kernel
theorem dX2_init_97 : decode cX2_init 97 = .ok (.putfield 48, 3) := by decide +kernel
theorem dX2_init_100 : decode cX2_init 100 = .ok (.aload_n 0, 1) := by decide +kernel
theorem dX2_init_101 : decode cX2_init 101 = .ok (.aload_n 0, 1) := by decide +kernel
theorem dX2_init_102 : decode cX2_init 102 = .ok (.getfield 38, 3) := by decide +kernel
theorem dX2_init_105 : decode cX2_init 105 = .ok (.iconst 0, 1) := by decide +kernel
theorem dX2_init_106 : decode cX2_init 106 = .ok (.invokevirtual 52, 3) := by decide +kernel
theorem dX2_init_109 : decode cX2_init 109 = .ok (.return_, 1) := by decide +kernel
set_option maxRecDepth 20000 in
theorem ggX2_field_X2_requireReserve : GoodIn wsX2_field wsX2_requireReserve := goodIn_ca (goodIn_r _ [8, 9, 10] (by decide +kernel) (by decide +kernel)) (goodIn_sub (fun _ h => List.mem_cons_of_mem _ (List.mem_append_right _ h)) (by decide +kernel))
set_option maxRecDepth 20000 in
theorem gX2_field_X2_requireReserve : GoodIn wsX2_field (va_wsS RX2 56 yX2_requireReserve wsX2_requireReserve) := goodIn_app (goodIn_of _ (by decide +kernel)) ggX2_field_X2_requireReserve
theorem dX2_field_0 : decode cX2_field 0 = .ok (.iload_n 1, 1) := by decide +kernel
theorem dX2_field_1 : decode cX2_field 1 = .ok (.invokestatic 56, 3) := by decide +kernel
theorem dX2_field_4 : decode cX2_field 4 = .ok (.aload_n 0, 1) := by decide +kernel
theorem dX2_field_5 : decode cX2_field 5 = .ok (.getfield 60, 3) := by decide +kernel
theorem dX2_field_8 : decode cX2_field 8 = .ok (.bipush 8, 2) := by decide +kernel
theorem dX2_field_10 : decode cX2_field 10 = .ok (.if_icmp .lt 13, 3) := by decide +kernel
theorem dX2_field_13 : decode cX2_field 13 = .ok (.new 64, 3) := by decide +kernel
theorem dX2_field_16 : decode cX2_field 16 = .ok (.dup, 1) := by decide +kernel
theorem dX2_field_17 : decode cX2_field 17 = .ok (.ldc 66, 2) := by decide +kernel
theorem dX2_field_19 : decode cX2_field 19 = .ok (.invokespecial 68, 3) := by decide +kernel
theorem dX2_field_22 : decode cX2_field 22 = .ok (.athrow, 1) := by decide +kernel
theorem dX2_field_23 : decode cX2_field 23 = .ok (.aload_n 0, 1) := by decide +kernel
theorem dX2_field_24 : decode cX2_field 24 = .ok (.getfield 60, 3) := by decide +kernel
theorem dX2_field_27 : decode cX2_field 27 = .ok (.istore_n 2, 1) := by decide +kernel
theorem dX2_field_28 : decode cX2_field 28 = .ok (.aload_n 0, 1) := by decide +kernel
theorem dX2_field_29 : decode cX2_field 29 = .ok (.getfield 9, 3) := by decide +kernel
theorem dX2_field_32 : decode cX2_field 32 = .ok (.iload_n 2, 1) := by decide +kernel
theorem dX2_field_33 : decode cX2_field 33 = .ok (.iload_n 1, 1) := by decide +kernel
theorem dX2_field_34 : decode cX2_field 34 = .ok (.iastore, 1) := by decide +kernel
theorem dX2_field_35 : decode cX2_field 35 = .ok (.aload_n 0, 1) := by decide +kernel
theorem dX2_field_36 : decode cX2_field 36 = .ok (.dup, 1) := by decide +kernel
theorem dX2_field_37 : decode cX2_field 37 = .ok (.getfield 60, 3) := by decide +kernel
theorem dX2_field_40 : decode cX2_field 40 = .ok (.iconst 1, 1) := by decide +kernel
theorem dX2_field_41 : decode cX2_field 41 = .ok (.iadd, 1) := by decide +kernel
theorem dX2_field_42 : decode cX2_field 42 = .ok (.putfield 60, 3) := by decide +kernel
theorem dX2_field_45 : decode cX2_field 45 = .ok (.iload_n 2, 1) := by decide +kernel
theorem dX2_field_46 : decode cX2_field 46 = .ok (.ireturn, 1) := by decide +kernel
set_option maxRecDepth 20000 in
theorem ggX2_setReserve_X2_requireField : GoodIn wsX2_setReserve wsX2_requireField := goodIn_ca (goodIn_r _ [9, 10, 11, 12, 95, 96, 97, 98, 99, 100, 101, 102, 103, 104, 105, 106, 107, 108] (by decide +kernel) (by decide +kernel)) (goodIn_sub (fun _ h => List.mem_cons_of_mem _ (List.mem_append_left _ (List.mem_append_right _ h))) (by decide +kernel))
set_option maxRecDepth 20000 in
theorem gX2_setReserve_X2_requireField : GoodIn wsX2_setReserve (wsV RX2 71 RX2 yX2_requireField wsX2_requireField) := goodIn_app (goodIn_of _ (by decide +kernel)) ggX2_setReserve_X2_requireField
set_option maxRecDepth 20000 in
theorem ggX2_setReserve_X2_requireReserve : GoodIn wsX2_setReserve wsX2_requireReserve := goodIn_ca (goodIn_r _ [15, 16, 17] (by decide +kernel) (by decide +kernel)) (goodIn_sub (fun _ h => List.mem_cons_of_mem _ (List.mem_append_right _ h)) (by decide +kernel))
set_option maxRecDepth 20000 in
theorem gX2_setReserve_X2_requireReserve : GoodIn wsX2_setReserve (va_wsS RX2 56 yX2_requireReserve wsX2_requireReserve) := goodIn_app (goodIn_of _ (by decide +kernel)) ggX2_setReserve_X2_requireReserve
set_option maxRecDepth 20000 in
theorem ggX2_setReserve_X2_putPrice : GoodIn wsX2_setReserve wsX2_putPrice := goodIn_r _ [21, 3, 22, 23, 24, 25, 26, 8, 27, 12, 1, 28, 29, 30, 95, 96, 97, 98, 99, 100, 101, 102, 103, 104, 105, 106, 107, 108] (by decide +kernel) (by decide +kernel)
set_option maxRecDepth 20000 in
theorem gX2_setReserve_X2_putPrice : GoodIn wsX2_setReserve (wsV RX2 77 RX2 yX2_putPrice wsX2_putPrice) := goodIn_app (goodIn_of _ (by decide +kernel)) ggX2_setReserve_X2_putPrice
set_option maxRecDepth 20000 in
theorem ggX2_setReserve_X2_settle : GoodIn wsX2_setReserve wsX2_settle := goodIn_r _ [34, 35, 36, 2, 37, 38, 39, 40, 41, 42, 43, 44, 45, 46, 47, 48, 49, 50, 51, 52, 53, 54, 55, 56, 57, 8, 58, 59, 60, 61, 62, 63, 64, 65, 66, 67, 68, 69, 70, 71, 72, 73, 74, 75, 76, 77, 78, 79, 80, 81, 23, 22, 82, 83, 84, 85, 86, 87, 88, 89, 90, 91, 92, 93, 94, 24, 25, 26, 27, 12, 1, 28, 29, 30, 109, 110, 111, 112, 95, 96, 97, 98, 99, 100, 101, 102, 103, 104, 105, 106, 107, 108, 113, 114] (by decide +kernel) (by decide +kernel)
set_option maxRecDepth 20000 in
theorem gX2_setReserve_X2_settle : GoodIn wsX2_setReserve (wsV RX2 52 RX2 yX2_settle wsX2_settle) := goodIn_app (goodIn_of _ (by decide +kernel)) ggX2_setReserve_X2_settle
theorem dX2_setReserve_0 : decode cX2_setReserve 0 = .ok (.aload_n 0, 1) := by decide +kernel
theorem dX2_setReserve_1 : decode cX2_setReserve 1 = .ok (.iload_n 1, 1) := by decide +kernel
theorem dX2_setReserve_2 : decode cX2_setReserve 2 = .ok (.invokevirtual 71, 3) := by decide +kernel
theorem dX2_setReserve_5 : decode cX2_setReserve 5 = .ok (.iload_n 2, 1) := by decide +kernel
theorem dX2_setReserve_6 : decode cX2_setReserve 6 = .ok (.invokestatic 56, 3) := by decide +kernel
theorem dX2_setReserve_9 : decode cX2_setReserve 9 = .ok (.aload_n 0, 1) := by decide +kernel
theorem dX2_setReserve_10 : decode cX2_setReserve 10 = .ok (.getfield 9, 3) := by decide +kernel
theorem dX2_setReserve_13 : decode cX2_setReserve 13 = .ok (.iload_n 1, 1) := by decide +kernel
theorem dX2_setReserve_14 : decode cX2_setReserve 14 = .ok (.iaload, 1) := by decide +kernel
theorem dX2_setReserve_15 : decode cX2_setReserve 15 = .ok (.istore_n 3, 1) := by decide +kernel
theorem dX2_setReserve_16 : decode cX2_setReserve 16 = .ok (.aload_n 0, 1) := by decide +kernel
theorem dX2_setReserve_17 : decode cX2_setReserve 17 = .ok (.getfield 9, 3) := by decide +kernel
theorem dX2_setReserve_20 : decode cX2_setReserve 20 = .ok (.iload_n 1, 1) := by decide +kernel
theorem dX2_setReserve_21 : decode cX2_setReserve 21 = .ok (.iload_n 2, 1) := by decide +kernel
theorem dX2_setReserve_22 : decode cX2_setReserve 22 = .ok (.iastore, 1) := by decide +kernel
theorem dX2_setReserve_23 : decode cX2_setReserve 23 = .ok (.iconst 0, 1) := by decide +kernel
theorem dX2_setReserve_24 : decode cX2_setReserve 24 = .ok (.istore 4, 2) := by decide +kernel
theorem dX2_setReserve_26 : decode cX2_setReserve 26 = .ok (.iload 4, 2) := by decide +kernel
theorem dX2_setReserve_28 : decode cX2_setReserve 28 = .ok (.aload_n 0, 1) := by decide +kernel
theorem dX2_setReserve_29 : decode cX2_setReserve 29 = .ok (.getfield 74, 3) := by decide +kernel
theorem dX2_setReserve_32 : decode cX2_setReserve 32 = .ok (.if_icmp .ge 22, 3) := by decide +kernel
theorem dX2_setReserve_35 : decode cX2_setReserve 35 = .ok (.aload_n 0, 1) := by decide +kernel
theorem dX2_setReserve_36 : decode cX2_setReserve 36 = .ok (.iload 4, 2) := by decide +kernel
theorem dX2_setReserve_38 : decode cX2_setReserve 38 = .ok (.aload_n 0, 1) := by decide +kernel
theorem dX2_setReserve_39 : decode cX2_setReserve 39 = .ok (.getfield 23, 3) := by decide +kernel
theorem dX2_setReserve_42 : decode cX2_setReserve 42 = .ok (.iload 4, 2) := by decide +kernel
theorem dX2_setReserve_44 : decode cX2_setReserve 44 = .ok (.iaload, 1) := by decide +kernel
theorem dX2_setReserve_45 : decode cX2_setReserve 45 = .ok (.invokevirtual 77, 3) := by decide +kernel
theorem dX2_setReserve_48 : decode cX2_setReserve 48 = .ok (.iinc 4 1, 3) := by decide +kernel
theorem dX2_setReserve_51 : decode cX2_setReserve 51 = .ok (.goto (-25), 3) := by decide +kernel
theorem dX2_setReserve_54 : decode cX2_setReserve 54 = .ok (.aload_n 0, 1) := by decide +kernel
theorem dX2_setReserve_55 : decode cX2_setReserve 55 = .ok (.aload_n 0, 1) := by decide +kernel
theorem dX2_setReserve_56 : decode cX2_setReserve 56 = .ok (.getfield 38, 3) := by decide +kernel
theorem dX2_setReserve_59 : decode cX2_setReserve 59 = .ok (.iconst 0, 1) := by decide +kernel
theorem dX2_setReserve_60 : decode cX2_setReserve 60 = .ok (.invokevirtual 52, 3) := by decide +kernel
theorem dX2_setReserve_63 : decode cX2_setReserve 63 = .ok (.iload_n 3, 1) := by decide +kernel
theorem dX2_setReserve_64 : decode cX2_setReserve 64 = .ok (.ireturn, 1) := by decide +kernel
set_option maxRecDepth 20000 in
theorem ggX2_join_X2_settle : GoodIn wsX2_join wsX2_settle := goodIn_r _ [10, 3, 11, 12, 13, 14, 15, 16, 17, 18, 19, 20, 21, 22, 23, 24, 25, 26, 27, 28, 29, 30, 31, 32, 33, 9, 34, 35, 36, 37, 38, 39, 40, 41, 42, 43, 44, 45, 46, 47, 48, 49, 50, 51, 52, 53, 54, 55, 56, 57, 58, 59, 60, 61, 62, 63, 64, 4, 65, 66, 67, 68, 69, 70, 71, 72, 73, 74, 75, 76, 77, 78, 79, 80, 95, 96, 97, 98, 81, 82, 83, 84, 85, 86, 87, 88, 89, 90, 91, 92, 93, 94, 99, 100] (by decide +kernel) (by decide +kernel)
set_option maxRecDepth 20000 in
theorem gX2_join_X2_settle : GoodIn wsX2_join (wsV RX2 52 RX2 yX2_settle wsX2_settle) := goodIn_app (goodIn_of _ (by decide +kernel)) ggX2_join_X2_settle
theorem dX2_join_0 : decode cX2_join 0 = .ok (.aload_n 0, 1) := by decide +kernel
theorem dX2_join_1 : decode cX2_join 1 = .ok (.getfield 81, 3) := by decide +kernel
theorem dX2_join_4 : decode cX2_join 4 = .ok (.iconst 5, 1) := by decide +kernel
theorem dX2_join_5 : decode cX2_join 5 = .ok (.if_icmp .lt 13, 3) := by decide +kernel
theorem dX2_join_8 : decode cX2_join 8 = .ok (.new 64, 3) := by decide +kernel
theorem dX2_join_11 : decode cX2_join 11 = .ok (.dup, 1) := by decide +kernel
theorem dX2_join_12 : decode cX2_join 12 = .ok (.ldc 84, 2) := by decide +kernel
theorem dX2_join_14 : decode cX2_join 14 = .ok (.invokespecial 68, 3) := by decide +kernel
theorem dX2_join_17 : decode cX2_join 17 = .ok (.athrow, 1) := by decide +kernel
theorem dX2_join_18 : decode cX2_join 18 = .ok (.aload_n 0, 1) := by decide +kernel
theorem dX2_join_19 : decode cX2_join 19 = .ok (.getfield 81, 3) := by decide +kernel
theorem dX2_join_22 : decode cX2_join 22 = .ok (.istore_n 1, 1) := by decide +kernel
theorem dX2_join_23 : decode cX2_join 23 = .ok (.aload_n 0, 1) := by decide +kernel
theorem dX2_join_24 : decode cX2_join 24 = .ok (.getfield 13, 3) := by decide +kernel
theorem dX2_join_27 : decode cX2_join 27 = .ok (.iload_n 1, 1) := by decide +kernel
theorem dX2_join_28 : decode cX2_join 28 = .ok (.iconst 1, 1) := by decide +kernel
theorem dX2_join_29 : decode cX2_join 29 = .ok (.bastore, 1) := by decide +kernel
theorem dX2_join_30 : decode cX2_join 30 = .ok (.aload_n 0, 1) := by decide +kernel
theorem dX2_join_31 : decode cX2_join 31 = .ok (.dup, 1) := by decide +kernel
theorem dX2_join_32 : decode cX2_join 32 = .ok (.getfield 81, 3) := by decide +kernel
theorem dX2_join_35 : decode cX2_join 35 = .ok (.iconst 1, 1) := by decide +kernel
theorem dX2_join_36 : decode cX2_join 36 = .ok (.iadd, 1) := by decide +kernel
theorem dX2_join_37 : decode cX2_join 37 = .ok (.putfield 81, 3) := by decide +kernel
theorem dX2_join_40 : decode cX2_join 40 = .ok (.aload_n 0, 1) := by decide +kernel
theorem dX2_join_41 : decode cX2_join 41 = .ok (.aload_n 0, 1) := by decide +kernel
theorem dX2_join_42 : decode cX2_join 42 = .ok (.getfield 38, 3) := by decide +kernel
theorem dX2_join_45 : decode cX2_join 45 = .ok (.iconst 0, 1) := by decide +kernel
theorem dX2_join_46 : decode cX2_join 46 = .ok (.invokevirtual 52, 3) := by decide +kernel
theorem dX2_join_49 : decode cX2_join 49 = .ok (.iload_n 1, 1) := by decide +kernel
theorem dX2_join_50 : decode cX2_join 50 = .ok (.ireturn, 1) := by decide +kernel
set_option maxRecDepth 20000 in
theorem ggX2_setIn_X2_requireBidder : GoodIn wsX2_setIn wsX2_requireBidder := goodIn_ca (goodIn_r _ [7, 8, 9, 10, 85, 86, 87, 88, 89, 90, 91, 92, 93, 94, 95, 96, 97, 98] (by decide +kernel) (by decide +kernel)) (goodIn_sub (fun _ h => List.mem_cons_of_mem _ (List.mem_append_right _ h)) (by decide +kernel))
set_option maxRecDepth 20000 in
theorem gX2_setIn_X2_requireBidder : GoodIn wsX2_setIn (wsV RX2 86 RX2 yX2_requireBidder wsX2_requireBidder) := goodIn_app (goodIn_of _ (by decide +kernel)) ggX2_setIn_X2_requireBidder
set_option maxRecDepth 20000 in
theorem ggX2_setIn_X2_settle : GoodIn wsX2_setIn wsX2_settle := goodIn_r _ [14, 10, 15, 16, 17, 18, 19, 20, 21, 22, 23, 24, 25, 26, 27, 28, 29, 30, 31, 32, 33, 34, 35, 36, 37, 6, 38, 39, 40, 41, 42, 43, 44, 45, 46, 47, 48, 49, 50, 51, 52, 53, 54, 55, 56, 57, 58, 59, 60, 61, 62, 63, 64, 65, 66, 67, 68, 1, 69, 70, 71, 72, 73, 74, 75, 76, 77, 78, 79, 80, 81, 82, 83, 84, 99, 100, 101, 102, 85, 86, 87, 88, 89, 90, 91, 92, 93, 94, 95, 96, 97, 98, 103, 104] (by decide +kernel) (by decide +kernel)
set_option maxRecDepth 20000 in
theorem gX2_setIn_X2_settle : GoodIn wsX2_setIn (wsV RX2 52 RX2 yX2_settle wsX2_settle) := goodIn_app (goodIn_of _ (by decide +kernel)) ggX2_setIn_X2_settle
theorem dX2_setIn_0 : decode cX2_setIn 0 = .ok (.aload_n 0, 1) := by decide +kernel
theorem dX2_setIn_1 : decode cX2_setIn 1 = .ok (.iload_n 1, 1) := by decide +kernel
theorem dX2_setIn_2 : decode cX2_setIn 2 = .ok (.invokevirtual 86, 3) := by decide +kernel
theorem dX2_setIn_5 : decode cX2_setIn 5 = .ok (.aload_n 0, 1) := by decide +kernel
theorem dX2_setIn_6 : decode cX2_setIn 6 = .ok (.getfield 13, 3) := by decide +kernel
theorem dX2_setIn_9 : decode cX2_setIn 9 = .ok (.iload_n 1, 1) := by decide +kernel
theorem dX2_setIn_10 : decode cX2_setIn 10 = .ok (.baload, 1) := by decide +kernel
theorem dX2_setIn_11 : decode cX2_setIn 11 = .ok (.istore_n 3, 1) := by decide +kernel
theorem dX2_setIn_12 : decode cX2_setIn 12 = .ok (.aload_n 0, 1) := by decide +kernel
theorem dX2_setIn_13 : decode cX2_setIn 13 = .ok (.getfield 13, 3) := by decide +kernel
theorem dX2_setIn_16 : decode cX2_setIn 16 = .ok (.iload_n 1, 1) := by decide +kernel
theorem dX2_setIn_17 : decode cX2_setIn 17 = .ok (.iload_n 2, 1) := by decide +kernel
theorem dX2_setIn_18 : decode cX2_setIn 18 = .ok (.bastore, 1) := by decide +kernel
theorem dX2_setIn_19 : decode cX2_setIn 19 = .ok (.aload_n 0, 1) := by decide +kernel
theorem dX2_setIn_20 : decode cX2_setIn 20 = .ok (.aload_n 0, 1) := by decide +kernel
theorem dX2_setIn_21 : decode cX2_setIn 21 = .ok (.getfield 38, 3) := by decide +kernel
theorem dX2_setIn_24 : decode cX2_setIn 24 = .ok (.iconst 0, 1) := by decide +kernel
theorem dX2_setIn_25 : decode cX2_setIn 25 = .ok (.invokevirtual 52, 3) := by decide +kernel
theorem dX2_setIn_28 : decode cX2_setIn 28 = .ok (.iload_n 3, 1) := by decide +kernel
theorem dX2_setIn_29 : decode cX2_setIn 29 = .ok (.ireturn, 1) := by decide +kernel
set_option maxRecDepth 20000 in
theorem ggX2_bid_X2_requireBidder : GoodIn wsX2_bid wsX2_requireBidder := goodIn_ca (goodIn_r _ [12, 13, 14, 15, 102, 103, 104, 105, 106, 107, 108, 109, 110, 111, 112, 113, 114, 115] (by decide +kernel) (by decide +kernel)) (goodIn_sub (fun _ h => List.mem_cons_of_mem _ (List.mem_append_left _ (List.mem_append_right _ h))) (by decide +kernel))
set_option maxRecDepth 20000 in
theorem gX2_bid_X2_requireBidder : GoodIn wsX2_bid (wsV RX2 86 RX2 yX2_requireBidder wsX2_requireBidder) := goodIn_app (goodIn_of _ (by decide +kernel)) ggX2_bid_X2_requireBidder
set_option maxRecDepth 20000 in
theorem ggX2_bid_X2_requireBundle : GoodIn wsX2_bid wsX2_requireBundle := goodIn_ca (goodIn_r _ [19, 20, 21, 22, 102, 103, 104, 105, 106, 107, 108, 109, 110, 111, 112, 113, 114, 115] (by decide +kernel) (by decide +kernel)) (goodIn_sub (fun _ h => List.mem_cons_of_mem _ (List.mem_append_right _ h)) (by decide +kernel))
set_option maxRecDepth 20000 in
theorem gX2_bid_X2_requireBundle : GoodIn wsX2_bid (wsV RX2 89 RX2 yX2_requireBundle wsX2_requireBundle) := goodIn_app (goodIn_of _ (by decide +kernel)) ggX2_bid_X2_requireBundle
set_option maxRecDepth 20000 in
theorem ggX2_bid_X2_requireAmount : GoodIn wsX2_bid wsX2_requireAmount := goodIn_ca (goodIn_r _ [25, 20, 21] (by decide +kernel) (by decide +kernel)) (goodIn_sub (fun _ h => List.mem_cons_of_mem _ (List.mem_append_right _ h)) (by decide +kernel))
set_option maxRecDepth 20000 in
theorem gX2_bid_X2_requireAmount : GoodIn wsX2_bid (va_wsS RX2 92 yX2_requireAmount wsX2_requireAmount) := goodIn_app (goodIn_of _ (by decide +kernel)) ggX2_bid_X2_requireAmount
set_option maxRecDepth 20000 in
theorem ggX2_bid_X2_putPrice : GoodIn wsX2_bid wsX2_putPrice := goodIn_r _ [29, 30, 31, 5, 32, 33, 34, 11, 35, 22, 36, 37, 38, 39, 102, 103, 104, 105, 106, 107, 108, 109, 110, 111, 112, 113, 114, 115] (by decide +kernel) (by decide +kernel)
set_option maxRecDepth 20000 in
theorem gX2_bid_X2_putPrice : GoodIn wsX2_bid (wsV RX2 77 RX2 yX2_putPrice wsX2_putPrice) := goodIn_app (goodIn_of _ (by decide +kernel)) ggX2_bid_X2_putPrice
set_option maxRecDepth 20000 in
theorem ggX2_bid_X2_settle : GoodIn wsX2_bid wsX2_settle := goodIn_r _ [43, 15, 44, 3, 45, 46, 47, 48, 49, 50, 51, 52, 53, 54, 55, 56, 57, 58, 59, 60, 61, 62, 63, 64, 65, 11, 66, 67, 68, 69, 70, 71, 72, 73, 74, 75, 76, 77, 78, 79, 80, 81, 82, 83, 84, 85, 86, 87, 88, 4, 5, 31, 89, 90, 91, 92, 93, 94, 95, 96, 97, 98, 99, 100, 101, 32, 33, 34, 35, 22, 36, 37, 38, 39, 116, 117, 118, 119, 102, 103, 104, 105, 106, 107, 108, 109, 110, 111, 112, 113, 114, 115, 120, 121] (by decide +kernel) (by decide +kernel)
set_option maxRecDepth 20000 in
theorem gX2_bid_X2_settle : GoodIn wsX2_bid (wsV RX2 52 RX2 yX2_settle wsX2_settle) := goodIn_app (goodIn_of _ (by decide +kernel)) ggX2_bid_X2_settle
theorem dX2_bid_0 : decode cX2_bid 0 = .ok (.aload_n 0, 1) := by decide +kernel
theorem dX2_bid_1 : decode cX2_bid 1 = .ok (.iload_n 1, 1) := by decide +kernel
theorem dX2_bid_2 : decode cX2_bid 2 = .ok (.invokevirtual 86, 3) := by decide +kernel
theorem dX2_bid_5 : decode cX2_bid 5 = .ok (.aload_n 0, 1) := by decide +kernel
theorem dX2_bid_6 : decode cX2_bid 6 = .ok (.iload_n 2, 1) := by decide +kernel
theorem dX2_bid_7 : decode cX2_bid 7 = .ok (.invokevirtual 89, 3) := by decide +kernel
theorem dX2_bid_10 : decode cX2_bid 10 = .ok (.iload_n 3, 1) := by decide +kernel
theorem dX2_bid_11 : decode cX2_bid 11 = .ok (.invokestatic 92, 3) := by decide +kernel
theorem dX2_bid_14 : decode cX2_bid 14 = .ok (.aload_n 0, 1) := by decide +kernel
theorem dX2_bid_15 : decode cX2_bid 15 = .ok (.getfield 74, 3) := by decide +kernel
theorem dX2_bid_18 : decode cX2_bid 18 = .ok (.bipush 12, 2) := by decide +kernel
theorem dX2_bid_20 : decode cX2_bid 20 = .ok (.if_icmp .lt 13, 3) := by decide +kernel
theorem dX2_bid_23 : decode cX2_bid 23 = .ok (.new 64, 3) := by decide +kernel
theorem dX2_bid_26 : decode cX2_bid 26 = .ok (.dup, 1) := by decide +kernel
theorem dX2_bid_27 : decode cX2_bid 27 = .ok (.ldc 95, 2) := by decide +kernel
theorem dX2_bid_29 : decode cX2_bid 29 = .ok (.invokespecial 68, 3) := by decide +kernel
theorem dX2_bid_32 : decode cX2_bid 32 = .ok (.athrow, 1) := by decide +kernel
theorem dX2_bid_33 : decode cX2_bid 33 = .ok (.aload_n 0, 1) := by decide +kernel
theorem dX2_bid_34 : decode cX2_bid 34 = .ok (.getfield 74, 3) := by decide +kernel
theorem dX2_bid_37 : decode cX2_bid 37 = .ok (.istore 4, 2) := by decide +kernel
theorem dX2_bid_39 : decode cX2_bid 39 = .ok (.aload_n 0, 1) := by decide +kernel
theorem dX2_bid_40 : decode cX2_bid 40 = .ok (.getfield 17, 3) := by decide +kernel
theorem dX2_bid_43 : decode cX2_bid 43 = .ok (.iload 4, 2) := by decide +kernel
theorem dX2_bid_45 : decode cX2_bid 45 = .ok (.iload_n 1, 1) := by decide +kernel
theorem dX2_bid_46 : decode cX2_bid 46 = .ok (.iastore, 1) := by decide +kernel
theorem dX2_bid_47 : decode cX2_bid 47 = .ok (.aload_n 0, 1) := by decide +kernel
theorem dX2_bid_48 : decode cX2_bid 48 = .ok (.getfield 20, 3) := by decide +kernel
theorem dX2_bid_51 : decode cX2_bid 51 = .ok (.iload 4, 2) := by decide +kernel
theorem dX2_bid_53 : decode cX2_bid 53 = .ok (.iload_n 2, 1) := by decide +kernel
theorem dX2_bid_54 : decode cX2_bid 54 = .ok (.iastore, 1) := by decide +kernel
theorem dX2_bid_55 : decode cX2_bid 55 = .ok (.aload_n 0, 1) := by decide +kernel
theorem dX2_bid_56 : decode cX2_bid 56 = .ok (.getfield 29, 3) := by decide +kernel
theorem dX2_bid_59 : decode cX2_bid 59 = .ok (.iload 4, 2) := by decide +kernel
theorem dX2_bid_61 : decode cX2_bid 61 = .ok (.iload_n 3, 1) := by decide +kernel
theorem dX2_bid_62 : decode cX2_bid 62 = .ok (.iastore, 1) := by decide +kernel
theorem dX2_bid_63 : decode cX2_bid 63 = .ok (.aload_n 0, 1) := by decide +kernel
theorem dX2_bid_64 : decode cX2_bid 64 = .ok (.iload 4, 2) := by decide +kernel
theorem dX2_bid_66 : decode cX2_bid 66 = .ok (.iload_n 3, 1) := by decide +kernel
theorem dX2_bid_67 : decode cX2_bid 67 = .ok (.invokevirtual 77, 3) := by decide +kernel
theorem dX2_bid_70 : decode cX2_bid 70 = .ok (.aload_n 0, 1) := by decide +kernel
theorem dX2_bid_71 : decode cX2_bid 71 = .ok (.dup, 1) := by decide +kernel
theorem dX2_bid_72 : decode cX2_bid 72 = .ok (.getfield 74, 3) := by decide +kernel
theorem dX2_bid_75 : decode cX2_bid 75 = .ok (.iconst 1, 1) := by decide +kernel
theorem dX2_bid_76 : decode cX2_bid 76 = .ok (.iadd, 1) := by decide +kernel
theorem dX2_bid_77 : decode cX2_bid 77 = .ok (.putfield 74, 3) := by decide +kernel
theorem dX2_bid_80 : decode cX2_bid 80 = .ok (.aload_n 0, 1) := by decide +kernel
theorem dX2_bid_81 : decode cX2_bid 81 = .ok (.aload_n 0, 1) := by decide +kernel
theorem dX2_bid_82 : decode cX2_bid 82 = .ok (.getfield 38, 3) := by decide +kernel
theorem dX2_bid_85 : decode cX2_bid 85 = .ok (.iconst 0, 1) := by decide +kernel
theorem dX2_bid_86 : decode cX2_bid 86 = .ok (.invokevirtual 52, 3) := by decide +kernel
theorem dX2_bid_89 : decode cX2_bid 89 = .ok (.iload 4, 2) := by decide +kernel
theorem dX2_bid_91 : decode cX2_bid 91 = .ok (.ireturn, 1) := by decide +kernel
set_option maxRecDepth 20000 in
theorem ggX2_setPrice_X2_requireBid : GoodIn wsX2_setPrice wsX2_requireBid := goodIn_ca (goodIn_r _ [7, 8, 9, 10, 95, 96, 97, 98, 99, 100, 101, 102, 103, 104, 105, 106, 107, 108] (by decide +kernel) (by decide +kernel)) (goodIn_sub (fun _ h => List.mem_cons_of_mem _ (List.mem_append_left _ (List.mem_append_right _ h))) (by decide +kernel))
set_option maxRecDepth 20000 in
theorem gX2_setPrice_X2_requireBid : GoodIn wsX2_setPrice (wsV RX2 97 RX2 yX2_requireBid wsX2_requireBid) := goodIn_app (goodIn_of _ (by decide +kernel)) ggX2_setPrice_X2_requireBid
set_option maxRecDepth 20000 in
theorem ggX2_setPrice_X2_requireAmount : GoodIn wsX2_setPrice wsX2_requireAmount := goodIn_ca (goodIn_r _ [13, 14, 15] (by decide +kernel) (by decide +kernel)) (goodIn_sub (fun _ h => List.mem_cons_of_mem _ (List.mem_append_right _ h)) (by decide +kernel))
set_option maxRecDepth 20000 in
theorem gX2_setPrice_X2_requireAmount : GoodIn wsX2_setPrice (va_wsS RX2 92 yX2_requireAmount wsX2_requireAmount) := goodIn_app (goodIn_of _ (by decide +kernel)) ggX2_setPrice_X2_requireAmount
set_option maxRecDepth 20000 in
theorem ggX2_setPrice_X2_putPrice : GoodIn wsX2_setPrice wsX2_putPrice := goodIn_r _ [19, 1, 20, 21, 22, 23, 24, 6, 25, 26, 27, 28, 29, 30, 95, 96, 97, 98, 99, 100, 101, 102, 103, 104, 105, 106, 107, 108] (by decide +kernel) (by decide +kernel)
set_option maxRecDepth 20000 in
theorem gX2_setPrice_X2_putPrice : GoodIn wsX2_setPrice (wsV RX2 77 RX2 yX2_putPrice wsX2_putPrice) := goodIn_app (goodIn_of _ (by decide +kernel)) ggX2_setPrice_X2_putPrice
set_option maxRecDepth 20000 in
theorem ggX2_setPrice_X2_settle : GoodIn wsX2_setPrice wsX2_settle := goodIn_r _ [34, 35, 36, 10, 37, 38, 39, 40, 41, 42, 43, 44, 45, 46, 47, 48, 49, 50, 51, 52, 53, 54, 55, 56, 57, 6, 58, 59, 60, 61, 62, 63, 64, 65, 66, 67, 68, 69, 70, 71, 72, 73, 74, 75, 76, 77, 78, 79, 80, 81, 21, 20, 82, 83, 84, 85, 86, 87, 88, 89, 90, 91, 92, 93, 94, 22, 23, 24, 25, 26, 27, 28, 29, 30, 109, 110, 111, 112, 95, 96, 97, 98, 99, 100, 101, 102, 103, 104, 105, 106, 107, 108, 113, 114] (by decide +kernel) (by decide +kernel)
set_option maxRecDepth 20000 in
theorem gX2_setPrice_X2_settle : GoodIn wsX2_setPrice (wsV RX2 52 RX2 yX2_settle wsX2_settle) := goodIn_app (goodIn_of _ (by decide +kernel)) ggX2_setPrice_X2_settle
theorem dX2_setPrice_0 : decode cX2_setPrice 0 = .ok (.aload_n 0, 1) := by decide +kernel
theorem dX2_setPrice_1 : decode cX2_setPrice 1 = .ok (.iload_n 1, 1) := by decide +kernel
theorem dX2_setPrice_2 : decode cX2_setPrice 2 = .ok (.invokevirtual 97, 3) := by decide +kernel
theorem dX2_setPrice_5 : decode cX2_setPrice 5 = .ok (.iload_n 2, 1) := by decide +kernel
theorem dX2_setPrice_6 : decode cX2_setPrice 6 = .ok (.invokestatic 92, 3) := by decide +kernel
theorem dX2_setPrice_9 : decode cX2_setPrice 9 = .ok (.aload_n 0, 1) := by decide +kernel
theorem dX2_setPrice_10 : decode cX2_setPrice 10 = .ok (.getfield 23, 3) := by decide +kernel
theorem dX2_setPrice_13 : decode cX2_setPrice 13 = .ok (.iload_n 1, 1) := by decide +kernel
theorem dX2_setPrice_14 : decode cX2_setPrice 14 = .ok (.iaload, 1) := by decide +kernel
theorem dX2_setPrice_15 : decode cX2_setPrice 15 = .ok (.istore_n 3, 1) := by decide +kernel
theorem dX2_setPrice_16 : decode cX2_setPrice 16 = .ok (.aload_n 0, 1) := by decide +kernel
theorem dX2_setPrice_17 : decode cX2_setPrice 17 = .ok (.iload_n 1, 1) := by decide +kernel
theorem dX2_setPrice_18 : decode cX2_setPrice 18 = .ok (.iload_n 2, 1) := by decide +kernel
theorem dX2_setPrice_19 : decode cX2_setPrice 19 = .ok (.invokevirtual 77, 3) := by decide +kernel
theorem dX2_setPrice_22 : decode cX2_setPrice 22 = .ok (.aload_n 0, 1) := by decide +kernel
theorem dX2_setPrice_23 : decode cX2_setPrice 23 = .ok (.aload_n 0, 1) := by decide +kernel
theorem dX2_setPrice_24 : decode cX2_setPrice 24 = .ok (.getfield 38, 3) := by decide +kernel
theorem dX2_setPrice_27 : decode cX2_setPrice 27 = .ok (.iconst 0, 1) := by decide +kernel
theorem dX2_setPrice_28 : decode cX2_setPrice 28 = .ok (.invokevirtual 52, 3) := by decide +kernel
theorem dX2_setPrice_31 : decode cX2_setPrice 31 = .ok (.iload_n 3, 1) := by decide +kernel
theorem dX2_setPrice_32 : decode cX2_setPrice 32 = .ok (.ireturn, 1) := by decide +kernel
set_option maxRecDepth 20000 in
theorem ggX2_setWorth_X2_requireBid : GoodIn wsX2_setWorth wsX2_requireBid := goodIn_ca (goodIn_r _ [6, 7, 8, 9, 15, 16, 17, 18, 19, 20, 21, 22, 23, 24, 25, 26, 27, 28] (by decide +kernel) (by decide +kernel)) (goodIn_sub (fun _ h => List.mem_cons_of_mem _ (List.mem_append_left _ (List.mem_append_right _ h))) (by decide +kernel))
set_option maxRecDepth 20000 in
theorem gX2_setWorth_X2_requireBid : GoodIn wsX2_setWorth (wsV RX2 97 RX2 yX2_requireBid wsX2_requireBid) := goodIn_app (goodIn_of _ (by decide +kernel)) ggX2_setWorth_X2_requireBid
set_option maxRecDepth 20000 in
theorem ggX2_setWorth_X2_requireAmount : GoodIn wsX2_setWorth wsX2_requireAmount := goodIn_ca (goodIn_r _ [12, 13, 14] (by decide +kernel) (by decide +kernel)) (goodIn_sub (fun _ h => List.mem_cons_of_mem _ (List.mem_append_right _ h)) (by decide +kernel))
set_option maxRecDepth 20000 in
theorem gX2_setWorth_X2_requireAmount : GoodIn wsX2_setWorth (va_wsS RX2 92 yX2_requireAmount wsX2_requireAmount) := goodIn_app (goodIn_of _ (by decide +kernel)) ggX2_setWorth_X2_requireAmount
theorem dX2_setWorth_0 : decode cX2_setWorth 0 = .ok (.aload_n 0, 1) := by decide +kernel
theorem dX2_setWorth_1 : decode cX2_setWorth 1 = .ok (.iload_n 1, 1) := by decide +kernel
theorem dX2_setWorth_2 : decode cX2_setWorth 2 = .ok (.invokevirtual 97, 3) := by decide +kernel
theorem dX2_setWorth_5 : decode cX2_setWorth 5 = .ok (.iload_n 2, 1) := by decide +kernel
theorem dX2_setWorth_6 : decode cX2_setWorth 6 = .ok (.invokestatic 92, 3) := by decide +kernel
theorem dX2_setWorth_9 : decode cX2_setWorth 9 = .ok (.aload_n 0, 1) := by decide +kernel
theorem dX2_setWorth_10 : decode cX2_setWorth 10 = .ok (.getfield 29, 3) := by decide +kernel
theorem dX2_setWorth_13 : decode cX2_setWorth 13 = .ok (.iload_n 1, 1) := by decide +kernel
theorem dX2_setWorth_14 : decode cX2_setWorth 14 = .ok (.iaload, 1) := by decide +kernel
theorem dX2_setWorth_15 : decode cX2_setWorth 15 = .ok (.istore_n 3, 1) := by decide +kernel
theorem dX2_setWorth_16 : decode cX2_setWorth 16 = .ok (.aload_n 0, 1) := by decide +kernel
theorem dX2_setWorth_17 : decode cX2_setWorth 17 = .ok (.getfield 29, 3) := by decide +kernel
theorem dX2_setWorth_20 : decode cX2_setWorth 20 = .ok (.iload_n 1, 1) := by decide +kernel
theorem dX2_setWorth_21 : decode cX2_setWorth 21 = .ok (.iload_n 2, 1) := by decide +kernel
theorem dX2_setWorth_22 : decode cX2_setWorth 22 = .ok (.iastore, 1) := by decide +kernel
theorem dX2_setWorth_23 : decode cX2_setWorth 23 = .ok (.iload_n 3, 1) := by decide +kernel
theorem dX2_setWorth_24 : decode cX2_setWorth 24 = .ok (.ireturn, 1) := by decide +kernel
set_option maxRecDepth 20000 in
theorem ggX2_withdraw_X2_requireBid : GoodIn wsX2_withdraw wsX2_requireBid := goodIn_ca (goodIn_r _ [9, 10, 11, 12, 95, 96, 97, 98, 99, 100, 101, 102, 103, 104, 105, 106, 107, 108] (by decide +kernel) (by decide +kernel)) (goodIn_sub (fun _ h => List.mem_cons_of_mem _ (List.mem_append_right _ h)) (by decide +kernel))
set_option maxRecDepth 20000 in
theorem gX2_withdraw_X2_requireBid : GoodIn wsX2_withdraw (wsV RX2 97 RX2 yX2_requireBid wsX2_requireBid) := goodIn_app (goodIn_of _ (by decide +kernel)) ggX2_withdraw_X2_requireBid
set_option maxRecDepth 20000 in
theorem ggX2_withdraw_X2_settle : GoodIn wsX2_withdraw wsX2_settle := goodIn_r _ [16, 17, 18, 12, 19, 20, 21, 22, 23, 24, 25, 26, 27, 28, 29, 30, 31, 32, 33, 34, 35, 36, 37, 38, 39, 8, 40, 41, 42, 43, 44, 45, 46, 47, 48, 49, 50, 51, 52, 53, 54, 55, 56, 57, 58, 59, 60, 61, 62, 63, 64, 65, 66, 67, 68, 69, 3, 70, 71, 72, 73, 74, 75, 76, 77, 78, 79, 80, 81, 82, 83, 84, 85, 86, 109, 110, 111, 112, 95, 96, 97, 98, 99, 100, 101, 102, 103, 104, 105, 106, 107, 108, 113, 114] (by decide +kernel) (by decide +kernel)
set_option maxRecDepth 20000 in
theorem gX2_withdraw_X2_settle : GoodIn wsX2_withdraw (wsV RX2 52 RX2 yX2_settle wsX2_settle) := goodIn_app (goodIn_of _ (by decide +kernel)) ggX2_withdraw_X2_settle
set_option maxRecDepth 20000 in
theorem ggX2_withdraw_X2_bidsLeft : GoodIn wsX2_withdraw wsX2_bidsLeft := goodIn_r _ [90, 17, 91, 92, 93, 8, 94, 12, 63, 3, 95, 96, 97, 98, 99, 100, 101, 102, 103, 104, 105, 106, 107, 108] (by decide +kernel) (by decide +kernel)
set_option maxRecDepth 20000 in
theorem gX2_withdraw_X2_bidsLeft : GoodIn wsX2_withdraw (wsV RX2 102 RX2 yX2_bidsLeft wsX2_bidsLeft) := goodIn_app (goodIn_of _ (by decide +kernel)) ggX2_withdraw_X2_bidsLeft
theorem dX2_withdraw_0 : decode cX2_withdraw 0 = .ok (.aload_n 0, 1) := by decide +kernel
theorem dX2_withdraw_1 : decode cX2_withdraw 1 = .ok (.iload_n 1, 1) := by decide +kernel
theorem dX2_withdraw_2 : decode cX2_withdraw 2 = .ok (.invokevirtual 97, 3) := by decide +kernel
theorem dX2_withdraw_5 : decode cX2_withdraw 5 = .ok (.aload_n 0, 1) := by decide +kernel
theorem dX2_withdraw_6 : decode cX2_withdraw 6 = .ok (.getfield 32, 3) := by decide +kernel
theorem dX2_withdraw_9 : decode cX2_withdraw 9 = .ok (.iload_n 1, 1) := by decide +kernel
theorem dX2_withdraw_10 : decode cX2_withdraw 10 = .ok (.baload, 1) := by decide +kernel
theorem dX2_withdraw_11 : decode cX2_withdraw 11 = .ok (.ifCond .eq 13, 3) := by decide +kernel
theorem dX2_withdraw_14 : decode cX2_withdraw 14 = .ok (.new 64, 3) := by decide +kernel
theorem dX2_withdraw_17 : decode cX2_withdraw 17 = .ok (.dup, 1) := by decide +kernel
theorem dX2_withdraw_18 : decode cX2_withdraw 18 = .ok (.ldc 100, 2) := by decide +kernel
theorem dX2_withdraw_20 : decode cX2_withdraw 20 = .ok (.invokespecial 68, 3) := by decide +kernel
theorem dX2_withdraw_23 : decode cX2_withdraw 23 = .ok (.athrow, 1) := by decide +kernel
theorem dX2_withdraw_24 : decode cX2_withdraw 24 = .ok (.aload_n 0, 1) := by decide +kernel
theorem dX2_withdraw_25 : decode cX2_withdraw 25 = .ok (.getfield 32, 3) := by decide +kernel
theorem dX2_withdraw_28 : decode cX2_withdraw 28 = .ok (.iload_n 1, 1) := by decide +kernel
theorem dX2_withdraw_29 : decode cX2_withdraw 29 = .ok (.iconst 1, 1) := by decide +kernel
theorem dX2_withdraw_30 : decode cX2_withdraw 30 = .ok (.bastore, 1) := by decide +kernel
theorem dX2_withdraw_31 : decode cX2_withdraw 31 = .ok (.aload_n 0, 1) := by decide +kernel
theorem dX2_withdraw_32 : decode cX2_withdraw 32 = .ok (.aload_n 0, 1) := by decide +kernel
theorem dX2_withdraw_33 : decode cX2_withdraw 33 = .ok (.getfield 38, 3) := by decide +kernel
theorem dX2_withdraw_36 : decode cX2_withdraw 36 = .ok (.iconst 0, 1) := by decide +kernel
theorem dX2_withdraw_37 : decode cX2_withdraw 37 = .ok (.invokevirtual 52, 3) := by decide +kernel
theorem dX2_withdraw_40 : decode cX2_withdraw 40 = .ok (.aload_n 0, 1) := by decide +kernel
theorem dX2_withdraw_41 : decode cX2_withdraw 41 = .ok (.invokevirtual 102, 3) := by decide +kernel
theorem dX2_withdraw_44 : decode cX2_withdraw 44 = .ok (.ireturn, 1) := by decide +kernel
set_option maxRecDepth 20000 in
theorem ggX2_told_X2_requireBid : GoodIn wsX2_told wsX2_requireBid := goodIn_ca (goodIn_r _ [12, 13, 14, 15, 32, 33, 34, 35, 36, 37, 38, 39, 40, 41, 42, 43, 44, 45] (by decide +kernel) (by decide +kernel)) (goodIn_sub (fun _ h => List.mem_cons_of_mem _ (List.mem_append_right _ h)) (by decide +kernel))
set_option maxRecDepth 20000 in
theorem gX2_told_X2_requireBid : GoodIn wsX2_told (wsV RX2 97 RX2 yX2_requireBid wsX2_requireBid) := goodIn_app (goodIn_of _ (by decide +kernel)) ggX2_told_X2_requireBid
set_option maxRecDepth 20000 in
theorem ggX2_told_X2_requireWhat : GoodIn wsX2_told wsX2_requireWhat := goodIn_ca (goodIn_r _ [18, 13, 14] (by decide +kernel) (by decide +kernel)) (goodIn_sub (fun _ h => List.mem_cons_of_mem _ (List.mem_append_right _ h)) (by decide +kernel))
set_option maxRecDepth 20000 in
theorem gX2_told_X2_requireWhat : GoodIn wsX2_told (va_wsS RX2 106 yX2_requireWhat wsX2_requireWhat) := goodIn_app (goodIn_of _ (by decide +kernel)) ggX2_told_X2_requireWhat
set_option maxRecDepth 20000 in
theorem ggX2_told_X2_asNumber : GoodIn wsX2_told wsX2_asNumber := goodIn_r _ [21] (by decide +kernel) (by decide +kernel)
set_option maxRecDepth 20000 in
theorem gX2_told_X2_asNumber : GoodIn wsX2_told (va_wsS RX2 109 yX2_asNumber wsX2_asNumber) := goodIn_app (goodIn_of _ (by decide +kernel)) ggX2_told_X2_asNumber
set_option maxRecDepth 20000 in
theorem ggX2_told_X2_counts : GoodIn wsX2_told wsX2_counts := goodIn_r _ [25, 5, 26, 1, 6, 32, 33, 34, 35, 36, 37, 38, 39, 40, 41, 42, 43, 44, 45] (by decide +kernel) (by decide +kernel)
set_option maxRecDepth 20000 in
theorem gX2_told_X2_counts : GoodIn wsX2_told (wsV RX2 113 RX2 yX2_counts wsX2_counts) := goodIn_app (goodIn_of _ (by decide +kernel)) ggX2_told_X2_counts
set_option maxRecDepth 20000 in
theorem ggX2_told_X0_has : GoodIn wsX2_told wsX0_has := goodIn_r _ [30, 31, 50, 51] (by decide +kernel) (by decide +kernel)
set_option maxRecDepth 20000 in
theorem gX2_told_X0_has_n120 : GoodIn wsX2_told (wsX0_has) := ggX2_told_X0_has
theorem dX2_told_0 : decode cX2_told 0 = .ok (.aload_n 0, 1) := by decide +kernel
theorem dX2_told_1 : decode cX2_told 1 = .ok (.iload_n 1, 1) := by decide +kernel
theorem dX2_told_2 : decode cX2_told 2 = .ok (.invokevirtual 97, 3) := by decide +kernel
theorem dX2_told_5 : decode cX2_told 5 = .ok (.iload_n 2, 1) := by decide +kernel
theorem dX2_told_6 : decode cX2_told 6 = .ok (.bipush 7, 2) := by decide +kernel
theorem dX2_told_8 : decode cX2_told 8 = .ok (.invokestatic 106, 3) := by decide +kernel
theorem dX2_told_11 : decode cX2_told 11 = .ok (.iload_n 2, 1) := by decide +kernel
theorem dX2_told_12 : decode cX2_told 12 = .ok (.tableswitch 98 0 6 #[44, 51, 58, 65, 72, 82, 89], 44) := by decide +kernel
theorem dX2_told_56 : decode cX2_told 56 = .ok (.aload_n 0, 1) := by decide +kernel
theorem dX2_told_57 : decode cX2_told 57 = .ok (.getfield 17, 3) := by decide +kernel
theorem dX2_told_60 : decode cX2_told 60 = .ok (.iload_n 1, 1) := by decide +kernel
theorem dX2_told_61 : decode cX2_told 61 = .ok (.iaload, 1) := by decide +kernel
theorem dX2_told_62 : decode cX2_told 62 = .ok (.ireturn, 1) := by decide +kernel
theorem dX2_told_63 : decode cX2_told 63 = .ok (.aload_n 0, 1) := by decide +kernel
theorem dX2_told_64 : decode cX2_told 64 = .ok (.getfield 20, 3) := by decide +kernel
theorem dX2_told_67 : decode cX2_told 67 = .ok (.iload_n 1, 1) := by decide +kernel
theorem dX2_told_68 : decode cX2_told 68 = .ok (.iaload, 1) := by decide +kernel
theorem dX2_told_69 : decode cX2_told 69 = .ok (.ireturn, 1) := by decide +kernel
theorem dX2_told_70 : decode cX2_told 70 = .ok (.aload_n 0, 1) := by decide +kernel
theorem dX2_told_71 : decode cX2_told 71 = .ok (.getfield 23, 3) := by decide +kernel
theorem dX2_told_74 : decode cX2_told 74 = .ok (.iload_n 1, 1) := by decide +kernel
theorem dX2_told_75 : decode cX2_told 75 = .ok (.iaload, 1) := by decide +kernel
theorem dX2_told_76 : decode cX2_told 76 = .ok (.ireturn, 1) := by decide +kernel
theorem dX2_told_77 : decode cX2_told 77 = .ok (.aload_n 0, 1) := by decide +kernel
theorem dX2_told_78 : decode cX2_told 78 = .ok (.getfield 29, 3) := by decide +kernel
theorem dX2_told_81 : decode cX2_told 81 = .ok (.iload_n 1, 1) := by decide +kernel
theorem dX2_told_82 : decode cX2_told 82 = .ok (.iaload, 1) := by decide +kernel
theorem dX2_told_83 : decode cX2_told 83 = .ok (.ireturn, 1) := by decide +kernel
theorem dX2_told_84 : decode cX2_told 84 = .ok (.aload_n 0, 1) := by decide +kernel
theorem dX2_told_85 : decode cX2_told 85 = .ok (.getfield 32, 3) := by decide +kernel
theorem dX2_told_88 : decode cX2_told 88 = .ok (.iload_n 1, 1) := by decide +kernel
theorem dX2_told_89 : decode cX2_told 89 = .ok (.baload, 1) := by decide +kernel
theorem dX2_told_90 : decode cX2_told 90 = .ok (.invokestatic 109, 3) := by decide +kernel
theorem dX2_told_93 : decode cX2_told 93 = .ok (.ireturn, 1) := by decide +kernel
theorem dX2_told_94 : decode cX2_told 94 = .ok (.aload_n 0, 1) := by decide +kernel
theorem dX2_told_95 : decode cX2_told 95 = .ok (.getfield 26, 3) := by decide +kernel
theorem dX2_told_98 : decode cX2_told 98 = .ok (.iload_n 1, 1) := by decide +kernel
theorem dX2_told_99 : decode cX2_told 99 = .ok (.iaload, 1) := by decide +kernel
theorem dX2_told_100 : decode cX2_told 100 = .ok (.ireturn, 1) := by decide +kernel
theorem dX2_told_101 : decode cX2_told 101 = .ok (.aload_n 0, 1) := by decide +kernel
theorem dX2_told_102 : decode cX2_told 102 = .ok (.iload_n 1, 1) := by decide +kernel
theorem dX2_told_103 : decode cX2_told 103 = .ok (.invokevirtual 113, 3) := by decide +kernel
theorem dX2_told_106 : decode cX2_told 106 = .ok (.invokestatic 109, 3) := by decide +kernel
theorem dX2_told_109 : decode cX2_told 109 = .ok (.ireturn, 1) := by decide +kernel
theorem dX2_told_110 : decode cX2_told 110 = .ok (.aload_n 0, 1) := by decide +kernel
theorem dX2_told_111 : decode cX2_told 111 = .ok (.getfield 38, 3) := by decide +kernel
theorem dX2_told_114 : decode cX2_told 114 = .ok (.getfield 117, 3) := by decide +kernel
theorem dX2_told_117 : decode cX2_told 117 = .ok (.iload_n 1, 1) := by decide +kernel
theorem dX2_told_118 : decode cX2_told 118 = .ok (.invokevirtual 120, 3) := by decide +kernel
theorem dX2_told_121 : decode cX2_told 121 = .ok (.invokestatic 109, 3) := by decide +kernel
theorem dX2_told_124 : decode cX2_told 124 = .ok (.ireturn, 1) := by decide +kernel
set_option maxRecDepth 20000 in
theorem ggX2_about_X2_requireBidder : GoodIn wsX2_about wsX2_requireBidder := goodIn_ca (goodIn_r _ [7, 8, 9, 10, 29, 30, 31, 32, 33, 34, 35, 36, 37, 38, 39, 40, 41, 42] (by decide +kernel) (by decide +kernel)) (goodIn_sub (fun _ h => List.mem_cons_of_mem _ (List.mem_append_right _ h)) (by decide +kernel))
set_option maxRecDepth 20000 in
theorem gX2_about_X2_requireBidder : GoodIn wsX2_about (wsV RX2 86 RX2 yX2_requireBidder wsX2_requireBidder) := goodIn_app (goodIn_of _ (by decide +kernel)) ggX2_about_X2_requireBidder
set_option maxRecDepth 20000 in
theorem ggX2_about_X2_requireWhat : GoodIn wsX2_about wsX2_requireWhat := goodIn_ca (goodIn_r _ [13, 8, 9] (by decide +kernel) (by decide +kernel)) (goodIn_sub (fun _ h => List.mem_cons_of_mem _ (List.mem_append_right _ h)) (by decide +kernel))
set_option maxRecDepth 20000 in
theorem gX2_about_X2_requireWhat : GoodIn wsX2_about (va_wsS RX2 106 yX2_requireWhat wsX2_requireWhat) := goodIn_app (goodIn_of _ (by decide +kernel)) ggX2_about_X2_requireWhat
set_option maxRecDepth 20000 in
theorem ggX2_about_X2_asNumber : GoodIn wsX2_about wsX2_asNumber := goodIn_r _ [16] (by decide +kernel) (by decide +kernel)
set_option maxRecDepth 20000 in
theorem gX2_about_X2_asNumber : GoodIn wsX2_about (va_wsS RX2 109 yX2_asNumber wsX2_asNumber) := goodIn_app (goodIn_of _ (by decide +kernel)) ggX2_about_X2_asNumber
set_option maxRecDepth 20000 in
theorem ggX2_about_X2_bidsLeftOf : GoodIn wsX2_about wsX2_bidsLeftOf := goodIn_r _ [20, 21, 22, 23, 29, 30, 31, 32, 33, 34, 35, 36, 37, 38, 39, 40, 41, 42] (by decide +kernel) (by decide +kernel)
set_option maxRecDepth 20000 in
theorem gX2_about_X2_bidsLeftOf : GoodIn wsX2_about (wsV RX2 123 RX2 yX2_bidsLeftOf wsX2_bidsLeftOf) := goodIn_app (goodIn_of _ (by decide +kernel)) ggX2_about_X2_bidsLeftOf
set_option maxRecDepth 20000 in
theorem ggX2_about_X2_profit : GoodIn wsX2_about wsX2_profit := goodIn_r _ [27, 28, 43, 44, 45, 46, 29, 30, 31, 32, 33, 34, 35, 36, 37, 38, 39, 40, 41, 42] (by decide +kernel) (by decide +kernel)
set_option maxRecDepth 20000 in
theorem gX2_about_X2_profit : GoodIn wsX2_about (wsV RX2 133 RX2 yX2_profit wsX2_profit) := goodIn_app (goodIn_of _ (by decide +kernel)) ggX2_about_X2_profit
theorem dX2_about_0 : decode cX2_about 0 = .ok (.aload_n 0, 1) := by decide +kernel
theorem dX2_about_1 : decode cX2_about 1 = .ok (.iload_n 1, 1) := by decide +kernel
theorem dX2_about_2 : decode cX2_about 2 = .ok (.invokevirtual 86, 3) := by decide +kernel
theorem dX2_about_5 : decode cX2_about 5 = .ok (.iload_n 2, 1) := by decide +kernel
theorem dX2_about_6 : decode cX2_about 6 = .ok (.iconst 5, 1) := by decide +kernel
theorem dX2_about_7 : decode cX2_about 7 = .ok (.invokestatic 106, 3) := by decide +kernel
theorem dX2_about_10 : decode cX2_about 10 = .ok (.iload_n 2, 1) := by decide +kernel
theorem dX2_about_11 : decode cX2_about 11 = .ok (.tableswitch 79 0 4 #[33, 43, 49, 59, 69], 33) := by decide +kernel
theorem dX2_about_44 : decode cX2_about 44 = .ok (.aload_n 0, 1) := by decide +kernel
theorem dX2_about_45 : decode cX2_about 45 = .ok (.getfield 13, 3) := by decide +kernel
theorem dX2_about_48 : decode cX2_about 48 = .ok (.iload_n 1, 1) := by decide +kernel
theorem dX2_about_49 : decode cX2_about 49 = .ok (.baload, 1) := by decide +kernel
theorem dX2_about_50 : decode cX2_about 50 = .ok (.invokestatic 109, 3) := by decide +kernel
theorem dX2_about_53 : decode cX2_about 53 = .ok (.ireturn, 1) := by decide +kernel
theorem dX2_about_54 : decode cX2_about 54 = .ok (.aload_n 0, 1) := by decide +kernel
theorem dX2_about_55 : decode cX2_about 55 = .ok (.iload_n 1, 1) := by decide +kernel
theorem dX2_about_56 : decode cX2_about 56 = .ok (.invokevirtual 123, 3) := by decide +kernel
theorem dX2_about_59 : decode cX2_about 59 = .ok (.ireturn, 1) := by decide +kernel
theorem dX2_about_60 : decode cX2_about 60 = .ok (.aload_n 0, 1) := by decide +kernel
theorem dX2_about_61 : decode cX2_about 61 = .ok (.getfield 38, 3) := by decide +kernel
theorem dX2_about_64 : decode cX2_about 64 = .ok (.getfield 127, 3) := by decide +kernel
theorem dX2_about_67 : decode cX2_about 67 = .ok (.iload_n 1, 1) := by decide +kernel
theorem dX2_about_68 : decode cX2_about 68 = .ok (.iaload, 1) := by decide +kernel
theorem dX2_about_69 : decode cX2_about 69 = .ok (.ireturn, 1) := by decide +kernel
theorem dX2_about_70 : decode cX2_about 70 = .ok (.aload_n 0, 1) := by decide +kernel
theorem dX2_about_71 : decode cX2_about 71 = .ok (.getfield 38, 3) := by decide +kernel
theorem dX2_about_74 : decode cX2_about 74 = .ok (.getfield 130, 3) := by decide +kernel
theorem dX2_about_77 : decode cX2_about 77 = .ok (.iload_n 1, 1) := by decide +kernel
theorem dX2_about_78 : decode cX2_about 78 = .ok (.iaload, 1) := by decide +kernel
theorem dX2_about_79 : decode cX2_about 79 = .ok (.ireturn, 1) := by decide +kernel
theorem dX2_about_80 : decode cX2_about 80 = .ok (.aload_n 0, 1) := by decide +kernel
theorem dX2_about_81 : decode cX2_about 81 = .ok (.aload_n 0, 1) := by decide +kernel
theorem dX2_about_82 : decode cX2_about 82 = .ok (.getfield 38, 3) := by decide +kernel
theorem dX2_about_85 : decode cX2_about 85 = .ok (.iload_n 1, 1) := by decide +kernel
theorem dX2_about_86 : decode cX2_about 86 = .ok (.invokevirtual 133, 3) := by decide +kernel
theorem dX2_about_89 : decode cX2_about 89 = .ok (.ireturn, 1) := by decide +kernel
theorem dX2_about_90 : decode cX2_about 90 = .ok (.aload_n 0, 1) := by decide +kernel
theorem dX2_about_91 : decode cX2_about 91 = .ok (.getfield 38, 3) := by decide +kernel
theorem dX2_about_94 : decode cX2_about 94 = .ok (.getfield 137, 3) := by decide +kernel
theorem dX2_about_97 : decode cX2_about 97 = .ok (.iload_n 1, 1) := by decide +kernel
theorem dX2_about_98 : decode cX2_about 98 = .ok (.iaload, 1) := by decide +kernel
theorem dX2_about_99 : decode cX2_about 99 = .ok (.ireturn, 1) := by decide +kernel
set_option maxRecDepth 20000 in
theorem ggX2_land_X2_requireField : GoodIn wsX2_land wsX2_requireField := goodIn_ca (goodIn_r _ [6, 7, 8, 9, 44, 45, 46, 47, 48, 49, 50, 51, 52, 53, 54, 55, 56, 57] (by decide +kernel) (by decide +kernel)) (goodIn_sub (fun _ h => List.mem_cons_of_mem _ (List.mem_append_right _ h)) (by decide +kernel))
set_option maxRecDepth 20000 in
theorem gX2_land_X2_requireField : GoodIn wsX2_land (wsV RX2 71 RX2 yX2_requireField wsX2_requireField) := goodIn_app (goodIn_of _ (by decide +kernel)) ggX2_land_X2_requireField
set_option maxRecDepth 20000 in
theorem ggX2_land_X2_requireWhat : GoodIn wsX2_land wsX2_requireWhat := goodIn_ca (goodIn_r _ [12, 7, 8] (by decide +kernel) (by decide +kernel)) (goodIn_sub (fun _ h => List.mem_cons_of_mem _ (List.mem_append_right _ h)) (by decide +kernel))
set_option maxRecDepth 20000 in
theorem gX2_land_X2_requireWhat : GoodIn wsX2_land (va_wsS RX2 106 yX2_requireWhat wsX2_requireWhat) := goodIn_app (goodIn_of _ (by decide +kernel)) ggX2_land_X2_requireWhat
set_option maxRecDepth 20000 in
theorem ggX2_land_X2_winnerOfField : GoodIn wsX2_land wsX2_winnerOfField := goodIn_r _ [16, 17, 18, 19, 20, 21, 22, 23, 24, 25, 26, 5, 27, 44, 45, 46, 47, 48, 49, 50, 51, 52, 53, 54, 55, 56, 57, 58, 59, 60, 61, 62, 63] (by decide +kernel) (by decide +kernel)
set_option maxRecDepth 20000 in
theorem gX2_land_X2_winnerOfField : GoodIn wsX2_land (wsV RX2 140 RX2 yX2_winnerOfField wsX2_winnerOfField) := goodIn_app (goodIn_of _ (by decide +kernel)) ggX2_land_X2_winnerOfField
set_option maxRecDepth 20000 in
theorem ggX2_land_X2_ownerOf : GoodIn wsX2_land wsX2_ownerOf := goodIn_r _ [31, 32, 44, 45, 46, 47, 48, 49, 50, 51, 52, 53, 54, 55, 56, 57] (by decide +kernel) (by decide +kernel)
set_option maxRecDepth 20000 in
theorem gX2_land_X2_ownerOf : GoodIn wsX2_land (wsV RX2 143 RX2 yX2_ownerOf wsX2_ownerOf) := goodIn_app (goodIn_of _ (by decide +kernel)) ggX2_land_X2_ownerOf
set_option maxRecDepth 20000 in
theorem ggX2_land_X2_countingBidsWith : GoodIn wsX2_land wsX2_countingBidsWith := goodIn_r _ [36, 17, 19, 37, 38, 39, 5, 40, 41, 42, 32, 43, 25, 26, 27, 44, 45, 46, 47, 48, 49, 50, 51, 52, 53, 54, 55, 56, 57] (by decide +kernel) (by decide +kernel)
set_option maxRecDepth 20000 in
theorem gX2_land_X2_countingBidsWith : GoodIn wsX2_land (wsV RX2 146 RX2 yX2_countingBidsWith wsX2_countingBidsWith) := goodIn_app (goodIn_of _ (by decide +kernel)) ggX2_land_X2_countingBidsWith
theorem dX2_land_0 : decode cX2_land 0 = .ok (.aload_n 0, 1) := by decide +kernel
theorem dX2_land_1 : decode cX2_land 1 = .ok (.iload_n 1, 1) := by decide +kernel
theorem dX2_land_2 : decode cX2_land 2 = .ok (.invokevirtual 71, 3) := by decide +kernel
theorem dX2_land_5 : decode cX2_land 5 = .ok (.iload_n 2, 1) := by decide +kernel
theorem dX2_land_6 : decode cX2_land 6 = .ok (.iconst 2, 1) := by decide +kernel
theorem dX2_land_7 : decode cX2_land 7 = .ok (.invokestatic 106, 3) := by decide +kernel
theorem dX2_land_10 : decode cX2_land 10 = .ok (.iload_n 2, 1) := by decide +kernel
theorem dX2_land_11 : decode cX2_land 11 = .ok (.lookupswitch 42 #[(0, 25), (1, 32)], 25) := by decide +kernel
theorem dX2_land_36 : decode cX2_land 36 = .ok (.aload_n 0, 1) := by decide +kernel
theorem dX2_land_37 : decode cX2_land 37 = .ok (.getfield 9, 3) := by decide +kernel
theorem dX2_land_40 : decode cX2_land 40 = .ok (.iload_n 1, 1) := by decide +kernel
theorem dX2_land_41 : decode cX2_land 41 = .ok (.iaload, 1) := by decide +kernel
theorem dX2_land_42 : decode cX2_land 42 = .ok (.ireturn, 1) := by decide +kernel
theorem dX2_land_43 : decode cX2_land 43 = .ok (.aload_n 0, 1) := by decide +kernel
theorem dX2_land_44 : decode cX2_land 44 = .ok (.aload_n 0, 1) := by decide +kernel
theorem dX2_land_45 : decode cX2_land 45 = .ok (.iload_n 1, 1) := by decide +kernel
theorem dX2_land_46 : decode cX2_land 46 = .ok (.invokevirtual 140, 3) := by decide +kernel
theorem dX2_land_49 : decode cX2_land 49 = .ok (.invokevirtual 143, 3) := by decide +kernel
theorem dX2_land_52 : decode cX2_land 52 = .ok (.ireturn, 1) := by decide +kernel
theorem dX2_land_53 : decode cX2_land 53 = .ok (.aload_n 0, 1) := by decide +kernel
theorem dX2_land_54 : decode cX2_land 54 = .ok (.iload_n 1, 1) := by decide +kernel
theorem dX2_land_55 : decode cX2_land 55 = .ok (.invokevirtual 146, 3) := by decide +kernel
theorem dX2_land_58 : decode cX2_land 58 = .ok (.ireturn, 1) := by decide +kernel
set_option maxRecDepth 20000 in
theorem ggX2_count_X2_requireWhat : GoodIn wsX2_count wsX2_requireWhat := goodIn_ca (goodIn_r _ [8, 9, 10] (by decide +kernel) (by decide +kernel)) (goodIn_sub (fun _ h => List.mem_cons_of_mem _ (List.mem_append_right _ h)) (by decide +kernel))
set_option maxRecDepth 20000 in
theorem gX2_count_X2_requireWhat : GoodIn wsX2_count (va_wsS RX2 106 yX2_requireWhat wsX2_requireWhat) := goodIn_app (goodIn_of _ (by decide +kernel)) ggX2_count_X2_requireWhat
set_option maxRecDepth 20000 in
theorem ggX2_count_J6_bitCount_0f7a4 : GoodIn wsX2_count wsJ6_bitCount_0f7a4 := goodIn_r _ [14, 15, 16, 17] (by decide +kernel) (by decide +kernel)
set_option maxRecDepth 20000 in
theorem gX2_count_J6_bitCount_0f7a4 : GoodIn wsX2_count (va_wsS RX2 155 yJ6_bitCount_0f7a4 wsJ6_bitCount_0f7a4) := goodIn_app (goodIn_of _ (by decide +kernel)) ggX2_count_J6_bitCount_0f7a4
set_option maxRecDepth 20000 in
theorem ggX2_count_X2_soldFields : GoodIn wsX2_count wsX2_soldFields := goodIn_r _ [21, 3, 4, 22, 23, 24, 25, 26, 27, 47, 48, 49, 50, 51, 52, 53, 54, 55, 56, 57, 58, 59, 60, 61, 62, 63, 64, 65, 66] (by decide +kernel) (by decide +kernel)
set_option maxRecDepth 20000 in
theorem gX2_count_X2_soldFields : GoodIn wsX2_count (wsV RX2 160 RX2 yX2_soldFields wsX2_soldFields) := goodIn_app (goodIn_of _ (by decide +kernel)) ggX2_count_X2_soldFields
set_option maxRecDepth 20000 in
theorem ggX2_count_X1_totalPaid : GoodIn wsX2_count wsX1_totalPaid := goodIn_r _ [31, 32, 61, 62, 63, 64] (by decide +kernel) (by decide +kernel)
set_option maxRecDepth 20000 in
theorem gX2_count_X1_totalPaid_n163 : GoodIn wsX2_count (wsX1_totalPaid) := ggX2_count_X1_totalPaid
set_option maxRecDepth 20000 in
theorem ggX2_count_X2_totalProfit : GoodIn wsX2_count wsX2_totalProfit := goodIn_r _ [36, 2, 4, 37, 38, 39, 7, 40, 41, 47, 48, 49, 50, 51, 52, 53, 54, 55, 56, 57, 58, 59, 60, 61, 62, 63, 64] (by decide +kernel) (by decide +kernel)
set_option maxRecDepth 20000 in
theorem gX2_count_X2_totalProfit : GoodIn wsX2_count (wsV RX2 166 RX2 yX2_totalProfit wsX2_totalProfit) := goodIn_app (goodIn_of _ (by decide +kernel)) ggX2_count_X2_totalProfit
set_option maxRecDepth 20000 in
theorem ggX2_count_X2_winningPrices : GoodIn wsX2_count wsX2_winningPrices := goodIn_r _ [45, 3, 4, 46, 23, 24, 25, 26, 27, 47, 48, 49, 50, 51, 52, 53, 54, 55, 56, 57, 58, 59, 60, 61, 62, 63, 64, 65, 66] (by decide +kernel) (by decide +kernel)
set_option maxRecDepth 20000 in
theorem gX2_count_X2_winningPrices : GoodIn wsX2_count (wsV RX2 169 RX2 yX2_winningPrices wsX2_winningPrices) := goodIn_app (goodIn_of _ (by decide +kernel)) ggX2_count_X2_winningPrices
theorem dX2_count_0 : decode cX2_count 0 = .ok (.iload_n 1, 1) := by decide +kernel
theorem dX2_count_1 : decode cX2_count 1 = .ok (.bipush 8, 2) := by decide +kernel
theorem dX2_count_3 : decode cX2_count 3 = .ok (.invokestatic 106, 3) := by decide +kernel
theorem dX2_count_6 : decode cX2_count 6 = .ok (.iload_n 1, 1) := by decide +kernel
theorem dX2_count_7 : decode cX2_count 7 = .ok (.tableswitch 106 0 7 #[45, 50, 55, 60, 71, 85, 93, 101], 45) := by decide +kernel
theorem dX2_count_52 : decode cX2_count 52 = .ok (.aload_n 0, 1) := by decide +kernel
theorem dX2_count_53 : decode cX2_count 53 = .ok (.getfield 60, 3) := by decide +kernel
theorem dX2_count_56 : decode cX2_count 56 = .ok (.ireturn, 1) := by decide +kernel
theorem dX2_count_57 : decode cX2_count 57 = .ok (.aload_n 0, 1) := by decide +kernel
theorem dX2_count_58 : decode cX2_count 58 = .ok (.getfield 81, 3) := by decide +kernel
theorem dX2_count_61 : decode cX2_count 61 = .ok (.ireturn, 1) := by decide +kernel
theorem dX2_count_62 : decode cX2_count 62 = .ok (.aload_n 0, 1) := by decide +kernel
theorem dX2_count_63 : decode cX2_count 63 = .ok (.getfield 74, 3) := by decide +kernel
theorem dX2_count_66 : decode cX2_count 66 = .ok (.ireturn, 1) := by decide +kernel
theorem dX2_count_67 : decode cX2_count 67 = .ok (.aload_n 0, 1) := by decide +kernel
theorem dX2_count_68 : decode cX2_count 68 = .ok (.getfield 38, 3) := by decide +kernel
theorem dX2_count_71 : decode cX2_count 71 = .ok (.getfield 117, 3) := by decide +kernel
theorem dX2_count_74 : decode cX2_count 74 = .ok (.getfield 149, 3) := by decide +kernel
theorem dX2_count_77 : decode cX2_count 77 = .ok (.ireturn, 1) := by decide +kernel
theorem dX2_count_78 : decode cX2_count 78 = .ok (.aload_n 0, 1) := by decide +kernel
theorem dX2_count_79 : decode cX2_count 79 = .ok (.getfield 38, 3) := by decide +kernel
theorem dX2_count_82 : decode cX2_count 82 = .ok (.getfield 117, 3) := by decide +kernel
theorem dX2_count_85 : decode cX2_count 85 = .ok (.getfield 152, 3) := by decide +kernel
theorem dX2_count_88 : decode cX2_count 88 = .ok (.invokestatic 155, 3) := by decide +kernel
theorem dX2_count_91 : decode cX2_count 91 = .ok (.ireturn, 1) := by decide +kernel
theorem dX2_count_92 : decode cX2_count 92 = .ok (.aload_n 0, 1) := by decide +kernel
theorem dX2_count_93 : decode cX2_count 93 = .ok (.invokevirtual 160, 3) := by decide +kernel
theorem dX2_count_96 : decode cX2_count 96 = .ok (.invokestatic 155, 3) := by decide +kernel
theorem dX2_count_99 : decode cX2_count 99 = .ok (.ireturn, 1) := by decide +kernel
theorem dX2_count_100 : decode cX2_count 100 = .ok (.aload_n 0, 1) := by decide +kernel
theorem dX2_count_101 : decode cX2_count 101 = .ok (.getfield 38, 3) := by decide +kernel
theorem dX2_count_104 : decode cX2_count 104 = .ok (.invokevirtual 163, 3) := by decide +kernel
theorem dX2_count_107 : decode cX2_count 107 = .ok (.ireturn, 1) := by decide +kernel
theorem dX2_count_108 : decode cX2_count 108 = .ok (.aload_n 0, 1) := by decide +kernel
theorem dX2_count_109 : decode cX2_count 109 = .ok (.invokevirtual 166, 3) := by decide +kernel
theorem dX2_count_112 : decode cX2_count 112 = .ok (.ireturn, 1) := by decide +kernel
theorem dX2_count_113 : decode cX2_count 113 = .ok (.aload_n 0, 1) := by decide +kernel
theorem dX2_count_114 : decode cX2_count 114 = .ok (.invokevirtual 169, 3) := by decide +kernel
theorem dX2_count_117 : decode cX2_count 117 = .ok (.ireturn, 1) := by decide +kernel
set_option maxRecDepth 20000 in
theorem ggX2_alone_X2_requireField : GoodIn wsX2_alone wsX2_requireField := goodIn_ca (goodIn_r _ [6, 7, 8, 9, 32, 33, 34, 35, 36, 37, 38, 39, 40, 41, 42, 43, 44, 45] (by decide +kernel) (by decide +kernel)) (goodIn_sub (fun _ h => List.mem_cons_of_mem _ (List.mem_append_right _ h)) (by decide +kernel))
set_option maxRecDepth 20000 in
theorem gX2_alone_X2_requireField : GoodIn wsX2_alone (wsV RX2 71 RX2 yX2_requireField wsX2_requireField) := goodIn_app (goodIn_of _ (by decide +kernel)) ggX2_alone_X2_requireField
set_option maxRecDepth 20000 in
theorem ggX2_alone_X2_requireWhat : GoodIn wsX2_alone wsX2_requireWhat := goodIn_ca (goodIn_r _ [12, 7, 8] (by decide +kernel) (by decide +kernel)) (goodIn_sub (fun _ h => List.mem_cons_of_mem _ (List.mem_append_right _ h)) (by decide +kernel))
set_option maxRecDepth 20000 in
theorem gX2_alone_X2_requireWhat : GoodIn wsX2_alone (va_wsS RX2 106 yX2_requireWhat wsX2_requireWhat) := goodIn_app (goodIn_of _ (by decide +kernel)) ggX2_alone_X2_requireWhat
set_option maxRecDepth 20000 in
theorem ggX2_alone_X2_highestAlone : GoodIn wsX2_alone wsX2_highestAlone := goodIn_r _ [16, 17, 18, 1, 19, 20, 21, 22, 5, 23, 24, 25, 26, 32, 33, 34, 35, 36, 37, 38, 39, 40, 41, 42, 43, 44, 45] (by decide +kernel) (by decide +kernel)
set_option maxRecDepth 20000 in
theorem gX2_alone_X2_highestAlone : GoodIn wsX2_alone (wsV RX2 172 RX2 yX2_highestAlone wsX2_highestAlone) := goodIn_app (goodIn_of _ (by decide +kernel)) ggX2_alone_X2_highestAlone
set_option maxRecDepth 20000 in
theorem ggX2_alone_X2_secondPrice : GoodIn wsX2_alone wsX2_secondPrice := goodIn_r _ [30, 1, 31, 19, 13, 14, 15, 5, 16, 17, 18, 20, 21, 22, 23, 24, 25, 26, 32, 33, 34, 35, 36, 37, 38, 39, 40, 41, 42, 43, 44, 45] (by decide +kernel) (by decide +kernel)
set_option maxRecDepth 20000 in
theorem gX2_alone_X2_secondPrice : GoodIn wsX2_alone (wsV RX2 176 RX2 yX2_secondPrice wsX2_secondPrice) := goodIn_app (goodIn_of _ (by decide +kernel)) ggX2_alone_X2_secondPrice
theorem dX2_alone_0 : decode cX2_alone 0 = .ok (.aload_n 0, 1) := by decide +kernel
theorem dX2_alone_1 : decode cX2_alone 1 = .ok (.iload_n 1, 1) := by decide +kernel
theorem dX2_alone_2 : decode cX2_alone 2 = .ok (.invokevirtual 71, 3) := by decide +kernel
theorem dX2_alone_5 : decode cX2_alone 5 = .ok (.iload_n 2, 1) := by decide +kernel
theorem dX2_alone_6 : decode cX2_alone 6 = .ok (.iconst 2, 1) := by decide +kernel
theorem dX2_alone_7 : decode cX2_alone 7 = .ok (.invokestatic 106, 3) := by decide +kernel
theorem dX2_alone_10 : decode cX2_alone 10 = .ok (.aload_n 0, 1) := by decide +kernel
theorem dX2_alone_11 : decode cX2_alone 11 = .ok (.iload_n 1, 1) := by decide +kernel
theorem dX2_alone_12 : decode cX2_alone 12 = .ok (.iconst (-1), 1) := by decide +kernel
theorem dX2_alone_13 : decode cX2_alone 13 = .ok (.invokevirtual 172, 3) := by decide +kernel
theorem dX2_alone_16 : decode cX2_alone 16 = .ok (.istore_n 3, 1) := by decide +kernel
theorem dX2_alone_17 : decode cX2_alone 17 = .ok (.iload_n 3, 1) := by decide +kernel
theorem dX2_alone_18 : decode cX2_alone 18 = .ok (.iconst (-1), 1) := by decide +kernel
theorem dX2_alone_19 : decode cX2_alone 19 = .ok (.if_icmp .ne 5, 3) := by decide +kernel
theorem dX2_alone_22 : decode cX2_alone 22 = .ok (.iconst (-1), 1) := by decide +kernel
theorem dX2_alone_23 : decode cX2_alone 23 = .ok (.ireturn, 1) := by decide +kernel
theorem dX2_alone_24 : decode cX2_alone 24 = .ok (.iload_n 2, 1) := by decide +kernel
theorem dX2_alone_25 : decode cX2_alone 25 = .ok (.lookupswitch 36 #[(0, 27), (1, 29)], 27) := by decide +kernel
theorem dX2_alone_52 : decode cX2_alone 52 = .ok (.iload_n 3, 1) := by decide +kernel
theorem dX2_alone_53 : decode cX2_alone 53 = .ok (.ireturn, 1) := by decide +kernel
theorem dX2_alone_54 : decode cX2_alone 54 = .ok (.aload_n 0, 1) := by decide +kernel
theorem dX2_alone_55 : decode cX2_alone 55 = .ok (.getfield 17, 3) := by decide +kernel
theorem dX2_alone_58 : decode cX2_alone 58 = .ok (.iload_n 3, 1) := by decide +kernel
theorem dX2_alone_59 : decode cX2_alone 59 = .ok (.iaload, 1) := by decide +kernel
theorem dX2_alone_60 : decode cX2_alone 60 = .ok (.ireturn, 1) := by decide +kernel
theorem dX2_alone_61 : decode cX2_alone 61 = .ok (.aload_n 0, 1) := by decide +kernel
theorem dX2_alone_62 : decode cX2_alone 62 = .ok (.iload_n 1, 1) := by decide +kernel
theorem dX2_alone_63 : decode cX2_alone 63 = .ok (.iload_n 3, 1) := by decide +kernel
theorem dX2_alone_64 : decode cX2_alone 64 = .ok (.invokevirtual 176, 3) := by decide +kernel
theorem dX2_alone_67 : decode cX2_alone 67 = .ok (.ireturn, 1) := by decide +kernel
set_option maxRecDepth 20000 in
theorem ggX2_would_X2_requireBid : GoodIn wsX2_would wsX2_requireBid := goodIn_ca (goodIn_r _ [8, 9, 10, 11, 106, 107, 108, 109, 110, 111, 112, 113, 114, 115, 116, 117, 118, 119] (by decide +kernel) (by decide +kernel)) (goodIn_sub (fun _ h => List.mem_cons_of_mem _ (List.mem_append_left _ (List.mem_append_right _ h))) (by decide +kernel))
set_option maxRecDepth 20000 in
theorem gX2_would_X2_requireBid : GoodIn wsX2_would (wsV RX2 97 RX2 yX2_requireBid wsX2_requireBid) := goodIn_app (goodIn_of _ (by decide +kernel)) ggX2_would_X2_requireBid
set_option maxRecDepth 20000 in
theorem ggX2_would_X2_requireWhat : GoodIn wsX2_would wsX2_requireWhat := goodIn_ca (goodIn_r _ [14, 9, 10] (by decide +kernel) (by decide +kernel)) (goodIn_sub (fun _ h => List.mem_cons_of_mem _ (List.mem_append_left _ (List.mem_append_right _ h))) (by decide +kernel))
set_option maxRecDepth 20000 in
theorem gX2_would_X2_requireWhat : GoodIn wsX2_would (va_wsS RX2 106 yX2_requireWhat wsX2_requireWhat) := goodIn_app (goodIn_of _ (by decide +kernel)) ggX2_would_X2_requireWhat
set_option maxRecDepth 20000 in
theorem ggX2_would_X2_requireAmount : GoodIn wsX2_would wsX2_requireAmount := goodIn_ca (goodIn_r _ [17, 18, 19] (by decide +kernel) (by decide +kernel)) (goodIn_sub (fun _ h => List.mem_cons_of_mem _ (List.mem_append_right _ h)) (by decide +kernel))
set_option maxRecDepth 20000 in
theorem gX2_would_X2_requireAmount : GoodIn wsX2_would (va_wsS RX2 92 yX2_requireAmount wsX2_requireAmount) := goodIn_app (goodIn_of _ (by decide +kernel)) ggX2_would_X2_requireAmount
set_option maxRecDepth 20000 in
theorem ggX2_would_X2_putPrice : GoodIn wsX2_would wsX2_putPrice := goodIn_r _ [23, 1, 24, 25, 26, 27, 28, 7, 29, 30, 31, 32, 33, 34, 106, 107, 108, 109, 110, 111, 112, 113, 114, 115, 116, 117, 118, 119] (by decide +kernel) (by decide +kernel)
set_option maxRecDepth 20000 in
theorem gX2_would_X2_putPrice : GoodIn wsX2_would (wsV RX2 77 RX2 yX2_putPrice wsX2_putPrice) := goodIn_app (goodIn_of _ (by decide +kernel)) ggX2_would_X2_putPrice
set_option maxRecDepth 20000 in
theorem ggX2_would_X2_settle : GoodIn wsX2_would wsX2_settle := goodIn_r _ [38, 39, 40, 11, 41, 42, 43, 44, 45, 46, 47, 48, 49, 50, 51, 52, 53, 54, 55, 56, 57, 58, 59, 60, 61, 7, 62, 63, 64, 65, 66, 67, 68, 69, 70, 71, 72, 73, 74, 75, 76, 77, 78, 79, 80, 81, 82, 83, 84, 3, 25, 24, 85, 86, 87, 88, 89, 90, 91, 92, 93, 94, 95, 96, 97, 26, 27, 28, 29, 30, 31, 32, 33, 34, 120, 121, 122, 123, 106, 107, 108, 109, 110, 111, 112, 113, 114, 115, 116, 117, 118, 119, 124, 125] (by decide +kernel) (by decide +kernel)
set_option maxRecDepth 20000 in
theorem gX2_would_X2_settle : GoodIn wsX2_would (wsV RX2 52 RX2 yX2_settle wsX2_settle) := goodIn_app (goodIn_of _ (by decide +kernel)) ggX2_would_X2_settle
set_option maxRecDepth 20000 in
theorem ggX2_would_X0_has : GoodIn wsX2_would wsX0_has := goodIn_r _ [93, 54, 124, 125] (by decide +kernel) (by decide +kernel)
set_option maxRecDepth 20000 in
theorem gX2_would_X0_has_n120 : GoodIn wsX2_would (wsX0_has) := ggX2_would_X0_has
set_option maxRecDepth 20000 in
theorem ggX2_would_X2_asNumber : GoodIn wsX2_would wsX2_asNumber := goodIn_r _ [100] (by decide +kernel) (by decide +kernel)
set_option maxRecDepth 20000 in
theorem gX2_would_X2_asNumber : GoodIn wsX2_would (va_wsS RX2 109 yX2_asNumber wsX2_asNumber) := goodIn_app (goodIn_of _ (by decide +kernel)) ggX2_would_X2_asNumber
set_option maxRecDepth 20000 in
theorem ggX2_would_X2_profit : GoodIn wsX2_would wsX2_profit := goodIn_r _ [104, 105, 120, 121, 122, 123, 106, 107, 108, 109, 110, 111, 112, 113, 114, 115, 116, 117, 118, 119] (by decide +kernel) (by decide +kernel)
set_option maxRecDepth 20000 in
theorem gX2_would_X2_profit : GoodIn wsX2_would (wsV RX2 133 RX2 yX2_profit wsX2_profit) := goodIn_app (goodIn_of _ (by decide +kernel)) ggX2_would_X2_profit
theorem dX2_would_0 : decode cX2_would 0 = .ok (.aload_n 0, 1) := by decide +kernel
theorem dX2_would_1 : decode cX2_would 1 = .ok (.iload_n 1, 1) := by decide +kernel
theorem dX2_would_2 : decode cX2_would 2 = .ok (.invokevirtual 97, 3) := by decide +kernel
theorem dX2_would_5 : decode cX2_would 5 = .ok (.iload_n 3, 1) := by decide +kernel
theorem dX2_would_6 : decode cX2_would 6 = .ok (.iconst 3, 1) := by decide +kernel
theorem dX2_would_7 : decode cX2_would 7 = .ok (.invokestatic 106, 3) := by decide +kernel
theorem dX2_would_10 : decode cX2_would 10 = .ok (.iload_n 2, 1) := by decide +kernel
theorem dX2_would_11 : decode cX2_would 11 = .ok (.invokestatic 92, 3) := by decide +kernel
theorem dX2_would_14 : decode cX2_would 14 = .ok (.aload_n 0, 1) := by decide +kernel
theorem dX2_would_15 : decode cX2_would 15 = .ok (.getfield 23, 3) := by decide +kernel
theorem dX2_would_18 : decode cX2_would 18 = .ok (.iload_n 1, 1) := by decide +kernel
theorem dX2_would_19 : decode cX2_would 19 = .ok (.iaload, 1) := by decide +kernel
theorem dX2_would_20 : decode cX2_would 20 = .ok (.istore 4, 2) := by decide +kernel
theorem dX2_would_22 : decode cX2_would 22 = .ok (.aload_n 0, 1) := by decide +kernel
theorem dX2_would_23 : decode cX2_would 23 = .ok (.iload_n 1, 1) := by decide +kernel
theorem dX2_would_24 : decode cX2_would 24 = .ok (.iload_n 2, 1) := by decide +kernel
theorem dX2_would_25 : decode cX2_would 25 = .ok (.invokevirtual 77, 3) := by decide +kernel
theorem dX2_would_28 : decode cX2_would 28 = .ok (.aload_n 0, 1) := by decide +kernel
theorem dX2_would_29 : decode cX2_would 29 = .ok (.aload_n 0, 1) := by decide +kernel
theorem dX2_would_30 : decode cX2_would 30 = .ok (.getfield 42, 3) := by decide +kernel
theorem dX2_would_33 : decode cX2_would 33 = .ok (.iconst 0, 1) := by decide +kernel
theorem dX2_would_34 : decode cX2_would 34 = .ok (.invokevirtual 52, 3) := by decide +kernel
theorem dX2_would_37 : decode cX2_would 37 = .ok (.aload_n 0, 1) := by decide +kernel
theorem dX2_would_38 : decode cX2_would 38 = .ok (.iload_n 1, 1) := by decide +kernel
theorem dX2_would_39 : decode cX2_would 39 = .ok (.iload 4, 2) := by decide +kernel
theorem dX2_would_41 : decode cX2_would 41 = .ok (.invokevirtual 77, 3) := by decide +kernel
theorem dX2_would_44 : decode cX2_would 44 = .ok (.iload_n 3, 1) := by decide +kernel
theorem dX2_would_45 : decode cX2_would 45 = .ok (.tableswitch 72 0 2 #[27, 42, 57], 27) := by decide +kernel
theorem dX2_would_72 : decode cX2_would 72 = .ok (.aload_n 0, 1) := by decide +kernel
theorem dX2_would_73 : decode cX2_would 73 = .ok (.getfield 42, 3) := by decide +kernel
theorem dX2_would_76 : decode cX2_would 76 = .ok (.getfield 117, 3) := by decide +kernel
theorem dX2_would_79 : decode cX2_would 79 = .ok (.iload_n 1, 1) := by decide +kernel
theorem dX2_would_80 : decode cX2_would 80 = .ok (.invokevirtual 120, 3) := by decide +kernel
theorem dX2_would_83 : decode cX2_would 83 = .ok (.invokestatic 109, 3) := by decide +kernel
theorem dX2_would_86 : decode cX2_would 86 = .ok (.ireturn, 1) := by decide +kernel
theorem dX2_would_87 : decode cX2_would 87 = .ok (.aload_n 0, 1) := by decide +kernel
theorem dX2_would_88 : decode cX2_would 88 = .ok (.getfield 42, 3) := by decide +kernel
theorem dX2_would_91 : decode cX2_would 91 = .ok (.getfield 130, 3) := by decide +kernel
theorem dX2_would_94 : decode cX2_would 94 = .ok (.aload_n 0, 1) := by decide +kernel
theorem dX2_would_95 : decode cX2_would 95 = .ok (.getfield 17, 3) := by decide +kernel
theorem dX2_would_98 : decode cX2_would 98 = .ok (.iload_n 1, 1) := by decide +kernel
theorem dX2_would_99 : decode cX2_would 99 = .ok (.iaload, 1) := by decide +kernel
theorem dX2_would_100 : decode cX2_would 100 = .ok (.iaload, 1) := by decide +kernel
theorem dX2_would_101 : decode cX2_would 101 = .ok (.ireturn, 1) := by decide +kernel
theorem dX2_would_102 : decode cX2_would 102 = .ok (.aload_n 0, 1) := by decide +kernel
theorem dX2_would_103 : decode cX2_would 103 = .ok (.aload_n 0, 1) := by decide +kernel
theorem dX2_would_104 : decode cX2_would 104 = .ok (.getfield 42, 3) := by decide +kernel
theorem dX2_would_107 : decode cX2_would 107 = .ok (.aload_n 0, 1) := by decide +kernel
theorem dX2_would_108 : decode cX2_would 108 = .ok (.getfield 17, 3) := by decide +kernel
theorem dX2_would_111 : decode cX2_would 111 = .ok (.iload_n 1, 1) := by decide +kernel
theorem dX2_would_112 : decode cX2_would 112 = .ok (.iaload, 1) := by decide +kernel
theorem dX2_would_113 : decode cX2_would 113 = .ok (.invokevirtual 133, 3) := by decide +kernel
theorem dX2_would_116 : decode cX2_would 116 = .ok (.ireturn, 1) := by decide +kernel
theorem dX2_would_117 : decode cX2_would 117 = .ok (.aload_n 0, 1) := by decide +kernel
theorem dX2_would_118 : decode cX2_would 118 = .ok (.getfield 42, 3) := by decide +kernel
theorem dX2_would_121 : decode cX2_would 121 = .ok (.getfield 117, 3) := by decide +kernel
theorem dX2_would_124 : decode cX2_would 124 = .ok (.getfield 149, 3) := by decide +kernel
theorem dX2_would_127 : decode cX2_would 127 = .ok (.ireturn, 1) := by decide +kernel
set_option maxRecDepth 20000 in
theorem ggX2_least_X2_requireBid : GoodIn wsX2_least wsX2_requireBid := goodIn_ca (goodIn_r _ [6, 7, 8, 9, 72, 73, 74, 75, 76, 77, 78, 79, 80, 81, 82, 83, 84, 85] (by decide +kernel) (by decide +kernel)) (goodIn_sub (fun _ h => List.mem_cons_of_mem _ (List.mem_append_right _ h)) (by decide +kernel))
set_option maxRecDepth 20000 in
theorem gX2_least_X2_requireBid : GoodIn wsX2_least (wsV RX2 97 RX2 yX2_requireBid wsX2_requireBid) := goodIn_app (goodIn_of _ (by decide +kernel)) ggX2_least_X2_requireBid
set_option maxRecDepth 20000 in
theorem ggX2_least_X2_winsWith : GoodIn wsX2_least wsX2_winsWith := goodIn_r _ [13, 14, 15, 16, 17, 5, 18, 1, 19, 20, 21, 22, 23, 24, 25, 26, 27, 28, 29, 30, 31, 32, 33, 34, 35, 36, 37, 38, 39, 40, 41, 42, 43, 9, 44, 45, 46, 47, 48, 49, 50, 51, 52, 53, 54, 55, 56, 57, 58, 59, 60, 61, 62, 63, 64, 65, 66, 67, 68, 69, 70, 71, 72, 73, 74, 75, 76, 77, 78, 79, 80, 81, 82, 83, 84, 85, 86, 87] (by decide +kernel) (by decide +kernel)
set_option maxRecDepth 20000 in
theorem gX2_least_X2_winsWith : GoodIn wsX2_least (wsV RX2 179 RX2 yX2_winsWith wsX2_winsWith) := goodIn_app (goodIn_of _ (by decide +kernel)) ggX2_least_X2_winsWith
set_option maxRecDepth 20000 in
theorem ggX2_least_X2_putPrice : GoodIn wsX2_least wsX2_putPrice := goodIn_r _ [18, 1, 19, 20, 21, 22, 23, 5, 24, 25, 26, 27, 28, 29, 72, 73, 74, 75, 76, 77, 78, 79, 80, 81, 82, 83, 84, 85] (by decide +kernel) (by decide +kernel)
set_option maxRecDepth 20000 in
theorem gX2_least_X2_putPrice : GoodIn wsX2_least (wsV RX2 77 RX2 yX2_putPrice wsX2_putPrice) := goodIn_app (goodIn_of _ (by decide +kernel)) ggX2_least_X2_putPrice
theorem dX2_least_0 : decode cX2_least 0 = .ok (.aload_n 0, 1) := by decide +kernel
theorem dX2_least_1 : decode cX2_least 1 = .ok (.iload_n 1, 1) := by decide +kernel
theorem dX2_least_2 : decode cX2_least 2 = .ok (.invokevirtual 97, 3) := by decide +kernel
theorem dX2_least_5 : decode cX2_least 5 = .ok (.aload_n 0, 1) := by decide +kernel
theorem dX2_least_6 : decode cX2_least 6 = .ok (.getfield 23, 3) := by decide +kernel
theorem dX2_least_9 : decode cX2_least 9 = .ok (.iload_n 1, 1) := by decide +kernel
theorem dX2_least_10 : decode cX2_least 10 = .ok (.iaload, 1) := by decide +kernel
theorem dX2_least_11 : decode cX2_least 11 = .ok (.istore_n 2, 1) := by decide +kernel
theorem dX2_least_12 : decode cX2_least 12 = .ok (.iconst (-1), 1) := by decide +kernel
theorem dX2_least_13 : decode cX2_least 13 = .ok (.istore_n 3, 1) := by decide +kernel
theorem dX2_least_14 : decode cX2_least 14 = .ok (.sipush 512, 3) := by decide +kernel
theorem dX2_least_17 : decode cX2_least 17 = .ok (.istore 4, 2) := by decide +kernel
theorem dX2_least_19 : decode cX2_least 19 = .ok (.iload 4, 2) := by decide +kernel
theorem dX2_least_21 : decode cX2_least 21 = .ok (.ifCond .le 39, 3) := by decide +kernel
theorem dX2_least_24 : decode cX2_least 24 = .ok (.iload_n 3, 1) := by decide +kernel
theorem dX2_least_25 : decode cX2_least 25 = .ok (.iload 4, 2) := by decide +kernel
theorem dX2_least_27 : decode cX2_least 27 = .ok (.iadd, 1) := by decide +kernel
theorem dX2_least_28 : decode cX2_least 28 = .ok (.istore 5, 2) := by decide +kernel
theorem dX2_least_30 : decode cX2_least 30 = .ok (.iload 5, 2) := by decide +kernel
theorem dX2_least_32 : decode cX2_least 32 = .ok (.sipush 999, 3) := by decide +kernel
theorem dX2_least_35 : decode cX2_least 35 = .ok (.if_icmp .gt 16, 3) := by decide +kernel
theorem dX2_least_38 : decode cX2_least 38 = .ok (.aload_n 0, 1) := by decide +kernel
theorem dX2_least_39 : decode cX2_least 39 = .ok (.iload_n 1, 1) := by decide +kernel
theorem dX2_least_40 : decode cX2_least 40 = .ok (.iload 5, 2) := by decide +kernel
theorem dX2_least_42 : decode cX2_least 42 = .ok (.invokevirtual 179, 3) := by decide +kernel
theorem dX2_least_45 : decode cX2_least 45 = .ok (.ifCond .ne 6, 3) := by decide +kernel
theorem dX2_least_48 : decode cX2_least 48 = .ok (.iload 5, 2) := by decide +kernel
theorem dX2_least_50 : decode cX2_least 50 = .ok (.istore_n 3, 1) := by decide +kernel
theorem dX2_least_51 : decode cX2_least 51 = .ok (.iload 4, 2) := by decide +kernel
theorem dX2_least_53 : decode cX2_least 53 = .ok (.iconst 2, 1) := by decide +kernel
theorem dX2_least_54 : decode cX2_least 54 = .ok (.idiv, 1) := by decide +kernel
theorem dX2_least_55 : decode cX2_least 55 = .ok (.istore 4, 2) := by decide +kernel
theorem dX2_least_57 : decode cX2_least 57 = .ok (.goto (-38), 3) := by decide +kernel
theorem dX2_least_60 : decode cX2_least 60 = .ok (.aload_n 0, 1) := by decide +kernel
theorem dX2_least_61 : decode cX2_least 61 = .ok (.iload_n 1, 1) := by decide +kernel
theorem dX2_least_62 : decode cX2_least 62 = .ok (.iload_n 2, 1) := by decide +kernel
theorem dX2_least_63 : decode cX2_least 63 = .ok (.invokevirtual 77, 3) := by decide +kernel
theorem dX2_least_66 : decode cX2_least 66 = .ok (.iload_n 3, 1) := by decide +kernel
theorem dX2_least_67 : decode cX2_least 67 = .ok (.sipush 999, 3) := by decide +kernel
theorem dX2_least_70 : decode cX2_least 70 = .ok (.if_icmp .ge 9, 3) := by decide +kernel
theorem dX2_least_73 : decode cX2_least 73 = .ok (.iload_n 3, 1) := by decide +kernel
theorem dX2_least_74 : decode cX2_least 74 = .ok (.iconst 1, 1) := by decide +kernel
theorem dX2_least_75 : decode cX2_least 75 = .ok (.iadd, 1) := by decide +kernel
theorem dX2_least_76 : decode cX2_least 76 = .ok (.goto 4, 3) := by decide +kernel
theorem dX2_least_79 : decode cX2_least 79 = .ok (.iconst (-1), 1) := by decide +kernel
theorem dX2_least_80 : decode cX2_least 80 = .ok (.ireturn, 1) := by decide +kernel
set_option maxRecDepth 20000 in
theorem ggX2_rival_X2_settle : GoodIn wsX2_rival wsX2_settle := goodIn_r _ [7, 1, 8, 9, 10, 11, 12, 13, 14, 15, 16, 17, 18, 19, 20, 21, 22, 23, 24, 25, 26, 27, 28, 29, 30, 6, 31, 32, 33, 34, 35, 36, 37, 38, 39, 40, 41, 42, 43, 44, 45, 46, 47, 48, 49, 50, 51, 52, 53, 54, 55, 56, 57, 58, 59, 60, 61, 62, 63, 64, 65, 66, 67, 68, 69, 70, 71, 72, 73, 74, 75, 76, 77, 78, 96, 97, 98, 99, 82, 83, 84, 85, 86, 87, 88, 89, 90, 91, 92, 93, 94, 95, 100, 101] (by decide +kernel) (by decide +kernel)
set_option maxRecDepth 20000 in
theorem gX2_rival_X2_settle : GoodIn wsX2_rival (wsV RX2 52 RX2 yX2_settle wsX2_settle) := goodIn_app (goodIn_of _ (by decide +kernel)) ggX2_rival_X2_settle
set_option maxRecDepth 20000 in
theorem ggX2_rival_X1_totalPaid : GoodIn wsX2_rival wsX1_totalPaid := goodIn_r _ [81, 16, 96, 97, 98, 99] (by decide +kernel) (by decide +kernel)
set_option maxRecDepth 20000 in
theorem gX2_rival_X1_totalPaid_n163 : GoodIn wsX2_rival (wsX1_totalPaid) := ggX2_rival_X1_totalPaid
theorem dX2_rival_0 : decode cX2_rival 0 = .ok (.iconst (-1), 1) := by decide +kernel
theorem dX2_rival_1 : decode cX2_rival 1 = .ok (.istore_n 1, 1) := by decide +kernel
theorem dX2_rival_2 : decode cX2_rival 2 = .ok (.iconst (-1), 1) := by decide +kernel
theorem dX2_rival_3 : decode cX2_rival 3 = .ok (.istore_n 2, 1) := by decide +kernel
theorem dX2_rival_4 : decode cX2_rival 4 = .ok (.iconst 0, 1) := by decide +kernel
theorem dX2_rival_5 : decode cX2_rival 5 = .ok (.istore_n 3, 1) := by decide +kernel
theorem dX2_rival_6 : decode cX2_rival 6 = .ok (.iload_n 3, 1) := by decide +kernel
theorem dX2_rival_7 : decode cX2_rival 7 = .ok (.aload_n 0, 1) := by decide +kernel
theorem dX2_rival_8 : decode cX2_rival 8 = .ok (.getfield 81, 3) := by decide +kernel
theorem dX2_rival_11 : decode cX2_rival 11 = .ok (.if_icmp .ge 40, 3) := by decide +kernel
theorem dX2_rival_14 : decode cX2_rival 14 = .ok (.aload_n 0, 1) := by decide +kernel
theorem dX2_rival_15 : decode cX2_rival 15 = .ok (.aload_n 0, 1) := by decide +kernel
theorem dX2_rival_16 : decode cX2_rival 16 = .ok (.getfield 42, 3) := by decide +kernel
theorem dX2_rival_19 : decode cX2_rival 19 = .ok (.iconst 1, 1) := by decide +kernel
theorem dX2_rival_20 : decode cX2_rival 20 = .ok (.iload_n 3, 1) := by decide +kernel
theorem dX2_rival_21 : decode cX2_rival 21 = .ok (.ishl, 1) := by decide +kernel
theorem dX2_rival_22 : decode cX2_rival 22 = .ok (.invokevirtual 52, 3) := by decide +kernel
theorem dX2_rival_25 : decode cX2_rival 25 = .ok (.aload_n 0, 1) := by decide +kernel
theorem dX2_rival_26 : decode cX2_rival 26 = .ok (.getfield 42, 3) := by decide +kernel
theorem dX2_rival_29 : decode cX2_rival 29 = .ok (.invokevirtual 163, 3) := by decide +kernel
theorem dX2_rival_32 : decode cX2_rival 32 = .ok (.istore 4, 2) := by decide +kernel
theorem dX2_rival_34 : decode cX2_rival 34 = .ok (.iload 4, 2) := by decide +kernel
theorem dX2_rival_36 : decode cX2_rival 36 = .ok (.iload_n 2, 1) := by decide +kernel
theorem dX2_rival_37 : decode cX2_rival 37 = .ok (.if_icmp .le 8, 3) := by decide +kernel
theorem dX2_rival_40 : decode cX2_rival 40 = .ok (.iload_n 3, 1) := by decide +kernel
theorem dX2_rival_41 : decode cX2_rival 41 = .ok (.istore_n 1, 1) := by decide +kernel
theorem dX2_rival_42 : decode cX2_rival 42 = .ok (.iload 4, 2) := by decide +kernel
theorem dX2_rival_44 : decode cX2_rival 44 = .ok (.istore_n 2, 1) := by decide +kernel
theorem dX2_rival_45 : decode cX2_rival 45 = .ok (.iinc 3 1, 3) := by decide +kernel
theorem dX2_rival_48 : decode cX2_rival 48 = .ok (.goto (-42), 3) := by decide +kernel
theorem dX2_rival_51 : decode cX2_rival 51 = .ok (.iload_n 1, 1) := by decide +kernel
theorem dX2_rival_52 : decode cX2_rival 52 = .ok (.ireturn, 1) := by decide +kernel
set_option maxRecDepth 20000 in
theorem ggX2_mean_J6_bitCount_0f7a4 : GoodIn wsX2_mean wsJ6_bitCount_0f7a4 := goodIn_r _ [5, 6, 7, 8] (by decide +kernel) (by decide +kernel)
set_option maxRecDepth 20000 in
theorem gX2_mean_J6_bitCount_0f7a4 : GoodIn wsX2_mean (va_wsS RX2 155 yJ6_bitCount_0f7a4 wsJ6_bitCount_0f7a4) := goodIn_app (goodIn_of _ (by decide +kernel)) ggX2_mean_J6_bitCount_0f7a4
set_option maxRecDepth 20000 in
theorem ggX2_mean_X1_totalPaid : GoodIn wsX2_mean wsX1_totalPaid := goodIn_r _ [12, 13, 28, 29, 30, 31] (by decide +kernel) (by decide +kernel)
set_option maxRecDepth 20000 in
theorem gX2_mean_X1_totalPaid_n163 : GoodIn wsX2_mean (wsX1_totalPaid) := ggX2_mean_X1_totalPaid
theorem dX2_mean_0 : decode cX2_mean 0 = .ok (.aload_n 0, 1) := by decide +kernel
theorem dX2_mean_1 : decode cX2_mean 1 = .ok (.getfield 38, 3) := by decide +kernel
theorem dX2_mean_4 : decode cX2_mean 4 = .ok (.getfield 117, 3) := by decide +kernel
theorem dX2_mean_7 : decode cX2_mean 7 = .ok (.getfield 152, 3) := by decide +kernel
theorem dX2_mean_10 : decode cX2_mean 10 = .ok (.invokestatic 155, 3) := by decide +kernel
theorem dX2_mean_13 : decode cX2_mean 13 = .ok (.istore_n 1, 1) := by decide +kernel
theorem dX2_mean_14 : decode cX2_mean 14 = .ok (.iload_n 1, 1) := by decide +kernel
theorem dX2_mean_15 : decode cX2_mean 15 = .ok (.ifCond .ne 5, 3) := by decide +kernel
theorem dX2_mean_18 : decode cX2_mean 18 = .ok (.dconst 0, 1) := by decide +kernel
theorem dX2_mean_19 : decode cX2_mean 19 = .ok (.dreturn, 1) := by decide +kernel
theorem dX2_mean_20 : decode cX2_mean 20 = .ok (.aload_n 0, 1) := by decide +kernel
theorem dX2_mean_21 : decode cX2_mean 21 = .ok (.getfield 38, 3) := by decide +kernel
theorem dX2_mean_24 : decode cX2_mean 24 = .ok (.invokevirtual 163, 3) := by decide +kernel
theorem dX2_mean_27 : decode cX2_mean 27 = .ok (.i2d, 1) := by decide +kernel
theorem dX2_mean_28 : decode cX2_mean 28 = .ok (.iload_n 1, 1) := by decide +kernel
theorem dX2_mean_29 : decode cX2_mean 29 = .ok (.i2d, 1) := by decide +kernel
theorem dX2_mean_30 : decode cX2_mean 30 = .ok (.ddiv, 1) := by decide +kernel
theorem dX2_mean_31 : decode cX2_mean 31 = .ok (.dreturn, 1) := by decide +kernel
set_option maxRecDepth 20000 in
theorem ggX2_digest_X2_count : GoodIn wsX2_digest wsX2_count := goodIn_ca (goodIn_r _ [10, 3, 4, 5, 11, 12, 13, 9, 14, 15, 16, 17, 18, 19, 20, 21, 22, 23, 24, 25, 26, 27, 28, 29, 30, 31, 32, 33, 34, 35, 36, 37, 38, 39, 40, 41, 42, 43, 44, 45, 46, 47, 48, 49, 50, 51, 52, 124, 125, 126, 127, 128, 129, 130, 131, 132, 133, 134, 135, 136, 137, 138, 139, 140, 141, 142, 143] (by decide +kernel) (by decide +kernel)) (goodIn_sub (fun _ h => List.mem_cons_of_mem _ (List.mem_append_right _ h)) (by decide +kernel))
set_option maxRecDepth 20000 in
theorem gX2_digest_X2_count : GoodIn wsX2_digest (wsV RX2 187 RX2 yX2_count wsX2_count) := goodIn_app (goodIn_of _ (by decide +kernel)) ggX2_digest_X2_count
set_option maxRecDepth 20000 in
theorem ggX2_digest_X2_digestField : GoodIn wsX2_digest wsX2_digestField := goodIn_ca (goodIn_r _ [56, 2, 57, 58, 59, 9, 60, 61, 62, 63, 64, 65, 15, 16, 3, 12, 13, 14, 66, 67, 68, 69, 5, 11, 28, 29, 30, 31, 32, 33, 70, 71, 72, 73, 74, 75, 76, 77, 78, 79, 80, 81, 82, 83, 84, 85, 86, 87, 88, 89, 90, 91, 92, 93, 94, 95, 96, 52, 97, 98, 99, 100, 124, 125, 126, 127, 128, 129, 130, 131, 132, 133, 134, 135, 136, 137, 138, 139, 140, 141, 142, 143] (by decide +kernel) (by decide +kernel)) (goodIn_sub (fun _ h => List.mem_cons_of_mem _ (List.mem_append_right _ h)) (by decide +kernel))
set_option maxRecDepth 20000 in
theorem gX2_digest_X2_digestField : GoodIn wsX2_digest (wsV RX2 190 RX2 yX2_digestField wsX2_digestField) := goodIn_app (goodIn_of _ (by decide +kernel)) ggX2_digest_X2_digestField
set_option maxRecDepth 20000 in
theorem ggX2_digest_X2_about : GoodIn wsX2_digest wsX2_about := goodIn_ca (goodIn_r _ [104, 87, 11, 105, 106, 107, 9, 108, 15, 16, 4, 12, 13, 14, 109, 110, 111, 112, 113, 114, 115, 5, 77, 86, 43, 44, 45, 46, 47, 124, 125, 126, 127, 128, 129, 130, 131, 132, 133, 134, 135, 136, 137, 138, 139, 140, 141] (by decide +kernel) (by decide +kernel)) (goodIn_sub (fun _ h => List.mem_cons_of_mem _ (List.mem_append_right _ h)) (by decide +kernel))
set_option maxRecDepth 20000 in
theorem gX2_digest_X2_about : GoodIn wsX2_digest (wsV RX2 194 RX2 yX2_about wsX2_about) := goodIn_app (goodIn_of _ (by decide +kernel)) ggX2_digest_X2_about
set_option maxRecDepth 20000 in
theorem ggX2_digest_X2_told : GoodIn wsX2_digest wsX2_told := goodIn_ca (goodIn_r _ [119, 77, 28, 52, 47, 86, 88, 11, 120, 121, 122, 9, 123, 15, 16, 5, 12, 13, 14, 109, 110, 111, 82, 83, 84, 85, 87, 29, 30, 31, 32, 33, 124, 125, 126, 127, 128, 129, 130, 131, 132, 133, 134, 135, 136, 137, 138, 139, 140, 141, 142, 143] (by decide +kernel) (by decide +kernel)) (goodIn_sub (fun _ h => List.mem_cons_of_mem _ (List.mem_append_right _ h)) (by decide +kernel))
set_option maxRecDepth 20000 in
theorem gX2_digest_X2_told : GoodIn wsX2_digest (wsV RX2 197 RX2 yX2_told wsX2_told) := goodIn_app (goodIn_of _ (by decide +kernel)) ggX2_digest_X2_told
theorem dX2_digest_0 : decode cX2_digest 0 = .ok (.ldc2_w 183, 3) := by decide +kernel
theorem dX2_digest_3 : decode cX2_digest 3 = .ok (.lstore_n 1, 1) := by decide +kernel
theorem dX2_digest_4 : decode cX2_digest 4 = .ok (.iconst 0, 1) := by decide +kernel
theorem dX2_digest_5 : decode cX2_digest 5 = .ok (.istore_n 3, 1) := by decide +kernel
theorem dX2_digest_6 : decode cX2_digest 6 = .ok (.iload_n 3, 1) := by decide +kernel
theorem dX2_digest_7 : decode cX2_digest 7 = .ok (.bipush 8, 2) := by decide +kernel
theorem dX2_digest_9 : decode cX2_digest 9 = .ok (.if_icmp .gt 22, 3) := by decide +kernel
theorem dX2_digest_12 : decode cX2_digest 12 = .ok (.lload_n 1, 1) := by decide +kernel
theorem dX2_digest_13 : decode cX2_digest 13 = .ok (.ldc2_w 185, 3) := by decide +kernel
theorem dX2_digest_16 : decode cX2_digest 16 = .ok (.lmul, 1) := by decide +kernel
theorem dX2_digest_17 : decode cX2_digest 17 = .ok (.aload_n 0, 1) := by decide +kernel
theorem dX2_digest_18 : decode cX2_digest 18 = .ok (.iload_n 3, 1) := by decide +kernel
theorem dX2_digest_19 : decode cX2_digest 19 = .ok (.invokevirtual 187, 3) := by decide +kernel
end
section
theorem dX2_digest_22 : decode cX2_digest 22 = .ok (.i2l, 1) := by decide +kernel
theorem dX2_digest_23 : decode cX2_digest 23 = .ok (.ladd, 1) := by decide +kernel
theorem dX2_digest_24 : decode cX2_digest 24 = .ok (.lstore_n 1, 1) := by decide +kernel
theorem dX2_digest_25 : decode cX2_digest 25 = .ok (.iinc 3 1, 3) := by decide +kernel
theorem dX2_digest_28 : decode cX2_digest 28 = .ok (.goto (-22), 3) := by decide +kernel
theorem dX2_digest_31 : decode cX2_digest 31 = .ok (.iconst 0, 1) := by decide +kernel
theorem dX2_digest_32 : decode cX2_digest 32 = .ok (.istore_n 3, 1) := by decide +kernel
theorem dX2_digest_33 : decode cX2_digest 33 = .ok (.iload_n 3, 1) := by decide +kernel
theorem dX2_digest_34 : decode cX2_digest 34 = .ok (.aload_n 0, 1) := by decide +kernel
theorem dX2_digest_35 : decode cX2_digest 35 = .ok (.getfield 60, 3) := by decide +kernel
theorem dX2_digest_38 : decode cX2_digest 38 = .ok (.if_icmp .ge 16, 3) := by decide +kernel
theorem dX2_digest_41 : decode cX2_digest 41 = .ok (.aload_n 0, 1) := by decide +kernel
theorem dX2_digest_42 : decode cX2_digest 42 = .ok (.lload_n 1, 1) := by decide +kernel
theorem dX2_digest_43 : decode cX2_digest 43 = .ok (.iload_n 3, 1) := by decide +kernel
theorem dX2_digest_44 : decode cX2_digest 44 = .ok (.invokevirtual 190, 3) := by decide +kernel
theorem dX2_digest_47 : decode cX2_digest 47 = .ok (.lstore_n 1, 1) := by decide +kernel
theorem dX2_digest_48 : decode cX2_digest 48 = .ok (.iinc 3 1, 3) := by decide +kernel
theorem dX2_digest_51 : decode cX2_digest 51 = .ok (.goto (-18), 3) := by decide +kernel
theorem dX2_digest_54 : decode cX2_digest 54 = .ok (.iconst 0, 1) := by decide +kernel
theorem dX2_digest_55 : decode cX2_digest 55 = .ok (.istore_n 3, 1) := by decide +kernel
theorem dX2_digest_56 : decode cX2_digest 56 = .ok (.iload_n 3, 1) := by decide +kernel
theorem dX2_digest_57 : decode cX2_digest 57 = .ok (.aload_n 0, 1) := by decide +kernel
theorem dX2_digest_58 : decode cX2_digest 58 = .ok (.getfield 81, 3) := by decide +kernel
theorem dX2_digest_61 : decode cX2_digest 61 = .ok (.if_icmp .ge 39, 3) := by decide +kernel
theorem dX2_digest_64 : decode cX2_digest 64 = .ok (.iconst 0, 1) := by decide +kernel
theorem dX2_digest_65 : decode cX2_digest 65 = .ok (.istore 4, 2) := by decide +kernel
theorem dX2_digest_67 : decode cX2_digest 67 = .ok (.iload 4, 2) := by decide +kernel
theorem dX2_digest_69 : decode cX2_digest 69 = .ok (.iconst 5, 1) := by decide +kernel
theorem dX2_digest_70 : decode cX2_digest 70 = .ok (.if_icmp .gt 24, 3) := by decide +kernel
theorem dX2_digest_73 : decode cX2_digest 73 = .ok (.lload_n 1, 1) := by decide +kernel
theorem dX2_digest_74 : decode cX2_digest 74 = .ok (.ldc2_w 185, 3) := by decide +kernel
theorem dX2_digest_77 : decode cX2_digest 77 = .ok (.lmul, 1) := by decide +kernel
theorem dX2_digest_78 : decode cX2_digest 78 = .ok (.aload_n 0, 1) := by decide +kernel
theorem dX2_digest_79 : decode cX2_digest 79 = .ok (.iload_n 3, 1) := by decide +kernel
theorem dX2_digest_80 : decode cX2_digest 80 = .ok (.iload 4, 2) := by decide +kernel
theorem dX2_digest_82 : decode cX2_digest 82 = .ok (.invokevirtual 194, 3) := by decide +kernel
theorem dX2_digest_85 : decode cX2_digest 85 = .ok (.i2l, 1) := by decide +kernel
theorem dX2_digest_86 : decode cX2_digest 86 = .ok (.ladd, 1) := by decide +kernel
theorem dX2_digest_87 : decode cX2_digest 87 = .ok (.lstore_n 1, 1) := by decide +kernel
theorem dX2_digest_88 : decode cX2_digest 88 = .ok (.iinc 4 1, 3) := by decide +kernel
theorem dX2_digest_91 : decode cX2_digest 91 = .ok (.goto (-24), 3) := by decide +kernel
theorem dX2_digest_94 : decode cX2_digest 94 = .ok (.iinc 3 1, 3) := by decide +kernel
theorem dX2_digest_97 : decode cX2_digest 97 = .ok (.goto (-41), 3) := by decide +kernel
theorem dX2_digest_100 : decode cX2_digest 100 = .ok (.iconst 0, 1) := by decide +kernel
theorem dX2_digest_101 : decode cX2_digest 101 = .ok (.istore_n 3, 1) := by decide +kernel
theorem dX2_digest_102 : decode cX2_digest 102 = .ok (.iload_n 3, 1) := by decide +kernel
theorem dX2_digest_103 : decode cX2_digest 103 = .ok (.aload_n 0, 1) := by decide +kernel
theorem dX2_digest_104 : decode cX2_digest 104 = .ok (.getfield 74, 3) := by decide +kernel
theorem dX2_digest_107 : decode cX2_digest 107 = .ok (.if_icmp .ge 40, 3) := by decide +kernel
theorem dX2_digest_110 : decode cX2_digest 110 = .ok (.iconst 0, 1) := by decide +kernel
theorem dX2_digest_111 : decode cX2_digest 111 = .ok (.istore 4, 2) := by decide +kernel
theorem dX2_digest_113 : decode cX2_digest 113 = .ok (.iload 4, 2) := by decide +kernel
theorem dX2_digest_115 : decode cX2_digest 115 = .ok (.bipush 7, 2) := by decide +kernel
theorem dX2_digest_117 : decode cX2_digest 117 = .ok (.if_icmp .gt 24, 3) := by decide +kernel
theorem dX2_digest_120 : decode cX2_digest 120 = .ok (.lload_n 1, 1) := by decide +kernel
theorem dX2_digest_121 : decode cX2_digest 121 = .ok (.ldc2_w 185, 3) := by decide +kernel
theorem dX2_digest_124 : decode cX2_digest 124 = .ok (.lmul, 1) := by decide +kernel
theorem dX2_digest_125 : decode cX2_digest 125 = .ok (.aload_n 0, 1) := by decide +kernel
theorem dX2_digest_126 : decode cX2_digest 126 = .ok (.iload_n 3, 1) := by decide +kernel
theorem dX2_digest_127 : decode cX2_digest 127 = .ok (.iload 4, 2) := by decide +kernel
theorem dX2_digest_129 : decode cX2_digest 129 = .ok (.invokevirtual 197, 3) := by decide +kernel
theorem dX2_digest_132 : decode cX2_digest 132 = .ok (.i2l, 1) := by decide +kernel
theorem dX2_digest_133 : decode cX2_digest 133 = .ok (.ladd, 1) := by decide +kernel
theorem dX2_digest_134 : decode cX2_digest 134 = .ok (.lstore_n 1, 1) := by decide +kernel
theorem dX2_digest_135 : decode cX2_digest 135 = .ok (.iinc 4 1, 3) := by decide +kernel
theorem dX2_digest_138 : decode cX2_digest 138 = .ok (.goto (-25), 3) := by decide +kernel
theorem dX2_digest_141 : decode cX2_digest 141 = .ok (.iinc 3 1, 3) := by decide +kernel
theorem dX2_digest_144 : decode cX2_digest 144 = .ok (.goto (-42), 3) := by decide +kernel
theorem dX2_digest_147 : decode cX2_digest 147 = .ok (.lload_n 1, 1) := by decide +kernel
theorem dX2_digest_148 : decode cX2_digest 148 = .ok (.lreturn, 1) := by decide +kernel
set_option maxRecDepth 20000 in
theorem ggX2_digestField_X2_land : GoodIn wsX2_digestField wsX2_land := goodIn_ca (goodIn_r _ [6, 7, 8, 9, 10, 5, 11, 12, 13, 14, 15, 16, 17, 18, 19, 20, 21, 22, 23, 24, 25, 26, 27, 28, 29, 30, 31, 32, 33, 34, 35, 36, 37, 38, 39, 40, 41, 42, 43, 44, 45, 46, 47, 48, 62, 63, 64, 65, 66, 67, 68, 69, 70, 71, 72, 73, 74, 75, 76, 77, 78, 79, 80, 81] (by decide +kernel) (by decide +kernel)) (goodIn_sub (fun _ h => List.mem_cons_of_mem _ (List.mem_append_right _ h)) (by decide +kernel))
set_option maxRecDepth 20000 in
theorem gX2_digestField_X2_land : GoodIn wsX2_digestField (wsV RX2 200 RX2 yX2_land wsX2_land) := goodIn_app (goodIn_of _ (by decide +kernel)) ggX2_digestField_X2_land
set_option maxRecDepth 20000 in
theorem ggX2_digestField_X2_alone : GoodIn wsX2_digestField wsX2_alone := goodIn_ca (goodIn_r _ [52, 37, 8, 9, 10, 5, 11, 12, 13, 14, 15, 16, 17, 53, 54, 55, 56, 22, 24, 57, 42, 43, 44, 45, 46, 47, 48, 58, 59, 60, 61, 7, 62, 63, 64, 65, 66, 67, 68, 69, 70, 71, 72, 73, 74, 75] (by decide +kernel) (by decide +kernel)) (goodIn_sub (fun _ h => List.mem_cons_of_mem _ (List.mem_append_right _ h)) (by decide +kernel))
set_option maxRecDepth 20000 in
theorem gX2_digestField_X2_alone : GoodIn wsX2_digestField (wsV RX2 203 RX2 yX2_alone wsX2_alone) := goodIn_app (goodIn_of _ (by decide +kernel)) ggX2_digestField_X2_alone
theorem dX2_digestField_0 : decode cX2_digestField 0 = .ok (.lload_n 1, 1) := by decide +kernel
theorem dX2_digestField_1 : decode cX2_digestField 1 = .ok (.lstore 4, 2) := by decide +kernel
theorem dX2_digestField_3 : decode cX2_digestField 3 = .ok (.iconst 0, 1) := by decide +kernel
theorem dX2_digestField_4 : decode cX2_digestField 4 = .ok (.istore 6, 2) := by decide +kernel
theorem dX2_digestField_6 : decode cX2_digestField 6 = .ok (.iload 6, 2) := by decide +kernel
theorem dX2_digestField_8 : decode cX2_digestField 8 = .ok (.iconst 2, 1) := by decide +kernel
theorem dX2_digestField_9 : decode cX2_digestField 9 = .ok (.if_icmp .gt 26, 3) := by decide +kernel
theorem dX2_digestField_12 : decode cX2_digestField 12 = .ok (.lload 4, 2) := by decide +kernel
theorem dX2_digestField_14 : decode cX2_digestField 14 = .ok (.ldc2_w 185, 3) := by decide +kernel
theorem dX2_digestField_17 : decode cX2_digestField 17 = .ok (.lmul, 1) := by decide +kernel
theorem dX2_digestField_18 : decode cX2_digestField 18 = .ok (.aload_n 0, 1) := by decide +kernel
theorem dX2_digestField_19 : decode cX2_digestField 19 = .ok (.iload_n 3, 1) := by decide +kernel
theorem dX2_digestField_20 : decode cX2_digestField 20 = .ok (.iload 6, 2) := by decide +kernel
theorem dX2_digestField_22 : decode cX2_digestField 22 = .ok (.invokevirtual 200, 3) := by decide +kernel
theorem dX2_digestField_25 : decode cX2_digestField 25 = .ok (.i2l, 1) := by decide +kernel
theorem dX2_digestField_26 : decode cX2_digestField 26 = .ok (.ladd, 1) := by decide +kernel
theorem dX2_digestField_27 : decode cX2_digestField 27 = .ok (.lstore 4, 2) := by decide +kernel
theorem dX2_digestField_29 : decode cX2_digestField 29 = .ok (.iinc 6 1, 3) := by decide +kernel
theorem dX2_digestField_32 : decode cX2_digestField 32 = .ok (.goto (-26), 3) := by decide +kernel
theorem dX2_digestField_35 : decode cX2_digestField 35 = .ok (.iconst 0, 1) := by decide +kernel
theorem dX2_digestField_36 : decode cX2_digestField 36 = .ok (.istore 6, 2) := by decide +kernel
theorem dX2_digestField_38 : decode cX2_digestField 38 = .ok (.iload 6, 2) := by decide +kernel
theorem dX2_digestField_40 : decode cX2_digestField 40 = .ok (.iconst 2, 1) := by decide +kernel
theorem dX2_digestField_41 : decode cX2_digestField 41 = .ok (.if_icmp .gt 26, 3) := by decide +kernel
theorem dX2_digestField_44 : decode cX2_digestField 44 = .ok (.lload 4, 2) := by decide +kernel
theorem dX2_digestField_46 : decode cX2_digestField 46 = .ok (.ldc2_w 185, 3) := by decide +kernel
theorem dX2_digestField_49 : decode cX2_digestField 49 = .ok (.lmul, 1) := by decide +kernel
theorem dX2_digestField_50 : decode cX2_digestField 50 = .ok (.aload_n 0, 1) := by decide +kernel
theorem dX2_digestField_51 : decode cX2_digestField 51 = .ok (.iload_n 3, 1) := by decide +kernel
theorem dX2_digestField_52 : decode cX2_digestField 52 = .ok (.iload 6, 2) := by decide +kernel
theorem dX2_digestField_54 : decode cX2_digestField 54 = .ok (.invokevirtual 203, 3) := by decide +kernel
theorem dX2_digestField_57 : decode cX2_digestField 57 = .ok (.i2l, 1) := by decide +kernel
theorem dX2_digestField_58 : decode cX2_digestField 58 = .ok (.ladd, 1) := by decide +kernel
theorem dX2_digestField_59 : decode cX2_digestField 59 = .ok (.lstore 4, 2) := by decide +kernel
theorem dX2_digestField_61 : decode cX2_digestField 61 = .ok (.iinc 6 1, 3) := by decide +kernel
theorem dX2_digestField_64 : decode cX2_digestField 64 = .ok (.goto (-26), 3) := by decide +kernel
theorem dX2_digestField_67 : decode cX2_digestField 67 = .ok (.lload 4, 2) := by decide +kernel
theorem dX2_digestField_69 : decode cX2_digestField 69 = .ok (.lreturn, 1) := by decide +kernel
theorem dX2_requireField_0 : decode cX2_requireField 0 = .ok (.iload_n 1, 1) := by decide +kernel
theorem dX2_requireField_1 : decode cX2_requireField 1 = .ok (.ifCond .lt 11, 3) := by decide +kernel
theorem dX2_requireField_4 : decode cX2_requireField 4 = .ok (.iload_n 1, 1) := by decide +kernel
theorem dX2_requireField_5 : decode cX2_requireField 5 = .ok (.aload_n 0, 1) := by decide +kernel
theorem dX2_requireField_6 : decode cX2_requireField 6 = .ok (.getfield 60, 3) := by decide +kernel
theorem dX2_requireField_9 : decode cX2_requireField 9 = .ok (.if_icmp .lt 13, 3) := by decide +kernel
theorem dX2_requireField_12 : decode cX2_requireField 12 = .ok (.new 206, 3) := by decide +kernel
theorem dX2_requireField_15 : decode cX2_requireField 15 = .ok (.dup, 1) := by decide +kernel
theorem dX2_requireField_16 : decode cX2_requireField 16 = .ok (.ldc 208, 2) := by decide +kernel
theorem dX2_requireField_18 : decode cX2_requireField 18 = .ok (.invokespecial 210, 3) := by decide +kernel
theorem dX2_requireField_21 : decode cX2_requireField 21 = .ok (.athrow, 1) := by decide +kernel
theorem dX2_requireField_22 : decode cX2_requireField 22 = .ok (.return_, 1) := by decide +kernel
theorem dX2_requireBidder_0 : decode cX2_requireBidder 0 = .ok (.iload_n 1, 1) := by decide +kernel
theorem dX2_requireBidder_1 : decode cX2_requireBidder 1 = .ok (.ifCond .lt 11, 3) := by decide +kernel
theorem dX2_requireBidder_4 : decode cX2_requireBidder 4 = .ok (.iload_n 1, 1) := by decide +kernel
theorem dX2_requireBidder_5 : decode cX2_requireBidder 5 = .ok (.aload_n 0, 1) := by decide +kernel
theorem dX2_requireBidder_6 : decode cX2_requireBidder 6 = .ok (.getfield 81, 3) := by decide +kernel
theorem dX2_requireBidder_9 : decode cX2_requireBidder 9 = .ok (.if_icmp .lt 13, 3) := by decide +kernel
theorem dX2_requireBidder_12 : decode cX2_requireBidder 12 = .ok (.new 206, 3) := by decide +kernel
theorem dX2_requireBidder_15 : decode cX2_requireBidder 15 = .ok (.dup, 1) := by decide +kernel
theorem dX2_requireBidder_16 : decode cX2_requireBidder 16 = .ok (.ldc 211, 2) := by decide +kernel
theorem dX2_requireBidder_18 : decode cX2_requireBidder 18 = .ok (.invokespecial 210, 3) := by decide +kernel
theorem dX2_requireBidder_21 : decode cX2_requireBidder 21 = .ok (.athrow, 1) := by decide +kernel
theorem dX2_requireBidder_22 : decode cX2_requireBidder 22 = .ok (.return_, 1) := by decide +kernel
theorem dX2_requireBid_0 : decode cX2_requireBid 0 = .ok (.iload_n 1, 1) := by decide +kernel
theorem dX2_requireBid_1 : decode cX2_requireBid 1 = .ok (.ifCond .lt 11, 3) := by decide +kernel
theorem dX2_requireBid_4 : decode cX2_requireBid 4 = .ok (.iload_n 1, 1) := by decide +kernel
theorem dX2_requireBid_5 : decode cX2_requireBid 5 = .ok (.aload_n 0, 1) := by decide +kernel
theorem dX2_requireBid_6 : decode cX2_requireBid 6 = .ok (.getfield 74, 3) := by decide +kernel
theorem dX2_requireBid_9 : decode cX2_requireBid 9 = .ok (.if_icmp .lt 13, 3) := by decide +kernel
theorem dX2_requireBid_12 : decode cX2_requireBid 12 = .ok (.new 206, 3) := by decide +kernel
theorem dX2_requireBid_15 : decode cX2_requireBid 15 = .ok (.dup, 1) := by decide +kernel
theorem dX2_requireBid_16 : decode cX2_requireBid 16 = .ok (.ldc 213, 2) := by decide +kernel
theorem dX2_requireBid_18 : decode cX2_requireBid 18 = .ok (.invokespecial 210, 3) := by decide +kernel
theorem dX2_requireBid_21 : decode cX2_requireBid 21 = .ok (.athrow, 1) := by decide +kernel
theorem dX2_requireBid_22 : decode cX2_requireBid 22 = .ok (.return_, 1) := by decide +kernel
theorem dX2_requireWhat_0 : decode cX2_requireWhat 0 = .ok (.iload_n 0, 1) := by decide +kernel
theorem dX2_requireWhat_1 : decode cX2_requireWhat 1 = .ok (.ifCond .lt 8, 3) := by decide +kernel
theorem dX2_requireWhat_4 : decode cX2_requireWhat 4 = .ok (.iload_n 0, 1) := by decide +kernel
theorem dX2_requireWhat_5 : decode cX2_requireWhat 5 = .ok (.iload_n 1, 1) := by decide +kernel
theorem dX2_requireWhat_6 : decode cX2_requireWhat 6 = .ok (.if_icmp .le 13, 3) := by decide +kernel
theorem dX2_requireWhat_9 : decode cX2_requireWhat 9 = .ok (.new 206, 3) := by decide +kernel
theorem dX2_requireWhat_12 : decode cX2_requireWhat 12 = .ok (.dup, 1) := by decide +kernel
theorem dX2_requireWhat_13 : decode cX2_requireWhat 13 = .ok (.ldc 215, 2) := by decide +kernel
theorem dX2_requireWhat_15 : decode cX2_requireWhat 15 = .ok (.invokespecial 210, 3) := by decide +kernel
theorem dX2_requireWhat_18 : decode cX2_requireWhat 18 = .ok (.athrow, 1) := by decide +kernel
theorem dX2_requireWhat_19 : decode cX2_requireWhat 19 = .ok (.return_, 1) := by decide +kernel
theorem dX2_requireReserve_0 : decode cX2_requireReserve 0 = .ok (.iload_n 0, 1) := by decide +kernel
theorem dX2_requireReserve_1 : decode cX2_requireReserve 1 = .ok (.ifCond .lt 9, 3) := by decide +kernel
theorem dX2_requireReserve_4 : decode cX2_requireReserve 4 = .ok (.iload_n 0, 1) := by decide +kernel
theorem dX2_requireReserve_5 : decode cX2_requireReserve 5 = .ok (.bipush 99, 2) := by decide +kernel
theorem dX2_requireReserve_7 : decode cX2_requireReserve 7 = .ok (.if_icmp .le 13, 3) := by decide +kernel
theorem dX2_requireReserve_10 : decode cX2_requireReserve 10 = .ok (.new 217, 3) := by decide +kernel
theorem dX2_requireReserve_13 : decode cX2_requireReserve 13 = .ok (.dup, 1) := by decide +kernel
theorem dX2_requireReserve_14 : decode cX2_requireReserve 14 = .ok (.ldc 219, 2) := by decide +kernel
theorem dX2_requireReserve_16 : decode cX2_requireReserve 16 = .ok (.invokespecial 221, 3) := by decide +kernel
theorem dX2_requireReserve_19 : decode cX2_requireReserve 19 = .ok (.athrow, 1) := by decide +kernel
theorem dX2_requireReserve_20 : decode cX2_requireReserve 20 = .ok (.return_, 1) := by decide +kernel
theorem dX2_requireAmount_0 : decode cX2_requireAmount 0 = .ok (.iload_n 0, 1) := by decide +kernel
theorem dX2_requireAmount_1 : decode cX2_requireAmount 1 = .ok (.ifCond .lt 10, 3) := by decide +kernel
theorem dX2_requireAmount_4 : decode cX2_requireAmount 4 = .ok (.iload_n 0, 1) := by decide +kernel
theorem dX2_requireAmount_5 : decode cX2_requireAmount 5 = .ok (.sipush 999, 3) := by decide +kernel
theorem dX2_requireAmount_8 : decode cX2_requireAmount 8 = .ok (.if_icmp .le 13, 3) := by decide +kernel
theorem dX2_requireAmount_11 : decode cX2_requireAmount 11 = .ok (.new 217, 3) := by decide +kernel
theorem dX2_requireAmount_14 : decode cX2_requireAmount 14 = .ok (.dup, 1) := by decide +kernel
theorem dX2_requireAmount_15 : decode cX2_requireAmount 15 = .ok (.ldc 222, 2) := by decide +kernel
theorem dX2_requireAmount_17 : decode cX2_requireAmount 17 = .ok (.invokespecial 221, 3) := by decide +kernel
theorem dX2_requireAmount_20 : decode cX2_requireAmount 20 = .ok (.athrow, 1) := by decide +kernel
theorem dX2_requireAmount_21 : decode cX2_requireAmount 21 = .ok (.return_, 1) := by decide +kernel
theorem dX2_requireBundle_0 : decode cX2_requireBundle 0 = .ok (.iload_n 1, 1) := by decide +kernel
theorem dX2_requireBundle_1 : decode cX2_requireBundle 1 = .ok (.ifCond .le 13, 3) := by decide +kernel
theorem dX2_requireBundle_4 : decode cX2_requireBundle 4 = .ok (.iload_n 1, 1) := by decide +kernel
theorem dX2_requireBundle_5 : decode cX2_requireBundle 5 = .ok (.iconst 1, 1) := by decide +kernel
theorem dX2_requireBundle_6 : decode cX2_requireBundle 6 = .ok (.aload_n 0, 1) := by decide +kernel
theorem dX2_requireBundle_7 : decode cX2_requireBundle 7 = .ok (.getfield 60, 3) := by decide +kernel
theorem dX2_requireBundle_10 : decode cX2_requireBundle 10 = .ok (.ishl, 1) := by decide +kernel
theorem dX2_requireBundle_11 : decode cX2_requireBundle 11 = .ok (.if_icmp .lt 13, 3) := by decide +kernel
theorem dX2_requireBundle_14 : decode cX2_requireBundle 14 = .ok (.new 217, 3) := by decide +kernel
theorem dX2_requireBundle_17 : decode cX2_requireBundle 17 = .ok (.dup, 1) := by decide +kernel
theorem dX2_requireBundle_18 : decode cX2_requireBundle 18 = .ok (.ldc 224, 2) := by decide +kernel
theorem dX2_requireBundle_20 : decode cX2_requireBundle 20 = .ok (.invokespecial 221, 3) := by decide +kernel
theorem dX2_requireBundle_23 : decode cX2_requireBundle 23 = .ok (.athrow, 1) := by decide +kernel
theorem dX2_requireBundle_24 : decode cX2_requireBundle 24 = .ok (.return_, 1) := by decide +kernel
set_option maxRecDepth 20000 in
theorem ggX2_putPrice_X2_reservesOf : GoodIn wsX2_putPrice wsX2_reservesOf := goodIn_r _ [8, 9, 10, 11, 12, 7, 13, 14, 15, 16, 17, 18, 19, 20, 21, 22, 23, 24, 25, 26, 27] (by decide +kernel) (by decide +kernel)
set_option maxRecDepth 20000 in
theorem gX2_putPrice_X2_reservesOf : GoodIn wsX2_putPrice (wsV RX2 226 RX2 yX2_reservesOf wsX2_reservesOf) := goodIn_app (goodIn_of _ (by decide +kernel)) ggX2_putPrice_X2_reservesOf
theorem dX2_putPrice_0 : decode cX2_putPrice 0 = .ok (.aload_n 0, 1) := by decide +kernel
theorem dX2_putPrice_1 : decode cX2_putPrice 1 = .ok (.getfield 23, 3) := by decide +kernel
theorem dX2_putPrice_4 : decode cX2_putPrice 4 = .ok (.iload_n 1, 1) := by decide +kernel
theorem dX2_putPrice_5 : decode cX2_putPrice 5 = .ok (.iload_n 2, 1) := by decide +kernel
theorem dX2_putPrice_6 : decode cX2_putPrice 6 = .ok (.iastore, 1) := by decide +kernel
theorem dX2_putPrice_7 : decode cX2_putPrice 7 = .ok (.aload_n 0, 1) := by decide +kernel
theorem dX2_putPrice_8 : decode cX2_putPrice 8 = .ok (.getfield 26, 3) := by decide +kernel
theorem dX2_putPrice_11 : decode cX2_putPrice 11 = .ok (.iload_n 1, 1) := by decide +kernel
theorem dX2_putPrice_12 : decode cX2_putPrice 12 = .ok (.iload_n 2, 1) := by decide +kernel
theorem dX2_putPrice_13 : decode cX2_putPrice 13 = .ok (.aload_n 0, 1) := by decide +kernel
theorem dX2_putPrice_14 : decode cX2_putPrice 14 = .ok (.aload_n 0, 1) := by decide +kernel
theorem dX2_putPrice_15 : decode cX2_putPrice 15 = .ok (.getfield 20, 3) := by decide +kernel
theorem dX2_putPrice_18 : decode cX2_putPrice 18 = .ok (.iload_n 1, 1) := by decide +kernel
theorem dX2_putPrice_19 : decode cX2_putPrice 19 = .ok (.iaload, 1) := by decide +kernel
theorem dX2_putPrice_20 : decode cX2_putPrice 20 = .ok (.invokevirtual 226, 3) := by decide +kernel
theorem dX2_putPrice_23 : decode cX2_putPrice 23 = .ok (.isub, 1) := by decide +kernel
theorem dX2_putPrice_24 : decode cX2_putPrice 24 = .ok (.iastore, 1) := by decide +kernel
theorem dX2_putPrice_25 : decode cX2_putPrice 25 = .ok (.return_, 1) := by decide +kernel
set_option maxRecDepth 20000 in
theorem ggX2_reservesOf_X2_hasField : GoodIn wsX2_reservesOf wsX2_hasField := goodIn_r _ [6] (by decide +kernel) (by decide +kernel)
set_option maxRecDepth 20000 in
theorem gX2_reservesOf_X2_hasField : GoodIn wsX2_reservesOf (va_wsS RX2 229 yX2_hasField wsX2_hasField) := goodIn_app (goodIn_of _ (by decide +kernel)) ggX2_reservesOf_X2_hasField
theorem dX2_reservesOf_0 : decode cX2_reservesOf 0 = .ok (.iconst 0, 1) := by decide +kernel
theorem dX2_reservesOf_1 : decode cX2_reservesOf 1 = .ok (.istore_n 2, 1) := by decide +kernel
theorem dX2_reservesOf_2 : decode cX2_reservesOf 2 = .ok (.iconst 0, 1) := by decide +kernel
theorem dX2_reservesOf_3 : decode cX2_reservesOf 3 = .ok (.istore_n 3, 1) := by decide +kernel
theorem dX2_reservesOf_4 : decode cX2_reservesOf 4 = .ok (.iload_n 3, 1) := by decide +kernel
theorem dX2_reservesOf_5 : decode cX2_reservesOf 5 = .ok (.aload_n 0, 1) := by decide +kernel
theorem dX2_reservesOf_6 : decode cX2_reservesOf 6 = .ok (.getfield 60, 3) := by decide +kernel
theorem dX2_reservesOf_9 : decode cX2_reservesOf 9 = .ok (.if_icmp .ge 26, 3) := by decide +kernel
theorem dX2_reservesOf_12 : decode cX2_reservesOf 12 = .ok (.iload_n 1, 1) := by decide +kernel
theorem dX2_reservesOf_13 : decode cX2_reservesOf 13 = .ok (.iload_n 3, 1) := by decide +kernel
theorem dX2_reservesOf_14 : decode cX2_reservesOf 14 = .ok (.invokestatic 229, 3) := by decide +kernel
theorem dX2_reservesOf_17 : decode cX2_reservesOf 17 = .ok (.ifCond .eq 12, 3) := by decide +kernel
theorem dX2_reservesOf_20 : decode cX2_reservesOf 20 = .ok (.iload_n 2, 1) := by decide +kernel
theorem dX2_reservesOf_21 : decode cX2_reservesOf 21 = .ok (.aload_n 0, 1) := by decide +kernel
theorem dX2_reservesOf_22 : decode cX2_reservesOf 22 = .ok (.getfield 9, 3) := by decide +kernel
theorem dX2_reservesOf_25 : decode cX2_reservesOf 25 = .ok (.iload_n 3, 1) := by decide +kernel
theorem dX2_reservesOf_26 : decode cX2_reservesOf 26 = .ok (.iaload, 1) := by decide +kernel
theorem dX2_reservesOf_27 : decode cX2_reservesOf 27 = .ok (.iadd, 1) := by decide +kernel
theorem dX2_reservesOf_28 : decode cX2_reservesOf 28 = .ok (.istore_n 2, 1) := by decide +kernel
theorem dX2_reservesOf_29 : decode cX2_reservesOf 29 = .ok (.iinc 3 1, 3) := by decide +kernel
theorem dX2_reservesOf_32 : decode cX2_reservesOf 32 = .ok (.goto (-28), 3) := by decide +kernel
theorem dX2_reservesOf_35 : decode cX2_reservesOf 35 = .ok (.iload_n 2, 1) := by decide +kernel
theorem dX2_reservesOf_36 : decode cX2_reservesOf 36 = .ok (.ireturn, 1) := by decide +kernel
theorem dX2_hasField_0 : decode cX2_hasField 0 = .ok (.iload_n 0, 1) := by decide +kernel
theorem dX2_hasField_1 : decode cX2_hasField 1 = .ok (.iconst 1, 1) := by decide +kernel
theorem dX2_hasField_2 : decode cX2_hasField 2 = .ok (.iload_n 1, 1) := by decide +kernel
theorem dX2_hasField_3 : decode cX2_hasField 3 = .ok (.ishl, 1) := by decide +kernel
theorem dX2_hasField_4 : decode cX2_hasField 4 = .ok (.iand, 1) := by decide +kernel
theorem dX2_hasField_5 : decode cX2_hasField 5 = .ok (.ifCond .eq 7, 3) := by decide +kernel
theorem dX2_hasField_8 : decode cX2_hasField 8 = .ok (.iconst 1, 1) := by decide +kernel
theorem dX2_hasField_9 : decode cX2_hasField 9 = .ok (.goto 4, 3) := by decide +kernel
theorem dX2_hasField_12 : decode cX2_hasField 12 = .ok (.iconst 0, 1) := by decide +kernel
theorem dX2_hasField_13 : decode cX2_hasField 13 = .ok (.ireturn, 1) := by decide +kernel
theorem dX2_counts_0 : decode cX2_counts 0 = .ok (.aload_n 0, 1) := by decide +kernel
theorem dX2_counts_1 : decode cX2_counts 1 = .ok (.getfield 32, 3) := by decide +kernel
theorem dX2_counts_4 : decode cX2_counts 4 = .ok (.iload_n 1, 1) := by decide +kernel
theorem dX2_counts_5 : decode cX2_counts 5 = .ok (.baload, 1) := by decide +kernel
theorem dX2_counts_6 : decode cX2_counts 6 = .ok (.ifCond .ne 30, 3) := by decide +kernel
theorem dX2_counts_9 : decode cX2_counts 9 = .ok (.aload_n 0, 1) := by decide +kernel
theorem dX2_counts_10 : decode cX2_counts 10 = .ok (.getfield 13, 3) := by decide +kernel
theorem dX2_counts_13 : decode cX2_counts 13 = .ok (.aload_n 0, 1) := by decide +kernel
theorem dX2_counts_14 : decode cX2_counts 14 = .ok (.getfield 17, 3) := by decide +kernel
theorem dX2_counts_17 : decode cX2_counts 17 = .ok (.iload_n 1, 1) := by decide +kernel
theorem dX2_counts_18 : decode cX2_counts 18 = .ok (.iaload, 1) := by decide +kernel
theorem dX2_counts_19 : decode cX2_counts 19 = .ok (.baload, 1) := by decide +kernel
theorem dX2_counts_20 : decode cX2_counts 20 = .ok (.ifCond .eq 16, 3) := by decide +kernel
theorem dX2_counts_23 : decode cX2_counts 23 = .ok (.aload_n 0, 1) := by decide +kernel
theorem dX2_counts_24 : decode cX2_counts 24 = .ok (.getfield 26, 3) := by decide +kernel
theorem dX2_counts_27 : decode cX2_counts 27 = .ok (.iload_n 1, 1) := by decide +kernel
theorem dX2_counts_28 : decode cX2_counts 28 = .ok (.iaload, 1) := by decide +kernel
theorem dX2_counts_29 : decode cX2_counts 29 = .ok (.ifCond .lt 7, 3) := by decide +kernel
theorem dX2_counts_32 : decode cX2_counts 32 = .ok (.iconst 1, 1) := by decide +kernel
theorem dX2_counts_33 : decode cX2_counts 33 = .ok (.goto 4, 3) := by decide +kernel
theorem dX2_counts_36 : decode cX2_counts 36 = .ok (.iconst 0, 1) := by decide +kernel
theorem dX2_counts_37 : decode cX2_counts 37 = .ok (.ireturn, 1) := by decide +kernel
set_option maxRecDepth 20000 in
theorem ggX2_bidsLeft_X2_bidsLeftOf : GoodIn wsX2_bidsLeft wsX2_bidsLeftOf := goodIn_r _ [6, 7, 8, 9, 10, 11, 12, 13, 14, 15, 16, 17, 18, 19, 20, 21, 22, 23] (by decide +kernel) (by decide +kernel)
set_option maxRecDepth 20000 in
theorem gX2_bidsLeft_X2_bidsLeftOf : GoodIn wsX2_bidsLeft (wsV RX2 123 RX2 yX2_bidsLeftOf wsX2_bidsLeftOf) := goodIn_app (goodIn_of _ (by decide +kernel)) ggX2_bidsLeft_X2_bidsLeftOf
theorem dX2_bidsLeft_0 : decode cX2_bidsLeft 0 = .ok (.iconst 0, 1) := by decide +kernel
theorem dX2_bidsLeft_1 : decode cX2_bidsLeft 1 = .ok (.istore_n 1, 1) := by decide +kernel
theorem dX2_bidsLeft_2 : decode cX2_bidsLeft 2 = .ok (.iconst 0, 1) := by decide +kernel
theorem dX2_bidsLeft_3 : decode cX2_bidsLeft 3 = .ok (.istore_n 2, 1) := by decide +kernel
theorem dX2_bidsLeft_4 : decode cX2_bidsLeft 4 = .ok (.iload_n 2, 1) := by decide +kernel
theorem dX2_bidsLeft_5 : decode cX2_bidsLeft 5 = .ok (.aload_n 0, 1) := by decide +kernel
theorem dX2_bidsLeft_6 : decode cX2_bidsLeft 6 = .ok (.getfield 81, 3) := by decide +kernel
theorem dX2_bidsLeft_9 : decode cX2_bidsLeft 9 = .ok (.if_icmp .ge 17, 3) := by decide +kernel
theorem dX2_bidsLeft_12 : decode cX2_bidsLeft 12 = .ok (.iload_n 1, 1) := by decide +kernel
theorem dX2_bidsLeft_13 : decode cX2_bidsLeft 13 = .ok (.aload_n 0, 1) := by decide +kernel
theorem dX2_bidsLeft_14 : decode cX2_bidsLeft 14 = .ok (.iload_n 2, 1) := by decide +kernel
theorem dX2_bidsLeft_15 : decode cX2_bidsLeft 15 = .ok (.invokevirtual 123, 3) := by decide +kernel
theorem dX2_bidsLeft_18 : decode cX2_bidsLeft 18 = .ok (.iadd, 1) := by decide +kernel
theorem dX2_bidsLeft_19 : decode cX2_bidsLeft 19 = .ok (.istore_n 1, 1) := by decide +kernel
theorem dX2_bidsLeft_20 : decode cX2_bidsLeft 20 = .ok (.iinc 2 1, 3) := by decide +kernel
theorem dX2_bidsLeft_23 : decode cX2_bidsLeft 23 = .ok (.goto (-19), 3) := by decide +kernel
theorem dX2_bidsLeft_26 : decode cX2_bidsLeft 26 = .ok (.iload_n 1, 1) := by decide +kernel
theorem dX2_bidsLeft_27 : decode cX2_bidsLeft 27 = .ok (.ireturn, 1) := by decide +kernel
theorem dX2_bidsLeftOf_0 : decode cX2_bidsLeftOf 0 = .ok (.iconst 0, 1) := by decide +kernel
theorem dX2_bidsLeftOf_1 : decode cX2_bidsLeftOf 1 = .ok (.istore_n 2, 1) := by decide +kernel
theorem dX2_bidsLeftOf_2 : decode cX2_bidsLeftOf 2 = .ok (.iconst 0, 1) := by decide +kernel
theorem dX2_bidsLeftOf_3 : decode cX2_bidsLeftOf 3 = .ok (.istore_n 3, 1) := by decide +kernel
theorem dX2_bidsLeftOf_4 : decode cX2_bidsLeftOf 4 = .ok (.iload_n 3, 1) := by decide +kernel
theorem dX2_bidsLeftOf_5 : decode cX2_bidsLeftOf 5 = .ok (.aload_n 0, 1) := by decide +kernel
theorem dX2_bidsLeftOf_6 : decode cX2_bidsLeftOf 6 = .ok (.getfield 74, 3) := by decide +kernel
theorem dX2_bidsLeftOf_9 : decode cX2_bidsLeftOf 9 = .ok (.if_icmp .ge 31, 3) := by decide +kernel
theorem dX2_bidsLeftOf_12 : decode cX2_bidsLeftOf 12 = .ok (.aload_n 0, 1) := by decide +kernel
theorem dX2_bidsLeftOf_13 : decode cX2_bidsLeftOf 13 = .ok (.getfield 17, 3) := by decide +kernel
theorem dX2_bidsLeftOf_16 : decode cX2_bidsLeftOf 16 = .ok (.iload_n 3, 1) := by decide +kernel
theorem dX2_bidsLeftOf_17 : decode cX2_bidsLeftOf 17 = .ok (.iaload, 1) := by decide +kernel
theorem dX2_bidsLeftOf_18 : decode cX2_bidsLeftOf 18 = .ok (.iload_n 1, 1) := by decide +kernel
theorem dX2_bidsLeftOf_19 : decode cX2_bidsLeftOf 19 = .ok (.if_icmp .ne 15, 3) := by decide +kernel
theorem dX2_bidsLeftOf_22 : decode cX2_bidsLeftOf 22 = .ok (.aload_n 0, 1) := by decide +kernel
theorem dX2_bidsLeftOf_23 : decode cX2_bidsLeftOf 23 = .ok (.getfield 32, 3) := by decide +kernel
theorem dX2_bidsLeftOf_26 : decode cX2_bidsLeftOf 26 = .ok (.iload_n 3, 1) := by decide +kernel
theorem dX2_bidsLeftOf_27 : decode cX2_bidsLeftOf 27 = .ok (.baload, 1) := by decide +kernel
theorem dX2_bidsLeftOf_28 : decode cX2_bidsLeftOf 28 = .ok (.ifCond .ne 6, 3) := by decide +kernel
theorem dX2_bidsLeftOf_31 : decode cX2_bidsLeftOf 31 = .ok (.iinc 2 1, 3) := by decide +kernel
theorem dX2_bidsLeftOf_34 : decode cX2_bidsLeftOf 34 = .ok (.iinc 3 1, 3) := by decide +kernel
theorem dX2_bidsLeftOf_37 : decode cX2_bidsLeftOf 37 = .ok (.goto (-33), 3) := by decide +kernel
theorem dX2_bidsLeftOf_40 : decode cX2_bidsLeftOf 40 = .ok (.iload_n 2, 1) := by decide +kernel
theorem dX2_bidsLeftOf_41 : decode cX2_bidsLeftOf 41 = .ok (.ireturn, 1) := by decide +kernel
set_option maxRecDepth 20000 in
theorem ggX2_countingBidsWith_X2_counts : GoodIn wsX2_countingBidsWith wsX2_counts := goodIn_r _ [7, 8, 9, 10, 11, 15, 16, 17, 18, 19, 20, 21, 22, 23, 24, 25, 26, 27, 28] (by decide +kernel) (by decide +kernel)
set_option maxRecDepth 20000 in
theorem gX2_countingBidsWith_X2_counts : GoodIn wsX2_countingBidsWith (wsV RX2 113 RX2 yX2_counts wsX2_counts) := goodIn_app (goodIn_of _ (by decide +kernel)) ggX2_countingBidsWith_X2_counts
set_option maxRecDepth 20000 in
theorem ggX2_countingBidsWith_X2_hasField : GoodIn wsX2_countingBidsWith wsX2_hasField := goodIn_r _ [14] (by decide +kernel) (by decide +kernel)
set_option maxRecDepth 20000 in
theorem gX2_countingBidsWith_X2_hasField : GoodIn wsX2_countingBidsWith (va_wsS RX2 229 yX2_hasField wsX2_hasField) := goodIn_app (goodIn_of _ (by decide +kernel)) ggX2_countingBidsWith_X2_hasField
theorem dX2_countingBidsWith_0 : decode cX2_countingBidsWith 0 = .ok (.iconst 0, 1) := by decide +kernel
theorem dX2_countingBidsWith_1 : decode cX2_countingBidsWith 1 = .ok (.istore_n 2, 1) := by decide +kernel
theorem dX2_countingBidsWith_2 : decode cX2_countingBidsWith 2 = .ok (.iconst 0, 1) := by decide +kernel
theorem dX2_countingBidsWith_3 : decode cX2_countingBidsWith 3 = .ok (.istore_n 3, 1) := by decide +kernel
theorem dX2_countingBidsWith_4 : decode cX2_countingBidsWith 4 = .ok (.iload_n 3, 1) := by decide +kernel
theorem dX2_countingBidsWith_5 : decode cX2_countingBidsWith 5 = .ok (.aload_n 0, 1) := by decide +kernel
theorem dX2_countingBidsWith_6 : decode cX2_countingBidsWith 6 = .ok (.getfield 74, 3) := by decide +kernel
theorem dX2_countingBidsWith_9 : decode cX2_countingBidsWith 9 = .ok (.if_icmp .ge 33, 3) := by decide +kernel
theorem dX2_countingBidsWith_12 : decode cX2_countingBidsWith 12 = .ok (.aload_n 0, 1) := by decide +kernel
theorem dX2_countingBidsWith_13 : decode cX2_countingBidsWith 13 = .ok (.iload_n 3, 1) := by decide +kernel
theorem dX2_countingBidsWith_14 : decode cX2_countingBidsWith 14 = .ok (.invokevirtual 113, 3) := by decide +kernel
theorem dX2_countingBidsWith_17 : decode cX2_countingBidsWith 17 = .ok (.ifCond .eq 19, 3) := by decide +kernel
theorem dX2_countingBidsWith_20 : decode cX2_countingBidsWith 20 = .ok (.aload_n 0, 1) := by decide +kernel
theorem dX2_countingBidsWith_21 : decode cX2_countingBidsWith 21 = .ok (.getfield 20, 3) := by decide +kernel
theorem dX2_countingBidsWith_24 : decode cX2_countingBidsWith 24 = .ok (.iload_n 3, 1) := by decide +kernel
theorem dX2_countingBidsWith_25 : decode cX2_countingBidsWith 25 = .ok (.iaload, 1) := by decide +kernel
theorem dX2_countingBidsWith_26 : decode cX2_countingBidsWith 26 = .ok (.iload_n 1, 1) := by decide +kernel
theorem dX2_countingBidsWith_27 : decode cX2_countingBidsWith 27 = .ok (.invokestatic 229, 3) := by decide +kernel
theorem dX2_countingBidsWith_30 : decode cX2_countingBidsWith 30 = .ok (.ifCond .eq 6, 3) := by decide +kernel
theorem dX2_countingBidsWith_33 : decode cX2_countingBidsWith 33 = .ok (.iinc 2 1, 3) := by decide +kernel
theorem dX2_countingBidsWith_36 : decode cX2_countingBidsWith 36 = .ok (.iinc 3 1, 3) := by decide +kernel
theorem dX2_countingBidsWith_39 : decode cX2_countingBidsWith 39 = .ok (.goto (-35), 3) := by decide +kernel
theorem dX2_countingBidsWith_42 : decode cX2_countingBidsWith 42 = .ok (.iload_n 2, 1) := by decide +kernel
theorem dX2_countingBidsWith_43 : decode cX2_countingBidsWith 43 = .ok (.ireturn, 1) := by decide +kernel
theorem dX2_ownerOf_0 : decode cX2_ownerOf 0 = .ok (.iload_n 1, 1) := by decide +kernel
theorem dX2_ownerOf_1 : decode cX2_ownerOf 1 = .ok (.iconst (-1), 1) := by decide +kernel
theorem dX2_ownerOf_2 : decode cX2_ownerOf 2 = .ok (.if_icmp .ne 7, 3) := by decide +kernel
theorem dX2_ownerOf_5 : decode cX2_ownerOf 5 = .ok (.iconst (-1), 1) := by decide +kernel
theorem dX2_ownerOf_6 : decode cX2_ownerOf 6 = .ok (.goto 9, 3) := by decide +kernel
theorem dX2_ownerOf_9 : decode cX2_ownerOf 9 = .ok (.aload_n 0, 1) := by decide +kernel
theorem dX2_ownerOf_10 : decode cX2_ownerOf 10 = .ok (.getfield 17, 3) := by decide +kernel
theorem dX2_ownerOf_13 : decode cX2_ownerOf 13 = .ok (.iload_n 1, 1) := by decide +kernel
theorem dX2_ownerOf_14 : decode cX2_ownerOf 14 = .ok (.iaload, 1) := by decide +kernel
theorem dX2_ownerOf_15 : decode cX2_ownerOf 15 = .ok (.ireturn, 1) := by decide +kernel
theorem dX2_asNumber_0 : decode cX2_asNumber 0 = .ok (.iload_n 0, 1) := by decide +kernel
theorem dX2_asNumber_1 : decode cX2_asNumber 1 = .ok (.ifCond .eq 7, 3) := by decide +kernel
theorem dX2_asNumber_4 : decode cX2_asNumber 4 = .ok (.iconst 1, 1) := by decide +kernel
theorem dX2_asNumber_5 : decode cX2_asNumber 5 = .ok (.goto 4, 3) := by decide +kernel
theorem dX2_asNumber_8 : decode cX2_asNumber 8 = .ok (.iconst 0, 1) := by decide +kernel
theorem dX2_asNumber_9 : decode cX2_asNumber 9 = .ok (.ireturn, 1) := by decide +kernel
set_option maxRecDepth 20000 in
theorem ggX2_settle_X1_clear : GoodIn wsX2_settle wsX1_clear := goodIn_r _ [7, 8, 9, 10, 11, 12, 13, 14, 15, 16, 17, 18, 19, 20, 21, 74, 75, 76, 77, 92, 93] (by decide +kernel) (by decide +kernel)
set_option maxRecDepth 20000 in
theorem gX2_settle_X1_clear_n232 : GoodIn wsX2_settle (wsX1_clear) := ggX2_settle_X1_clear
set_option maxRecDepth 20000 in
theorem ggX2_settle_X2_findWinners : GoodIn wsX2_settle wsX2_findWinners := goodIn_r _ [26, 12, 13, 14, 15, 16, 17, 27, 28, 29, 25, 30, 3, 31, 32, 33, 34, 35, 36, 37, 38, 39, 40, 41, 42, 43, 44, 45, 46, 47, 48, 49, 50, 51, 52, 53, 54, 55, 56, 57, 92, 93, 78, 79, 80, 81, 82, 83, 84, 85, 86, 87, 88, 89, 90, 91] (by decide +kernel) (by decide +kernel)
set_option maxRecDepth 20000 in
theorem gX2_settle_X2_findWinners : GoodIn wsX2_settle (wsV RX2 235 RX2 yX2_findWinners wsX2_findWinners) := goodIn_app (goodIn_of _ (by decide +kernel)) ggX2_settle_X2_findWinners
set_option maxRecDepth 20000 in
theorem ggX2_settle_X0_has : GoodIn wsX2_settle wsX0_has := goodIn_r _ [60, 17, 92, 93] (by decide +kernel) (by decide +kernel)
set_option maxRecDepth 20000 in
theorem gX2_settle_X0_has_n120 : GoodIn wsX2_settle (wsX0_has) := ggX2_settle_X0_has
set_option maxRecDepth 20000 in
theorem ggX2_settle_X2_award : GoodIn wsX2_settle wsX2_award := goodIn_r _ [64, 49, 51, 50, 65, 66, 67, 25, 68, 69, 70, 71, 72, 73, 78, 79, 80, 81, 82, 83, 84, 85, 86, 87, 88, 89, 90, 91, 74, 75, 76, 77, 92, 93] (by decide +kernel) (by decide +kernel)
set_option maxRecDepth 20000 in
theorem gX2_settle_X2_award : GoodIn wsX2_settle (wsV RX2 239 RX2 yX2_award wsX2_award) := goodIn_app (goodIn_of _ (by decide +kernel)) ggX2_settle_X2_award
theorem dX2_settle_0 : decode cX2_settle 0 = .ok (.aload_n 1, 1) := by decide +kernel
theorem dX2_settle_1 : decode cX2_settle 1 = .ok (.invokevirtual 232, 3) := by decide +kernel
theorem dX2_settle_4 : decode cX2_settle 4 = .ok (.aload_n 0, 1) := by decide +kernel
theorem dX2_settle_5 : decode cX2_settle 5 = .ok (.aload_n 1, 1) := by decide +kernel
theorem dX2_settle_6 : decode cX2_settle 6 = .ok (.getfield 117, 3) := by decide +kernel
theorem dX2_settle_9 : decode cX2_settle 9 = .ok (.iload_n 2, 1) := by decide +kernel
theorem dX2_settle_10 : decode cX2_settle 10 = .ok (.invokevirtual 235, 3) := by decide +kernel
theorem dX2_settle_13 : decode cX2_settle 13 = .ok (.iconst 0, 1) := by decide +kernel
theorem dX2_settle_14 : decode cX2_settle 14 = .ok (.istore_n 3, 1) := by decide +kernel
theorem dX2_settle_15 : decode cX2_settle 15 = .ok (.iload_n 3, 1) := by decide +kernel
theorem dX2_settle_16 : decode cX2_settle 16 = .ok (.aload_n 0, 1) := by decide +kernel
theorem dX2_settle_17 : decode cX2_settle 17 = .ok (.getfield 81, 3) := by decide +kernel
theorem dX2_settle_20 : decode cX2_settle 20 = .ok (.if_icmp .ge 35, 3) := by decide +kernel
theorem dX2_settle_23 : decode cX2_settle 23 = .ok (.aload_n 0, 1) := by decide +kernel
theorem dX2_settle_24 : decode cX2_settle 24 = .ok (.aload_n 0, 1) := by decide +kernel
theorem dX2_settle_25 : decode cX2_settle 25 = .ok (.getfield 48, 3) := by decide +kernel
theorem dX2_settle_28 : decode cX2_settle 28 = .ok (.iload_n 2, 1) := by decide +kernel
theorem dX2_settle_29 : decode cX2_settle 29 = .ok (.iconst 1, 1) := by decide +kernel
theorem dX2_settle_30 : decode cX2_settle 30 = .ok (.iload_n 3, 1) := by decide +kernel
theorem dX2_settle_31 : decode cX2_settle 31 = .ok (.ishl, 1) := by decide +kernel
theorem dX2_settle_32 : decode cX2_settle 32 = .ok (.ior, 1) := by decide +kernel
theorem dX2_settle_33 : decode cX2_settle 33 = .ok (.invokevirtual 235, 3) := by decide +kernel
theorem dX2_settle_36 : decode cX2_settle 36 = .ok (.aload_n 1, 1) := by decide +kernel
theorem dX2_settle_37 : decode cX2_settle 37 = .ok (.getfield 137, 3) := by decide +kernel
theorem dX2_settle_40 : decode cX2_settle 40 = .ok (.iload_n 3, 1) := by decide +kernel
theorem dX2_settle_41 : decode cX2_settle 41 = .ok (.aload_n 0, 1) := by decide +kernel
theorem dX2_settle_42 : decode cX2_settle 42 = .ok (.getfield 48, 3) := by decide +kernel
theorem dX2_settle_45 : decode cX2_settle 45 = .ok (.getfield 149, 3) := by decide +kernel
theorem dX2_settle_48 : decode cX2_settle 48 = .ok (.iastore, 1) := by decide +kernel
theorem dX2_settle_49 : decode cX2_settle 49 = .ok (.iinc 3 1, 3) := by decide +kernel
theorem dX2_settle_52 : decode cX2_settle 52 = .ok (.goto (-37), 3) := by decide +kernel
theorem dX2_settle_55 : decode cX2_settle 55 = .ok (.iconst 0, 1) := by decide +kernel
theorem dX2_settle_56 : decode cX2_settle 56 = .ok (.istore_n 3, 1) := by decide +kernel
theorem dX2_settle_57 : decode cX2_settle 57 = .ok (.iload_n 3, 1) := by decide +kernel
theorem dX2_settle_58 : decode cX2_settle 58 = .ok (.aload_n 0, 1) := by decide +kernel
theorem dX2_settle_59 : decode cX2_settle 59 = .ok (.getfield 74, 3) := by decide +kernel
theorem dX2_settle_62 : decode cX2_settle 62 = .ok (.if_icmp .ge 26, 3) := by decide +kernel
theorem dX2_settle_65 : decode cX2_settle 65 = .ok (.aload_n 1, 1) := by decide +kernel
theorem dX2_settle_66 : decode cX2_settle 66 = .ok (.getfield 117, 3) := by decide +kernel
theorem dX2_settle_69 : decode cX2_settle 69 = .ok (.iload_n 3, 1) := by decide +kernel
theorem dX2_settle_70 : decode cX2_settle 70 = .ok (.invokevirtual 120, 3) := by decide +kernel
theorem dX2_settle_73 : decode cX2_settle 73 = .ok (.ifCond .eq 9, 3) := by decide +kernel
theorem dX2_settle_76 : decode cX2_settle 76 = .ok (.aload_n 0, 1) := by decide +kernel
theorem dX2_settle_77 : decode cX2_settle 77 = .ok (.aload_n 1, 1) := by decide +kernel
theorem dX2_settle_78 : decode cX2_settle 78 = .ok (.iload_n 3, 1) := by decide +kernel
theorem dX2_settle_79 : decode cX2_settle 79 = .ok (.invokevirtual 239, 3) := by decide +kernel
theorem dX2_settle_82 : decode cX2_settle 82 = .ok (.iinc 3 1, 3) := by decide +kernel
theorem dX2_settle_85 : decode cX2_settle 85 = .ok (.goto (-28), 3) := by decide +kernel
theorem dX2_settle_88 : decode cX2_settle 88 = .ok (.return_, 1) := by decide +kernel
set_option maxRecDepth 20000 in
theorem ggX2_award_X2_reservesOf : GoodIn wsX2_award wsX2_reservesOf := goodIn_r _ [8, 9, 10, 11, 12, 7, 13, 14, 15, 16, 17, 18, 19, 20, 21, 22, 23, 24, 25, 26, 27] (by decide +kernel) (by decide +kernel)
set_option maxRecDepth 20000 in
theorem gX2_award_X2_reservesOf : GoodIn wsX2_award (wsV RX2 226 RX2 yX2_reservesOf wsX2_reservesOf) := goodIn_app (goodIn_of _ (by decide +kernel)) ggX2_award_X2_reservesOf
theorem dX2_award_0 : decode cX2_award 0 = .ok (.aload_n 0, 1) := by decide +kernel
theorem dX2_award_1 : decode cX2_award 1 = .ok (.getfield 17, 3) := by decide +kernel
theorem dX2_award_4 : decode cX2_award 4 = .ok (.iload_n 2, 1) := by decide +kernel
theorem dX2_award_5 : decode cX2_award 5 = .ok (.iaload, 1) := by decide +kernel
theorem dX2_award_6 : decode cX2_award 6 = .ok (.istore_n 3, 1) := by decide +kernel
theorem dX2_award_7 : decode cX2_award 7 = .ok (.aload_n 1, 1) := by decide +kernel
theorem dX2_award_8 : decode cX2_award 8 = .ok (.getfield 117, 3) := by decide +kernel
theorem dX2_award_11 : decode cX2_award 11 = .ok (.getfield 149, 3) := by decide +kernel
theorem dX2_award_14 : decode cX2_award 14 = .ok (.aload_n 0, 1) := by decide +kernel
theorem dX2_award_15 : decode cX2_award 15 = .ok (.getfield 26, 3) := by decide +kernel
theorem dX2_award_18 : decode cX2_award 18 = .ok (.iload_n 2, 1) := by decide +kernel
theorem dX2_award_19 : decode cX2_award 19 = .ok (.iaload, 1) := by decide +kernel
theorem dX2_award_20 : decode cX2_award 20 = .ok (.isub, 1) := by decide +kernel
theorem dX2_award_21 : decode cX2_award 21 = .ok (.istore 4, 2) := by decide +kernel
theorem dX2_award_23 : decode cX2_award 23 = .ok (.aload_n 1, 1) := by decide +kernel
theorem dX2_award_24 : decode cX2_award 24 = .ok (.getfield 127, 3) := by decide +kernel
theorem dX2_award_27 : decode cX2_award 27 = .ok (.iload_n 3, 1) := by decide +kernel
theorem dX2_award_28 : decode cX2_award 28 = .ok (.iload_n 2, 1) := by decide +kernel
theorem dX2_award_29 : decode cX2_award 29 = .ok (.iastore, 1) := by decide +kernel
theorem dX2_award_30 : decode cX2_award 30 = .ok (.aload_n 1, 1) := by decide +kernel
theorem dX2_award_31 : decode cX2_award 31 = .ok (.getfield 130, 3) := by decide +kernel
theorem dX2_award_34 : decode cX2_award 34 = .ok (.iload_n 3, 1) := by decide +kernel
theorem dX2_award_35 : decode cX2_award 35 = .ok (.aload_n 0, 1) := by decide +kernel
theorem dX2_award_36 : decode cX2_award 36 = .ok (.aload_n 0, 1) := by decide +kernel
theorem dX2_award_37 : decode cX2_award 37 = .ok (.getfield 20, 3) := by decide +kernel
theorem dX2_award_40 : decode cX2_award 40 = .ok (.iload_n 2, 1) := by decide +kernel
theorem dX2_award_41 : decode cX2_award 41 = .ok (.iaload, 1) := by decide +kernel
theorem dX2_award_42 : decode cX2_award 42 = .ok (.invokevirtual 226, 3) := by decide +kernel
theorem dX2_award_45 : decode cX2_award 45 = .ok (.aload_n 1, 1) := by decide +kernel
theorem dX2_award_46 : decode cX2_award 46 = .ok (.getfield 137, 3) := by decide +kernel
theorem dX2_award_49 : decode cX2_award 49 = .ok (.iload_n 3, 1) := by decide +kernel
theorem dX2_award_50 : decode cX2_award 50 = .ok (.iaload, 1) := by decide +kernel
theorem dX2_award_51 : decode cX2_award 51 = .ok (.iadd, 1) := by decide +kernel
theorem dX2_award_52 : decode cX2_award 52 = .ok (.iload 4, 2) := by decide +kernel
theorem dX2_award_54 : decode cX2_award 54 = .ok (.isub, 1) := by decide +kernel
theorem dX2_award_55 : decode cX2_award 55 = .ok (.iastore, 1) := by decide +kernel
theorem dX2_award_56 : decode cX2_award 56 = .ok (.return_, 1) := by decide +kernel
set_option maxRecDepth 20000 in
theorem ggX2_findWinners_X0_clear : GoodIn wsX2_findWinners wsX0_clear := goodIn_r _ [4, 5, 6, 40, 41] (by decide +kernel) (by decide +kernel)
set_option maxRecDepth 20000 in
theorem gX2_findWinners_X0_clear_n242 : GoodIn wsX2_findWinners (wsX0_clear) := ggX2_findWinners_X0_clear
set_option maxRecDepth 20000 in
theorem ggX2_findWinners_X2_seek : GoodIn wsX2_findWinners wsX2_seek := goodIn_r _ [11, 12, 13, 2, 14, 15, 5, 6, 16, 17, 18, 19, 20, 21, 22, 23, 24, 25, 26, 27, 28, 29, 10, 30, 31, 32, 33, 34, 35, 36, 37, 38, 39, 7, 8, 9, 42, 43, 44, 45, 46, 47, 48, 49, 50, 51, 52, 53, 54, 55, 40, 41] (by decide +kernel) (by decide +kernel)
set_option maxRecDepth 20000 in
theorem gX2_findWinners_X2_seek : GoodIn wsX2_findWinners (wsV RX2 243 RX2 yX2_seek wsX2_seek) := goodIn_app (goodIn_of _ (by decide +kernel)) ggX2_findWinners_X2_seek
theorem dX2_findWinners_0 : decode cX2_findWinners 0 = .ok (.aload_n 1, 1) := by decide +kernel
theorem dX2_findWinners_1 : decode cX2_findWinners 1 = .ok (.invokevirtual 242, 3) := by decide +kernel
theorem dX2_findWinners_4 : decode cX2_findWinners 4 = .ok (.aload_n 0, 1) := by decide +kernel
theorem dX2_findWinners_5 : decode cX2_findWinners 5 = .ok (.aload_n 1, 1) := by decide +kernel
theorem dX2_findWinners_6 : decode cX2_findWinners 6 = .ok (.iconst 0, 1) := by decide +kernel
theorem dX2_findWinners_7 : decode cX2_findWinners 7 = .ok (.iconst 0, 1) := by decide +kernel
theorem dX2_findWinners_8 : decode cX2_findWinners 8 = .ok (.iload_n 2, 1) := by decide +kernel
theorem dX2_findWinners_9 : decode cX2_findWinners 9 = .ok (.iconst 0, 1) := by decide +kernel
theorem dX2_findWinners_10 : decode cX2_findWinners 10 = .ok (.iconst 0, 1) := by decide +kernel
theorem dX2_findWinners_11 : decode cX2_findWinners 11 = .ok (.invokevirtual 243, 3) := by decide +kernel
theorem dX2_findWinners_14 : decode cX2_findWinners 14 = .ok (.return_, 1) := by decide +kernel
set_option maxRecDepth 20000 in
theorem ggX2_seek_X0_consider : GoodIn wsX2_seek wsX0_consider := goodIn_r _ [5, 6, 7, 8, 9, 10, 3, 11, 12, 13, 14, 15, 16, 17, 18, 50, 51] (by decide +kernel) (by decide +kernel)
set_option maxRecDepth 20000 in
theorem gX2_seek_X0_consider_n247 : GoodIn wsX2_seek (wsX0_consider) := ggX2_seek_X0_consider
set_option maxRecDepth 20000 in
theorem ggX2_seek_X2_seekWith : GoodIn wsX2_seek wsX2_seekWith := goodIn_r _ [23, 24, 25, 26, 27, 28, 29, 22, 30, 31, 32, 33, 34, 35, 0, 1, 2, 3, 4, 5, 6, 7, 8, 9, 10, 11, 12, 13, 14, 15, 16, 17, 18, 19, 20, 21, 36, 37, 38, 39, 40, 41, 42, 43, 44, 45, 46, 47, 48, 49, 50, 51] (by decide +kernel) (by decide +kernel)
set_option maxRecDepth 20000 in
theorem gX2_seek_X2_seekWith : GoodIn wsX2_seek (wsV RX2 250 RX2 yX2_seekWith wsX2_seekWith) := goodIn_app (goodIn_of _ (by decide +kernel)) ggX2_seek_X2_seekWith
theorem dX2_seek_0 : decode cX2_seek 0 = .ok (.aload_n 1, 1) := by decide +kernel
theorem dX2_seek_1 : decode cX2_seek 1 = .ok (.iload 5, 2) := by decide +kernel
theorem dX2_seek_3 : decode cX2_seek 3 = .ok (.iload 6, 2) := by decide +kernel
theorem dX2_seek_5 : decode cX2_seek 5 = .ok (.invokevirtual 247, 3) := by decide +kernel
theorem dX2_seek_8 : decode cX2_seek 8 = .ok (.iload_n 2, 1) := by decide +kernel
theorem dX2_seek_9 : decode cX2_seek 9 = .ok (.istore 7, 2) := by decide +kernel
theorem dX2_seek_11 : decode cX2_seek 11 = .ok (.iload 7, 2) := by decide +kernel
theorem dX2_seek_13 : decode cX2_seek 13 = .ok (.aload_n 0, 1) := by decide +kernel
theorem dX2_seek_14 : decode cX2_seek 14 = .ok (.getfield 74, 3) := by decide +kernel
theorem dX2_seek_17 : decode cX2_seek 17 = .ok (.if_icmp .ge 23, 3) := by decide +kernel
theorem dX2_seek_20 : decode cX2_seek 20 = .ok (.aload_n 0, 1) := by decide +kernel
theorem dX2_seek_21 : decode cX2_seek 21 = .ok (.aload_n 1, 1) := by decide +kernel
theorem dX2_seek_22 : decode cX2_seek 22 = .ok (.iload 7, 2) := by decide +kernel
theorem dX2_seek_24 : decode cX2_seek 24 = .ok (.iload_n 3, 1) := by decide +kernel
theorem dX2_seek_25 : decode cX2_seek 25 = .ok (.iload 4, 2) := by decide +kernel
theorem dX2_seek_27 : decode cX2_seek 27 = .ok (.iload 5, 2) := by decide +kernel
theorem dX2_seek_29 : decode cX2_seek 29 = .ok (.iload 6, 2) := by decide +kernel
theorem dX2_seek_31 : decode cX2_seek 31 = .ok (.invokevirtual 250, 3) := by decide +kernel
theorem dX2_seek_34 : decode cX2_seek 34 = .ok (.iinc 7 1, 3) := by decide +kernel
theorem dX2_seek_37 : decode cX2_seek 37 = .ok (.goto (-26), 3) := by decide +kernel
theorem dX2_seek_40 : decode cX2_seek 40 = .ok (.return_, 1) := by decide +kernel
set_option maxRecDepth 20000 in
theorem ggX2_seekWith_X2_counts : GoodIn wsX2_seekWith wsX2_counts := goodIn_r _ [8, 9, 10, 1, 3, 36, 37, 38, 39, 40, 41, 42, 43, 44, 45, 46, 47, 48, 49] (by decide +kernel) (by decide +kernel)
set_option maxRecDepth 20000 in
theorem gX2_seekWith_X2_counts : GoodIn wsX2_seekWith (wsV RX2 113 RX2 yX2_counts wsX2_counts) := goodIn_app (goodIn_of _ (by decide +kernel)) ggX2_seekWith_X2_counts
set_option maxRecDepth 20000 in
theorem ggX2_seekWith_X2_seek : GoodIn wsX2_seekWith wsX2_seek := goodIn_r _ [14, 15, 16, 17, 18, 19, 20, 21, 22, 23, 24, 25, 26, 27, 28, 29, 30, 31, 32, 33, 34, 35, 7, 0, 1, 2, 3, 4, 5, 6, 8, 9, 10, 11, 12, 13, 36, 37, 38, 39, 40, 41, 42, 43, 44, 45, 46, 47, 48, 49, 50, 51] (by decide +kernel) (by decide +kernel)
set_option maxRecDepth 20000 in
theorem gX2_seekWith_X2_seek : GoodIn wsX2_seekWith (wsV RX2 243 RX2 yX2_seek wsX2_seek) := goodIn_app (goodIn_of _ (by decide +kernel)) ggX2_seekWith_X2_seek
theorem dX2_seekWith_0 : decode cX2_seekWith 0 = .ok (.iconst 1, 1) := by decide +kernel
theorem dX2_seekWith_1 : decode cX2_seekWith 1 = .ok (.aload_n 0, 1) := by decide +kernel
theorem dX2_seekWith_2 : decode cX2_seekWith 2 = .ok (.getfield 17, 3) := by decide +kernel
theorem dX2_seekWith_5 : decode cX2_seekWith 5 = .ok (.iload_n 2, 1) := by decide +kernel
theorem dX2_seekWith_6 : decode cX2_seekWith 6 = .ok (.iaload, 1) := by decide +kernel
theorem dX2_seekWith_7 : decode cX2_seekWith 7 = .ok (.ishl, 1) := by decide +kernel
theorem dX2_seekWith_8 : decode cX2_seekWith 8 = .ok (.istore 7, 2) := by decide +kernel
theorem dX2_seekWith_10 : decode cX2_seekWith 10 = .ok (.iload_n 3, 1) := by decide +kernel
theorem dX2_seekWith_11 : decode cX2_seekWith 11 = .ok (.aload_n 0, 1) := by decide +kernel
theorem dX2_seekWith_12 : decode cX2_seekWith 12 = .ok (.getfield 20, 3) := by decide +kernel
theorem dX2_seekWith_15 : decode cX2_seekWith 15 = .ok (.iload_n 2, 1) := by decide +kernel
theorem dX2_seekWith_16 : decode cX2_seekWith 16 = .ok (.iaload, 1) := by decide +kernel
theorem dX2_seekWith_17 : decode cX2_seekWith 17 = .ok (.iand, 1) := by decide +kernel
theorem dX2_seekWith_18 : decode cX2_seekWith 18 = .ok (.ifCond .ne 11, 3) := by decide +kernel
theorem dX2_seekWith_21 : decode cX2_seekWith 21 = .ok (.iload 4, 2) := by decide +kernel
theorem dX2_seekWith_23 : decode cX2_seekWith 23 = .ok (.iload 7, 2) := by decide +kernel
theorem dX2_seekWith_25 : decode cX2_seekWith 25 = .ok (.iand, 1) := by decide +kernel
theorem dX2_seekWith_26 : decode cX2_seekWith 26 = .ok (.ifCond .eq 7, 3) := by decide +kernel
theorem dX2_seekWith_29 : decode cX2_seekWith 29 = .ok (.iconst 1, 1) := by decide +kernel
theorem dX2_seekWith_30 : decode cX2_seekWith 30 = .ok (.goto 4, 3) := by decide +kernel
theorem dX2_seekWith_33 : decode cX2_seekWith 33 = .ok (.iconst 0, 1) := by decide +kernel
theorem dX2_seekWith_34 : decode cX2_seekWith 34 = .ok (.istore 8, 2) := by decide +kernel
theorem dX2_seekWith_36 : decode cX2_seekWith 36 = .ok (.iload 8, 2) := by decide +kernel
theorem dX2_seekWith_38 : decode cX2_seekWith 38 = .ok (.ifCond .ne 11, 3) := by decide +kernel
theorem dX2_seekWith_41 : decode cX2_seekWith 41 = .ok (.aload_n 0, 1) := by decide +kernel
theorem dX2_seekWith_42 : decode cX2_seekWith 42 = .ok (.iload_n 2, 1) := by decide +kernel
theorem dX2_seekWith_43 : decode cX2_seekWith 43 = .ok (.invokevirtual 113, 3) := by decide +kernel
theorem dX2_seekWith_46 : decode cX2_seekWith 46 = .ok (.ifCond .ne 4, 3) := by decide +kernel
theorem dX2_seekWith_49 : decode cX2_seekWith 49 = .ok (.return_, 1) := by decide +kernel
theorem dX2_seekWith_50 : decode cX2_seekWith 50 = .ok (.aload_n 0, 1) := by decide +kernel
theorem dX2_seekWith_51 : decode cX2_seekWith 51 = .ok (.aload_n 1, 1) := by decide +kernel
theorem dX2_seekWith_52 : decode cX2_seekWith 52 = .ok (.iload_n 2, 1) := by decide +kernel
theorem dX2_seekWith_53 : decode cX2_seekWith 53 = .ok (.iconst 1, 1) := by decide +kernel
theorem dX2_seekWith_54 : decode cX2_seekWith 54 = .ok (.iadd, 1) := by decide +kernel
theorem dX2_seekWith_55 : decode cX2_seekWith 55 = .ok (.iload_n 3, 1) := by decide +kernel
theorem dX2_seekWith_56 : decode cX2_seekWith 56 = .ok (.aload_n 0, 1) := by decide +kernel
theorem dX2_seekWith_57 : decode cX2_seekWith 57 = .ok (.getfield 20, 3) := by decide +kernel
theorem dX2_seekWith_60 : decode cX2_seekWith 60 = .ok (.iload_n 2, 1) := by decide +kernel
theorem dX2_seekWith_61 : decode cX2_seekWith 61 = .ok (.iaload, 1) := by decide +kernel
theorem dX2_seekWith_62 : decode cX2_seekWith 62 = .ok (.ior, 1) := by decide +kernel
theorem dX2_seekWith_63 : decode cX2_seekWith 63 = .ok (.iload 4, 2) := by decide +kernel
theorem dX2_seekWith_65 : decode cX2_seekWith 65 = .ok (.iload 7, 2) := by decide +kernel
theorem dX2_seekWith_67 : decode cX2_seekWith 67 = .ok (.ior, 1) := by decide +kernel
theorem dX2_seekWith_68 : decode cX2_seekWith 68 = .ok (.iload 5, 2) := by decide +kernel
theorem dX2_seekWith_70 : decode cX2_seekWith 70 = .ok (.aload_n 0, 1) := by decide +kernel
theorem dX2_seekWith_71 : decode cX2_seekWith 71 = .ok (.getfield 26, 3) := by decide +kernel
theorem dX2_seekWith_74 : decode cX2_seekWith 74 = .ok (.iload_n 2, 1) := by decide +kernel
theorem dX2_seekWith_75 : decode cX2_seekWith 75 = .ok (.iaload, 1) := by decide +kernel
theorem dX2_seekWith_76 : decode cX2_seekWith 76 = .ok (.iadd, 1) := by decide +kernel
theorem dX2_seekWith_77 : decode cX2_seekWith 77 = .ok (.iload 6, 2) := by decide +kernel
theorem dX2_seekWith_79 : decode cX2_seekWith 79 = .ok (.iconst 1, 1) := by decide +kernel
theorem dX2_seekWith_80 : decode cX2_seekWith 80 = .ok (.iload_n 2, 1) := by decide +kernel
theorem dX2_seekWith_81 : decode cX2_seekWith 81 = .ok (.ishl, 1) := by decide +kernel
theorem dX2_seekWith_82 : decode cX2_seekWith 82 = .ok (.ior, 1) := by decide +kernel
theorem dX2_seekWith_83 : decode cX2_seekWith 83 = .ok (.invokevirtual 243, 3) := by decide +kernel
theorem dX2_seekWith_86 : decode cX2_seekWith 86 = .ok (.return_, 1) := by decide +kernel
set_option maxRecDepth 20000 in
theorem ggX2_winsWith_X2_putPrice : GoodIn wsX2_winsWith wsX2_putPrice := goodIn_r _ [6, 7, 8, 9, 10, 11, 12, 5, 13, 14, 15, 16, 17, 18, 62, 63, 64, 65, 66, 67, 68, 69, 70, 71, 72, 73, 74, 75] (by decide +kernel) (by decide +kernel)
set_option maxRecDepth 20000 in
theorem gX2_winsWith_X2_putPrice : GoodIn wsX2_winsWith (wsV RX2 77 RX2 yX2_putPrice wsX2_putPrice) := goodIn_app (goodIn_of _ (by decide +kernel)) ggX2_winsWith_X2_putPrice
set_option maxRecDepth 20000 in
theorem ggX2_winsWith_X2_findWinners : GoodIn wsX2_winsWith wsX2_findWinners := goodIn_r _ [22, 23, 24, 25, 26, 27, 28, 29, 30, 31, 5, 32, 33, 34, 35, 36, 37, 38, 39, 40, 41, 42, 43, 44, 45, 46, 47, 48, 49, 50, 51, 52, 9, 8, 53, 54, 55, 56, 57, 58, 76, 77, 62, 63, 64, 65, 66, 67, 68, 69, 70, 71, 72, 73, 74, 75] (by decide +kernel) (by decide +kernel)
set_option maxRecDepth 20000 in
theorem gX2_winsWith_X2_findWinners : GoodIn wsX2_winsWith (wsV RX2 235 RX2 yX2_findWinners wsX2_findWinners) := goodIn_app (goodIn_of _ (by decide +kernel)) ggX2_winsWith_X2_findWinners
set_option maxRecDepth 20000 in
theorem ggX2_winsWith_X0_has : GoodIn wsX2_winsWith wsX0_has := goodIn_r _ [61, 28, 76, 77] (by decide +kernel) (by decide +kernel)
set_option maxRecDepth 20000 in
theorem gX2_winsWith_X0_has_n120 : GoodIn wsX2_winsWith (wsX0_has) := ggX2_winsWith_X0_has
theorem dX2_winsWith_0 : decode cX2_winsWith 0 = .ok (.aload_n 0, 1) := by decide +kernel
theorem dX2_winsWith_1 : decode cX2_winsWith 1 = .ok (.iload_n 1, 1) := by decide +kernel
theorem dX2_winsWith_2 : decode cX2_winsWith 2 = .ok (.iload_n 2, 1) := by decide +kernel
theorem dX2_winsWith_3 : decode cX2_winsWith 3 = .ok (.invokevirtual 77, 3) := by decide +kernel
theorem dX2_winsWith_6 : decode cX2_winsWith 6 = .ok (.aload_n 0, 1) := by decide +kernel
theorem dX2_winsWith_7 : decode cX2_winsWith 7 = .ok (.aload_n 0, 1) := by decide +kernel
theorem dX2_winsWith_8 : decode cX2_winsWith 8 = .ok (.getfield 48, 3) := by decide +kernel
theorem dX2_winsWith_11 : decode cX2_winsWith 11 = .ok (.iconst 0, 1) := by decide +kernel
theorem dX2_winsWith_12 : decode cX2_winsWith 12 = .ok (.invokevirtual 235, 3) := by decide +kernel
theorem dX2_winsWith_15 : decode cX2_winsWith 15 = .ok (.aload_n 0, 1) := by decide +kernel
theorem dX2_winsWith_16 : decode cX2_winsWith 16 = .ok (.getfield 48, 3) := by decide +kernel
theorem dX2_winsWith_19 : decode cX2_winsWith 19 = .ok (.iload_n 1, 1) := by decide +kernel
theorem dX2_winsWith_20 : decode cX2_winsWith 20 = .ok (.invokevirtual 120, 3) := by decide +kernel
theorem dX2_winsWith_23 : decode cX2_winsWith 23 = .ok (.ireturn, 1) := by decide +kernel
theorem dX2_profit_0 : decode cX2_profit 0 = .ok (.aload_n 1, 1) := by decide +kernel
theorem dX2_profit_1 : decode cX2_profit 1 = .ok (.getfield 127, 3) := by decide +kernel
theorem dX2_profit_4 : decode cX2_profit 4 = .ok (.iload_n 2, 1) := by decide +kernel
theorem dX2_profit_5 : decode cX2_profit 5 = .ok (.iaload, 1) := by decide +kernel
theorem dX2_profit_6 : decode cX2_profit 6 = .ok (.istore_n 3, 1) := by decide +kernel
theorem dX2_profit_7 : decode cX2_profit 7 = .ok (.iload_n 3, 1) := by decide +kernel
theorem dX2_profit_8 : decode cX2_profit 8 = .ok (.iconst (-1), 1) := by decide +kernel
theorem dX2_profit_9 : decode cX2_profit 9 = .ok (.if_icmp .ne 7, 3) := by decide +kernel
theorem dX2_profit_12 : decode cX2_profit 12 = .ok (.iconst 0, 1) := by decide +kernel
theorem dX2_profit_13 : decode cX2_profit 13 = .ok (.goto 16, 3) := by decide +kernel
theorem dX2_profit_16 : decode cX2_profit 16 = .ok (.aload_n 0, 1) := by decide +kernel
theorem dX2_profit_17 : decode cX2_profit 17 = .ok (.getfield 29, 3) := by decide +kernel
theorem dX2_profit_20 : decode cX2_profit 20 = .ok (.iload_n 3, 1) := by decide +kernel
theorem dX2_profit_21 : decode cX2_profit 21 = .ok (.iaload, 1) := by decide +kernel
theorem dX2_profit_22 : decode cX2_profit 22 = .ok (.aload_n 1, 1) := by decide +kernel
theorem dX2_profit_23 : decode cX2_profit 23 = .ok (.getfield 130, 3) := by decide +kernel
theorem dX2_profit_26 : decode cX2_profit 26 = .ok (.iload_n 2, 1) := by decide +kernel
theorem dX2_profit_27 : decode cX2_profit 27 = .ok (.iaload, 1) := by decide +kernel
theorem dX2_profit_28 : decode cX2_profit 28 = .ok (.isub, 1) := by decide +kernel
theorem dX2_profit_29 : decode cX2_profit 29 = .ok (.ireturn, 1) := by decide +kernel
set_option maxRecDepth 20000 in
theorem ggX2_totalProfit_X2_profit : GoodIn wsX2_totalProfit wsX2_profit := goodIn_r _ [7, 8, 23, 24, 25, 26, 9, 10, 11, 12, 13, 14, 15, 16, 17, 18, 19, 20, 21, 22] (by decide +kernel) (by decide +kernel)
set_option maxRecDepth 20000 in
theorem gX2_totalProfit_X2_profit : GoodIn wsX2_totalProfit (wsV RX2 133 RX2 yX2_profit wsX2_profit) := goodIn_app (goodIn_of _ (by decide +kernel)) ggX2_totalProfit_X2_profit
theorem dX2_totalProfit_0 : decode cX2_totalProfit 0 = .ok (.iconst 0, 1) := by decide +kernel
theorem dX2_totalProfit_1 : decode cX2_totalProfit 1 = .ok (.istore_n 1, 1) := by decide +kernel
theorem dX2_totalProfit_2 : decode cX2_totalProfit 2 = .ok (.iconst 0, 1) := by decide +kernel
theorem dX2_totalProfit_3 : decode cX2_totalProfit 3 = .ok (.istore_n 2, 1) := by decide +kernel
theorem dX2_totalProfit_4 : decode cX2_totalProfit 4 = .ok (.iload_n 2, 1) := by decide +kernel
theorem dX2_totalProfit_5 : decode cX2_totalProfit 5 = .ok (.aload_n 0, 1) := by decide +kernel
theorem dX2_totalProfit_6 : decode cX2_totalProfit 6 = .ok (.getfield 81, 3) := by decide +kernel
theorem dX2_totalProfit_9 : decode cX2_totalProfit 9 = .ok (.if_icmp .ge 21, 3) := by decide +kernel
theorem dX2_totalProfit_12 : decode cX2_totalProfit 12 = .ok (.iload_n 1, 1) := by decide +kernel
theorem dX2_totalProfit_13 : decode cX2_totalProfit 13 = .ok (.aload_n 0, 1) := by decide +kernel
theorem dX2_totalProfit_14 : decode cX2_totalProfit 14 = .ok (.aload_n 0, 1) := by decide +kernel
theorem dX2_totalProfit_15 : decode cX2_totalProfit 15 = .ok (.getfield 38, 3) := by decide +kernel
theorem dX2_totalProfit_18 : decode cX2_totalProfit 18 = .ok (.iload_n 2, 1) := by decide +kernel
theorem dX2_totalProfit_19 : decode cX2_totalProfit 19 = .ok (.invokevirtual 133, 3) := by decide +kernel
theorem dX2_totalProfit_22 : decode cX2_totalProfit 22 = .ok (.iadd, 1) := by decide +kernel
theorem dX2_totalProfit_23 : decode cX2_totalProfit 23 = .ok (.istore_n 1, 1) := by decide +kernel
theorem dX2_totalProfit_24 : decode cX2_totalProfit 24 = .ok (.iinc 2 1, 3) := by decide +kernel
theorem dX2_totalProfit_27 : decode cX2_totalProfit 27 = .ok (.goto (-23), 3) := by decide +kernel
theorem dX2_totalProfit_30 : decode cX2_totalProfit 30 = .ok (.iload_n 1, 1) := by decide +kernel
theorem dX2_totalProfit_31 : decode cX2_totalProfit 31 = .ok (.ireturn, 1) := by decide +kernel
set_option maxRecDepth 20000 in
theorem ggX2_winningPrices_X0_has : GoodIn wsX2_winningPrices wsX0_has := goodIn_r _ [7, 8, 27, 28] (by decide +kernel) (by decide +kernel)
set_option maxRecDepth 20000 in
theorem gX2_winningPrices_X0_has_n120 : GoodIn wsX2_winningPrices (wsX0_has) := ggX2_winningPrices_X0_has
theorem dX2_winningPrices_0 : decode cX2_winningPrices 0 = .ok (.iconst 0, 1) := by decide +kernel
theorem dX2_winningPrices_1 : decode cX2_winningPrices 1 = .ok (.istore_n 1, 1) := by decide +kernel
theorem dX2_winningPrices_2 : decode cX2_winningPrices 2 = .ok (.iconst 0, 1) := by decide +kernel
theorem dX2_winningPrices_3 : decode cX2_winningPrices 3 = .ok (.istore_n 2, 1) := by decide +kernel
theorem dX2_winningPrices_4 : decode cX2_winningPrices 4 = .ok (.iload_n 2, 1) := by decide +kernel
theorem dX2_winningPrices_5 : decode cX2_winningPrices 5 = .ok (.aload_n 0, 1) := by decide +kernel
theorem dX2_winningPrices_6 : decode cX2_winningPrices 6 = .ok (.getfield 74, 3) := by decide +kernel
theorem dX2_winningPrices_9 : decode cX2_winningPrices 9 = .ok (.if_icmp .ge 32, 3) := by decide +kernel
theorem dX2_winningPrices_12 : decode cX2_winningPrices 12 = .ok (.aload_n 0, 1) := by decide +kernel
theorem dX2_winningPrices_13 : decode cX2_winningPrices 13 = .ok (.getfield 38, 3) := by decide +kernel
theorem dX2_winningPrices_16 : decode cX2_winningPrices 16 = .ok (.getfield 117, 3) := by decide +kernel
theorem dX2_winningPrices_19 : decode cX2_winningPrices 19 = .ok (.iload_n 2, 1) := by decide +kernel
theorem dX2_winningPrices_20 : decode cX2_winningPrices 20 = .ok (.invokevirtual 120, 3) := by decide +kernel
theorem dX2_winningPrices_23 : decode cX2_winningPrices 23 = .ok (.ifCond .eq 12, 3) := by decide +kernel
theorem dX2_winningPrices_26 : decode cX2_winningPrices 26 = .ok (.iload_n 1, 1) := by decide +kernel
theorem dX2_winningPrices_27 : decode cX2_winningPrices 27 = .ok (.aload_n 0, 1) := by decide +kernel
theorem dX2_winningPrices_28 : decode cX2_winningPrices 28 = .ok (.getfield 23, 3) := by decide +kernel
theorem dX2_winningPrices_31 : decode cX2_winningPrices 31 = .ok (.iload_n 2, 1) := by decide +kernel
theorem dX2_winningPrices_32 : decode cX2_winningPrices 32 = .ok (.iaload, 1) := by decide +kernel
theorem dX2_winningPrices_33 : decode cX2_winningPrices 33 = .ok (.iadd, 1) := by decide +kernel
theorem dX2_winningPrices_34 : decode cX2_winningPrices 34 = .ok (.istore_n 1, 1) := by decide +kernel
theorem dX2_winningPrices_35 : decode cX2_winningPrices 35 = .ok (.iinc 2 1, 3) := by decide +kernel
theorem dX2_winningPrices_38 : decode cX2_winningPrices 38 = .ok (.goto (-34), 3) := by decide +kernel
theorem dX2_winningPrices_41 : decode cX2_winningPrices 41 = .ok (.iload_n 1, 1) := by decide +kernel
theorem dX2_winningPrices_42 : decode cX2_winningPrices 42 = .ok (.ireturn, 1) := by decide +kernel
set_option maxRecDepth 20000 in
theorem ggX2_soldFields_X0_has : GoodIn wsX2_soldFields wsX0_has := goodIn_r _ [7, 8, 27, 28] (by decide +kernel) (by decide +kernel)
set_option maxRecDepth 20000 in
theorem gX2_soldFields_X0_has_n120 : GoodIn wsX2_soldFields (wsX0_has) := ggX2_soldFields_X0_has
theorem dX2_soldFields_0 : decode cX2_soldFields 0 = .ok (.iconst 0, 1) := by decide +kernel
theorem dX2_soldFields_1 : decode cX2_soldFields 1 = .ok (.istore_n 1, 1) := by decide +kernel
theorem dX2_soldFields_2 : decode cX2_soldFields 2 = .ok (.iconst 0, 1) := by decide +kernel
theorem dX2_soldFields_3 : decode cX2_soldFields 3 = .ok (.istore_n 2, 1) := by decide +kernel
theorem dX2_soldFields_4 : decode cX2_soldFields 4 = .ok (.iload_n 2, 1) := by decide +kernel
theorem dX2_soldFields_5 : decode cX2_soldFields 5 = .ok (.aload_n 0, 1) := by decide +kernel
theorem dX2_soldFields_6 : decode cX2_soldFields 6 = .ok (.getfield 74, 3) := by decide +kernel
theorem dX2_soldFields_9 : decode cX2_soldFields 9 = .ok (.if_icmp .ge 32, 3) := by decide +kernel
theorem dX2_soldFields_12 : decode cX2_soldFields 12 = .ok (.aload_n 0, 1) := by decide +kernel
theorem dX2_soldFields_13 : decode cX2_soldFields 13 = .ok (.getfield 38, 3) := by decide +kernel
theorem dX2_soldFields_16 : decode cX2_soldFields 16 = .ok (.getfield 117, 3) := by decide +kernel
theorem dX2_soldFields_19 : decode cX2_soldFields 19 = .ok (.iload_n 2, 1) := by decide +kernel
theorem dX2_soldFields_20 : decode cX2_soldFields 20 = .ok (.invokevirtual 120, 3) := by decide +kernel
theorem dX2_soldFields_23 : decode cX2_soldFields 23 = .ok (.ifCond .eq 12, 3) := by decide +kernel
theorem dX2_soldFields_26 : decode cX2_soldFields 26 = .ok (.iload_n 1, 1) := by decide +kernel
theorem dX2_soldFields_27 : decode cX2_soldFields 27 = .ok (.aload_n 0, 1) := by decide +kernel
theorem dX2_soldFields_28 : decode cX2_soldFields 28 = .ok (.getfield 20, 3) := by decide +kernel
theorem dX2_soldFields_31 : decode cX2_soldFields 31 = .ok (.iload_n 2, 1) := by decide +kernel
theorem dX2_soldFields_32 : decode cX2_soldFields 32 = .ok (.iaload, 1) := by decide +kernel
theorem dX2_soldFields_33 : decode cX2_soldFields 33 = .ok (.ior, 1) := by decide +kernel
theorem dX2_soldFields_34 : decode cX2_soldFields 34 = .ok (.istore_n 1, 1) := by decide +kernel
theorem dX2_soldFields_35 : decode cX2_soldFields 35 = .ok (.iinc 2 1, 3) := by decide +kernel
theorem dX2_soldFields_38 : decode cX2_soldFields 38 = .ok (.goto (-34), 3) := by decide +kernel
theorem dX2_soldFields_41 : decode cX2_soldFields 41 = .ok (.iload_n 1, 1) := by decide +kernel
theorem dX2_soldFields_42 : decode cX2_soldFields 42 = .ok (.ireturn, 1) := by decide +kernel
set_option maxRecDepth 20000 in
theorem ggX2_winnerOfField_X0_has : GoodIn wsX2_winnerOfField wsX0_has := goodIn_r _ [7, 8, 31, 32] (by decide +kernel) (by decide +kernel)
set_option maxRecDepth 20000 in
theorem gX2_winnerOfField_X0_has_n120 : GoodIn wsX2_winnerOfField (wsX0_has) := ggX2_winnerOfField_X0_has
set_option maxRecDepth 20000 in
theorem ggX2_winnerOfField_X2_hasField : GoodIn wsX2_winnerOfField wsX2_hasField := goodIn_r _ [12] (by decide +kernel) (by decide +kernel)
set_option maxRecDepth 20000 in
theorem gX2_winnerOfField_X2_hasField : GoodIn wsX2_winnerOfField (va_wsS RX2 229 yX2_hasField wsX2_hasField) := goodIn_app (goodIn_of _ (by decide +kernel)) ggX2_winnerOfField_X2_hasField
theorem dX2_winnerOfField_0 : decode cX2_winnerOfField 0 = .ok (.iconst 0, 1) := by decide +kernel
theorem dX2_winnerOfField_1 : decode cX2_winnerOfField 1 = .ok (.istore_n 2, 1) := by decide +kernel
theorem dX2_winnerOfField_2 : decode cX2_winnerOfField 2 = .ok (.iload_n 2, 1) := by decide +kernel
theorem dX2_winnerOfField_3 : decode cX2_winnerOfField 3 = .ok (.aload_n 0, 1) := by decide +kernel
theorem dX2_winnerOfField_4 : decode cX2_winnerOfField 4 = .ok (.getfield 74, 3) := by decide +kernel
theorem dX2_winnerOfField_7 : decode cX2_winnerOfField 7 = .ok (.if_icmp .ge 38, 3) := by decide +kernel
theorem dX2_winnerOfField_10 : decode cX2_winnerOfField 10 = .ok (.aload_n 0, 1) := by decide +kernel
theorem dX2_winnerOfField_11 : decode cX2_winnerOfField 11 = .ok (.getfield 38, 3) := by decide +kernel
theorem dX2_winnerOfField_14 : decode cX2_winnerOfField 14 = .ok (.getfield 117, 3) := by decide +kernel
theorem dX2_winnerOfField_17 : decode cX2_winnerOfField 17 = .ok (.iload_n 2, 1) := by decide +kernel
theorem dX2_winnerOfField_18 : decode cX2_winnerOfField 18 = .ok (.invokevirtual 120, 3) := by decide +kernel
theorem dX2_winnerOfField_21 : decode cX2_winnerOfField 21 = .ok (.ifCond .eq 18, 3) := by decide +kernel
theorem dX2_winnerOfField_24 : decode cX2_winnerOfField 24 = .ok (.aload_n 0, 1) := by decide +kernel
theorem dX2_winnerOfField_25 : decode cX2_winnerOfField 25 = .ok (.getfield 20, 3) := by decide +kernel
theorem dX2_winnerOfField_28 : decode cX2_winnerOfField 28 = .ok (.iload_n 2, 1) := by decide +kernel
theorem dX2_winnerOfField_29 : decode cX2_winnerOfField 29 = .ok (.iaload, 1) := by decide +kernel
theorem dX2_winnerOfField_30 : decode cX2_winnerOfField 30 = .ok (.iload_n 1, 1) := by decide +kernel
theorem dX2_winnerOfField_31 : decode cX2_winnerOfField 31 = .ok (.invokestatic 229, 3) := by decide +kernel
theorem dX2_winnerOfField_34 : decode cX2_winnerOfField 34 = .ok (.ifCond .eq 5, 3) := by decide +kernel
theorem dX2_winnerOfField_37 : decode cX2_winnerOfField 37 = .ok (.iload_n 2, 1) := by decide +kernel
theorem dX2_winnerOfField_38 : decode cX2_winnerOfField 38 = .ok (.ireturn, 1) := by decide +kernel
theorem dX2_winnerOfField_39 : decode cX2_winnerOfField 39 = .ok (.iinc 2 1, 3) := by decide +kernel
theorem dX2_winnerOfField_42 : decode cX2_winnerOfField 42 = .ok (.goto (-40), 3) := by decide +kernel
theorem dX2_winnerOfField_45 : decode cX2_winnerOfField 45 = .ok (.iconst (-1), 1) := by decide +kernel
theorem dX2_winnerOfField_46 : decode cX2_winnerOfField 46 = .ok (.ireturn, 1) := by decide +kernel
set_option maxRecDepth 20000 in
theorem ggX2_highestAlone_X2_counts : GoodIn wsX2_highestAlone wsX2_counts := goodIn_r _ [9, 10, 11, 3, 12, 13, 14, 15, 16, 17, 18, 19, 20, 21, 22, 23, 24, 25, 26] (by decide +kernel) (by decide +kernel)
set_option maxRecDepth 20000 in
theorem gX2_highestAlone_X2_counts : GoodIn wsX2_highestAlone (wsV RX2 113 RX2 yX2_counts wsX2_counts) := goodIn_app (goodIn_of _ (by decide +kernel)) ggX2_highestAlone_X2_counts
theorem dX2_highestAlone_0 : decode cX2_highestAlone 0 = .ok (.iconst (-1), 1) := by decide +kernel
theorem dX2_highestAlone_1 : decode cX2_highestAlone 1 = .ok (.istore_n 3, 1) := by decide +kernel
theorem dX2_highestAlone_2 : decode cX2_highestAlone 2 = .ok (.iconst 0, 1) := by decide +kernel
theorem dX2_highestAlone_3 : decode cX2_highestAlone 3 = .ok (.istore 4, 2) := by decide +kernel
theorem dX2_highestAlone_5 : decode cX2_highestAlone 5 = .ok (.iload 4, 2) := by decide +kernel
theorem dX2_highestAlone_7 : decode cX2_highestAlone 7 = .ok (.aload_n 0, 1) := by decide +kernel
theorem dX2_highestAlone_8 : decode cX2_highestAlone 8 = .ok (.getfield 74, 3) := by decide +kernel
theorem dX2_highestAlone_11 : decode cX2_highestAlone 11 = .ok (.if_icmp .ge 78, 3) := by decide +kernel
theorem dX2_highestAlone_14 : decode cX2_highestAlone 14 = .ok (.aload_n 0, 1) := by decide +kernel
theorem dX2_highestAlone_15 : decode cX2_highestAlone 15 = .ok (.iload 4, 2) := by decide +kernel
theorem dX2_highestAlone_17 : decode cX2_highestAlone 17 = .ok (.invokevirtual 113, 3) := by decide +kernel
theorem dX2_highestAlone_20 : decode cX2_highestAlone 20 = .ok (.ifCond .eq 31, 3) := by decide +kernel
theorem dX2_highestAlone_23 : decode cX2_highestAlone 23 = .ok (.aload_n 0, 1) := by decide +kernel
theorem dX2_highestAlone_24 : decode cX2_highestAlone 24 = .ok (.getfield 20, 3) := by decide +kernel
theorem dX2_highestAlone_27 : decode cX2_highestAlone 27 = .ok (.iload 4, 2) := by decide +kernel
theorem dX2_highestAlone_29 : decode cX2_highestAlone 29 = .ok (.iaload, 1) := by decide +kernel
theorem dX2_highestAlone_30 : decode cX2_highestAlone 30 = .ok (.iconst 1, 1) := by decide +kernel
theorem dX2_highestAlone_31 : decode cX2_highestAlone 31 = .ok (.iload_n 1, 1) := by decide +kernel
theorem dX2_highestAlone_32 : decode cX2_highestAlone 32 = .ok (.ishl, 1) := by decide +kernel
theorem dX2_highestAlone_33 : decode cX2_highestAlone 33 = .ok (.if_icmp .ne 18, 3) := by decide +kernel
theorem dX2_highestAlone_36 : decode cX2_highestAlone 36 = .ok (.aload_n 0, 1) := by decide +kernel
theorem dX2_highestAlone_37 : decode cX2_highestAlone 37 = .ok (.getfield 17, 3) := by decide +kernel
theorem dX2_highestAlone_40 : decode cX2_highestAlone 40 = .ok (.iload 4, 2) := by decide +kernel
theorem dX2_highestAlone_42 : decode cX2_highestAlone 42 = .ok (.iaload, 1) := by decide +kernel
theorem dX2_highestAlone_43 : decode cX2_highestAlone 43 = .ok (.iload_n 2, 1) := by decide +kernel
theorem dX2_highestAlone_44 : decode cX2_highestAlone 44 = .ok (.if_icmp .eq 7, 3) := by decide +kernel
theorem dX2_highestAlone_47 : decode cX2_highestAlone 47 = .ok (.iconst 1, 1) := by decide +kernel
theorem dX2_highestAlone_48 : decode cX2_highestAlone 48 = .ok (.goto 4, 3) := by decide +kernel
theorem dX2_highestAlone_51 : decode cX2_highestAlone 51 = .ok (.iconst 0, 1) := by decide +kernel
theorem dX2_highestAlone_52 : decode cX2_highestAlone 52 = .ok (.istore 5, 2) := by decide +kernel
theorem dX2_highestAlone_54 : decode cX2_highestAlone 54 = .ok (.iload 5, 2) := by decide +kernel
theorem dX2_highestAlone_56 : decode cX2_highestAlone 56 = .ok (.ifCond .eq 27, 3) := by decide +kernel
theorem dX2_highestAlone_59 : decode cX2_highestAlone 59 = .ok (.iload_n 3, 1) := by decide +kernel
theorem dX2_highestAlone_60 : decode cX2_highestAlone 60 = .ok (.iconst (-1), 1) := by decide +kernel
theorem dX2_highestAlone_61 : decode cX2_highestAlone 61 = .ok (.if_icmp .eq 19, 3) := by decide +kernel
theorem dX2_highestAlone_64 : decode cX2_highestAlone 64 = .ok (.aload_n 0, 1) := by decide +kernel
theorem dX2_highestAlone_65 : decode cX2_highestAlone 65 = .ok (.getfield 23, 3) := by decide +kernel
theorem dX2_highestAlone_68 : decode cX2_highestAlone 68 = .ok (.iload 4, 2) := by decide +kernel
theorem dX2_highestAlone_70 : decode cX2_highestAlone 70 = .ok (.iaload, 1) := by decide +kernel
theorem dX2_highestAlone_71 : decode cX2_highestAlone 71 = .ok (.aload_n 0, 1) := by decide +kernel
theorem dX2_highestAlone_72 : decode cX2_highestAlone 72 = .ok (.getfield 23, 3) := by decide +kernel
theorem dX2_highestAlone_75 : decode cX2_highestAlone 75 = .ok (.iload_n 3, 1) := by decide +kernel
theorem dX2_highestAlone_76 : decode cX2_highestAlone 76 = .ok (.iaload, 1) := by decide +kernel
theorem dX2_highestAlone_77 : decode cX2_highestAlone 77 = .ok (.if_icmp .le 6, 3) := by decide +kernel
theorem dX2_highestAlone_80 : decode cX2_highestAlone 80 = .ok (.iload 4, 2) := by decide +kernel
theorem dX2_highestAlone_82 : decode cX2_highestAlone 82 = .ok (.istore_n 3, 1) := by decide +kernel
theorem dX2_highestAlone_83 : decode cX2_highestAlone 83 = .ok (.iinc 4 1, 3) := by decide +kernel
theorem dX2_highestAlone_86 : decode cX2_highestAlone 86 = .ok (.goto (-81), 3) := by decide +kernel
theorem dX2_highestAlone_89 : decode cX2_highestAlone 89 = .ok (.iload_n 3, 1) := by decide +kernel
theorem dX2_highestAlone_90 : decode cX2_highestAlone 90 = .ok (.ireturn, 1) := by decide +kernel
set_option maxRecDepth 20000 in
theorem ggX2_secondPrice_X2_highestAlone : GoodIn wsX2_secondPrice wsX2_highestAlone := goodIn_r _ [8, 9, 10, 1, 3, 11, 12, 13, 7, 14, 15, 16, 17, 18, 19, 20, 21, 22, 23, 24, 25, 26, 27, 28, 29, 30, 31] (by decide +kernel) (by decide +kernel)
set_option maxRecDepth 20000 in
theorem gX2_secondPrice_X2_highestAlone : GoodIn wsX2_secondPrice (wsV RX2 172 RX2 yX2_highestAlone wsX2_highestAlone) := goodIn_app (goodIn_of _ (by decide +kernel)) ggX2_secondPrice_X2_highestAlone
theorem dX2_secondPrice_0 : decode cX2_secondPrice 0 = .ok (.aload_n 0, 1) := by decide +kernel
theorem dX2_secondPrice_1 : decode cX2_secondPrice 1 = .ok (.iload_n 1, 1) := by decide +kernel
theorem dX2_secondPrice_2 : decode cX2_secondPrice 2 = .ok (.aload_n 0, 1) := by decide +kernel
theorem dX2_secondPrice_3 : decode cX2_secondPrice 3 = .ok (.getfield 17, 3) := by decide +kernel
theorem dX2_secondPrice_6 : decode cX2_secondPrice 6 = .ok (.iload_n 2, 1) := by decide +kernel
theorem dX2_secondPrice_7 : decode cX2_secondPrice 7 = .ok (.iaload, 1) := by decide +kernel
theorem dX2_secondPrice_8 : decode cX2_secondPrice 8 = .ok (.invokevirtual 172, 3) := by decide +kernel
theorem dX2_secondPrice_11 : decode cX2_secondPrice 11 = .ok (.istore_n 3, 1) := by decide +kernel
theorem dX2_secondPrice_12 : decode cX2_secondPrice 12 = .ok (.iload_n 3, 1) := by decide +kernel
theorem dX2_secondPrice_13 : decode cX2_secondPrice 13 = .ok (.iconst (-1), 1) := by decide +kernel
theorem dX2_secondPrice_14 : decode cX2_secondPrice 14 = .ok (.if_icmp .ne 12, 3) := by decide +kernel
theorem dX2_secondPrice_17 : decode cX2_secondPrice 17 = .ok (.aload_n 0, 1) := by decide +kernel
theorem dX2_secondPrice_18 : decode cX2_secondPrice 18 = .ok (.getfield 9, 3) := by decide +kernel
theorem dX2_secondPrice_21 : decode cX2_secondPrice 21 = .ok (.iload_n 1, 1) := by decide +kernel
theorem dX2_secondPrice_22 : decode cX2_secondPrice 22 = .ok (.iaload, 1) := by decide +kernel
theorem dX2_secondPrice_23 : decode cX2_secondPrice 23 = .ok (.goto 9, 3) := by decide +kernel
theorem dX2_secondPrice_26 : decode cX2_secondPrice 26 = .ok (.aload_n 0, 1) := by decide +kernel
theorem dX2_secondPrice_27 : decode cX2_secondPrice 27 = .ok (.getfield 23, 3) := by decide +kernel
theorem dX2_secondPrice_30 : decode cX2_secondPrice 30 = .ok (.iload_n 3, 1) := by decide +kernel
theorem dX2_secondPrice_31 : decode cX2_secondPrice 31 = .ok (.iaload, 1) := by decide +kernel
theorem dX2_secondPrice_32 : decode cX2_secondPrice 32 = .ok (.ireturn, 1) := by decide +kernel
end
section
/-! the claim's nest mates, casts and texts (printed out of the Statement's tables) -/
def zNW : List Cond := [.fieldLinkNest "PastureBids" 117 "PastureBids$Sale" "winners" "LPastureBids$BestSet;" "PastureBids", .fieldLinkNest "PastureBids" 127 "PastureBids$Sale" "winningBids" "[I" "PastureBids", .fieldLinkNest "PastureBids" 130 "PastureBids$Sale" "paid" "[I" "PastureBids", .fieldLinkNest "PastureBids" 137 "PastureBids$Sale" "gainedWithout" "[I" "PastureBids", .fieldLinkNest "PastureBids" 149 "PastureBids$BestSet" "gained" "I" "PastureBids", .fieldLinkNest "PastureBids" 152 "PastureBids$BestSet" "bids" "I" "PastureBids", .methodLinkNest "PastureBids" 120 ⟨"PastureBids$BestSet", "has", "(I)Z"⟩ "PastureBids", .methodLinkNest "PastureBids" 163 ⟨"PastureBids$Sale", "totalPaid", "()I"⟩ "PastureBids", .methodLinkNest "PastureBids" 232 ⟨"PastureBids$Sale", "clear", "()V"⟩ "PastureBids", .methodLinkNest "PastureBids" 242 ⟨"PastureBids$BestSet", "clear", "()V"⟩ "PastureBids", .methodLinkNest "PastureBids" 247 ⟨"PastureBids$BestSet", "consider", "(II)V"⟩ "PastureBids", .methodLinkNest "PastureBids" 37 ⟨"PastureBids$Sale", "<init>", "()V"⟩ "PastureBids", .methodLinkNest "PastureBids" 47 ⟨"PastureBids$BestSet", "<init>", "()V"⟩ "PastureBids", .methodLinkNest "PastureBids$Sale" 11 ⟨"PastureBids$BestSet", "<init>", "()V"⟩ "PastureBids", .methodLinkNest "PastureBids$Sale" 28 ⟨"PastureBids$BestSet", "clear", "()V"⟩ "PastureBids", .castable "java/lang/IllegalStateException" "java/lang/IllegalStateException", .castable "java/lang/IllegalArgumentException" "java/lang/IllegalArgumentException", .castable "java/lang/IndexOutOfBoundsException" "java/lang/IndexOutOfBoundsException"]
def zSR : List (Nat × String) := [(66, "no more fields"), (84, "no more bidders"), (95, "no more bids"), (100, "withdrawn before"), (208, "no such field"), (211, "no such bidder"), (213, "no such bid"), (215, "no such thing to ask for"), (219, "no such reserve"), (222, "no such price or worth"), (224, "no such fields")]
def zNok (w : Cond) : Prop := (∃ (a : String) (i : Nat) (b n d h : String), w = .fieldLinkNest a i b n d h) ∨ (∃ (a : String) (i : Nat) (x : MethodName) (h : String), w = .methodLinkNest a i x h) ∨ ∃ (a b : String), w = .castable a b
theorem zNW_ok : ∀ w ∈ zNW, zNok w := List.forall_mem_cons.mpr ⟨Or.inl ⟨_, _, _, _, _, _, rfl⟩, List.forall_mem_cons.mpr ⟨Or.inl ⟨_, _, _, _, _, _, rfl⟩, List.forall_mem_cons.mpr ⟨Or.inl ⟨_, _, _, _, _, _, rfl⟩, List.forall_mem_cons.mpr ⟨Or.inl ⟨_, _, _, _, _, _, rfl⟩, List.forall_mem_cons.mpr ⟨Or.inl ⟨_, _, _, _, _, _, rfl⟩, List.forall_mem_cons.mpr ⟨Or.inl ⟨_, _, _, _, _, _, rfl⟩, List.forall_mem_cons.mpr ⟨Or.inr (Or.inl ⟨_, _, _, _, rfl⟩), List.forall_mem_cons.mpr ⟨Or.inr (Or.inl ⟨_, _, _, _, rfl⟩), List.forall_mem_cons.mpr ⟨Or.inr (Or.inl ⟨_, _, _, _, rfl⟩), List.forall_mem_cons.mpr ⟨Or.inr (Or.inl ⟨_, _, _, _, rfl⟩), List.forall_mem_cons.mpr ⟨Or.inr (Or.inl ⟨_, _, _, _, rfl⟩), List.forall_mem_cons.mpr ⟨Or.inr (Or.inl ⟨_, _, _, _, rfl⟩), List.forall_mem_cons.mpr ⟨Or.inr (Or.inl ⟨_, _, _, _, rfl⟩), List.forall_mem_cons.mpr ⟨Or.inr (Or.inl ⟨_, _, _, _, rfl⟩), List.forall_mem_cons.mpr ⟨Or.inr (Or.inl ⟨_, _, _, _, rfl⟩), List.forall_mem_cons.mpr ⟨Or.inr (Or.inr ⟨_, _, rfl⟩), List.forall_mem_cons.mpr ⟨Or.inr (Or.inr ⟨_, _, rfl⟩), List.forall_mem_cons.mpr ⟨Or.inr (Or.inr ⟨_, _, rfl⟩), fun _ h => absurd h List.not_mem_nil⟩⟩⟩⟩⟩⟩⟩⟩⟩⟩⟩⟩⟩⟩⟩⟩⟩⟩
/-! THE Z-LAYER: a body's walk over data alone. zW speaks of a world (a list of cells), a list of locals and a stack; every row of the kit that is used has a sister here. -/
abbrev zG : Type := va_G × ClassId × ClassId × ClassId
abbrev zI (g : zG) : ClassId := g.2.1
abbrev zZ (g : zG) : ClassId := g.2.2.1
abbrev zJ (g : zG) : ClassId := g.2.2.2
def zT (g : zG) : List (ClassId × FieldType) := [(zI g, .int), (zZ g, .boolean), (zJ g, .long)]
abbrev zEnv : Type := Program × Env × State × MethodId × Array Value × List Frame × Method × Code × (Nat → Prop)
abbrev zp (E : zEnv) : Program := E.1
abbrev ze (E : zEnv) : Env := E.2.1
abbrev zs (E : zEnv) : State := E.2.2.1
abbrev zm (E : zEnv) : MethodId := E.2.2.2.1
abbrev za (E : zEnv) : Array Value := E.2.2.2.2.1
abbrev zbl (E : zEnv) : List Frame := E.2.2.2.2.2.1
abbrev zmt (E : zEnv) : Method := E.2.2.2.2.2.2.1
abbrev zcd (E : zEnv) : Code := E.2.2.2.2.2.2.2.1
abbrev zA (E : zEnv) : Nat → Prop := E.2.2.2.2.2.2.2.2
theorem zNok.warm {w : Cond} (hw : zNok w) {s U : State} (hW : s.WarmedH U.vm) (h : va_Nw w s) : va_Nw w U := by
  rcases hw with ⟨a, i, b, n, d, h9, rfl⟩ | ⟨a, i, x9, h9, rfl⟩ | ⟨a, b, rfl⟩
  · exact va_Nw.warmF hW h
  · exact va_Nw.warmM hW h
  · exact va_Nw.warmC hW h
theorem zNok.same {w : Cond} (hw : zNok w) {u U : State} (hv : u.vm = U.vm) (h : va_Nw w u) : va_Nw w U := by
  rcases hw with ⟨a, i, b, n, d, h9, rfl⟩ | ⟨a, i, x9, h9, rfl⟩ | ⟨a, b, rfl⟩
  · exact va_Nw.same rfl hv h
  · exact va_Nw.same rfl hv h
  · exact va_Nw.same rfl hv h
/-- what the tables say of classes, arrays, nest mates, casts and texts -/
def zK (g : zG) (U : State) : Prop := va_K g.1 vwCl (zT g) U ∧ (∀ w ∈ zNW, va_Nw w U) ∧ ∀ q ∈ zSR, ∃ a : Nat, vk_R "PastureBids" q.1 q.2 a U
theorem zK.warm {g : zG} {s U : State} (hW : s.WarmedH U.vm) (h : zK g s) : zK g U := ⟨va_K.moved hW.alike h.1, fun w hw => (zNW_ok w hw).warm hW (h.2.1 w hw), fun q hq => by
  obtain ⟨a, ha⟩ := h.2.2 q hq
  exact ⟨a, ha.warm hW⟩⟩
theorem zK.call {g : zG} {U : State} {f : JFrame} {mk : MethodId} {a : Array Value} (h : zK g U) : zK g (U.calling f mk a) := by
  refine ⟨va_K.moved (u := U) (U := U.calling f mk a) (Vm.Alike.refl U.vm) h.1, fun w hw => (zNW_ok w hw).same (u := U) rfl (h.2.1 w hw), fun q hq => ?_⟩
  obtain ⟨a9, ha⟩ := h.2.2 q hq
  exact ⟨a9, vk_R.same (u := U) rfl ha⟩
def zW (g : zG) (l : Launch) (R : Room) (E : zEnv) (Q : State → Prop) (nL cells slots : Nat) (ws : va_W) (lv : List (Nat × Value)) (st : List Value) (pc : Nat) : Prop :=
  ∀ (H : Heap) (locs : List Loc) (ls : Array Slot), va_P g.1 vwCl ws H → va_D (zA E) ws → va_S (zA E) (zs E).heap H locs → lv_has ls nL lv →
    W (zp E) l (ze E) R (zs E) (zm E) (za E) (zbl E) (zmt E) (zcd E) H locs cells slots Q (F0 (zm E) pc ls st)
/-- what a body stands on -/
def zC (g : zG) (E : zEnv) (cc : ByteArray) (own : String) (Ts : List Cond) (nL : Nat) (ret : Option FieldType) : Prop :=
  (zp E).tables.exec = Jvm.exec ∧ (zcd E).code = cc ∧ (zcd E).maxLocals = nL ∧ (zs E).vm.findClass own = some (zm E).cls ∧ (∀ w ∈ Ts, w.before (za E) (zs E) = true) ∧ zK g (zs E) ∧ (∀ q, (zs E).heap.size ≤ q → zA E q) ∧ (zmt E).locks = false ∧ (zmt E).sig.returnType = ret
section ZR
variable {g : zG} {l : Launch} {R : Room} {E : zEnv} {Q : State → Prop} {nL cells slots : Nat} {ws : va_W} {lv lv' : List (Nat × Value)} {st : List Value} {pc : Nat} {cc : ByteArray} {own : String} {Ts : List Cond} {ret : Option FieldType}
theorem zC.x (C : zC g E cc own Ts nL ret) : (zp E).tables.exec = Jvm.exec := C.1
theorem zC.b (C : zC g E cc own Ts nL ret) : (zcd E).code = cc := C.2.1
theorem zC.ow (C : zC g E cc own Ts nL ret) : (zs E).vm.findClass own = some (zm E).cls := C.2.2.2.1
theorem zC.ts (C : zC g E cc own Ts nL ret) : ∀ w ∈ Ts, w.before (za E) (zs E) = true := C.2.2.2.2.1
theorem zC.K (C : zC g E cc own Ts nL ret) : zK g (zs E) := C.2.2.2.2.2.1
theorem zC.A (C : zC g E cc own Ts nL ret) : ∀ q, (zs E).heap.size ≤ q → zA E q := C.2.2.2.2.2.2.1
theorem zC.lk (C : zC g E cc own Ts nL ret) : (zmt E).locks = false := C.2.2.2.2.2.2.2.1
theorem zC.r (C : zC g E cc own Ts nL ret) : (zmt E).sig.returnType = ret := C.2.2.2.2.2.2.2.2
theorem zC.w (C : zC g E cc own Ts nL ret) (i : Nat) {w : Cond} (h : Ts[i]? = some w) : w.before (za E) (zs E) = true := C.ts w (List.mem_of_getElem? h)
theorem zC.fx (C : zC g E cc own Ts nL ret) : CallFix (zp E) (zm E) (zcd E) cc nL (zs E) (za E) Ts own := ⟨C.1, C.2.1, C.2.2.1, C.2.2.2.1, C.2.2.2.2.1⟩
theorem zW.eqw {ws2 : va_W} (h : ws = ws2) (k : zW g l R E Q nL cells slots ws2 lv st pc) : zW g l R E Q nL cells slots ws lv st pc := h ▸ k
theorem zW.eqst {st2 : List Value} (h : st = st2) (k : zW g l R E Q nL cells slots ws lv st2 pc) : zW g l R E Q nL cells slots ws lv st pc := h ▸ k
theorem zW.top {x y : Int32} (h : x = y) (k : zW g l R E Q nL cells slots ws lv (.int y :: st) pc) : zW g l R E Q nL cells slots ws lv (.int x :: st) pc := h ▸ k
theorem zW.topl {x y : Int64} (h : x = y) (k : zW g l R E Q nL cells slots ws lv (.long y :: st) pc) : zW g l R E Q nL cells slots ws lv (.long x :: st) pc := h ▸ k
theorem zW.pick (is : List Nat) (h : lv_pick lv is = lv') (k : zW g l R E Q nL cells slots ws lv' st pc) : zW g l R E Q nL cells slots ws lv st pc :=
  fun H locs ls hP hD hS hl => k H locs ls hP hD hS (lv_sub hl is h)
theorem zW.wid {k n : Nat} (h1 : cells ≤ k) (h2 : slots ≤ n) (kk : zW g l R E Q nL k n ws lv st pc) : zW g l R E Q nL cells slots ws lv st pc :=
  fun H locs ls hP hD hS hl => W.widen h1 h2 (kk H locs ls hP hD hS hl)
-- constants, loads, stores
theorem z_iconst (C : zC g E cc own Ts nL ret) {n : Int} (v : Int32) (d : decode cc pc = .ok (.iconst n, 1)) (hv : Int32.ofInt n = v) (k : zW g l R E Q nL cells slots ws lv (.int v :: st) (pc + 1)) : zW g l R E Q nL cells slots ws lv st pc :=
  fun H locs ls hP hD hS hl => lv_iconst C.x C.b d hv (k H locs ls hP hD hS hl)
theorem z_bipush (C : zC g E cc own Ts nL ret) {n : Int} (v : Int32) (d : decode cc pc = .ok (.bipush n, 2)) (hv : (Int8.ofInt n).toInt32 = v) (k : zW g l R E Q nL cells slots ws lv (.int v :: st) (pc + 2)) : zW g l R E Q nL cells slots ws lv st pc :=
  fun H locs ls hP hD hS hl => lv_bipush C.x C.b d hv (k H locs ls hP hD hS hl)
theorem z_sipush (C : zC g E cc own Ts nL ret) {n : Int} (v : Int32) (d : decode cc pc = .ok (.sipush n, 3)) (hv : (Int16.ofInt n).toInt32 = v) (k : zW g l R E Q nL cells slots ws lv (.int v :: st) (pc + 3)) : zW g l R E Q nL cells slots ws lv st pc :=
  fun H locs ls hP hD hS hl => lv_sipush C.x C.b d hv (k H locs ls hP hD hS hl)
theorem z_lconst (C : zC g E cc own Ts nL ret) {n : Fin 2} (v : Int64) (d : decode cc pc = .ok (.lconst n, 1)) (hv : Int64.ofNat (n : Nat) = v) (k : zW g l R E Q nL cells slots ws lv (.long v :: st) (pc + 1)) : zW g l R E Q nL cells slots ws lv st pc :=
  fun H locs ls hP hD hS hl => lv_lconst C.x C.b d hv (k H locs ls hP hD hS hl)
theorem z_ldc (C : zC g E cc own Ts nL ret) {index : Nat} (v : Int32) (hc : (Jvm.Cond.constant own index v).before (za E) (zs E) = true) (d : decode cc pc = .ok (.ldc index, 2)) (k : zW g l R E Q nL cells slots ws lv (.int v :: st) (pc + 2)) : zW g l R E Q nL cells slots ws lv st pc :=
  fun H locs ls hP hD hS hl => lv_ldc C.x C.b C.ow hc d (k H locs ls hP hD hS hl)
theorem z_ldcw (C : zC g E cc own Ts nL ret) {index : Nat} (v : Int32) (hc : (Jvm.Cond.constant own index v).before (za E) (zs E) = true) (d : decode cc pc = .ok (.ldc_w index, 3)) (k : zW g l R E Q nL cells slots ws lv (.int v :: st) (pc + 3)) : zW g l R E Q nL cells slots ws lv st pc :=
  fun H locs ls hP hD hS hl => lv_ldcw C.x C.b C.ow hc d (k H locs ls hP hD hS hl)
theorem z_ldc2 (C : zC g E cc own Ts nL ret) {index : Nat} (v : Int64) (hc : (Jvm.Cond.constantLong own index v).before (za E) (zs E) = true) (d : decode cc pc = .ok (.ldc2_w index, 3)) (k : zW g l R E Q nL cells slots ws lv (.long v :: st) (pc + 3)) : zW g l R E Q nL cells slots ws lv st pc :=
  fun H locs ls hP hD hS hl => lv_ldc2 C.x C.b C.ow hc d (k H locs ls hP hD hS hl)
theorem z_iload_n (C : zC g E cc own Ts nL ret) {n : Fin 4} (d : decode cc pc = .ok (.iload_n n, 1)) (j : Nat) {x : Int32} (h : lv[j]? = some ((n : Nat), .int x)) (k : zW g l R E Q nL cells slots ws lv (.int x :: st) (pc + 1)) : zW g l R E Q nL cells slots ws lv st pc :=
  fun H locs ls hP hD hS hl => lv_iload_n C.x C.b d rfl (lv_at hl j h) (k H locs ls hP hD hS hl)
theorem z_iload (C : zC g E cc own Ts nL ret) {n : Nat} (d : decode cc pc = .ok (.iload n, 2)) (j : Nat) {x : Int32} (h : lv[j]? = some (n, .int x)) (k : zW g l R E Q nL cells slots ws lv (.int x :: st) (pc + 2)) : zW g l R E Q nL cells slots ws lv st pc :=
  fun H locs ls hP hD hS hl => lv_iload C.x C.b d (lv_at hl j h) (k H locs ls hP hD hS hl)
theorem z_lload_n (C : zC g E cc own Ts nL ret) {n : Fin 4} (d : decode cc pc = .ok (.lload_n n, 1)) (j : Nat) {x : Int64} (h : lv[j]? = some ((n : Nat), .long x)) (k : zW g l R E Q nL cells slots ws lv (.long x :: st) (pc + 1)) : zW g l R E Q nL cells slots ws lv st pc :=
  fun H locs ls hP hD hS hl => lv_lload_n C.x C.b d rfl (lv_at hl j h) (k H locs ls hP hD hS hl)
theorem z_lload (C : zC g E cc own Ts nL ret) {n : Nat} (d : decode cc pc = .ok (.lload n, 2)) (j : Nat) {x : Int64} (h : lv[j]? = some (n, .long x)) (k : zW g l R E Q nL cells slots ws lv (.long x :: st) (pc + 2)) : zW g l R E Q nL cells slots ws lv st pc :=
  fun H locs ls hP hD hS hl => lv_lload C.x C.b d (lv_at hl j h) (k H locs ls hP hD hS hl)
theorem z_dload (C : zC g E cc own Ts nL ret) {n : Nat} (d : decode cc pc = .ok (.dload n, 2)) (j : Nat) {x : UInt64} (h : lv[j]? = some (n, .double x)) (k : zW g l R E Q nL cells slots ws lv (.double x :: st) (pc + 2)) : zW g l R E Q nL cells slots ws lv st pc :=
  fun H locs ls hP hD hS hl => lv_dload C.x C.b d (lv_at hl j h) (k H locs ls hP hD hS hl)
theorem z_aload_n (C : zC g E cc own Ts nL ret) {n : Fin 4} (d : decode cc pc = .ok (.aload_n n, 1)) (j : Nat) {x : Nat} (h : lv[j]? = some ((n : Nat), .ref x)) (k : zW g l R E Q nL cells slots ws lv (.ref x :: st) (pc + 1)) : zW g l R E Q nL cells slots ws lv st pc :=
  fun H locs ls hP hD hS hl => lv_aload_n C.x C.b d rfl (lv_at hl j h) (k H locs ls hP hD hS hl)
theorem z_aload (C : zC g E cc own Ts nL ret) {n : Nat} (d : decode cc pc = .ok (.aload n, 2)) (j : Nat) {x : Nat} (h : lv[j]? = some (n, .ref x)) (k : zW g l R E Q nL cells slots ws lv (.ref x :: st) (pc + 2)) : zW g l R E Q nL cells slots ws lv st pc :=
  fun H locs ls hP hD hS hl => lv_aload C.x C.b d (lv_at hl j h) (k H locs ls hP hD hS hl)
def zst1 (i : Nat) (v : Value) (lv : List (Nat × Value)) : List (Nat × Value) := (i, v) :: lv.filter (fun q => !(q.1 == i) && !(q.1 + 1 == i && q.2.category == 2))
def zst2 (i : Nat) (v : Value) (lv : List (Nat × Value)) : List (Nat × Value) := (i, v) :: lv.filter (fun q => !(q.1 == i) && (!(q.1 == i + 1) && !(q.1 + 1 == i && q.2.category == 2)))
theorem z_istore_n (C : zC g E cc own Ts nL ret) {n : Fin 4} (d : decode cc pc = .ok (.istore_n n, 1)) {x : Int32} (hn : (n : Nat) < nL) (lv' : List (Nat × Value)) (hl9 : zst1 n (.int x) lv = lv') (k : zW g l R E Q nL cells slots ws lv' st (pc + 1)) : zW g l R E Q nL cells slots ws lv (.int x :: st) pc :=
  fun H locs ls hP hD hS hl => lv_istore_n C.x C.b d rfl hl hn hl9 (fun ls' hl' => k H locs ls' hP hD hS hl')
theorem z_istore (C : zC g E cc own Ts nL ret) {n : Nat} (d : decode cc pc = .ok (.istore n, 2)) {x : Int32} (hn : n < nL) (lv' : List (Nat × Value)) (hl9 : zst1 n (.int x) lv = lv') (k : zW g l R E Q nL cells slots ws lv' st (pc + 2)) : zW g l R E Q nL cells slots ws lv (.int x :: st) pc :=
  fun H locs ls hP hD hS hl => lv_istore C.x C.b d hl hn hl9 (fun ls' hl' => k H locs ls' hP hD hS hl')
theorem z_lstore_n (C : zC g E cc own Ts nL ret) {n : Fin 4} (d : decode cc pc = .ok (.lstore_n n, 1)) {x : Int64} (hn : (n : Nat) + 1 < nL) (lv' : List (Nat × Value)) (hl9 : zst2 n (.long x) lv = lv') (k : zW g l R E Q nL cells slots ws lv' st (pc + 1)) : zW g l R E Q nL cells slots ws lv (.long x :: st) pc :=
  fun H locs ls hP hD hS hl => lv_lstore_n C.x C.b d rfl hl hn hl9 (fun ls' hl' => k H locs ls' hP hD hS hl')
theorem z_lstore (C : zC g E cc own Ts nL ret) {n : Nat} (d : decode cc pc = .ok (.lstore n, 2)) {x : Int64} (hn : n + 1 < nL) (lv' : List (Nat × Value)) (hl9 : zst2 n (.long x) lv = lv') (k : zW g l R E Q nL cells slots ws lv' st (pc + 2)) : zW g l R E Q nL cells slots ws lv (.long x :: st) pc :=
  fun H locs ls hP hD hS hl => lv_lstore C.x C.b d hl hn hl9 (fun ls' hl' => k H locs ls' hP hD hS hl')
theorem z_dstore (C : zC g E cc own Ts nL ret) {n : Nat} (d : decode cc pc = .ok (.dstore n, 2)) {x : UInt64} (hn : n + 1 < nL) (lv' : List (Nat × Value)) (hl9 : zst2 n (.double x) lv = lv') (k : zW g l R E Q nL cells slots ws lv' st (pc + 2)) : zW g l R E Q nL cells slots ws lv (.double x :: st) pc :=
  fun H locs ls hP hD hS hl => lv_dstore C.x C.b d hl hn hl9 (fun ls' hl' => k H locs ls' hP hD hS hl')
theorem z_astore_n (C : zC g E cc own Ts nL ret) {n : Fin 4} (d : decode cc pc = .ok (.astore_n n, 1)) {x : Nat} (hn : (n : Nat) < nL) (lv' : List (Nat × Value)) (hl9 : zst1 n (.ref x) lv = lv') (k : zW g l R E Q nL cells slots ws lv' st (pc + 1)) : zW g l R E Q nL cells slots ws lv (.ref x :: st) pc :=
  fun H locs ls hP hD hS hl => lv_astore_n C.x C.b d rfl hl hn hl9 (fun ls' hl' => k H locs ls' hP hD hS hl')
theorem z_astore (C : zC g E cc own Ts nL ret) {n : Nat} (d : decode cc pc = .ok (.astore n, 2)) {x : Nat} (hn : n < nL) (lv' : List (Nat × Value)) (hl9 : zst1 n (.ref x) lv = lv') (k : zW g l R E Q nL cells slots ws lv' st (pc + 2)) : zW g l R E Q nL cells slots ws lv (.ref x :: st) pc :=
  fun H locs ls hP hD hS hl => lv_astore C.x C.b d hl hn hl9 (fun ls' hl' => k H locs ls' hP hD hS hl')
theorem z_iinc (C : zC g E cc own Ts nL ret) {i : Nat} {n : Int} (d : decode cc pc = .ok (.iinc i n, 3)) (j : Nat) {x : Int32} (v : Int32) (h : lv[j]? = some (i, .int x)) (hv : x + Int32.ofInt n = v) (hn : i < nL) (lv' : List (Nat × Value)) (hl9 : zst1 i (.int v) lv = lv') (k : zW g l R E Q nL cells slots ws lv' st (pc + 3)) : zW g l R E Q nL cells slots ws lv st pc :=
  fun H locs ls hP hD hS hl => lv_iinc C.x C.b d hl h hv hn hl9 (fun ls' hl' => k H locs ls' hP hD hS hl')
theorem z_dup (C : zC g E cc own Ts nL ret) {v : Value} (d : decode cc pc = .ok (.dup, 1)) (hv : v.category = 1) (k : zW g l R E Q nL cells slots ws lv (v :: v :: st) (pc + 1)) : zW g l R E Q nL cells slots ws lv (v :: st) pc :=
  fun H locs ls hP hD hS hl => lv_dup C.x C.b d hv (k H locs ls hP hD hS hl)
theorem z_pop (C : zC g E cc own Ts nL ret) {v : Value} (d : decode cc pc = .ok (.pop, 1)) (hv : v.category = 1) (k : zW g l R E Q nL cells slots ws lv st (pc + 1)) : zW g l R E Q nL cells slots ws lv (v :: st) pc :=
  fun H locs ls hP hD hS hl => lv_pop C.x C.b d hv (k H locs ls hP hD hS hl)
theorem z_goto (C : zC g E cc own Ts nL ret) {off : Int} (tgt : Nat) (d : decode cc pc = .ok (.goto off, 3)) (ht : (pc : Int) + off = (tgt : Int)) (k : zW g l R E Q nL cells slots ws lv st tgt) : zW g l R E Q nL cells slots ws lv st pc :=
  fun H locs ls hP hD hS hl => lv_goto C.x C.b d ht (k H locs ls hP hD hS hl)
-- arithmetic: the answer as it is wanted
theorem z_iadd (C : zC g E cc own Ts nL ret) {x y : Int32} (d : decode cc pc = .ok (.iadd, 1)) {v : Int32} (hv : x + y = v) (k : zW g l R E Q nL cells slots ws lv (.int v :: st) (pc + 1)) : zW g l R E Q nL cells slots ws lv (.int y :: .int x :: st) pc := by
  subst hv; exact fun H locs ls hP hD hS hl => lv_iadd C.x C.b d (k H locs ls hP hD hS hl)
theorem z_isub (C : zC g E cc own Ts nL ret) {x y : Int32} (d : decode cc pc = .ok (.isub, 1)) {v : Int32} (hv : x - y = v) (k : zW g l R E Q nL cells slots ws lv (.int v :: st) (pc + 1)) : zW g l R E Q nL cells slots ws lv (.int y :: .int x :: st) pc := by
  subst hv; exact fun H locs ls hP hD hS hl => lv_isub C.x C.b d (k H locs ls hP hD hS hl)
theorem z_imul (C : zC g E cc own Ts nL ret) {x y : Int32} (d : decode cc pc = .ok (.imul, 1)) {v : Int32} (hv : x * y = v) (k : zW g l R E Q nL cells slots ws lv (.int v :: st) (pc + 1)) : zW g l R E Q nL cells slots ws lv (.int y :: .int x :: st) pc := by
  subst hv; exact fun H locs ls hP hD hS hl => lv_imul C.x C.b d (k H locs ls hP hD hS hl)
theorem z_iand (C : zC g E cc own Ts nL ret) {x y : Int32} (d : decode cc pc = .ok (.iand, 1)) {v : Int32} (hv : x &&& y = v) (k : zW g l R E Q nL cells slots ws lv (.int v :: st) (pc + 1)) : zW g l R E Q nL cells slots ws lv (.int y :: .int x :: st) pc := by
  subst hv; exact fun H locs ls hP hD hS hl => lv_iand C.x C.b d (k H locs ls hP hD hS hl)
theorem z_ior (C : zC g E cc own Ts nL ret) {x y : Int32} (d : decode cc pc = .ok (.ior, 1)) {v : Int32} (hv : x ||| y = v) (k : zW g l R E Q nL cells slots ws lv (.int v :: st) (pc + 1)) : zW g l R E Q nL cells slots ws lv (.int y :: .int x :: st) pc := by
  subst hv; exact fun H locs ls hP hD hS hl => lv_ior C.x C.b d (k H locs ls hP hD hS hl)
theorem z_ixor (C : zC g E cc own Ts nL ret) {x y : Int32} (d : decode cc pc = .ok (.ixor, 1)) {v : Int32} (hv : x ^^^ y = v) (k : zW g l R E Q nL cells slots ws lv (.int v :: st) (pc + 1)) : zW g l R E Q nL cells slots ws lv (.int y :: .int x :: st) pc := by
  subst hv; exact fun H locs ls hP hD hS hl => lv_ixor C.x C.b d (k H locs ls hP hD hS hl)
end ZR
section ZR2
variable {g : zG} {l : Launch} {R : Room} {E : zEnv} {Q : State → Prop} {nL cells slots : Nat} {ws ws' : va_W} {lv lv' : List (Nat × Value)} {st : List Value} {pc : Nat} {cc : ByteArray} {own : String} {Ts : List Cond} {ret : Option FieldType}
theorem z_ishl (C : zC g E cc own Ts nL ret) {x y : Int32} (d : decode cc pc = .ok (.ishl, 1)) {v : Int32} (hv : x <<< (y &&& 31) = v) (k : zW g l R E Q nL cells slots ws lv (.int v :: st) (pc + 1)) : zW g l R E Q nL cells slots ws lv (.int y :: .int x :: st) pc := by
  subst hv; exact fun H locs ls hP hD hS hl => lv_ishl C.x C.b d (k H locs ls hP hD hS hl)
theorem z_ishr (C : zC g E cc own Ts nL ret) {x y : Int32} (d : decode cc pc = .ok (.ishr, 1)) {v : Int32} (hv : x >>> (y &&& 31) = v) (k : zW g l R E Q nL cells slots ws lv (.int v :: st) (pc + 1)) : zW g l R E Q nL cells slots ws lv (.int y :: .int x :: st) pc := by
  subst hv; exact fun H locs ls hP hD hS hl => lv_ishr C.x C.b d (k H locs ls hP hD hS hl)
theorem z_iushr (C : zC g E cc own Ts nL ret) {x y : Int32} (d : decode cc pc = .ok (.iushr, 1)) {v : Int32} (hv : (x.toUInt32 >>> (y.toUInt32 &&& Int32.toUInt32 31)).toInt32 = v) (k : zW g l R E Q nL cells slots ws lv (.int v :: st) (pc + 1)) : zW g l R E Q nL cells slots ws lv (.int y :: .int x :: st) pc :=
  fun H locs ls hP hD hS hl => lv_iushr C.x C.b d hv (k H locs ls hP hD hS hl)
theorem z_idiv (C : zC g E cc own Ts nL ret) {x y : Int32} (d : decode cc pc = .ok (.idiv, 1)) (hne : ¬ y = 0) {v : Int32} (hv : x / y = v) (k : zW g l R E Q nL cells slots ws lv (.int v :: st) (pc + 1)) : zW g l R E Q nL cells slots ws lv (.int y :: .int x :: st) pc := by
  subst hv; exact fun H locs ls hP hD hS hl => lv_idiv C.x C.b d hne (k H locs ls hP hD hS hl)
theorem z_i2l (C : zC g E cc own Ts nL ret) {x : Int32} {v : Int64} (d : decode cc pc = .ok (.i2l, 1)) (hv : x.toInt64 = v) (k : zW g l R E Q nL cells slots ws lv (.long v :: st) (pc + 1)) : zW g l R E Q nL cells slots ws lv (.int x :: st) pc :=
  fun H locs ls hP hD hS hl => lv_i2l C.x C.b d hv (k H locs ls hP hD hS hl)
theorem z_ladd (C : zC g E cc own Ts nL ret) {x y : Int64} (d : decode cc pc = .ok (.ladd, 1)) {v : Int64} (hv : x + y = v) (k : zW g l R E Q nL cells slots ws lv (.long v :: st) (pc + 1)) : zW g l R E Q nL cells slots ws lv (.long y :: .long x :: st) pc := by
  subst hv; exact fun H locs ls hP hD hS hl => lv_ladd C.x C.b d (k H locs ls hP hD hS hl)
theorem z_lmul (C : zC g E cc own Ts nL ret) {x y : Int64} (d : decode cc pc = .ok (.lmul, 1)) {v : Int64} (hv : x * y = v) (k : zW g l R E Q nL cells slots ws lv (.long v :: st) (pc + 1)) : zW g l R E Q nL cells slots ws lv (.long y :: .long x :: st) pc := by
  subst hv; exact fun H locs ls hP hD hS hl => lv_lmul C.x C.b d (k H locs ls hP hD hS hl)
theorem z_lcmp (C : zC g E cc own Ts nL ret) {x y : Int64} (d : decode cc pc = .ok (.lcmp, 1)) {v : Int32} (hv : lg_cmp x y = v) (k : zW g l R E Q nL cells slots ws lv (.int v :: st) (pc + 1)) : zW g l R E Q nL cells slots ws lv (.long y :: .long x :: st) pc := by
  subst hv; exact fun H locs ls hP hD hS hl => W.lcmp C.x C.b d (k H locs ls hP hD hS hl)
theorem z_i2d (C : zC g E cc own Ts nL ret) {x : Int32} (d : decode cc pc = .ok (.i2d, 1)) (k : zW g l R E Q nL cells slots ws lv (.double (FP.i2d x) :: st) (pc + 1)) : zW g l R E Q nL cells slots ws lv (.int x :: st) pc :=
  fun H locs ls hP hD hS hl => lv_i2d C.x C.b d (k H locs ls hP hD hS hl)
theorem z_ddiv (C : zC g E cc own Ts nL ret) {x y : UInt64} (d : decode cc pc = .ok (.ddiv, 1)) (hne : vf_n64 (FP.ddiv x y)) (k : zW g l R E Q nL cells slots ws lv (.double (FP.ddiv x y) :: st) (pc + 1)) : zW g l R E Q nL cells slots ws lv (.double y :: .double x :: st) pc :=
  fun H locs ls hP hD hS hl => lv_ddiv C.x C.b d hne (k H locs ls hP hD hS hl)
theorem z_dconst0 (C : zC g E cc own Ts nL ret) (d : decode cc pc = .ok (.dconst 0, 1)) (k : zW g l R E Q nL cells slots ws lv (.double 0 :: st) (pc + 1)) : zW g l R E Q nL cells slots ws lv st pc :=
  fun H locs ls hP hD hS hl => lv_dconst0 C.x C.b d (k H locs ls hP hD hS hl)
theorem z_dcmp (C : zC g E cc own Ts nL ret) {x y : UInt64} {op : CmpOp} (d : decode cc pc = .ok (.dcmp op, 1)) {v : Int32} (hv : Op.cmpValue (FP.dcmp x y) op = v) (k : zW g l R E Q nL cells slots ws lv (.int v :: st) (pc + 1)) : zW g l R E Q nL cells slots ws lv (.double y :: .double x :: st) pc := by
  subst hv; exact fun H locs ls hP hD hS hl => lv_dcmp C.x C.b d (k H locs ls hP hD hS hl)
-- branches, by a proposition that stands for the comparison
theorem z_if_eq (C : zC g E cc own Ts nL ret) {x : Int32} {off : Int} (tgt : Nat) (d : decode cc pc = .ok (.ifCond .eq off, 3)) (ht : (pc : Int) + off = (tgt : Int)) {P : Prop} (hP : x = 0 ↔ P) (kt : P → zW g l R E Q nL cells slots ws lv st tgt) (kf : ¬ P → zW g l R E Q nL cells slots ws lv st (pc + 3)) : zW g l R E Q nL cells slots ws lv (.int x :: st) pc :=
  fun H locs ls hP9 hD hS hl => lv_if_eq C.x C.b d ht (fun h => kt (hP.mp h) H locs ls hP9 hD hS hl) (fun h => kf (fun q => h (hP.mpr q)) H locs ls hP9 hD hS hl)
theorem z_if_ne (C : zC g E cc own Ts nL ret) {x : Int32} {off : Int} (tgt : Nat) (d : decode cc pc = .ok (.ifCond .ne off, 3)) (ht : (pc : Int) + off = (tgt : Int)) {P : Prop} (hP : x = 0 ↔ P) (kt : ¬ P → zW g l R E Q nL cells slots ws lv st tgt) (kf : P → zW g l R E Q nL cells slots ws lv st (pc + 3)) : zW g l R E Q nL cells slots ws lv (.int x :: st) pc :=
  fun H locs ls hP9 hD hS hl => lv_if_ne C.x C.b d ht (fun h => kt (fun q => h (hP.mpr q)) H locs ls hP9 hD hS hl) (fun h => kf (hP.mp h) H locs ls hP9 hD hS hl)
theorem z_if_lt (C : zC g E cc own Ts nL ret) {x : Int32} {off : Int} (tgt : Nat) (d : decode cc pc = .ok (.ifCond .lt off, 3)) (ht : (pc : Int) + off = (tgt : Int)) {P : Prop} (hP : x < 0 ↔ P) (kt : P → zW g l R E Q nL cells slots ws lv st tgt) (kf : ¬ P → zW g l R E Q nL cells slots ws lv st (pc + 3)) : zW g l R E Q nL cells slots ws lv (.int x :: st) pc :=
  fun H locs ls hP9 hD hS hl => lv_if_lt C.x C.b d ht (fun h => kt (hP.mp h) H locs ls hP9 hD hS hl) (fun h => kf (fun q => h (hP.mpr q)) H locs ls hP9 hD hS hl)
theorem z_if_ge (C : zC g E cc own Ts nL ret) {x : Int32} {off : Int} (tgt : Nat) (d : decode cc pc = .ok (.ifCond .ge off, 3)) (ht : (pc : Int) + off = (tgt : Int)) {P : Prop} (hP : 0 ≤ x ↔ P) (kt : P → zW g l R E Q nL cells slots ws lv st tgt) (kf : ¬ P → zW g l R E Q nL cells slots ws lv st (pc + 3)) : zW g l R E Q nL cells slots ws lv (.int x :: st) pc :=
  fun H locs ls hP9 hD hS hl => lv_if_ge C.x C.b d ht (fun h => kt (hP.mp h) H locs ls hP9 hD hS hl) (fun h => kf (fun q => h (hP.mpr q)) H locs ls hP9 hD hS hl)
theorem z_if_gt (C : zC g E cc own Ts nL ret) {x : Int32} {off : Int} (tgt : Nat) (d : decode cc pc = .ok (.ifCond .gt off, 3)) (ht : (pc : Int) + off = (tgt : Int)) {P : Prop} (hP : 0 < x ↔ P) (kt : P → zW g l R E Q nL cells slots ws lv st tgt) (kf : ¬ P → zW g l R E Q nL cells slots ws lv st (pc + 3)) : zW g l R E Q nL cells slots ws lv (.int x :: st) pc :=
  fun H locs ls hP9 hD hS hl => lv_if_gt C.x C.b d ht (fun h => kt (hP.mp h) H locs ls hP9 hD hS hl) (fun h => kf (fun q => h (hP.mpr q)) H locs ls hP9 hD hS hl)
theorem z_if_le (C : zC g E cc own Ts nL ret) {x : Int32} {off : Int} (tgt : Nat) (d : decode cc pc = .ok (.ifCond .le off, 3)) (ht : (pc : Int) + off = (tgt : Int)) {P : Prop} (hP : x ≤ 0 ↔ P) (kt : P → zW g l R E Q nL cells slots ws lv st tgt) (kf : ¬ P → zW g l R E Q nL cells slots ws lv st (pc + 3)) : zW g l R E Q nL cells slots ws lv (.int x :: st) pc :=
  fun H locs ls hP9 hD hS hl => lv_if_le C.x C.b d ht (fun h => kt (hP.mp h) H locs ls hP9 hD hS hl) (fun h => kf (fun q => h (hP.mpr q)) H locs ls hP9 hD hS hl)
theorem z_icmp_eq (C : zC g E cc own Ts nL ret) {x y : Int32} {off : Int} (tgt : Nat) (d : decode cc pc = .ok (.if_icmp .eq off, 3)) (ht : (pc : Int) + off = (tgt : Int)) {P : Prop} (hP : x = y ↔ P) (kt : P → zW g l R E Q nL cells slots ws lv st tgt) (kf : ¬ P → zW g l R E Q nL cells slots ws lv st (pc + 3)) : zW g l R E Q nL cells slots ws lv (.int y :: .int x :: st) pc :=
  fun H locs ls hP9 hD hS hl => lv_icmp_eq C.x C.b d ht (fun h => kt (hP.mp h) H locs ls hP9 hD hS hl) (fun h => kf (fun q => h (hP.mpr q)) H locs ls hP9 hD hS hl)
theorem z_icmp_ne (C : zC g E cc own Ts nL ret) {x y : Int32} {off : Int} (tgt : Nat) (d : decode cc pc = .ok (.if_icmp .ne off, 3)) (ht : (pc : Int) + off = (tgt : Int)) {P : Prop} (hP : x = y ↔ P) (kt : ¬ P → zW g l R E Q nL cells slots ws lv st tgt) (kf : P → zW g l R E Q nL cells slots ws lv st (pc + 3)) : zW g l R E Q nL cells slots ws lv (.int y :: .int x :: st) pc :=
  fun H locs ls hP9 hD hS hl => lv_icmp_ne C.x C.b d ht (fun h => kt (fun q => h (hP.mpr q)) H locs ls hP9 hD hS hl) (fun h => kf (hP.mp h) H locs ls hP9 hD hS hl)
theorem z_icmp_lt (C : zC g E cc own Ts nL ret) {x y : Int32} {off : Int} (tgt : Nat) (d : decode cc pc = .ok (.if_icmp .lt off, 3)) (ht : (pc : Int) + off = (tgt : Int)) {P : Prop} (hP : x < y ↔ P) (kt : P → zW g l R E Q nL cells slots ws lv st tgt) (kf : ¬ P → zW g l R E Q nL cells slots ws lv st (pc + 3)) : zW g l R E Q nL cells slots ws lv (.int y :: .int x :: st) pc :=
  fun H locs ls hP9 hD hS hl => lv_icmp_lt C.x C.b d ht (fun h => kt (hP.mp h) H locs ls hP9 hD hS hl) (fun h => kf (fun q => h (hP.mpr q)) H locs ls hP9 hD hS hl)
theorem z_icmp_ge (C : zC g E cc own Ts nL ret) {x y : Int32} {off : Int} (tgt : Nat) (d : decode cc pc = .ok (.if_icmp .ge off, 3)) (ht : (pc : Int) + off = (tgt : Int)) {P : Prop} (hP : y ≤ x ↔ P) (kt : P → zW g l R E Q nL cells slots ws lv st tgt) (kf : ¬ P → zW g l R E Q nL cells slots ws lv st (pc + 3)) : zW g l R E Q nL cells slots ws lv (.int y :: .int x :: st) pc :=
  fun H locs ls hP9 hD hS hl => lv_icmp_ge C.x C.b d ht (fun h => kt (hP.mp h) H locs ls hP9 hD hS hl) (fun h => kf (fun q => h (hP.mpr q)) H locs ls hP9 hD hS hl)
theorem z_icmp_gt (C : zC g E cc own Ts nL ret) {x y : Int32} {off : Int} (tgt : Nat) (d : decode cc pc = .ok (.if_icmp .gt off, 3)) (ht : (pc : Int) + off = (tgt : Int)) {P : Prop} (hP : y < x ↔ P) (kt : P → zW g l R E Q nL cells slots ws lv st tgt) (kf : ¬ P → zW g l R E Q nL cells slots ws lv st (pc + 3)) : zW g l R E Q nL cells slots ws lv (.int y :: .int x :: st) pc :=
  fun H locs ls hP9 hD hS hl => lv_icmp_gt C.x C.b d ht (fun h => kt (hP.mp h) H locs ls hP9 hD hS hl) (fun h => kf (fun q => h (hP.mpr q)) H locs ls hP9 hD hS hl)
theorem z_icmp_le (C : zC g E cc own Ts nL ret) {x y : Int32} {off : Int} (tgt : Nat) (d : decode cc pc = .ok (.if_icmp .le off, 3)) (ht : (pc : Int) + off = (tgt : Int)) {P : Prop} (hP : x ≤ y ↔ P) (kt : P → zW g l R E Q nL cells slots ws lv st tgt) (kf : ¬ P → zW g l R E Q nL cells slots ws lv st (pc + 3)) : zW g l R E Q nL cells slots ws lv (.int y :: .int x :: st) pc :=
  fun H locs ls hP9 hD hS hl => lv_icmp_le C.x C.b d ht (fun h => kt (hP.mp h) H locs ls hP9 hD hS hl) (fun h => kf (fun q => h (hP.mpr q)) H locs ls hP9 hD hS hl)
theorem z_tabIn (C : zC g E cc own Ts nL ret) {dflt lo hi : Int} {offs : Array Int} {len : Nat} {x : Int32} {off : Int} (tgt : Nat) (d : decode cc pc = .ok (.tableswitch dflt lo hi offs, len)) (h1 : ¬ x.toInt < lo) (h2 : ¬ hi < x.toInt) (ho : offs[(x.toInt - lo).toNat]? = some off) (ht : (pc : Int) + off = (tgt : Int)) (k : zW g l R E Q nL cells slots ws lv st tgt) : zW g l R E Q nL cells slots ws lv (.int x :: st) pc :=
  fun H locs ls hP9 hD hS hl => lv_tableIn C.x C.b d h1 h2 ho ht (k H locs ls hP9 hD hS hl)
theorem z_tabOut (C : zC g E cc own Ts nL ret) {dflt lo hi : Int} {offs : Array Int} {len : Nat} {x : Int32} (tgt : Nat) (d : decode cc pc = .ok (.tableswitch dflt lo hi offs, len)) (h : x.toInt < lo ∨ hi < x.toInt) (ht : (pc : Int) + dflt = (tgt : Int)) (k : zW g l R E Q nL cells slots ws lv st tgt) : zW g l R E Q nL cells slots ws lv (.int x :: st) pc :=
  fun H locs ls hP9 hD hS hl => lv_tableOut C.x C.b d h ht (k H locs ls hP9 hD hS hl)
theorem z_lookup (C : zC g E cc own Ts nL ret) {dflt : Int} {ps : Array (Int × Int)} {len : Nat} {x : Int32} {off : Int} (tgt : Nat) (d : decode cc pc = .ok (.lookupswitch dflt ps, len)) (hp : (ps.toList.zip (ps.toList.drop 1)).all (fun (a, next) => a.1 < next.1) = true) (ho : Op.lookupswitch.offset ps.toList dflt x.toInt = off) (ht : (pc : Int) + off = (tgt : Int)) (k : zW g l R E Q nL cells slots ws lv st tgt) : zW g l R E Q nL cells slots ws lv (.int x :: st) pc :=
  fun H locs ls hP9 hD hS hl => lv_lookup C.x C.b d hp ho ht (k H locs ls hP9 hD hS hl)
-- fields
theorem z_get (C : zC g E cc own Ts nL ret) {Cn : String} {T : u_T} {N ci index : Nat} {a : Nat} {fs : List Value} {v : Value} (hin : ∀ w ∈ u_ws Cn T N, w ∈ Ts) (q0 : Nat) (he : ws[q0]? = some (a, .inr (ci, fs))) (hc : vwCl[ci]? = some (Cn, T, N)) (k : Nat) (hk : k < N) (hlink : (Cond.fieldLink own index (T k).1 (T k).2.1 (T k).2.2.1).before (za E) (zs E) = true) (hv : fs[k]? = some v) (d : decode cc pc = .ok (.getfield index, 3))
    (kk : zW g l R E Q nL cells slots ws lv (v :: st) (pc + 3)) : zW g l R E Q nL cells slots ws lv (.ref a :: st) pc :=
  fun H locs ls hP hD hS hl => va_get C.x C.b C.ts hin C.ow C.K.1 hP q0 he hc k hk hlink (fun _ h9 => h9) hv d (kk H locs ls hP hD hS hl)
theorem z_getN (C : zC g E cc own Ts nL ret) {Cn host : String} {T : u_T} {N ci index : Nat} {a : Nat} {fs : List Value} {v : Value} (hin : ∀ w ∈ u_ws Cn T N, w ∈ Ts) (q0 : Nat) (he : ws[q0]? = some (a, .inr (ci, fs))) (hc : vwCl[ci]? = some (Cn, T, N)) (k : Nat) (hk : k < N) (j : Nat) (hlink : zNW[j]? = some (Cond.fieldLinkNest own index (T k).1 (T k).2.1 (T k).2.2.1 host)) (hv : fs[k]? = some v) (d : decode cc pc = .ok (.getfield index, 3))
    (kk : zW g l R E Q nL cells slots ws lv (v :: st) (pc + 3)) : zW g l R E Q nL cells slots ws lv (.ref a :: st) pc :=
  fun H locs ls hP hD hS hl => va_getN C.x C.b C.ts hin C.ow C.K.1 hP q0 he hc k hk (va_Nw.use rfl (C.K.2.1 _ (List.mem_of_getElem? hlink))) (fun _ h9 => h9) hv d (kk H locs ls hP hD hS hl)
theorem z_put (C : zC g E cc own Ts nL ret) {Cn : String} {T : u_T} {N ci index : Nat} {a : Nat} {fs : List Value} {v : Value} {ty0 : Nat → FieldType} (hin : ∀ w ∈ u_ws Cn T N, w ∈ Ts) (hty : ∀ k, k < N → parseFieldDescriptor (T k).2.2.1 = some (ty0 k)) (hnm : ∀ a, a < N → ∀ b, b < N → a ≠ b → (T a).2.1 ≠ (T b).2.1) (q0 : Nat) (he : ws[q0]? = some (a, .inr (ci, fs))) (hc : vwCl[ci]? = some (Cn, T, N)) (k : Nat) (hk : k < N) (hlink : (Cond.fieldLink own index (T k).1 (T k).2.1 (T k).2.2.1).before (za E) (zs E) = true) (hfin : (T k).2.2.2 = false) {ty : FieldType} (hd : parseFieldDescriptor (T k).2.2.1 = some ty) (hn : narrow ty v = v) (hfit : fits ty v = true) (hl9 : k < fs.length) (d : decode cc pc = .ok (.putfield index, 3)) {w' : va_W} (hw : ws.set q0 (a, .inr (ci, fs.set k v)) = w')
    (kk : zW g l R E Q nL cells slots w' lv st (pc + 3)) : zW g l R E Q nL cells slots ws lv (v :: .ref a :: st) pc := by
  subst hw
  exact fun H locs ls hP hD hS hl => va_put C.x C.b C.ts hin ty0 hty hnm C.ow C.K.1 hP hD hS q0 he hc k hk hlink (fun _ h9 => h9) hfin hd hn hfit hl9 d (fun H1 locs1 h1 h2 h3 => kk H1 locs1 ls h1 h2 h3 hl)
theorem z_putF (C : zC g E cc own Ts nL ret) {Cn : String} {T : u_T} {N ci index : Nat} {a : Nat} {fs : List Value} {v : Value} {ty0 : Nat → FieldType} (hin : ∀ w ∈ u_ws Cn T N, w ∈ Ts) (hty : ∀ k, k < N → parseFieldDescriptor (T k).2.2.1 = some (ty0 k)) (hnm : ∀ a, a < N → ∀ b, b < N → a ≠ b → (T a).2.1 ≠ (T b).2.1) (q0 : Nat) (he : ws[q0]? = some (a, .inr (ci, fs))) (hc : vwCl[ci]? = some (Cn, T, N)) (k : Nat) (hk : k < N) (hlink : (Cond.fieldLink own index (T k).1 (T k).2.1 (T k).2.2.1).before (za E) (zs E) = true) (hfin : (T k).2.2.2 = true) (hi : (zmt E).name = "<init>") (hdc : (T k).1 = own) {ty : FieldType} (hd : parseFieldDescriptor (T k).2.2.1 = some ty) (hn : narrow ty v = v) (hfit : fits ty v = true) (hl9 : k < fs.length) (d : decode cc pc = .ok (.putfield index, 3)) {w' : va_W} (hw : ws.set q0 (a, .inr (ci, fs.set k v)) = w')
    (kk : zW g l R E Q nL cells slots w' lv st (pc + 3)) : zW g l R E Q nL cells slots ws lv (v :: .ref a :: st) pc := by
  subst hw
  exact fun H locs ls hP hD hS hl => va_putF C.x C.b C.ts hin ty0 hty hnm C.ow C.K.1 hP hD hS q0 he hc k hk hlink (fun _ h9 => h9) hfin hi hdc hd hn hfit hl9 d (fun H1 locs1 h1 h2 h3 => kk H1 locs1 ls h1 h2 h3 hl)
-- arrays
theorem z_iald (C : zC g E cc own Ts nL ret) {a n : Nat} {f : Nat → Int32} (q0 : Nat) (ha : ws[q0]? = some (a, .inl (zI g, n, .inl f))) {i : Int32} (hin : vp_in i n) (d : decode cc pc = .ok (.iaload, 1)) {v : Int32} (hv : f i.toNatClampNeg = v) (kk : zW g l R E Q nL cells slots ws lv (.int v :: st) (pc + 1)) : zW g l R E Q nL cells slots ws lv (.int i :: .ref a :: st) pc := by
  subst hv
  exact fun H locs ls hP hD hS hl => va_iald C.x C.b C.K.1 hP q0 0 ha rfl hin d (kk H locs ls hP hD hS hl)
theorem z_ialdN (C : zC g E cc own Ts nL ret) {a n j : Nat} {f : Nat → Int32} (q0 : Nat) (ha : ws[q0]? = some (a, .inl (zI g, n, .inl f))) (hj : j < n) (hn : n < 2 ^ 31) (d : decode cc pc = .ok (.iaload, 1)) {v : Int32} (hv : f j = v) (kk : zW g l R E Q nL cells slots ws lv (.int v :: st) (pc + 1)) : zW g l R E Q nL cells slots ws lv (.int (nI j) :: .ref a :: st) pc :=
  z_iald C q0 ha (vp_in_nI hj hn) d (by rw [nI_clamp (by omega)]; exact hv) kk
theorem z_zaldN (C : zC g E cc own Ts nL ret) {a n j : Nat} {f : Nat → Int32} (q0 : Nat) (ha : ws[q0]? = some (a, .inl (zZ g, n, .inl f))) (hj : j < n) (hn : n < 2 ^ 31) (d : decode cc pc = .ok (.baload, 1)) {v : Int32} (hv : f j = v) (kk : zW g l R E Q nL cells slots ws lv (.int v :: st) (pc + 1)) : zW g l R E Q nL cells slots ws lv (.int (nI j) :: .ref a :: st) pc := by
  subst hv
  have e : (nI j).toNatClampNeg = j := nI_clamp (by omega)
  have k9 : zW g l R E Q nL cells slots ws lv (.int (f (nI j).toNatClampNeg) :: st) (pc + 1) := by rw [e]; exact kk
  exact fun H locs ls hP hD hS hl => va_zald C.x C.b C.K.1 hP q0 1 ha rfl (vp_in_nI hj hn) d (k9 H locs ls hP hD hS hl)
theorem z_laldN (C : zC g E cc own Ts nL ret) {a n j : Nat} {f : Nat → Int64} (q0 : Nat) (ha : ws[q0]? = some (a, .inl (zJ g, n, .inr (.inl f)))) (hj : j < n) (hn : n < 2 ^ 31) (d : decode cc pc = .ok (.laload, 1)) {v : Int64} (hv : f j = v) (kk : zW g l R E Q nL cells slots ws lv (.long v :: st) (pc + 1)) : zW g l R E Q nL cells slots ws lv (.int (nI j) :: .ref a :: st) pc := by
  subst hv
  have e : (nI j).toNatClampNeg = j := nI_clamp (by omega)
  have k9 : zW g l R E Q nL cells slots ws lv (.long (f (nI j).toNatClampNeg) :: st) (pc + 1) := by rw [e]; exact kk
  exact fun H locs ls hP hD hS hl => va_lald C.x C.b C.K.1 hP q0 2 ha rfl (vp_in_nI hj hn) d (k9 H locs ls hP hD hS hl)
theorem z_iastN (C : zC g E cc own Ts nL ret) {a n j : Nat} {f : Nat → Int32} {x : Int32} (q0 : Nat) (ha : ws[q0]? = some (a, .inl (zI g, n, .inl f))) (hj : j < n) (hn : n < 2 ^ 31) (d : decode cc pc = .ok (.iastore, 1)) {w' : va_W} (hw : ws.set q0 (a, .inl (zI g, n, .inl (upd f j x))) = w') (kk : zW g l R E Q nL cells slots w' lv st (pc + 1)) : zW g l R E Q nL cells slots ws lv (.int x :: .int (nI j) :: .ref a :: st) pc := by
  have e : (nI j).toNatClampNeg = j := nI_clamp (by omega)
  have k9 : zW g l R E Q nL cells slots (ws.set q0 (a, .inl (zI g, n, .inl (upd f (nI j).toNatClampNeg x)))) lv st (pc + 1) := by rw [e, hw]; exact kk
  exact fun H locs ls hP hD hS hl => va_iast C.x C.b C.K.1 hP hD hS q0 0 ha rfl (vp_in_nI hj hn) d (fun H1 locs1 h1 h2 h3 => k9 H1 locs1 ls h1 h2 h3 hl)
theorem z_zastN (C : zC g E cc own Ts nL ret) {a n j : Nat} {f : Nat → Int32} {x y : Int32} (q0 : Nat) (ha : ws[q0]? = some (a, .inl (zZ g, n, .inl f))) (hj : j < n) (hn : n < 2 ^ 31) (hy : vp_nar .boolean x = y) (d : decode cc pc = .ok (.bastore, 1)) {w' : va_W} (hw : ws.set q0 (a, .inl (zZ g, n, .inl (upd f j y))) = w') (kk : zW g l R E Q nL cells slots w' lv st (pc + 1)) : zW g l R E Q nL cells slots ws lv (.int x :: .int (nI j) :: .ref a :: st) pc := by
  have e : (nI j).toNatClampNeg = j := nI_clamp (by omega)
  have k9 : zW g l R E Q nL cells slots (ws.set q0 (a, .inl (zZ g, n, .inl (upd f (nI j).toNatClampNeg (vp_nar .boolean x))))) lv st (pc + 1) := by rw [e, hy, hw]; exact kk
  exact fun H locs ls hP hD hS hl => va_zast C.x C.b C.K.1 hP hD hS q0 1 ha rfl (vp_in_nI hj hn) d (fun H1 locs1 h1 h2 h3 => k9 H1 locs1 ls h1 h2 h3 hl)
theorem z_lastN (C : zC g E cc own Ts nL ret) {a n j : Nat} {f : Nat → Int64} {x : Int64} (q0 : Nat) (ha : ws[q0]? = some (a, .inl (zJ g, n, .inr (.inl f)))) (hj : j < n) (hn : n < 2 ^ 31) (d : decode cc pc = .ok (.lastore, 1)) {w' : va_W} (hw : ws.set q0 (a, .inl (zJ g, n, .inr (.inl (vp_updL f j x)))) = w') (kk : zW g l R E Q nL cells slots w' lv st (pc + 1)) : zW g l R E Q nL cells slots ws lv (.long x :: .int (nI j) :: .ref a :: st) pc := by
  have e : (nI j).toNatClampNeg = j := nI_clamp (by omega)
  have k9 : zW g l R E Q nL cells slots (ws.set q0 (a, .inl (zJ g, n, .inr (.inl (vp_updL f (nI j).toNatClampNeg x))))) lv st (pc + 1) := by rw [e, hw]; exact kk
  exact fun H locs ls hP hD hS hl => va_last C.x C.b C.K.1 hP hD hS q0 2 ha rfl (vp_in_nI hj hn) d (fun H1 locs1 h1 h2 h3 => k9 H1 locs1 ls h1 h2 h3 hl)
theorem z_alenI (C : zC g E cc own Ts nL ret) {a n : Nat} {f : Nat → Int32} (q0 : Nat) (ha : ws[q0]? = some (a, .inl (zI g, n, .inl f))) (d : decode cc pc = .ok (.arraylength, 1)) (kk : zW g l R E Q nL cells slots ws lv (.int (nI n) :: st) (pc + 1)) : zW g l R E Q nL cells slots ws lv (.ref a :: st) pc :=
  fun H locs ls hP hD hS hl => va_alen C.x C.b C.K.1 hP q0 0 ha (ty := .int) rfl rfl d (kk H locs ls hP hD hS hl)
end ZR2
-- contracts
/-- the end of a method: what it answers, and its world -/
def zQ (g : zG) (post : Option Value → va_W → Prop) (A : Nat → Prop) : Array Value → State → Outcome → State → Prop := fun _ st oc t => (∃ (v : Option Value) (w' : va_W), oc = .returned v ∧ post v w' ∧ va_P g.1 vwCl w' t.heap ∧ va_D A w') ∧ va_F A st t
def zPc (g : zG) (As : List Value) (w : va_W) (sz : Nat) : Array Value → State → Prop := va_Pc As (fun U => U.heap.size = sz ∧ va_P g.1 vwCl w U.heap ∧ zK g U ∧ va_D (fun _ => True) w)
/-- a method that returns -/
def zM (g : zG) (l : Launch) (y : MethodName) (ws : List Cond) (rm : Room) (As : List Value) (w : va_W) (post : Option Value → va_W → Prop) (mc ms : Nat) : Prop :=
  ∀ sz : Nat, Met l y ws rm (zPc g As w sz) (zQ g post (va_A w sz)) mc ms (va_A w sz)
theorem zPc.blind {g : zG} {As : List Value} {w : va_W} {sz : Nat} : FrameBlind (zPc g As w sz) := fun a U f mk q => by
  obtain ⟨q0, q1, qP, qK, qD⟩ := q
  exact ⟨q0, q1, qP, qK.call, qD⟩
theorem zM.mono {g : zG} {l : Launch} {y : MethodName} {ws : List Cond} {rm : Room} {As : List Value} {w : va_W} {p1 p2 : Option Value → va_W → Prop} {mc ms : Nat} (h : zM g l y ws rm As w p1 mc ms) (hp : ∀ v w', p1 v w' → p2 v w') : zM g l y ws rm As w p2 mc ms := by
  intro sz p e ha hc hk s m args below hf happ hP hT
  obtain ⟨t, o, h1, h2, h3, ⟨⟨⟨v, w', e1, e2, e3⟩, hF⟩, L⟩⟩ := h sz p e ha hc hk s m args below hf happ hP hT
  exact ⟨t, o, h1, h2, h3, ⟨⟨v, w', e1, hp _ _ e2, e3⟩, hF⟩, L⟩
section ZR3
variable {g : zG} {l : Launch} {R : Room} {E : zEnv} {Q : State → Prop} {nL cells slots : Nat} {ws ws' : va_W} {lv lv' : List (Nat × Value)} {st rest : List Value} {pc : Nat} {cc : ByteArray} {own : String} {Ts : List Cond} {ret : Option FieldType}
variable {post : Option Value → va_W → Prop} {mc ms : Nat}
abbrev zMQ (g : zG) (E : zEnv) (post : Option Value → va_W → Prop) (mc ms : Nat) : State → Prop := MQ (zbl E) (zQ g post (zA E)) (za E) (zs E) mc ms (zA E)
theorem z_ret_q {H : Heap} {locs : List Loc} {v : Option Value} (hP : va_P g.1 vwCl ws H) (hD : va_D (zA E) ws) (hS : va_S (zA E) (zs E).heap H locs) (hp : post v ws) : ∀ t : State, t.heap = H → (zs E).WarmedH t.vm → zQ g post (zA E) (za E) (zs E) (.returned v) t :=
  fun t ht _ => ⟨⟨v, ws, rfl, hp, by rw [ht]; exact hP, hD⟩, hS.F ht⟩
theorem z_iret (C : zC g E cc own Ts nL (some .int)) {v : Int32} (d : decode cc pc = .ok (.ireturn, 1)) (hp : post (some (.int v)) ws) : zW g l R E (zMQ g E post cells slots) nL cells slots ws lv [.int v] pc :=
  fun H locs ls hP hD hS hl => W.iret C.x C.b C.r (z_ret_q hP hD hS hp) hS.2.2 d C.lk
theorem z_zret (C : zC g E cc own Ts nL (some .boolean)) {v : Int32} (hn : narrow .boolean (.int v) = .int v) (d : decode cc pc = .ok (.ireturn, 1)) (hp : post (some (.int v)) ws) : zW g l R E (zMQ g E post cells slots) nL cells slots ws lv [.int v] pc :=
  fun H locs ls hP hD hS hl => W.zret C.x C.b C.r hn (z_ret_q hP hD hS hp) hS.2.2 d C.lk
theorem z_lret (C : zC g E cc own Ts nL (some .long)) {v : Int64} (d : decode cc pc = .ok (.lreturn, 1)) (hp : post (some (.long v)) ws) : zW g l R E (zMQ g E post cells slots) nL cells slots ws lv [.long v] pc :=
  fun H locs ls hP hD hS hl => W.lret C.x C.b C.r (z_ret_q hP hD hS hp) hS.2.2 d C.lk
theorem z_dret (C : zC g E cc own Ts nL (some .double)) {v : UInt64} (d : decode cc pc = .ok (.dreturn, 1)) (hp : post (some (.double v)) ws) : zW g l R E (zMQ g E post cells slots) nL cells slots ws lv [.double v] pc :=
  fun H locs ls hP hD hS hl => W.dret C.x C.b C.r (z_ret_q hP hD hS hp) hS.2.2 d C.lk
theorem z_vret (C : zC g E cc own Ts nL none) (d : decode cc pc = .ok (.return_, 1)) (hp : post none ws) : zW g l R E (zMQ g E post cells slots) nL cells slots ws lv [] pc :=
  fun H locs ls hP hD hS hl => W.vret C.x C.b C.r (z_ret_q hP hD hS hp) hS.2.2 d C.lk
theorem zM.of {y : MethodName} {rm : Room} {As : List Value} {w : va_W} {Ts' : List Cond} (hy : plainName y.cls = true) (hw : Ts = .code y cc nL ret :: Ts') (hn : (lg_sl As).length ≤ nL) (hlv : lv_args 0 As = lv)
    (body : ∀ E : zEnv, zC g E cc y.cls Ts nL ret → (y.name = "<init>" → (zmt E).name = "<init>") → zW g l rm E (zMQ g E post mc ms) nL 0 0 w lv [] 0) : zM g l y Ts rm As w post mc ms := by
  intro sz
  refine Met.ofW hy hw ?_
  intro p e s m args below meth c s₁ B hml hv
  obtain ⟨rfl, hsz, hP, hK, hD0⟩ := hv
  have hts := atoms_spec (ws := Ts) B.pre
  have hD := hD0.self (sz := s.heap.size)
  subst hsz
  have h := body (p, e, s, m, As.toArray, below, meth, c, va_A w s.heap.size) ⟨B.exec, B.bytes, hml, findClass_of_methodNamed B.named, hts, hK, fun q h => Or.inr h, B.notSynchronized, B.returns⟩ (fun h9 => by rw [← h9]; exact (name_of_methodNamed B.named B.method).1)
  have hl := lv_entry As (n := nL) hn
  rw [hlv] at hl
  rw [lg_entry_eq]
  exact h s.heap [] _ hP hD va_S.rf hl
/-- a call over the whole world, by what it runs to -/
theorem z_go {a : Array Value} {st0 : List Value} (hr : ∀ (H : Heap) (locs : List Loc) (ls : Array Slot), va_P g.1 vwCl ws H → va_D (zA E) ws → va_S (zA E) (zs E).heap H locs → lv_has ls nL lv → va_Run (zp E) l (ze E) R (zs E) (zm E) (za E) (zbl E) (zmt E) (zcd E) H locs cells slots mc ms (F0 (zm E) pc ls st0) rest (zQ g post (va_A ws H.size) a) (va_A ws H.size)) (hA : ∀ q, (zs E).heap.size ≤ q → zA E q)
    (kk : ∀ v w', post v w' → zW g l R E Q nL (cells + mc) (slots + ms) w' lv (v.toList ++ rest) (pc + 3)) : zW g l R E Q nL cells slots ws lv st0 pc := by
  intro H locs ls hP hD hS hl T hT X
  have hF : ∀ q, va_A ws H.size q → zA E q := by
    intro q h
    rcases h with ⟨k, e, h⟩ | h
    · exact hD.2 k (q, e) h
    · exact hA q (Nat.le_trans hS.1 h)
  obtain ⟨v, st₀, t, T', L, h0, X', hL, e1, e2, ⟨⟨v2, w', hv, hp, hP', hD'⟩, hz, hk⟩, st9⟩ := hr H locs ls hP hD hS hl T hT X
  cases hv
  rw [h0] at hz hk
  obtain ⟨t2, a1, b1⟩ := kk v w' hp T'.heap (locs ++ L) ls (by rw [e1]; exact hP') (hD'.weaken fun _ q _ h => hF q.1 h)
    ⟨Nat.le_trans hS.1 (by rw [e1]; exact hz), fun q h1 h2 => by rw [e1, hk q (Nat.lt_of_lt_of_le h1 hS.1) (fun z => h2 (hF q z))]; exact hS.2.1 q h1 h2, fun q hq => by
      rcases List.mem_append.mp hq with h | h
      · exact hS.2.2 q h
      · exact hF _ (hL q h)⟩ hl T' rfl X'
  exact ⟨t2, st9 t2 a1, b1⟩
theorem z_pcS {w : va_W} {H : Heap} {As : List Value} (hK : zK g (zs E)) (hP : va_P g.1 vwCl w H) (hD : va_D (zA E) w) : PreS (zs E) H (zPc g As w H.size) As :=
  ⟨zPc.blind, fun U hU hW => ⟨rfl, by rw [hU], by rw [hU]; exact hP, hK.warm hW, hD.weaken fun _ _ _ _ => trivial⟩⟩
theorem z_pcV {w : va_W} {H : Heap} {As : List Value} {q0 ci b : Nat} {fs : List Value} {Cn : String} {T : u_T} {N : Nat} (hK : zK g (zs E)) (hP : va_P g.1 vwCl w H) (hD : va_D (zA E) w) (he : w[q0]? = some (b, .inr (ci, fs))) (hc : vwCl[ci]? = some (Cn, T, N)) : PreV (zs E) H Cn b (zPc g (.ref b :: As) w H.size) As :=
  ⟨zPc.blind, va_recv hK.1 hP hc he, fun U hU hW => ⟨rfl, by rw [hU], by rw [hU]; exact hP, hK.warm hW, hD.weaken fun _ _ _ _ => trivial⟩⟩
/-- a method of this object's class, or of another's that is called as its own -/
theorem z_callV (C : zC g E cc own Ts nL ret) {y : MethodName} {bytes : ByteArray} {maxL n index : Nat} {rt : Option FieldType} {wy : List Cond} {rm : Room} {As : List Value} {b q0 ci N : Nat} {fs : List Value} {Cn : String} {T : u_T}
    (hM : zM g l y wy rm (.ref b :: As) ws post mc ms) (cw : CallW R (zs E) (za E) own Cn index y bytes maxL rt wy rm mc ms n) (he : ws[q0]? = some (b, .inr (ci, fs))) (hc : vwCl[ci]? = some (Cn, T, N)) (hn : As.length = n) (hst : st = As.reverse ++ .ref b :: rest) (hr : (rest.map fun v => v.category).sum ≤ 8) (d : decode cc pc = .ok (.invokevirtual index, 3)) (hf : cells + mc ≤ R.cells ∧ slots + ms ≤ R.slots)
    (kk : ∀ v w', post v w' → zW g l R E Q nL (cells + mc) (slots + ms) w' lv (v.toList ++ rest) (pc + 3)) : zW g l R E Q nL cells slots ws lv st pc :=
  z_go (fun H locs ls hP hD hS hl => va_runV C.fx (hM H.size) cw (z_pcV C.K hP hD he hc) rfl hn hl.1 hst (lv_room hr) d hf) C.A kk
theorem z_callVN (C : zC g E cc own Ts nL ret) {y : MethodName} {bytes : ByteArray} {maxL n index : Nat} {rt : Option FieldType} {wy : List Cond} {rm : Room} {As : List Value} {b q0 ci N : Nat} {fs : List Value} {Cn host : String} {T : u_T}
    (hM : zM g l y wy rm (.ref b :: As) ws post mc ms) (cw : va_CN R (zs E) (za E) own index y host bytes maxL rt wy rm mc ms n ∧ (Cond.instanceMethod y).before (za E) (zs E) = true ∧ (Cond.selects Cn y y).before (za E) (zs E) = true) (he : ws[q0]? = some (b, .inr (ci, fs))) (hc : vwCl[ci]? = some (Cn, T, N)) (hn : As.length = n) (hst : st = As.reverse ++ .ref b :: rest) (hr : (rest.map fun v => v.category).sum ≤ 8) (d : decode cc pc = .ok (.invokevirtual index, 3)) (hf : cells + mc ≤ R.cells ∧ slots + ms ≤ R.slots)
    (kk : ∀ v w', post v w' → zW g l R E Q nL (cells + mc) (slots + ms) w' lv (v.toList ++ rest) (pc + 3)) : zW g l R E Q nL cells slots ws lv st pc :=
  z_go (fun H locs ls hP hD hS hl => va_runVN C.fx (hM H.size) cw (z_pcV C.K hP hD he hc) rfl hn hl.1 hst (lv_room hr) d hf) C.A kk
theorem z_callS (C : zC g E cc own Ts nL ret) {y : MethodName} {bytes : ByteArray} {maxL n index : Nat} {rt : Option FieldType} {wy : List Cond} {rm : Room} {As : List Value}
    (hM : zM g l y wy rm As ws post mc ms) (cw : CallB R (zs E) (za E) own index y bytes maxL rt wy rm mc ms n ∧ (Cond.static y).before (za E) (zs E) = true) (hn : As.length = n) (hst : st = As.reverse ++ rest) (hr : (rest.map fun v => v.category).sum ≤ 8) (d : decode cc pc = .ok (.invokestatic index, 3)) (hf : cells + mc ≤ R.cells ∧ slots + ms ≤ R.slots)
    (kk : ∀ v w', post v w' → zW g l R E Q nL (cells + mc) (slots + ms) w' lv (v.toList ++ rest) (pc + 3)) : zW g l R E Q nL cells slots ws lv st pc :=
  z_go (fun H locs ls hP hD hS hl => va_runS C.fx (hM H.size) cw (z_pcS C.K hP hD) rfl hn hl.1 hst (lv_room hr) d hf) C.A kk
theorem z_callI (C : zC g E cc own Ts nL ret) {y : MethodName} {bytes : ByteArray} {maxL n index : Nat} {wy : List Cond} {rm : Room} {As : List Value} {b : Nat}
    (hM : zM g l y wy rm (.ref b :: As) ws post mc ms) (cw : CallB R (zs E) (za E) own index y bytes maxL none wy rm mc ms n ∧ y.name = "<init>" ∧ (Cond.instanceMethod y).before (za E) (zs E) = true) (hn : As.length = n) (hst : st = As.reverse ++ .ref b :: rest) (hr : (rest.map fun v => v.category).sum ≤ 8) (d : decode cc pc = .ok (.invokespecial index, 3)) (hf : cells + mc ≤ R.cells ∧ slots + ms ≤ R.slots)
    (kk : ∀ v w', post v w' → zW g l R E Q nL (cells + mc) (slots + ms) w' lv (v.toList ++ rest) (pc + 3)) : zW g l R E Q nL cells slots ws lv st pc :=
  z_go (fun H locs ls hP hD hS hl => va_runI C.fx (hM H.size) cw (z_pcS C.K hP hD) rfl hn hl.1 hst (lv_room hr) d hf) C.A kk
theorem z_objInit (C : zC g E cc own Ts nL ret) {a idx : Nat} (hlink : (Cond.methodLink own idx Lib.objectInit).before (za E) (zs E) = true) (hinst : (Cond.instanceMethod Lib.objectInit).before (za E) (zs E) = true) (hcode : (Cond.code Lib.objectInit ⟨#[0xb1]⟩ 1 none).before (za E) (zs E) = true) (d : decode cc pc = .ok (.invokespecial idx, 3)) (hf : 1 ≤ R.frames) (hlo : (rest.map fun v => v.category).sum + 12 ≤ R.locals)
    (kk : zW g l R E Q nL cells slots ws lv rest (pc + 3)) : zW g l R E Q nL cells slots ws lv (.ref a :: rest) pc :=
  fun H locs ls hP hD hS hl => W.objInit C.x C.b C.ow hlink hinst hcode rfl (hl.1.trans C.2.2.1.symm) rfl d hf (by show 2 * 0 + _ + 12 ≤ _; omega) (kk H locs ls hP hD hS hl)
end ZR3
end
section
/-! numbers of the walk: nI of naturals, iZ of integers, bI of truth values -/
def iZ (x : Int) : Int32 := Int32.ofInt x
def bI (b : Bool) : Int32 := if b = true then 1 else 0
theorem iZ_n (n : Nat) : iZ (n : Int) = nI n := rfl
theorem nI_iZ (n : Nat) : nI n = iZ (n : Int) := rfl
theorem iZ_add (x y : Int) : iZ x + iZ y = iZ (x + y) := (Int32.ofInt_add x y).symm
theorem iZ_sub (x y : Int) : iZ x - iZ y = iZ (x - y) := (Int32.ofInt_sub x y).symm
theorem iZ_mul (x y : Int) : iZ x * iZ y = iZ (x * y) := (Int32.ofInt_mul x y).symm
def zB31 (x : Int) : Prop := -2147483648 ≤ x ∧ x < 2147483648
theorem iZ_toInt {x : Int} (h : zB31 x) : (iZ x).toInt = x := by
  unfold iZ zB31 at *
  exact Int32.toInt_ofInt_of_le h.1 h.2
theorem zlt_ZZ {x y : Int} (hx : zB31 x) (hy : zB31 y) : iZ x < iZ y ↔ x < y := by rw [Int32.lt_iff_toInt_lt, iZ_toInt hx, iZ_toInt hy]
theorem zle_ZZ {x y : Int} (hx : zB31 x) (hy : zB31 y) : iZ x ≤ iZ y ↔ x ≤ y := by rw [Int32.le_iff_toInt_le, iZ_toInt hx, iZ_toInt hy]
theorem zeq_ZZ {x y : Int} (hx : zB31 x) (hy : zB31 y) : iZ x = iZ y ↔ x = y := by
  refine ⟨fun h => ?_, fun h => by rw [h]⟩
  have h2 := congrArg Int32.toInt h
  rwa [iZ_toInt hx, iZ_toInt hy] at h2
theorem zlt_NN {x y : Nat} (hx : x < 2147483648) (hy : y < 2147483648) : nI x < nI y ↔ x < y := nI_ltI hx hy
theorem zle_NN {x y : Nat} (hx : x < 2147483648) (hy : y < 2147483648) : nI x ≤ nI y ↔ x ≤ y := nI_leI hx hy
theorem zeq_NN {x y : Nat} (hx : x < 2147483648) (hy : y < 2147483648) : nI x = nI y ↔ x = y := nI_eq hx hy
theorem zeq_N0 {x : Nat} (hx : x < 2147483648) : nI x = 0 ↔ x = 0 := nI_eq (b := 0) hx (by decide)
theorem zle_0Z {x : Int} (hx : zB31 x) : 0 ≤ iZ x ↔ 0 ≤ x := zle_ZZ (x := 0) ⟨by decide, by decide⟩ hx
theorem zlt_Z0 {x : Int} (hx : zB31 x) : iZ x < 0 ↔ x < 0 := zlt_ZZ (y := 0) hx ⟨by decide, by decide⟩
theorem zeq_B0 (b : Bool) : bI b = 0 ↔ b = false := by cases b <;> decide
theorem zbI_nar (b : Bool) : narrow .boolean (.int (bI b)) = .int (bI b) := by cases b <;> rfl
theorem zbI_vp (b : Bool) : vp_nar .boolean (bI b) = bI b := by cases b <;> rfl
theorem zand_NN (x y : Nat) : nI x &&& nI y = nI (x &&& y) := by
  unfold nI
  apply Int32.toBitVec_inj.mp
  simp only [Int32.toBitVec_and, Int32.toBitVec_ofNat']
  exact BitVec.ofNat_and.symm
theorem zor_NN (x y : Nat) : nI x ||| nI y = nI (x ||| y) := by
  unfold nI
  apply Int32.toBitVec_inj.mp
  simp only [Int32.toBitVec_or, Int32.toBitVec_ofNat']
  exact BitVec.ofNat_or.symm
theorem zsh_cnt : ∀ k : Fin 31, (((nI k.val) &&& 31).toBitVec.smod 32).toNat = k.val := by decide +kernel
theorem zshl_NN {x k : Nat} (hk : k < 31) (h : x * 2 ^ k < 4294967296) : nI x <<< (nI k &&& 31) = nI (x * 2 ^ k) := pk_shlN _ k (zsh_cnt ⟨k, hk⟩) h
theorem zshl_1N {k : Nat} (hk : k < 31) : (1 : Int32) <<< (nI k &&& 31) = nI (2 ^ k) := by
  have h := zshl_NN (x := 1) hk (by
    have h2 : 2 ^ k ≤ 2 ^ 30 := Nat.pow_le_pow_right (by decide) (by omega)
    omega)
  rw [Nat.one_mul] at h
  exact h
theorem zshr_NN {x k : Nat} (hk : k < 31) (hx : x < 2147483648) : nI x >>> (nI k &&& 31) = nI (x / 2 ^ k) := pk_shrN hx _ k (zsh_cnt ⟨k, hk⟩)
theorem zbit_pow (n k : Nat) : n &&& 2 ^ k = 0 ↔ n.testBit k = false := by
  constructor
  · intro h
    have h2 := congrArg (fun x => Nat.testBit x k) h
    simpa [Nat.testBit_and, Nat.testBit_two_pow] using h2
  · intro h
    apply Nat.eq_of_testBit_eq
    intro i
    rw [Nat.testBit_and, Nat.testBit_two_pow, Nat.zero_testBit]
    by_cases e : k = i
    · subst e; simp [h]
    · simp [e]
/-- n & (1 << k), against 0 -/
theorem zbit_0 {n k : Nat} (hk : k < 31) : nI (n &&& 2 ^ k) = 0 ↔ n.testBit k = false := by
  have h1 : n &&& 2 ^ k < 2147483648 := by
    have h2 : n &&& 2 ^ k ≤ 2 ^ k := Nat.and_le_right
    have h3 : 2 ^ k ≤ 2 ^ 30 := Nat.pow_le_pow_right (by decide) (by omega)
    omega
  rw [zeq_N0 h1, zbit_pow]
/-! the state of the system -/
abbrev zS : Type := Nat × Nat × Nat × Nat × (Nat → Nat) × (Nat → Nat) × (Nat → Nat) × (Nat → Nat) × (Nat → Nat) × (Nat → Nat)
def zNf (a : zS) : Nat := a.1
def zNd (a : zS) : Nat := a.2.1
def zNb (a : zS) : Nat := a.2.2.1
def zOu (a : zS) : Nat := a.2.2.2.1
def zRs (a : zS) : Nat → Nat := a.2.2.2.2.1
def zOw (a : zS) : Nat → Nat := a.2.2.2.2.2.1
def zBu (a : zS) : Nat → Nat := a.2.2.2.2.2.2.1
def zPr (a : zS) : Nat → Nat := a.2.2.2.2.2.2.2.1
def zWo (a : zS) : Nat → Nat := a.2.2.2.2.2.2.2.2.1
def zGo (a : zS) : Nat → Nat := a.2.2.2.2.2.2.2.2.2
def zMk (nf nd nb ou : Nat) (rs ow bu pr wo go : Nat → Nat) : zS := (nf, nd, nb, ou, rs, ow, bu, pr, wo, go)
def zSetRs (a : zS) (f x : Nat) : zS := zMk (zNf a) (zNd a) (zNb a) (zOu a) (va_up (zRs a) f x) (zOw a) (zBu a) (zPr a) (zWo a) (zGo a)
def zSetNf (a : zS) (n : Nat) : zS := zMk n (zNd a) (zNb a) (zOu a) (zRs a) (zOw a) (zBu a) (zPr a) (zWo a) (zGo a)
def zSetNd (a : zS) (n : Nat) : zS := zMk (zNf a) n (zNb a) (zOu a) (zRs a) (zOw a) (zBu a) (zPr a) (zWo a) (zGo a)
def zSetNb (a : zS) (n : Nat) : zS := zMk (zNf a) (zNd a) n (zOu a) (zRs a) (zOw a) (zBu a) (zPr a) (zWo a) (zGo a)
def zSetOu (a : zS) (n : Nat) : zS := zMk (zNf a) (zNd a) (zNb a) n (zRs a) (zOw a) (zBu a) (zPr a) (zWo a) (zGo a)
def zSetOw (a : zS) (b x : Nat) : zS := zMk (zNf a) (zNd a) (zNb a) (zOu a) (zRs a) (va_up (zOw a) b x) (zBu a) (zPr a) (zWo a) (zGo a)
def zSetBu (a : zS) (b x : Nat) : zS := zMk (zNf a) (zNd a) (zNb a) (zOu a) (zRs a) (zOw a) (va_up (zBu a) b x) (zPr a) (zWo a) (zGo a)
def zSetPr (a : zS) (b x : Nat) : zS := zMk (zNf a) (zNd a) (zNb a) (zOu a) (zRs a) (zOw a) (zBu a) (va_up (zPr a) b x) (zWo a) (zGo a)
def zSetWo (a : zS) (b x : Nat) : zS := zMk (zNf a) (zNd a) (zNb a) (zOu a) (zRs a) (zOw a) (zBu a) (zPr a) (va_up (zWo a) b x) (zGo a)
def zSetGo (a : zS) (b x : Nat) : zS := zMk (zNf a) (zNd a) (zNb a) (zOu a) (zRs a) (zOw a) (zBu a) (zPr a) (zWo a) (va_up (zGo a) b x)
/-- what holds of every state -/
def zOk (a : zS) : Prop := zNf a ≤ 8 ∧ zNd a ≤ 5 ∧ zNb a ≤ 12 ∧ zOu a < 2 ^ zNd a ∧ (∀ f, f < zNf a → zRs a f ≤ 99) ∧ ∀ b, b < zNb a → zOw a b < zNd a ∧ 0 < zBu a b ∧ zBu a b < 2 ^ zNf a ∧ zPr a b ≤ 999 ∧ zWo a b ≤ 999 ∧ zGo a b ≤ 1
def zSum (f : Nat → Nat) : Nat → Nat
  | 0 => 0
  | n + 1 => zSum f n + f n
def zRes (a : zS) (m : Nat) : Nat := zSum (fun f => if m.testBit f = true then zRs a f else 0) (zNf a)
def zGn (a : zS) (b : Nat) : Int := (zPr a b : Int) - (zRes a (zBu a b) : Int)
def zG0 (a : zS) : Nat → Int := fun k => if k < zNb a then zGn a k else 0
def zCn (a : zS) (o b : Nat) : Bool := zGo a b == 0 && (!(o.testBit (zOw a b)) && decide (0 ≤ zGn a b))
def zIn (a : zS) (k : Nat) : Bool := decide (k < zNd a) && !((zOu a).testBit k)
/-! the class's world: 0 the object, 1 reserves, 2 ins, 3 owners, 4 bundles, 5 prices, 6 gains, 7 worths, 8 withdrawn, 9 to 11 the sets of bids (of the sale, of the imagined one, of the search), 12, 13 the sales, 14, 15 their winning bids, 16, 17 what is paid, 18, 19 the sums without -/
def wB (g : zG) (q : Nat → Nat) (a : zS) (G : Nat → Int) (bs : Nat → Int × Nat) (wb pd gw : Nat → Nat → Int) : va_W :=
  [(q 0, .inr (2, [.ref (q 1), .int (nI (zNf a)), .ref (q 2), .int (nI (zNd a)), .ref (q 3), .ref (q 4), .ref (q 5), .ref (q 6), .ref (q 7), .ref (q 8), .int (nI (zNb a)), .ref (q 12), .ref (q 13), .ref (q 11)])),
   (q 1, .inl (zI g, 8, .inl (fun k => nI (zRs a k)))), (q 2, .inl (zZ g, 5, .inl (fun k => bI (zIn a k)))),
   (q 3, .inl (zI g, 12, .inl (fun k => nI (zOw a k)))), (q 4, .inl (zI g, 12, .inl (fun k => nI (zBu a k)))), (q 5, .inl (zI g, 12, .inl (fun k => nI (zPr a k)))),
   (q 6, .inl (zI g, 12, .inl (fun k => iZ (G k)))), (q 7, .inl (zI g, 12, .inl (fun k => nI (zWo a k)))), (q 8, .inl (zZ g, 12, .inl (fun k => nI (zGo a k)))),
   (q 9, .inr (0, [.int (iZ (bs 0).1), .int (nI (bs 0).2)])), (q 10, .inr (0, [.int (iZ (bs 1).1), .int (nI (bs 1).2)])), (q 11, .inr (0, [.int (iZ (bs 2).1), .int (nI (bs 2).2)])),
   (q 12, .inr (1, [.ref (q 9), .ref (q 14), .ref (q 16), .ref (q 18)])), (q 13, .inr (1, [.ref (q 10), .ref (q 15), .ref (q 17), .ref (q 19)])),
   (q 14, .inl (zI g, 5, .inl (fun d => iZ (wb 0 d)))), (q 15, .inl (zI g, 5, .inl (fun d => iZ (wb 1 d)))),
   (q 16, .inl (zI g, 5, .inl (fun d => iZ (pd 0 d)))), (q 17, .inl (zI g, 5, .inl (fun d => iZ (pd 1 d)))),
   (q 18, .inl (zI g, 5, .inl (fun d => iZ (gw 0 d)))), (q 19, .inl (zI g, 5, .inl (fun d => iZ (gw 1 d))))]
section WB
variable {g : zG} {q : Nat → Nat} {a : zS} {G : Nat → Int} {bs : Nat → Int × Nat} {wb pd gw : Nat → Nat → Int}
theorem wB_o : (wB g q a G bs wb pd gw)[0]? = some (q 0, .inr (2, [.ref (q 1), .int (nI (zNf a)), .ref (q 2), .int (nI (zNd a)), .ref (q 3), .ref (q 4), .ref (q 5), .ref (q 6), .ref (q 7), .ref (q 8), .int (nI (zNb a)), .ref (q 12), .ref (q 13), .ref (q 11)])) := rfl
theorem wB_rs : (wB g q a G bs wb pd gw)[1]? = some (q 1, .inl (zI g, 8, .inl (fun k => nI (zRs a k)))) := rfl
theorem wB_in : (wB g q a G bs wb pd gw)[2]? = some (q 2, .inl (zZ g, 5, .inl (fun k => bI (zIn a k)))) := rfl
theorem wB_ow : (wB g q a G bs wb pd gw)[3]? = some (q 3, .inl (zI g, 12, .inl (fun k => nI (zOw a k)))) := rfl
theorem wB_bu : (wB g q a G bs wb pd gw)[4]? = some (q 4, .inl (zI g, 12, .inl (fun k => nI (zBu a k)))) := rfl
theorem wB_pr : (wB g q a G bs wb pd gw)[5]? = some (q 5, .inl (zI g, 12, .inl (fun k => nI (zPr a k)))) := rfl
theorem wB_G : (wB g q a G bs wb pd gw)[6]? = some (q 6, .inl (zI g, 12, .inl (fun k => iZ (G k)))) := rfl
theorem wB_wo : (wB g q a G bs wb pd gw)[7]? = some (q 7, .inl (zI g, 12, .inl (fun k => nI (zWo a k)))) := rfl
theorem wB_go : (wB g q a G bs wb pd gw)[8]? = some (q 8, .inl (zZ g, 12, .inl (fun k => nI (zGo a k)))) := rfl
theorem wB_bs {z : Nat} (hz : z < 3) : (wB g q a G bs wb pd gw)[9 + z]? = some (q (9 + z), .inr (0, [.int (iZ (bs z).1), .int (nI (bs z).2)])) := by
  match z, hz with
  | 0, _ => rfl
  | 1, _ => rfl
  | 2, _ => rfl
theorem wB_sl {z : Nat} (hz : z < 2) : (wB g q a G bs wb pd gw)[12 + z]? = some (q (12 + z), .inr (1, [.ref (q (9 + z)), .ref (q (14 + z)), .ref (q (16 + z)), .ref (q (18 + z))])) := by
  match z, hz with
  | 0, _ => rfl
  | 1, _ => rfl
theorem wB_wb {z : Nat} (hz : z < 2) : (wB g q a G bs wb pd gw)[14 + z]? = some (q (14 + z), .inl (zI g, 5, .inl (fun d => iZ (wb z d)))) := by
  match z, hz with
  | 0, _ => rfl
  | 1, _ => rfl
theorem wB_pd {z : Nat} (hz : z < 2) : (wB g q a G bs wb pd gw)[16 + z]? = some (q (16 + z), .inl (zI g, 5, .inl (fun d => iZ (pd z d)))) := by
  match z, hz with
  | 0, _ => rfl
  | 1, _ => rfl
theorem wB_gw {z : Nat} (hz : z < 2) : (wB g q a G bs wb pd gw)[18 + z]? = some (q (18 + z), .inl (zI g, 5, .inl (fun d => iZ (gw z d)))) := by
  match z, hz with
  | 0, _ => rfl
  | 1, _ => rfl
-- writes
theorem zup_N (f : Nat → Nat) (k x : Nat) : upd (fun j => nI (f j)) k (nI x) = fun j => nI (va_up f k x j) := by
  funext j
  simp only [upd, va_up]
  split <;> rfl
theorem zup_Z (f : Nat → Int) (k : Nat) (x : Int) : upd (fun j => iZ (f j)) k (iZ x) = fun j => iZ (va_up f k x j) := by
  funext j
  simp only [upd, va_up]
  split <;> rfl
/-- an array of a family is written -/
def zup2 {α : Type} (w : Nat → Nat → α) (z k : Nat) (x : α) : Nat → Nat → α := va_up w z (va_up (w z) k x)
theorem wB_set_rs (f x : Nat) : (wB g q a G bs wb pd gw).set 1 (q 1, .inl (zI g, 8, .inl (upd (fun k => nI (zRs a k)) f (nI x)))) = wB g q (zSetRs a f x) G bs wb pd gw := by rw [zup_N]; rfl
theorem wB_set_ow (f x : Nat) : (wB g q a G bs wb pd gw).set 3 (q 3, .inl (zI g, 12, .inl (upd (fun k => nI (zOw a k)) f (nI x)))) = wB g q (zSetOw a f x) G bs wb pd gw := by rw [zup_N]; rfl
theorem wB_set_bu (f x : Nat) : (wB g q a G bs wb pd gw).set 4 (q 4, .inl (zI g, 12, .inl (upd (fun k => nI (zBu a k)) f (nI x)))) = wB g q (zSetBu a f x) G bs wb pd gw := by rw [zup_N]; rfl
theorem wB_set_pr (f x : Nat) : (wB g q a G bs wb pd gw).set 5 (q 5, .inl (zI g, 12, .inl (upd (fun k => nI (zPr a k)) f (nI x)))) = wB g q (zSetPr a f x) G bs wb pd gw := by rw [zup_N]; rfl
theorem wB_set_G (f : Nat) (x : Int) : (wB g q a G bs wb pd gw).set 6 (q 6, .inl (zI g, 12, .inl (upd (fun k => iZ (G k)) f (iZ x)))) = wB g q a (va_up G f x) bs wb pd gw := by rw [zup_Z]; rfl
theorem wB_set_wo (f x : Nat) : (wB g q a G bs wb pd gw).set 7 (q 7, .inl (zI g, 12, .inl (upd (fun k => nI (zWo a k)) f (nI x)))) = wB g q (zSetWo a f x) G bs wb pd gw := by rw [zup_N]; rfl
theorem wB_set_go (f x : Nat) : (wB g q a G bs wb pd gw).set 8 (q 8, .inl (zZ g, 12, .inl (upd (fun k => nI (zGo a k)) f (nI x)))) = wB g q (zSetGo a f x) G bs wb pd gw := by rw [zup_N]; rfl
theorem wB_set_nf (n : Nat) : (wB g q a G bs wb pd gw).set 0 (q 0, .inr (2, [Value.ref (q 1), .int (nI (zNf a)), .ref (q 2), .int (nI (zNd a)), .ref (q 3), .ref (q 4), .ref (q 5), .ref (q 6), .ref (q 7), .ref (q 8), .int (nI (zNb a)), .ref (q 12), .ref (q 13), .ref (q 11)].set 1 (.int (nI n)))) = wB g q (zSetNf a n) G bs wb pd gw := rfl
theorem wB_set_nb (n : Nat) : (wB g q a G bs wb pd gw).set 0 (q 0, .inr (2, [Value.ref (q 1), .int (nI (zNf a)), .ref (q 2), .int (nI (zNd a)), .ref (q 3), .ref (q 4), .ref (q 5), .ref (q 6), .ref (q 7), .ref (q 8), .int (nI (zNb a)), .ref (q 12), .ref (q 13), .ref (q 11)].set 10 (.int (nI n)))) = wB g q (zSetNb a n) G bs wb pd gw := rfl
theorem wB_set_bs1 {z : Nat} (hz : z < 3) (x : Int) : (wB g q a G bs wb pd gw).set (9 + z) (q (9 + z), .inr (0, [Value.int (iZ (bs z).1), .int (nI (bs z).2)].set 0 (.int (iZ x)))) = wB g q a G (va_up bs z (x, (bs z).2)) wb pd gw := by
  match z, hz with
  | 0, _ => rfl
  | 1, _ => rfl
  | 2, _ => rfl
theorem wB_set_bs2 {z : Nat} (hz : z < 3) (x : Nat) : (wB g q a G bs wb pd gw).set (9 + z) (q (9 + z), .inr (0, [Value.int (iZ (bs z).1), .int (nI (bs z).2)].set 1 (.int (nI x)))) = wB g q a G (va_up bs z ((bs z).1, x)) wb pd gw := by
  match z, hz with
  | 0, _ => rfl
  | 1, _ => rfl
  | 2, _ => rfl
theorem wB_set_wb {z : Nat} (hz : z < 2) (d : Nat) (x : Int) : (wB g q a G bs wb pd gw).set (14 + z) (q (14 + z), .inl (zI g, 5, .inl (upd (fun d => iZ (wb z d)) d (iZ x)))) = wB g q a G bs (zup2 wb z d x) pd gw := by
  rw [zup_Z]
  match z, hz with
  | 0, _ => rfl
  | 1, _ => rfl
theorem wB_set_pd {z : Nat} (hz : z < 2) (d : Nat) (x : Int) : (wB g q a G bs wb pd gw).set (16 + z) (q (16 + z), .inl (zI g, 5, .inl (upd (fun d => iZ (pd z d)) d (iZ x)))) = wB g q a G bs wb (zup2 pd z d x) gw := by
  rw [zup_Z]
  match z, hz with
  | 0, _ => rfl
  | 1, _ => rfl
theorem wB_set_gw {z : Nat} (hz : z < 2) (d : Nat) (x : Int) : (wB g q a G bs wb pd gw).set (18 + z) (q (18 + z), .inl (zI g, 5, .inl (upd (fun d => iZ (gw z d)) d (iZ x)))) = wB g q a G bs wb pd (zup2 gw z d x) := by
  rw [zup_Z]
  match z, hz with
  | 0, _ => rfl
  | 1, _ => rfl
end WB
end
section
/-! what a method answers, said plainly, and how a call goes on -/
def zPi (x : Int32) (w : va_W) : Option Value → va_W → Prop := fun v w' => v = some (.int x) ∧ w' = w
def zPl (x : Int64) (w : va_W) : Option Value → va_W → Prop := fun v w' => v = some (.long x) ∧ w' = w
def zPd (x : UInt64) (w : va_W) : Option Value → va_W → Prop := fun v w' => v = some (.double x) ∧ w' = w
def zPv (w : va_W) : Option Value → va_W → Prop := fun v w' => v = none ∧ w' = w
section ZR4
variable {g : zG} {l : Launch} {R : Room} {E : zEnv} {Q : State → Prop} {nL cells slots : Nat} {ws w2 : va_W} {lv lv' : List (Nat × Value)} {st rest : List Value} {pc : Nat} {cc : ByteArray} {own : String} {Ts : List Cond} {ret : Option FieldType}
theorem z_i {x : Int32} (kk : zW g l R E Q nL cells slots w2 lv (.int x :: rest) pc) : ∀ v w', zPi x w2 v w' → zW g l R E Q nL (cells + 0) (slots + 0) w' lv (v.toList ++ rest) pc := by
  rintro _ _ ⟨rfl, rfl⟩; exact kk
theorem z_l {x : Int64} (kk : zW g l R E Q nL cells slots w2 lv (.long x :: rest) pc) : ∀ v w', zPl x w2 v w' → zW g l R E Q nL (cells + 0) (slots + 0) w' lv (v.toList ++ rest) pc := by
  rintro _ _ ⟨rfl, rfl⟩; exact kk
theorem z_d {x : UInt64} (kk : zW g l R E Q nL cells slots w2 lv (.double x :: rest) pc) : ∀ v w', zPd x w2 v w' → zW g l R E Q nL (cells + 0) (slots + 0) w' lv (v.toList ++ rest) pc := by
  rintro _ _ ⟨rfl, rfl⟩; exact kk
theorem z_v (kk : zW g l R E Q nL cells slots w2 lv rest pc) : ∀ v w', zPv w2 v w' → zW g l R E Q nL (cells + 0) (slots + 0) w' lv (v.toList ++ rest) pc := by
  rintro _ _ ⟨rfl, rfl⟩; exact kk
theorem z_iretP (C : zC g E cc own Ts nL (some .int)) {v x : Int32} (d : decode cc pc = .ok (.ireturn, 1)) (hx : v = x) (hw : ws = w2) : zW g l R E (zMQ g E (zPi x w2) cells slots) nL cells slots ws lv [.int v] pc :=
  z_iret C d ⟨by rw [hx], hw⟩
theorem z_zretP (C : zC g E cc own Ts nL (some .boolean)) {v : Int32} {b : Bool} (d : decode cc pc = .ok (.ireturn, 1)) (hx : v = bI b) (hw : ws = w2) : zW g l R E (zMQ g E (zPi (bI b) w2) cells slots) nL cells slots ws lv [.int v] pc := by
  subst hx
  exact z_zret C (zbI_nar b) d ⟨rfl, hw⟩
theorem z_lretP (C : zC g E cc own Ts nL (some .long)) {v x : Int64} (d : decode cc pc = .ok (.lreturn, 1)) (hx : v = x) (hw : ws = w2) : zW g l R E (zMQ g E (zPl x w2) cells slots) nL cells slots ws lv [.long v] pc :=
  z_lret C d ⟨by rw [hx], hw⟩
theorem z_dretP (C : zC g E cc own Ts nL (some .double)) {v x : UInt64} (d : decode cc pc = .ok (.dreturn, 1)) (hx : v = x) (hw : ws = w2) : zW g l R E (zMQ g E (zPd x w2) cells slots) nL cells slots ws lv [.double v] pc :=
  z_dret C d ⟨by rw [hx], hw⟩
theorem z_vretP (C : zC g E cc own Ts nL none) (d : decode cc pc = .ok (.return_, 1)) (hw : ws = w2) : zW g l R E (zMQ g E (zPv w2) cells slots) nL cells slots ws lv [] pc :=
  z_vret C d ⟨rfl, hw⟩
theorem zW.lve (h : lv = lv') (k : zW g l R E Q nL cells slots ws lv' st pc) : zW g l R E Q nL cells slots ws lv st pc := h ▸ k
end ZR4
/-! more numbers -/
theorem zlt_N0 {x : Nat} (h : x < 2147483648) : nI x < 0 ↔ False := ⟨fun q => absurd ((nI_ltI (b := 0) h (by decide)).mp q) (Nat.not_lt_zero _), False.elim⟩
theorem zle_0N {x : Nat} (h : x < 2147483648) : 0 ≤ nI x ↔ True := ⟨fun _ => trivial, fun _ => nI_pos' h⟩
theorem zgt_0N {x : Nat} (h : x < 2147483648) : 0 < nI x ↔ 0 < x := nI_ltI (a := 0) (by decide) h
theorem zle_N0 {x : Nat} (h : x < 2147483648) : nI x ≤ 0 ↔ x = 0 := (nI_leI (b := 0) h (by decide)).trans (by omega)
/-- how many bits below k are set -/
def zPop (n : Nat) : Nat → Nat
  | 0 => 0
  | k + 1 => zPop n k + (if n.testBit k = true then 1 else 0)
/-- the second set of bids beats the first -/
def zBt (p r : Int × Nat) : Bool := if r.1 = p.1 then (if zPop r.2 12 = zPop p.2 12 then decide (r.2 < p.2) else decide (zPop p.2 12 < zPop r.2 12)) else decide (p.1 < r.1)
theorem zPop_le (n k : Nat) : zPop n k ≤ k := by
  induction k with
  | zero => exact Nat.le_refl 0
  | succ k ih =>
    unfold zPop
    split <;> omega
theorem zup_id {α : Type} (f : Nat → α) (k : Nat) : va_up f k (f k) = f := by
  funext j
  simp only [va_up]
  split
  · next h => rw [h]
  · rfl
theorem zOk.ow {a : zS} (h : zOk a) {b : Nat} (hb : b < zNb a) : zOw a b < zNd a := (h.2.2.2.2.2 b hb).1
theorem zOk.bu {a : zS} (h : zOk a) {b : Nat} (hb : b < zNb a) : zBu a b < 2 ^ zNf a := (h.2.2.2.2.2 b hb).2.2.1
theorem zOk.pr {a : zS} (h : zOk a) {b : Nat} (hb : b < zNb a) : zPr a b ≤ 999 := (h.2.2.2.2.2 b hb).2.2.2.1
theorem zOk.wo {a : zS} (h : zOk a) {b : Nat} (hb : b < zNb a) : zWo a b ≤ 999 := (h.2.2.2.2.2 b hb).2.2.2.2.1
theorem zOk.go {a : zS} (h : zOk a) {b : Nat} (hb : b < zNb a) : zGo a b ≤ 1 := (h.2.2.2.2.2 b hb).2.2.2.2.2
theorem zOk.rs {a : zS} (h : zOk a) {f : Nat} (hf : f < zNf a) : zRs a f ≤ 99 := h.2.2.2.2.1 f hf
theorem zp2_le {n k : Nat} (h : n ≤ k) : 2 ^ n ≤ 2 ^ k := Nat.pow_le_pow_right (by decide) h
theorem zOk.bu8 {a : zS} (h : zOk a) {b : Nat} (hb : b < zNb a) : zBu a b < 256 := by
  have h1 := h.bu hb
  have h2 : 2 ^ zNf a ≤ 2 ^ 8 := zp2_le h.1
  omega
theorem zSum_le {f : Nat → Nat} {c : Nat} : ∀ n, (∀ i, i < n → f i ≤ c) → zSum f n ≤ n * c
  | 0, _ => Nat.zero_le _
  | n + 1, h => by
    have h1 := zSum_le n (fun i hi => h i (by omega))
    have h2 := h n (by omega)
    unfold zSum
    rw [Nat.succ_mul]
    omega
theorem zRes_le {a : zS} (h : zOk a) (m : Nat) : zRes a m ≤ 792 := by
  have h1 : zRes a m ≤ zNf a * 99 := zSum_le _ (fun i hi => by
    show (if m.testBit i = true then zRs a i else 0) ≤ 99
    split
    · exact h.rs hi
    · exact Nat.zero_le _)
  have h2 := h.1
  omega
theorem zGn_bnd {a : zS} (h : zOk a) {b : Nat} (hb : b < zNb a) : -792 ≤ zGn a b ∧ zGn a b ≤ 999 := by
  have h1 := zRes_le h (zBu a b)
  have h2 := h.pr hb
  unfold zGn
  omega
theorem zG0_bnd {a : zS} (h : zOk a) (b : Nat) : -792 ≤ zG0 a b ∧ zG0 a b ≤ 999 := by
  unfold zG0
  split
  · next hb => exact zGn_bnd h hb
  · omega
theorem zn0 : nI 0 = 0 := rfl
theorem zn1 : nI 1 = 1 := rfl
end
section
/-- Integer.bitCount, as it counts -/
def zbc1 (x : Int32) : Int32 := x - (((x.toUInt32 >>> ((nI 1).toUInt32 &&& Int32.toUInt32 31)).toInt32) &&& (1431655765))
def zbc2 (x : Int32) : Int32 := (x &&& (858993459)) + (((x.toUInt32 >>> ((nI 2).toUInt32 &&& Int32.toUInt32 31)).toInt32) &&& (858993459))
def zbc3 (x : Int32) : Int32 := (x + ((x.toUInt32 >>> ((nI 4).toUInt32 &&& Int32.toUInt32 31)).toInt32)) &&& (252645135)
def zbc4 (x : Int32) : Int32 := x + ((x.toUInt32 >>> ((nI 8).toUInt32 &&& Int32.toUInt32 31)).toInt32)
def zbc5 (x : Int32) : Int32 := x + ((x.toUInt32 >>> ((nI 16).toUInt32 &&& Int32.toUInt32 31)).toInt32)
def zbc (x : Int32) : Int32 := zbc5 (zbc4 (zbc3 (zbc2 (zbc1 x)))) &&& nI 63
theorem zbc_all : (List.range 4096).all (fun n => decide (zbc (nI n) = nI (zPop n 12))) = true := by decide +kernel
theorem zbc_ok (n : Nat) (hn : n < 4096) : zbc (nI n) = nI (zPop n 12) := of_decide_eq_true (List.all_eq_true.mp zbc_all n (List.mem_range.mpr hn))
theorem zbc_raw (n : Nat) (hn : n < 4096) {v : Int32} (h : v = zbc (nI n)) : v = nI (zPop n 12) := h.trans (zbc_ok n hn)
set_option maxRecDepth 100000 in
set_option maxHeartbeats 4000000 in
theorem c_J6_bitCount_0f7a4  (l : Launch) (g : zG) (w : va_W) (n : Nat) (hn : n < 4096) : zM g l yJ6_bitCount_0f7a4 wsJ6_bitCount_0f7a4 { frames := 0, cells := 0, slots := 0, locals := 0 } [.int (nI n)] (w) (zPi (nI (zPop n 12)) (w)) 0 0 := by
  refine zM.of (cc := cJ6_bitCount_0f7a4) (nL := 1) (ret := (some .int)) (lv := [(0, .int (nI n))]) (by decide) rfl (Nat.le_of_ble_eq_true rfl) rfl ?_
  intro E C0 hi
  have C : zC g E cJ6_bitCount_0f7a4 RJ6 wsJ6_bitCount_0f7a4 1 (some .int) := C0
  refine z_iload_n C dJ6_bitCount_0f7a4_0 0 rfl ?_
  refine z_iload_n C dJ6_bitCount_0f7a4_1 0 rfl ?_
  refine z_iconst C (nI 1) dJ6_bitCount_0f7a4_2 (by decide) ?_
  refine z_iushr C dJ6_bitCount_0f7a4_3 (v := ((nI n).toUInt32 >>> ((nI 1).toUInt32 &&& Int32.toUInt32 31)).toInt32) rfl ?_
  refine z_ldcw C (1431655765) (C.w 1 rfl) dJ6_bitCount_0f7a4_4 ?_
  refine z_iand C dJ6_bitCount_0f7a4_7 (v := ((((nI n).toUInt32 >>> ((nI 1).toUInt32 &&& Int32.toUInt32 31)).toInt32) &&& (1431655765))) rfl ?_
  refine z_isub C dJ6_bitCount_0f7a4_8 (v := ((nI n) - ((((nI n).toUInt32 >>> ((nI 1).toUInt32 &&& Int32.toUInt32 31)).toInt32) &&& (1431655765)))) rfl ?_
  obtain ⟨x_9, e_9⟩ : ∃ y : Int32, y = ((nI n) - ((((nI n).toUInt32 >>> ((nI 1).toUInt32 &&& Int32.toUInt32 31)).toInt32) &&& (1431655765))) := ⟨_, rfl⟩
  refine zW.top e_9.symm ?_
  refine z_istore_n C dJ6_bitCount_0f7a4_9 (by decide) [(0, .int x_9)] rfl ?_
  refine z_iload_n C dJ6_bitCount_0f7a4_10 0 rfl ?_
  refine z_ldcw C (858993459) (C.w 2 rfl) dJ6_bitCount_0f7a4_11 ?_
  refine z_iand C dJ6_bitCount_0f7a4_14 (v := (x_9 &&& (858993459))) rfl ?_
  refine z_iload_n C dJ6_bitCount_0f7a4_15 0 rfl ?_
  refine z_iconst C (nI 2) dJ6_bitCount_0f7a4_16 (by decide) ?_
  refine z_iushr C dJ6_bitCount_0f7a4_17 (v := (x_9.toUInt32 >>> ((nI 2).toUInt32 &&& Int32.toUInt32 31)).toInt32) rfl ?_
  refine z_ldcw C (858993459) (C.w 2 rfl) dJ6_bitCount_0f7a4_18 ?_
  refine z_iand C dJ6_bitCount_0f7a4_21 (v := (((x_9.toUInt32 >>> ((nI 2).toUInt32 &&& Int32.toUInt32 31)).toInt32) &&& (858993459))) rfl ?_
  refine z_iadd C dJ6_bitCount_0f7a4_22 (v := ((x_9 &&& (858993459)) + (((x_9.toUInt32 >>> ((nI 2).toUInt32 &&& Int32.toUInt32 31)).toInt32) &&& (858993459)))) rfl ?_
  obtain ⟨x_23, e_23⟩ : ∃ y : Int32, y = ((x_9 &&& (858993459)) + (((x_9.toUInt32 >>> ((nI 2).toUInt32 &&& Int32.toUInt32 31)).toInt32) &&& (858993459))) := ⟨_, rfl⟩
  refine zW.top e_23.symm ?_
  refine z_istore_n C dJ6_bitCount_0f7a4_23 (by decide) [(0, .int x_23)] rfl ?_
  refine z_iload_n C dJ6_bitCount_0f7a4_24 0 rfl ?_
  refine z_iload_n C dJ6_bitCount_0f7a4_25 0 rfl ?_
  refine z_iconst C (nI 4) dJ6_bitCount_0f7a4_26 (by decide) ?_
  refine z_iushr C dJ6_bitCount_0f7a4_27 (v := (x_23.toUInt32 >>> ((nI 4).toUInt32 &&& Int32.toUInt32 31)).toInt32) rfl ?_
  refine z_iadd C dJ6_bitCount_0f7a4_28 (v := (x_23 + ((x_23.toUInt32 >>> ((nI 4).toUInt32 &&& Int32.toUInt32 31)).toInt32))) rfl ?_
  refine z_ldcw C (252645135) (C.w 3 rfl) dJ6_bitCount_0f7a4_29 ?_
  refine z_iand C dJ6_bitCount_0f7a4_32 (v := ((x_23 + ((x_23.toUInt32 >>> ((nI 4).toUInt32 &&& Int32.toUInt32 31)).toInt32)) &&& (252645135))) rfl ?_
  obtain ⟨x_33, e_33⟩ : ∃ y : Int32, y = ((x_23 + ((x_23.toUInt32 >>> ((nI 4).toUInt32 &&& Int32.toUInt32 31)).toInt32)) &&& (252645135)) := ⟨_, rfl⟩
  refine zW.top e_33.symm ?_
  refine z_istore_n C dJ6_bitCount_0f7a4_33 (by decide) [(0, .int x_33)] rfl ?_
  refine z_iload_n C dJ6_bitCount_0f7a4_34 0 rfl ?_
  refine z_iload_n C dJ6_bitCount_0f7a4_35 0 rfl ?_
  refine z_bipush C (nI 8) dJ6_bitCount_0f7a4_36 (by decide) ?_
  refine z_iushr C dJ6_bitCount_0f7a4_38 (v := (x_33.toUInt32 >>> ((nI 8).toUInt32 &&& Int32.toUInt32 31)).toInt32) rfl ?_
  refine z_iadd C dJ6_bitCount_0f7a4_39 (v := (x_33 + ((x_33.toUInt32 >>> ((nI 8).toUInt32 &&& Int32.toUInt32 31)).toInt32))) rfl ?_
  obtain ⟨x_40, e_40⟩ : ∃ y : Int32, y = (x_33 + ((x_33.toUInt32 >>> ((nI 8).toUInt32 &&& Int32.toUInt32 31)).toInt32)) := ⟨_, rfl⟩
  refine zW.top e_40.symm ?_
  refine z_istore_n C dJ6_bitCount_0f7a4_40 (by decide) [(0, .int x_40)] rfl ?_
  refine z_iload_n C dJ6_bitCount_0f7a4_41 0 rfl ?_
  refine z_iload_n C dJ6_bitCount_0f7a4_42 0 rfl ?_
  refine z_bipush C (nI 16) dJ6_bitCount_0f7a4_43 (by decide) ?_
  refine z_iushr C dJ6_bitCount_0f7a4_45 (v := (x_40.toUInt32 >>> ((nI 16).toUInt32 &&& Int32.toUInt32 31)).toInt32) rfl ?_
  refine z_iadd C dJ6_bitCount_0f7a4_46 (v := (x_40 + ((x_40.toUInt32 >>> ((nI 16).toUInt32 &&& Int32.toUInt32 31)).toInt32))) rfl ?_
  obtain ⟨x_47, e_47⟩ : ∃ y : Int32, y = (x_40 + ((x_40.toUInt32 >>> ((nI 16).toUInt32 &&& Int32.toUInt32 31)).toInt32)) := ⟨_, rfl⟩
  refine zW.top e_47.symm ?_
  refine z_istore_n C dJ6_bitCount_0f7a4_47 (by decide) [(0, .int x_47)] rfl ?_
  refine z_iload_n C dJ6_bitCount_0f7a4_48 0 rfl ?_
  refine z_bipush C (nI 63) dJ6_bitCount_0f7a4_49 (by decide) ?_
  refine z_iand C dJ6_bitCount_0f7a4_51 (v := (x_47 &&& (nI 63))) rfl ?_
  exact z_iretP C dJ6_bitCount_0f7a4_52 (by subst e_9 e_23 e_33 e_40 e_47; exact zbc_ok n hn) rfl
set_option maxRecDepth 100000 in
set_option maxHeartbeats 4000000 in
theorem c_X2_hasField  (l : Launch) (g : zG) (w : va_W) (m f : Nat) (hf : f < 31) : zM g l yX2_hasField wsX2_hasField { frames := 0, cells := 0, slots := 0, locals := 0 } [.int (nI m), .int (nI f)] (w) (zPi (bI (m.testBit f)) (w)) 0 0 := by
  refine zM.of (cc := cX2_hasField) (nL := 2) (ret := (some .boolean)) (lv := [(0, .int (nI m)), (1, .int (nI f))]) (by decide) rfl (Nat.le_of_ble_eq_true rfl) rfl ?_
  intro E C0 hi
  have C : zC g E cX2_hasField RX2 wsX2_hasField 2 (some .boolean) := C0
  refine z_iload_n C dX2_hasField_0 0 rfl ?_
  refine z_iconst C (nI 1) dX2_hasField_1 (by decide) ?_
  refine z_iload_n C dX2_hasField_2 1 rfl ?_
  refine z_ishl C dX2_hasField_3 (v := nI (2 ^ f)) (zshl_1N (by omega)) ?_
  refine z_iand C dX2_hasField_4 (v := nI (m &&& (2 ^ f))) (zand_NN m (2 ^ f)) ?_
  refine z_if_eq C 12 dX2_hasField_5 (by decide) (zbit_0 (by omega)) (fun c_5 => ?_) (fun c_5 => ?_)
  · skip
    refine z_iconst C (nI 0) dX2_hasField_12 (by decide) ?_
    exact z_zretP C dX2_hasField_13 (by simp_all [bI, zn0, zn1]) rfl
  · skip
    refine z_iconst C (nI 1) dX2_hasField_8 (by decide) ?_
    refine z_goto C 13 dX2_hasField_9 (by decide) ?_
    exact z_zretP C dX2_hasField_13 (by simp_all [bI, zn0, zn1]) rfl
theorem inX0_has_X0 : ∀ w ∈ wsX00, w ∈ wsX0_has := fun w h => List.mem_cons_of_mem _ (List.mem_append_right _ (h))
set_option maxRecDepth 100000 in
set_option maxHeartbeats 4000000 in
theorem c_X0_has (l : Launch) (g : zG) (q : Nat → Nat) (a : zS) (bs : Nat → Int × Nat) (wb pd gw : Nat → Nat → Int) (z : Nat) (hz : z < 3) (b : Nat) (hb : b < 31) : zM g l yX0_has wsX0_has { frames := 0, cells := 0, slots := 0, locals := 0 } [.ref (q (9 + z)), .int (nI b)] (wB g q a (zG0 a) bs wb pd gw) (zPi (bI ((bs z).2.testBit b)) (wB g q a (zG0 a) bs wb pd gw)) 0 0 := by
  refine zM.of (cc := cX0_has) (nL := 2) (ret := (some .boolean)) (lv := [(0, .ref (q (9 + z))), (1, .int (nI b))]) (by decide) rfl (Nat.le_of_ble_eq_true rfl) rfl ?_
  intro E C0 hi
  have C : zC g E cX0_has RX0 wsX0_has 2 (some .boolean) := C0
  refine z_aload_n C dX0_has_0 0 rfl ?_
  refine z_get C inX0_has_X0 (9 + z) (wB_bs (z := z) (by omega)) rfl 1 (by decide) (C.w 1 rfl) rfl dX0_has_1 ?_
  refine z_iconst C (nI 1) dX0_has_4 (by decide) ?_
  refine z_iload_n C dX0_has_5 1 rfl ?_
  refine z_ishl C dX0_has_6 (v := nI (2 ^ b)) (zshl_1N (by omega)) ?_
  refine z_iand C dX0_has_7 (v := nI (((bs z).2) &&& (2 ^ b))) (zand_NN ((bs z).2) (2 ^ b)) ?_
  refine z_if_eq C 15 dX0_has_8 (by decide) (zbit_0 (by omega)) (fun c_8 => ?_) (fun c_8 => ?_)
  · skip
    refine z_iconst C (nI 0) dX0_has_15 (by decide) ?_
    exact z_zretP C dX0_has_16 (by simp_all [bI, zn0, zn1]) rfl
  · skip
    refine z_iconst C (nI 1) dX0_has_11 (by decide) ?_
    refine z_goto C 16 dX0_has_12 (by decide) ?_
    exact z_zretP C dX0_has_16 (by simp_all [bI, zn0, zn1]) rfl
theorem inX0_clear_X0 : ∀ w ∈ wsX00, w ∈ wsX0_clear := fun w h => List.mem_cons_of_mem _ (List.mem_append_right _ (h))
set_option maxRecDepth 100000 in
set_option maxHeartbeats 4000000 in
theorem c_X0_clear (l : Launch) (g : zG) (q : Nat → Nat) (a : zS) (bs : Nat → Int × Nat) (wb pd gw : Nat → Nat → Int) (z : Nat) (hz : z < 3) : zM g l yX0_clear wsX0_clear { frames := 0, cells := 0, slots := 0, locals := 0 } [.ref (q (9 + z))] (wB g q a (zG0 a) bs wb pd gw) (zPv (wB g q a (zG0 a) (va_up bs z (0, 0)) wb pd gw)) 0 0 := by
  refine zM.of (cc := cX0_clear) (nL := 1) (ret := none) (lv := [(0, .ref (q (9 + z)))]) (by decide) rfl (Nat.le_of_ble_eq_true rfl) rfl ?_
  intro E C0 hi
  have C : zC g E cX0_clear RX0 wsX0_clear 1 none := C0
  refine z_aload_n C dX0_clear_0 0 rfl ?_
  refine z_iconst C (nI 0) dX0_clear_1 (by decide) ?_
  refine z_put C inX0_clear_X0 tyX0_ok nmX0 (9 + z) (wB_bs (z := z) (by omega)) rfl 0 (by decide) (C.w 1 rfl) rfl (tyX0_ok 0 (by decide)) rfl rfl (Nat.le_of_ble_eq_true rfl) dX0_clear_2 (wB_set_bs1 (by omega) 0) ?_
  refine z_aload_n C dX0_clear_5 0 rfl ?_
  refine z_iconst C (nI 0) dX0_clear_6 (by decide) ?_
  refine z_put C inX0_clear_X0 tyX0_ok nmX0 (9 + z) (wB_bs (z := z) (by omega)) rfl 1 (by decide) (C.w 2 rfl) rfl (tyX0_ok 1 (by decide)) rfl rfl (Nat.le_of_ble_eq_true rfl) dX0_clear_7 (wB_set_bs2 (by omega) 0) ?_
  exact z_vretP C dX0_clear_10 (by simp_all [bx_uu, va_up_self])
theorem inX0_isBeatenBy_X0 : ∀ w ∈ wsX00, w ∈ wsX0_isBeatenBy := fun w h => List.mem_cons_of_mem _ (List.mem_append_right _ (h))
set_option maxRecDepth 100000 in
set_option maxHeartbeats 4000000 in
theorem c_X0_isBeatenBy (l : Launch) (g : zG) (q : Nat → Nat) (a : zS) (bs : Nat → Int × Nat) (wb pd gw : Nat → Nat → Int) (z : Nat) (hz : z < 3) (og : Int) (on : Nat) (h1 : zB31 og) (h2 : zB31 (bs z).1) (h3 : on < 4096) (h4 : (bs z).2 < 4096) : zM g l yX0_isBeatenBy wsX0_isBeatenBy { frames := 1, cells := 0, slots := 0, locals := 20 } [.ref (q (9 + z)), .int (iZ og), .int (nI on)] (wB g q a (zG0 a) bs wb pd gw) (zPi (bI (zBt (bs z) (og, on))) (wB g q a (zG0 a) bs wb pd gw)) 0 0 := by
  refine zM.of (cc := cX0_isBeatenBy) (nL := 5) (ret := (some .boolean)) (lv := [(0, .ref (q (9 + z))), (1, .int (iZ og)), (2, .int (nI on))]) (by decide) rfl (Nat.le_of_ble_eq_true rfl) rfl ?_
  intro E C0 hi
  have C : zC g E cX0_isBeatenBy RX0 wsX0_isBeatenBy 5 (some .boolean) := C0
  unfold zB31 at h1 h2
  have p1 := zPop_le on 12
  have p2 := zPop_le (bs z).2 12
  refine z_iload_n C dX0_isBeatenBy_0 1 rfl ?_
  refine z_aload_n C dX0_isBeatenBy_1 0 rfl ?_
  refine z_get C inX0_isBeatenBy_X0 (9 + z) (wB_bs (z := z) (by omega)) rfl 0 (by decide) (C.w 1 rfl) rfl dX0_isBeatenBy_2 ?_
  refine z_icmp_eq C 22 dX0_isBeatenBy_5 (by decide) (zeq_ZZ (x := og) (y := ((bs z).1)) (by unfold zB31; omega) (by unfold zB31; omega)) (fun c_5 => ?_) (fun c_5 => ?_)
  · skip
    refine z_aload_n C dX0_isBeatenBy_22 0 rfl ?_
    refine z_get C inX0_isBeatenBy_X0 (9 + z) (wB_bs (z := z) (by omega)) rfl 1 (by decide) (C.w 2 rfl) rfl dX0_isBeatenBy_23 ?_
    refine z_callS C (c_J6_bitCount_0f7a4 l g (wB g q a (zG0 a) bs wb pd gw) ((bs z).2) (by omega)) (va_cwS 1 C.ts gX0_isBeatenBy_J6_bitCount_0f7a4 rfl rfl rfl (by decide +kernel) ⟨Nat.le_of_ble_eq_true rfl, Nat.le_of_ble_eq_true rfl⟩) rfl rfl (Nat.le_of_ble_eq_true rfl) dX0_isBeatenBy_26 ⟨Nat.zero_le _, Nat.zero_le _⟩ (z_i ?_)
    refine z_istore_n C dX0_isBeatenBy_29 (by decide) [(3, .int (nI (zPop ((bs z).2) 12))), (0, .ref (q (9 + z))), (1, .int (iZ og)), (2, .int (nI on))] rfl ?_
    refine z_iload_n C dX0_isBeatenBy_30 3 rfl ?_
    refine z_callS C (c_J6_bitCount_0f7a4 l g (wB g q a (zG0 a) bs wb pd gw) on (by omega)) (va_cwS 1 C.ts gX0_isBeatenBy_J6_bitCount_0f7a4 rfl rfl rfl (by decide +kernel) ⟨Nat.le_of_ble_eq_true rfl, Nat.le_of_ble_eq_true rfl⟩) rfl rfl (Nat.le_of_ble_eq_true rfl) dX0_isBeatenBy_31 ⟨Nat.zero_le _, Nat.zero_le _⟩ (z_i ?_)
    refine z_istore C dX0_isBeatenBy_34 (by decide) [(4, .int (nI (zPop on 12))), (3, .int (nI (zPop ((bs z).2) 12))), (0, .ref (q (9 + z))), (1, .int (iZ og)), (2, .int (nI on))] rfl ?_
    refine z_iload C dX0_isBeatenBy_36 0 rfl ?_
    refine z_iload_n C dX0_isBeatenBy_38 1 rfl ?_
    refine z_icmp_eq C 54 dX0_isBeatenBy_39 (by decide) (zeq_NN (by omega) (by omega)) (fun c_39 => ?_) (fun c_39 => ?_)
    · skip
      refine z_iload_n C dX0_isBeatenBy_54 4 rfl ?_
      refine z_aload_n C dX0_isBeatenBy_55 2 rfl ?_
      refine z_get C inX0_isBeatenBy_X0 (9 + z) (wB_bs (z := z) (by omega)) rfl 1 (by decide) (C.w 2 rfl) rfl dX0_isBeatenBy_56 ?_
      refine z_icmp_ge C 66 dX0_isBeatenBy_59 (by decide) (zle_NN (by omega) (by omega)) (fun c_59 => ?_) (fun c_59 => ?_)
      · skip
        refine z_iconst C (nI 0) dX0_isBeatenBy_66 (by decide) ?_
        exact z_zretP C dX0_isBeatenBy_67 (by simp_all [bI, zn0, zn1, zBt]) rfl
      · skip
        refine z_iconst C (nI 1) dX0_isBeatenBy_62 (by decide) ?_
        refine z_goto C 67 dX0_isBeatenBy_63 (by decide) ?_
        exact z_zretP C dX0_isBeatenBy_67 (by simp_all [bI, zn0, zn1, zBt]) rfl
    · skip
      refine z_iload C dX0_isBeatenBy_42 0 rfl ?_
      refine z_iload_n C dX0_isBeatenBy_44 1 rfl ?_
      refine z_icmp_le C 52 dX0_isBeatenBy_45 (by decide) (zle_NN (by omega) (by omega)) (fun c_45 => ?_) (fun c_45 => ?_)
      · skip
        refine z_iconst C (nI 0) dX0_isBeatenBy_52 (by decide) ?_
        exact z_zretP C dX0_isBeatenBy_53 (by simp_all [bI, zn0, zn1, zBt]) rfl
      · skip
        refine z_iconst C (nI 1) dX0_isBeatenBy_48 (by decide) ?_
        refine z_goto C 53 dX0_isBeatenBy_49 (by decide) ?_
        exact z_zretP C dX0_isBeatenBy_53 (by simp_all [bI, zn0, zn1, zBt]) rfl
  · skip
    refine z_iload_n C dX0_isBeatenBy_8 1 rfl ?_
    refine z_aload_n C dX0_isBeatenBy_9 0 rfl ?_
    refine z_get C inX0_isBeatenBy_X0 (9 + z) (wB_bs (z := z) (by omega)) rfl 0 (by decide) (C.w 1 rfl) rfl dX0_isBeatenBy_10 ?_
    refine z_icmp_le C 20 dX0_isBeatenBy_13 (by decide) (zle_ZZ (x := og) (y := ((bs z).1)) (by unfold zB31; omega) (by unfold zB31; omega)) (fun c_13 => ?_) (fun c_13 => ?_)
    · skip
      refine z_iconst C (nI 0) dX0_isBeatenBy_20 (by decide) ?_
      exact z_zretP C dX0_isBeatenBy_21 (by simp_all [bI, zn0, zn1, zBt]) rfl
    · skip
      refine z_iconst C (nI 1) dX0_isBeatenBy_16 (by decide) ?_
      refine z_goto C 21 dX0_isBeatenBy_17 (by decide) ?_
      exact z_zretP C dX0_isBeatenBy_21 (by simp_all [bI, zn0, zn1, zBt]) rfl
theorem inX0_consider_X0 : ∀ w ∈ wsX00, w ∈ wsX0_consider := fun w h => List.mem_cons_of_mem _ (List.mem_append_right _ (h))
set_option maxRecDepth 100000 in
set_option maxHeartbeats 4000000 in
theorem c_X0_consider (l : Launch) (g : zG) (q : Nat → Nat) (a : zS) (bs : Nat → Int × Nat) (wb pd gw : Nat → Nat → Int) (z : Nat) (hz : z < 3) (og : Int) (on : Nat) (h1 : zB31 og) (h2 : zB31 (bs z).1) (h3 : on < 4096) (h4 : (bs z).2 < 4096) : zM g l yX0_consider wsX0_consider { frames := 2, cells := 0, slots := 0, locals := 44 } [.ref (q (9 + z)), .int (iZ og), .int (nI on)] (wB g q a (zG0 a) bs wb pd gw) (zPv (wB g q a (zG0 a) (va_up bs z (if zBt (bs z) (og, on) = true then (og, on) else bs z)) wb pd gw)) 0 0 := by
  refine zM.of (cc := cX0_consider) (nL := 3) (ret := none) (lv := [(0, .ref (q (9 + z))), (1, .int (iZ og)), (2, .int (nI on))]) (by decide) rfl (Nat.le_of_ble_eq_true rfl) rfl ?_
  intro E C0 hi
  have C : zC g E cX0_consider RX0 wsX0_consider 3 none := C0
  refine z_aload_n C dX0_consider_0 0 rfl ?_
  refine z_iload_n C dX0_consider_1 1 rfl ?_
  refine z_iload_n C dX0_consider_2 2 rfl ?_
  refine z_callV C (c_X0_isBeatenBy l g q a bs wb pd gw z hz og on h1 h2 h3 h4) (cwV 2 C.ts gX0_consider_X0_isBeatenBy rfl rfl rfl (by decide +kernel) ⟨Nat.le_of_ble_eq_true rfl, Nat.le_of_ble_eq_true rfl⟩) (wB_bs (z := z) (by omega)) rfl rfl rfl (Nat.le_of_ble_eq_true rfl) dX0_consider_3 ⟨Nat.zero_le _, Nat.zero_le _⟩ (z_i ?_)
  refine z_if_eq C 19 dX0_consider_6 (by decide) (zeq_B0 _) (fun c_6 => ?_) (fun c_6 => ?_)
  · skip
    exact z_vretP C dX0_consider_19 (by simp_all [bx_uu, zup_id, va_up_self])
  · skip
    refine z_aload_n C dX0_consider_9 0 rfl ?_
    refine z_iload_n C dX0_consider_10 1 rfl ?_
    refine z_put C inX0_consider_X0 tyX0_ok nmX0 (9 + z) (wB_bs (z := z) (by omega)) rfl 0 (by decide) (C.w 1 rfl) rfl (tyX0_ok 0 (by decide)) rfl rfl (Nat.le_of_ble_eq_true rfl) dX0_consider_11 (wB_set_bs1 (by omega) og) ?_
    refine z_aload_n C dX0_consider_14 0 rfl ?_
    refine z_iload_n C dX0_consider_15 2 rfl ?_
    refine z_put C inX0_consider_X0 tyX0_ok nmX0 (9 + z) (wB_bs (z := z) (by omega)) rfl 1 (by decide) (C.w 2 rfl) rfl (tyX0_ok 1 (by decide)) rfl rfl (Nat.le_of_ble_eq_true rfl) dX0_consider_16 (wB_set_bs2 (by omega) on) ?_
    exact z_vretP C dX0_consider_19 (by simp_all [bx_uu, zup_id, va_up_self])
end
section
def zCnt (p : Nat → Bool) : Nat → Nat
  | 0 => 0
  | n + 1 => zCnt p n + (if p n = true then 1 else 0)
/-- the first place from i on, of k places, where p holds; -1 without one -/
def zFst (p : Nat → Bool) (i : Nat) : Nat → Int
  | 0 => -1
  | k + 1 => if p i = true then (i : Int) else zFst p (i + 1) k
def zFil (f : Nat → Int) (n : Nat) (x : Int) : Nat → Int := fun j => if j < n then x else f j
theorem zFil_up (f : Nat → Int) (i : Nat) (x : Int) : va_up (zFil f i x) i x = zFil f (i + 1) x := by
  funext j
  simp only [va_up, zFil]
  by_cases h : j = i
  · subst h
    rw [if_pos rfl, if_pos (by omega)]
  · rw [if_neg h]
    by_cases h2 : j < i
    · rw [if_pos h2, if_pos (by omega)]
    · rw [if_neg h2, if_neg (by omega)]
theorem zFil_0 (f : Nat → Int) (x : Int) : zFil f 0 x = f := by
  funext j
  simp [zFil]
theorem zset_get {w : va_W} {k : Nat} {e e2 : Nat × va_E} (h : w[k]? = some e) : (w.set k e2)[k]? = some e2 := by
  rw [List.getElem?_set_self (List.getElem?_eq_some_iff.mp h).1]
theorem zset_self {w : va_W} {k : Nat} {e : Nat × va_E} (h : w[k]? = some e) : w = w.set k e := by
  obtain ⟨h1, h2⟩ := List.getElem?_eq_some_iff.mp h
  rw [← h2, List.set_getElem_self]
theorem zset_put {g : zG} (w : va_W) (k adr : Nat) {n : Nat} {e1 : va_E} (f : Nat → Int) (i : Nat) (x : Int) : (w.set k (adr, e1)).set k (adr, .inl (zI g, n, .inl (upd (fun j => iZ (f j)) i (iZ x)))) = w.set k (adr, .inl (zI g, n, .inl (fun j => iZ (va_up f i x j)))) := by
  rw [zup_Z, List.set_set]
/-- how many of a bidder's bids are not withdrawn -/
def zLof (a : zS) (d : Nat) : Nat := zCnt (fun b => decide (zOw a b = d) && zGo a b == 0) (zNb a)
section WBF
variable {g : zG} {q : Nat → Nat} {a : zS} {G : Nat → Int} {bs : Nat → Int × Nat} {wb pd gw : Nat → Nat → Int}
theorem wB_fil_wb {z : Nat} (hz : z < 2) (f : Nat → Int) : (wB g q a G bs wb pd gw).set (14 + z) (q (14 + z), .inl (zI g, 5, .inl (fun j => iZ (f j)))) = wB g q a G bs (va_up wb z f) pd gw := by
  match z, hz with
  | 0, _ => rfl
  | 1, _ => rfl
theorem wB_fil_pd {z : Nat} (hz : z < 2) (f : Nat → Int) : (wB g q a G bs wb pd gw).set (16 + z) (q (16 + z), .inl (zI g, 5, .inl (fun j => iZ (f j)))) = wB g q a G bs wb (va_up pd z f) gw := by
  match z, hz with
  | 0, _ => rfl
  | 1, _ => rfl
theorem wB_fil_gw {z : Nat} (hz : z < 2) (f : Nat → Int) : (wB g q a G bs wb pd gw).set (18 + z) (q (18 + z), .inl (zI g, 5, .inl (fun j => iZ (f j)))) = wB g q a G bs wb pd (va_up gw z f) := by
  match z, hz with
  | 0, _ => rfl
  | 1, _ => rfl
end WBF
theorem inX2_reservesOf_X2 : ∀ w ∈ wsX20, w ∈ wsX2_reservesOf := fun w h => List.mem_cons_of_mem _ (List.mem_append_right _ (h))
set_option maxRecDepth 100000 in
set_option maxHeartbeats 4000000 in
theorem c_X2_reservesOf (l : Launch) (g : zG) (q : Nat → Nat) (a : zS) (bs : Nat → Int × Nat) (wb pd gw : Nat → Nat → Int) (G : Nat → Int) (ha : zOk a) (m : Nat) : zM g l yX2_reservesOf wsX2_reservesOf { frames := 1, cells := 0, slots := 0, locals := 21 } [.ref (q 0), .int (nI m)] (wB g q a G bs wb pd gw) (zPi (nI (zRes a m)) (wB g q a G bs wb pd gw)) 0 0 := by
  refine zM.of (cc := cX2_reservesOf) (nL := 4) (ret := (some .int)) (lv := [(0, .ref (q 0)), (1, .int (nI m))]) (by decide) rfl (Nat.le_of_ble_eq_true rfl) rfl ?_
  intro E C0 hi
  have C : zC g E cX2_reservesOf RX2 wsX2_reservesOf 4 (some .int) := C0
  obtain ⟨hnf, hnd, hnb, hou, hrs, hbd⟩ := id ha
  refine z_iconst C (nI 0) dX2_reservesOf_0 (by decide) ?_
  refine z_istore_n C dX2_reservesOf_1 (by decide) [(2, .int (nI 0)), (0, .ref (q 0)), (1, .int (nI m))] rfl ?_
  refine z_iconst C (nI 0) dX2_reservesOf_2 (by decide) ?_
  refine z_istore_n C dX2_reservesOf_3 (by decide) [(3, .int (nI 0)), (2, .int (nI 0)), (0, .ref (q 0)), (1, .int (nI m))] rfl ?_
  refine zW.pick (lv' := [(0, .ref (q 0)), (1, .int (nI m)), (2, .int (nI 0)), (3, .int (nI 0))]) [2, 3, 1, 0] rfl ?_
  have hlp4 : ∀ (k i : Nat), i + k = zNf a → zW g l ({ frames := 1, cells := 0, slots := 0, locals := 21 }) E (zMQ g E (zPi (nI (zRes a m)) (wB g q a G bs wb pd gw)) 0 0) 4 0 0 (wB g q a G bs wb pd gw) [(0, .ref (q 0)), (1, .int (nI m)), (2, .int (nI (zSum (fun f => if m.testBit f = true then zRs a f else 0) i))), (3, .int (nI i))] [] 4 := by
    intro k
    induction k with
    | zero =>
      intro i hik
      refine z_iload_n C dX2_reservesOf_4 3 rfl ?_
      refine z_aload_n C dX2_reservesOf_5 0 rfl ?_
      refine z_get C inX2_reservesOf_X2 0 wB_o rfl 1 (by decide) (C.w 1 rfl) rfl dX2_reservesOf_6 ?_
      refine z_icmp_ge C 35 dX2_reservesOf_9 (by decide) (zle_NN (by omega) (by omega)) (fun c_9 => ?_) (fun h9 => absurd (by omega) h9)
      refine z_iload_n C dX2_reservesOf_35 2 rfl ?_
      exact z_iretP C dX2_reservesOf_36 (by rw [show i = zNf a by omega]; rfl) rfl
    | succ k ih4 =>
      intro i hik
      refine z_iload_n C dX2_reservesOf_4 3 rfl ?_
      refine z_aload_n C dX2_reservesOf_5 0 rfl ?_
      refine z_get C inX2_reservesOf_X2 0 wB_o rfl 1 (by decide) (C.w 1 rfl) rfl dX2_reservesOf_6 ?_
      refine z_icmp_ge C 35 dX2_reservesOf_9 (by decide) (zle_NN (by omega) (by omega)) (fun h9 => absurd h9 (by omega)) (fun c_9 => ?_)
      refine z_iload_n C dX2_reservesOf_12 1 rfl ?_
      refine z_iload_n C dX2_reservesOf_13 3 rfl ?_
      refine z_callS C (c_X2_hasField l g (wB g q a G bs wb pd gw) m i (by omega)) (va_cwS 2 C.ts gX2_reservesOf_X2_hasField rfl rfl rfl (by decide +kernel) ⟨Nat.le_of_ble_eq_true rfl, Nat.le_of_ble_eq_true rfl⟩) rfl rfl (Nat.le_of_ble_eq_true rfl) dX2_reservesOf_14 ⟨Nat.zero_le _, Nat.zero_le _⟩ (z_i ?_)
      refine z_if_eq C 29 dX2_reservesOf_17 (by decide) (zeq_B0 _) (fun c_17 => ?_) (fun c_17 => ?_)
      · skip
        refine z_iinc C dX2_reservesOf_29 3 (nI (i + 1)) rfl (nI_add i 1) (by decide) [(3, .int (nI (i + 1))), (0, .ref (q 0)), (1, .int (nI m)), (2, .int (nI (zSum (fun f => if m.testBit f = true then zRs a f else 0) i)))] rfl ?_
        refine z_goto C 4 dX2_reservesOf_32 (by decide) ?_
        refine zW.pick (lv' := [(0, .ref (q 0)), (1, .int (nI m)), (2, .int (nI (zSum (fun f => if m.testBit f = true then zRs a f else 0) i))), (3, .int (nI (i + 1)))]) [1, 2, 3, 0] rfl ?_
        refine zW.lve (lv' := [(0, .ref (q 0)), (1, .int (nI m)), (2, .int (nI (zSum (fun f => if m.testBit f = true then zRs a f else 0) (i + 1)))), (3, .int (nI (i + 1)))]) (by simp [zSum, c_17]) ?_
        exact ih4 (i + 1) (by omega)
      · skip
        refine z_iload_n C dX2_reservesOf_20 2 rfl ?_
        refine z_aload_n C dX2_reservesOf_21 0 rfl ?_
        refine z_get C inX2_reservesOf_X2 0 wB_o rfl 0 (by decide) (C.w 2 rfl) rfl dX2_reservesOf_22 ?_
        refine z_iload_n C dX2_reservesOf_25 3 rfl ?_
        refine z_ialdN C 1 wB_rs (by omega) (by decide) dX2_reservesOf_26 (v := nI (zRs a i)) rfl ?_
        have f_26b := (ha.rs (f := i) (by omega))
        refine z_iadd C dX2_reservesOf_27 (v := nI ((zSum (fun f => if m.testBit f = true then zRs a f else 0) i) + (zRs a i))) (nI_add (zSum (fun f => if m.testBit f = true then zRs a f else 0) i) (zRs a i)) ?_
        refine z_istore_n C dX2_reservesOf_28 (by decide) [(2, .int (nI ((zSum (fun f => if m.testBit f = true then zRs a f else 0) i) + (zRs a i)))), (0, .ref (q 0)), (1, .int (nI m)), (3, .int (nI i))] rfl ?_
        refine z_iinc C dX2_reservesOf_29 3 (nI (i + 1)) rfl (nI_add i 1) (by decide) [(3, .int (nI (i + 1))), (2, .int (nI ((zSum (fun f => if m.testBit f = true then zRs a f else 0) i) + (zRs a i)))), (0, .ref (q 0)), (1, .int (nI m))] rfl ?_
        refine z_goto C 4 dX2_reservesOf_32 (by decide) ?_
        refine zW.pick (lv' := [(0, .ref (q 0)), (1, .int (nI m)), (2, .int (nI ((zSum (fun f => if m.testBit f = true then zRs a f else 0) i) + (zRs a i)))), (3, .int (nI (i + 1)))]) [2, 3, 1, 0] rfl ?_
        refine zW.lve (lv' := [(0, .ref (q 0)), (1, .int (nI m)), (2, .int (nI (zSum (fun f => if m.testBit f = true then zRs a f else 0) (i + 1)))), (3, .int (nI (i + 1)))]) (by simp [zSum, c_17]) ?_
        exact ih4 (i + 1) (by omega)
  exact hlp4 (zNf a) 0 (by omega)
theorem inX2_counts_X2 : ∀ w ∈ wsX20, w ∈ wsX2_counts := fun w h => List.mem_cons_of_mem _ (List.mem_append_right _ (h))
set_option maxRecDepth 100000 in
set_option maxHeartbeats 4000000 in
theorem c_X2_counts (l : Launch) (g : zG) (q : Nat → Nat) (a : zS) (bs : Nat → Int × Nat) (wb pd gw : Nat → Nat → Int) (ha : zOk a) (b : Nat) (hb : b < zNb a) : zM g l yX2_counts wsX2_counts { frames := 0, cells := 0, slots := 0, locals := 0 } [.ref (q 0), .int (nI b)] (wB g q a (zG0 a) bs wb pd gw) (zPi (bI (zCn a (zOu a) b)) (wB g q a (zG0 a) bs wb pd gw)) 0 0 := by
  refine zM.of (cc := cX2_counts) (nL := 2) (ret := (some .boolean)) (lv := [(0, .ref (q 0)), (1, .int (nI b))]) (by decide) rfl (Nat.le_of_ble_eq_true rfl) rfl ?_
  intro E C0 hi
  have C : zC g E cX2_counts RX2 wsX2_counts 2 (some .boolean) := C0
  obtain ⟨hnf, hnd, hnb, hou, hrs, hbd⟩ := id ha
  refine z_aload_n C dX2_counts_0 0 rfl ?_
  refine z_get C inX2_counts_X2 0 wB_o rfl 9 (by decide) (C.w 1 rfl) rfl dX2_counts_1 ?_
  refine z_iload_n C dX2_counts_4 1 rfl ?_
  refine z_zaldN C 8 wB_go (by omega) (by decide) dX2_counts_5 (v := nI (zGo a b)) rfl ?_
  have f_5b := (ha.go (b := b) (by omega))
  refine z_if_ne C 36 dX2_counts_6 (by decide) (zeq_N0 (by omega)) (fun c_6 => ?_) (fun c_6 => ?_)
  · skip
    refine z_iconst C (nI 0) dX2_counts_36 (by decide) ?_
    exact z_zretP C dX2_counts_37 (by simp_all [bI, zn0, zn1, zCn, zG0, zIn]) rfl
  · skip
    refine z_aload_n C dX2_counts_9 0 rfl ?_
    refine z_get C inX2_counts_X2 0 wB_o rfl 2 (by decide) (C.w 2 rfl) rfl dX2_counts_10 ?_
    refine z_aload_n C dX2_counts_13 0 rfl ?_
    refine z_get C inX2_counts_X2 0 wB_o rfl 4 (by decide) (C.w 3 rfl) rfl dX2_counts_14 ?_
    refine z_iload_n C dX2_counts_17 1 rfl ?_
    refine z_ialdN C 3 wB_ow (by omega) (by decide) dX2_counts_18 (v := nI (zOw a b)) rfl ?_
    have f_18b := (ha.ow (b := b) (by omega))
    refine z_zaldN C 2 wB_in (by omega) (by decide) dX2_counts_19 (v := bI (zIn a (zOw a b))) rfl ?_
    refine z_if_eq C 36 dX2_counts_20 (by decide) (zeq_B0 _) (fun c_20 => ?_) (fun c_20 => ?_)
    · skip
      refine z_iconst C (nI 0) dX2_counts_36 (by decide) ?_
      exact z_zretP C dX2_counts_37 (by simp_all [bI, zn0, zn1, zCn, zG0, zIn]) rfl
    · skip
      refine z_aload_n C dX2_counts_23 0 rfl ?_
      refine z_get C inX2_counts_X2 0 wB_o rfl 7 (by decide) (C.w 4 rfl) rfl dX2_counts_24 ?_
      refine z_iload_n C dX2_counts_27 1 rfl ?_
      refine z_ialdN C 6 wB_G (by omega) (by decide) dX2_counts_28 (v := iZ ((zG0 a) b)) rfl ?_
      have f_28b := (zG0_bnd ha b)
      refine z_if_lt C 36 dX2_counts_29 (by decide) (zlt_Z0 (by unfold zB31; omega)) (fun c_29 => ?_) (fun c_29 => ?_)
      · skip
        refine z_iconst C (nI 0) dX2_counts_36 (by decide) ?_
        exact z_zretP C dX2_counts_37 (by simp_all [bI, zn0, zn1, zCn, zG0, zIn]) rfl
      · skip
        refine z_iconst C (nI 1) dX2_counts_32 (by decide) ?_
        refine z_goto C 37 dX2_counts_33 (by decide) ?_
        exact z_zretP C dX2_counts_37 (by simp_all [bI, zn0, zn1, zCn, zG0, zIn]) rfl
theorem inX2_putPrice_X2 : ∀ w ∈ wsX20, w ∈ wsX2_putPrice := fun w h => List.mem_cons_of_mem _ (List.mem_append_right _ (h))
set_option maxRecDepth 100000 in
set_option maxHeartbeats 4000000 in
theorem c_X2_putPrice (l : Launch) (g : zG) (q : Nat → Nat) (a : zS) (bs : Nat → Int × Nat) (wb pd gw : Nat → Nat → Int) (G : Nat → Int) (ha : zOk a) (b x : Nat) (hb : b < 12) (hx : zOk (zSetPr a b x)) : zM g l yX2_putPrice wsX2_putPrice { frames := 2, cells := 0, slots := 0, locals := 44 } [.ref (q 0), .int (nI b), .int (nI x)] (wB g q a G bs wb pd gw) (zPv (wB g q (zSetPr a b x) (va_up G b ((x : Int) - (zRes a (zBu a b) : Int))) bs wb pd gw)) 0 0 := by
  refine zM.of (cc := cX2_putPrice) (nL := 3) (ret := none) (lv := [(0, .ref (q 0)), (1, .int (nI b)), (2, .int (nI x))]) (by decide) rfl (Nat.le_of_ble_eq_true rfl) rfl ?_
  intro E C0 hi
  have C : zC g E cX2_putPrice RX2 wsX2_putPrice 3 none := C0
  obtain ⟨hnf, hnd, hnb, hou, hrs, hbd⟩ := id ha
  refine z_aload_n C dX2_putPrice_0 0 rfl ?_
  refine z_get C inX2_putPrice_X2 0 wB_o rfl 6 (by decide) (C.w 1 rfl) rfl dX2_putPrice_1 ?_
  refine z_iload_n C dX2_putPrice_4 1 rfl ?_
  refine z_iload_n C dX2_putPrice_5 2 rfl ?_
  refine z_iastN C 5 wB_pr (by omega) (by decide) dX2_putPrice_6 (wB_set_pr b x) ?_
  refine z_aload_n C dX2_putPrice_7 0 rfl ?_
  refine z_get C inX2_putPrice_X2 0 wB_o rfl 7 (by decide) (C.w 2 rfl) rfl dX2_putPrice_8 ?_
  refine z_iload_n C dX2_putPrice_11 1 rfl ?_
  refine z_iload_n C dX2_putPrice_12 2 rfl ?_
  refine z_aload_n C dX2_putPrice_13 0 rfl ?_
  refine z_aload_n C dX2_putPrice_14 0 rfl ?_
  refine z_get C inX2_putPrice_X2 0 wB_o rfl 5 (by decide) (C.w 3 rfl) rfl dX2_putPrice_15 ?_
  refine z_iload_n C dX2_putPrice_18 1 rfl ?_
  refine z_ialdN C 4 wB_bu (by omega) (by decide) dX2_putPrice_19 (v := nI (zBu (zSetPr a b x) b)) rfl ?_
  refine z_callV C (c_X2_reservesOf l g q (zSetPr a b x) bs wb pd gw G hx (zBu (zSetPr a b x) b)) (cwV 1 C.ts gX2_putPrice_X2_reservesOf rfl rfl rfl (by decide +kernel) ⟨Nat.le_of_ble_eq_true rfl, Nat.le_of_ble_eq_true rfl⟩) wB_o rfl rfl rfl (Nat.le_of_ble_eq_true rfl) dX2_putPrice_20 ⟨Nat.zero_le _, Nat.zero_le _⟩ (z_i ?_)
  refine z_isub C dX2_putPrice_23 (v := iZ (((x : Nat) : Int) - ((zRes (zSetPr a b x) (zBu (zSetPr a b x) b) : Nat) : Int))) (iZ_sub ((x : Nat) : Int) ((zRes (zSetPr a b x) (zBu (zSetPr a b x) b) : Nat) : Int)) ?_
  refine z_iastN C 6 wB_G (by omega) (by decide) dX2_putPrice_24 (wB_set_G b (((x : Nat) : Int) - ((zRes (zSetPr a b x) (zBu (zSetPr a b x) b) : Nat) : Int))) ?_
  exact z_vretP C dX2_putPrice_25 rfl
theorem inX2_bidsLeftOf_X2 : ∀ w ∈ wsX20, w ∈ wsX2_bidsLeftOf := fun w h => List.mem_cons_of_mem _ (List.mem_append_right _ (h))
set_option maxRecDepth 100000 in
set_option maxHeartbeats 4000000 in
theorem c_X2_bidsLeftOf (l : Launch) (g : zG) (q : Nat → Nat) (a : zS) (bs : Nat → Int × Nat) (wb pd gw : Nat → Nat → Int) (ha : zOk a) (d : Nat) (hd : d < zNd a) : zM g l yX2_bidsLeftOf wsX2_bidsLeftOf { frames := 0, cells := 0, slots := 0, locals := 0 } [.ref (q 0), .int (nI d)] (wB g q a (zG0 a) bs wb pd gw) (zPi (nI (zLof a d)) (wB g q a (zG0 a) bs wb pd gw)) 0 0 := by
  refine zM.of (cc := cX2_bidsLeftOf) (nL := 4) (ret := (some .int)) (lv := [(0, .ref (q 0)), (1, .int (nI d))]) (by decide) rfl (Nat.le_of_ble_eq_true rfl) rfl ?_
  intro E C0 hi
  have C : zC g E cX2_bidsLeftOf RX2 wsX2_bidsLeftOf 4 (some .int) := C0
  obtain ⟨hnf, hnd, hnb, hou, hrs, hbd⟩ := id ha
  refine z_iconst C (nI 0) dX2_bidsLeftOf_0 (by decide) ?_
  refine z_istore_n C dX2_bidsLeftOf_1 (by decide) [(2, .int (nI 0)), (0, .ref (q 0)), (1, .int (nI d))] rfl ?_
  refine z_iconst C (nI 0) dX2_bidsLeftOf_2 (by decide) ?_
  refine z_istore_n C dX2_bidsLeftOf_3 (by decide) [(3, .int (nI 0)), (2, .int (nI 0)), (0, .ref (q 0)), (1, .int (nI d))] rfl ?_
  refine zW.pick (lv' := [(0, .ref (q 0)), (1, .int (nI d)), (2, .int (nI 0)), (3, .int (nI 0))]) [2, 3, 1, 0] rfl ?_
  have hlp4 : ∀ (k i : Nat), i + k = zNb a → zW g l ({ frames := 0, cells := 0, slots := 0, locals := 0 }) E (zMQ g E (zPi (nI (zLof a d)) (wB g q a (zG0 a) bs wb pd gw)) 0 0) 4 0 0 (wB g q a (zG0 a) bs wb pd gw) [(0, .ref (q 0)), (1, .int (nI d)), (2, .int (nI (zCnt (fun b => decide (zOw a b = d) && zGo a b == 0) i))), (3, .int (nI i))] [] 4 := by
    intro k
    induction k with
    | zero =>
      intro i hik
      refine z_iload_n C dX2_bidsLeftOf_4 3 rfl ?_
      refine z_aload_n C dX2_bidsLeftOf_5 0 rfl ?_
      refine z_get C inX2_bidsLeftOf_X2 0 wB_o rfl 10 (by decide) (C.w 1 rfl) rfl dX2_bidsLeftOf_6 ?_
      refine z_icmp_ge C 40 dX2_bidsLeftOf_9 (by decide) (zle_NN (by omega) (by omega)) (fun c_9 => ?_) (fun h9 => absurd (by omega) h9)
      refine z_iload_n C dX2_bidsLeftOf_40 2 rfl ?_
      exact z_iretP C dX2_bidsLeftOf_41 (by rw [show i = zNb a by omega]; rfl) rfl
    | succ k ih4 =>
      intro i hik
      refine z_iload_n C dX2_bidsLeftOf_4 3 rfl ?_
      refine z_aload_n C dX2_bidsLeftOf_5 0 rfl ?_
      refine z_get C inX2_bidsLeftOf_X2 0 wB_o rfl 10 (by decide) (C.w 1 rfl) rfl dX2_bidsLeftOf_6 ?_
      refine z_icmp_ge C 40 dX2_bidsLeftOf_9 (by decide) (zle_NN (by omega) (by omega)) (fun h9 => absurd h9 (by omega)) (fun c_9 => ?_)
      refine z_aload_n C dX2_bidsLeftOf_12 0 rfl ?_
      refine z_get C inX2_bidsLeftOf_X2 0 wB_o rfl 4 (by decide) (C.w 2 rfl) rfl dX2_bidsLeftOf_13 ?_
      refine z_iload_n C dX2_bidsLeftOf_16 3 rfl ?_
      refine z_ialdN C 3 wB_ow (by omega) (by decide) dX2_bidsLeftOf_17 (v := nI (zOw a i)) rfl ?_
      have f_17b := (ha.ow (b := i) (by omega))
      refine z_iload_n C dX2_bidsLeftOf_18 1 rfl ?_
      refine z_icmp_ne C 34 dX2_bidsLeftOf_19 (by decide) (zeq_NN (by omega) (by omega)) (fun c_19 => ?_) (fun c_19 => ?_)
      · skip
        refine z_iinc C dX2_bidsLeftOf_34 3 (nI (i + 1)) rfl (nI_add i 1) (by decide) [(3, .int (nI (i + 1))), (0, .ref (q 0)), (1, .int (nI d)), (2, .int (nI (zCnt (fun b => decide (zOw a b = d) && zGo a b == 0) i)))] rfl ?_
        refine z_goto C 4 dX2_bidsLeftOf_37 (by decide) ?_
        refine zW.pick (lv' := [(0, .ref (q 0)), (1, .int (nI d)), (2, .int (nI (zCnt (fun b => decide (zOw a b = d) && zGo a b == 0) i))), (3, .int (nI (i + 1)))]) [1, 2, 3, 0] rfl ?_
        refine zW.lve (lv' := [(0, .ref (q 0)), (1, .int (nI d)), (2, .int (nI (zCnt (fun b => decide (zOw a b = d) && zGo a b == 0) (i + 1)))), (3, .int (nI (i + 1)))]) (by simp_all [zCnt]) ?_
        exact ih4 (i + 1) (by omega)
      · skip
        refine z_aload_n C dX2_bidsLeftOf_22 0 rfl ?_
        refine z_get C inX2_bidsLeftOf_X2 0 wB_o rfl 9 (by decide) (C.w 3 rfl) rfl dX2_bidsLeftOf_23 ?_
        refine z_iload_n C dX2_bidsLeftOf_26 3 rfl ?_
        refine z_zaldN C 8 wB_go (by omega) (by decide) dX2_bidsLeftOf_27 (v := nI (zGo a i)) rfl ?_
        have f_27b := (ha.go (b := i) (by omega))
        refine z_if_ne C 34 dX2_bidsLeftOf_28 (by decide) (zeq_N0 (by omega)) (fun c_28 => ?_) (fun c_28 => ?_)
        · skip
          refine z_iinc C dX2_bidsLeftOf_34 3 (nI (i + 1)) rfl (nI_add i 1) (by decide) [(3, .int (nI (i + 1))), (0, .ref (q 0)), (1, .int (nI d)), (2, .int (nI (zCnt (fun b => decide (zOw a b = d) && zGo a b == 0) i)))] rfl ?_
          refine z_goto C 4 dX2_bidsLeftOf_37 (by decide) ?_
          refine zW.pick (lv' := [(0, .ref (q 0)), (1, .int (nI d)), (2, .int (nI (zCnt (fun b => decide (zOw a b = d) && zGo a b == 0) i))), (3, .int (nI (i + 1)))]) [1, 2, 3, 0] rfl ?_
          refine zW.lve (lv' := [(0, .ref (q 0)), (1, .int (nI d)), (2, .int (nI (zCnt (fun b => decide (zOw a b = d) && zGo a b == 0) (i + 1)))), (3, .int (nI (i + 1)))]) (by simp_all [zCnt]) ?_
          exact ih4 (i + 1) (by omega)
        · skip
          refine z_iinc C dX2_bidsLeftOf_31 2 (nI (zCnt (fun b => decide (zOw a b = d) && zGo a b == 0) i + 1)) rfl (nI_add (zCnt (fun b => decide (zOw a b = d) && zGo a b == 0) i) 1) (by decide) [(2, .int (nI (zCnt (fun b => decide (zOw a b = d) && zGo a b == 0) i + 1))), (0, .ref (q 0)), (1, .int (nI d)), (3, .int (nI i))] rfl ?_
          refine z_iinc C dX2_bidsLeftOf_34 3 (nI (i + 1)) rfl (nI_add i 1) (by decide) [(3, .int (nI (i + 1))), (2, .int (nI (zCnt (fun b => decide (zOw a b = d) && zGo a b == 0) i + 1))), (0, .ref (q 0)), (1, .int (nI d))] rfl ?_
          refine z_goto C 4 dX2_bidsLeftOf_37 (by decide) ?_
          refine zW.pick (lv' := [(0, .ref (q 0)), (1, .int (nI d)), (2, .int (nI (zCnt (fun b => decide (zOw a b = d) && zGo a b == 0) i + 1))), (3, .int (nI (i + 1)))]) [2, 3, 1, 0] rfl ?_
          refine zW.lve (lv' := [(0, .ref (q 0)), (1, .int (nI d)), (2, .int (nI (zCnt (fun b => decide (zOw a b = d) && zGo a b == 0) (i + 1)))), (3, .int (nI (i + 1)))]) (by simp_all [zCnt]) ?_
          exact ih4 (i + 1) (by omega)
  exact hlp4 (zNb a) 0 (by omega)
theorem inX2_bidsLeft_X2 : ∀ w ∈ wsX20, w ∈ wsX2_bidsLeft := fun w h => List.mem_cons_of_mem _ (List.mem_append_right _ (h))
set_option maxRecDepth 100000 in
set_option maxHeartbeats 4000000 in
theorem c_X2_bidsLeft (l : Launch) (g : zG) (q : Nat → Nat) (a : zS) (bs : Nat → Int × Nat) (wb pd gw : Nat → Nat → Int) (ha : zOk a) : zM g l yX2_bidsLeft wsX2_bidsLeft { frames := 1, cells := 0, slots := 0, locals := 23 } [.ref (q 0)] (wB g q a (zG0 a) bs wb pd gw) (zPi (nI (zSum (zLof a) (zNd a))) (wB g q a (zG0 a) bs wb pd gw)) 0 0 := by
  refine zM.of (cc := cX2_bidsLeft) (nL := 3) (ret := (some .int)) (lv := [(0, .ref (q 0))]) (by decide) rfl (Nat.le_of_ble_eq_true rfl) rfl ?_
  intro E C0 hi
  have C : zC g E cX2_bidsLeft RX2 wsX2_bidsLeft 3 (some .int) := C0
  obtain ⟨hnf, hnd, hnb, hou, hrs, hbd⟩ := id ha
  refine z_iconst C (nI 0) dX2_bidsLeft_0 (by decide) ?_
  refine z_istore_n C dX2_bidsLeft_1 (by decide) [(1, .int (nI 0)), (0, .ref (q 0))] rfl ?_
  refine z_iconst C (nI 0) dX2_bidsLeft_2 (by decide) ?_
  refine z_istore_n C dX2_bidsLeft_3 (by decide) [(2, .int (nI 0)), (1, .int (nI 0)), (0, .ref (q 0))] rfl ?_
  refine zW.pick (lv' := [(0, .ref (q 0)), (1, .int (nI 0)), (2, .int (nI 0))]) [2, 1, 0] rfl ?_
  have hlp4 : ∀ (k i : Nat), i + k = zNd a → zW g l ({ frames := 1, cells := 0, slots := 0, locals := 23 }) E (zMQ g E (zPi (nI (zSum (zLof a) (zNd a))) (wB g q a (zG0 a) bs wb pd gw)) 0 0) 3 0 0 (wB g q a (zG0 a) bs wb pd gw) [(0, .ref (q 0)), (1, .int (nI (zSum (zLof a) i))), (2, .int (nI i))] [] 4 := by
    intro k
    induction k with
    | zero =>
      intro i hik
      refine z_iload_n C dX2_bidsLeft_4 2 rfl ?_
      refine z_aload_n C dX2_bidsLeft_5 0 rfl ?_
      refine z_get C inX2_bidsLeft_X2 0 wB_o rfl 3 (by decide) (C.w 1 rfl) rfl dX2_bidsLeft_6 ?_
      refine z_icmp_ge C 26 dX2_bidsLeft_9 (by decide) (zle_NN (by omega) (by omega)) (fun c_9 => ?_) (fun h9 => absurd (by omega) h9)
      refine z_iload_n C dX2_bidsLeft_26 1 rfl ?_
      exact z_iretP C dX2_bidsLeft_27 (by rw [show i = zNd a by omega]) rfl
    | succ k ih4 =>
      intro i hik
      refine z_iload_n C dX2_bidsLeft_4 2 rfl ?_
      refine z_aload_n C dX2_bidsLeft_5 0 rfl ?_
      refine z_get C inX2_bidsLeft_X2 0 wB_o rfl 3 (by decide) (C.w 1 rfl) rfl dX2_bidsLeft_6 ?_
      refine z_icmp_ge C 26 dX2_bidsLeft_9 (by decide) (zle_NN (by omega) (by omega)) (fun h9 => absurd h9 (by omega)) (fun c_9 => ?_)
      refine z_iload_n C dX2_bidsLeft_12 1 rfl ?_
      refine z_aload_n C dX2_bidsLeft_13 0 rfl ?_
      refine z_iload_n C dX2_bidsLeft_14 2 rfl ?_
      refine z_callV C (c_X2_bidsLeftOf l g q a bs wb pd gw ha i (by omega)) (cwV 1 C.ts gX2_bidsLeft_X2_bidsLeftOf rfl rfl rfl (by decide +kernel) ⟨Nat.le_of_ble_eq_true rfl, Nat.le_of_ble_eq_true rfl⟩) wB_o rfl rfl rfl (Nat.le_of_ble_eq_true rfl) dX2_bidsLeft_15 ⟨Nat.zero_le _, Nat.zero_le _⟩ (z_i ?_)
      refine z_iadd C dX2_bidsLeft_18 (v := nI ((zSum (zLof a) i) + (zLof a i))) (nI_add (zSum (zLof a) i) (zLof a i)) ?_
      refine z_istore_n C dX2_bidsLeft_19 (by decide) [(1, .int (nI ((zSum (zLof a) i) + (zLof a i)))), (0, .ref (q 0)), (2, .int (nI i))] rfl ?_
      refine z_iinc C dX2_bidsLeft_20 2 (nI (i + 1)) rfl (nI_add i 1) (by decide) [(2, .int (nI (i + 1))), (1, .int (nI ((zSum (zLof a) i) + (zLof a i)))), (0, .ref (q 0))] rfl ?_
      refine z_goto C 4 dX2_bidsLeft_23 (by decide) ?_
      refine zW.pick (lv' := [(0, .ref (q 0)), (1, .int (nI ((zSum (zLof a) i) + (zLof a i)))), (2, .int (nI (i + 1)))]) [2, 1, 0] rfl ?_
      refine zW.lve (lv' := [(0, .ref (q 0)), (1, .int (nI (zSum (zLof a) (i + 1)))), (2, .int (nI (i + 1)))]) (rfl) ?_
      exact ih4 (i + 1) (by omega)
  exact hlp4 (zNd a) 0 (by omega)
theorem inX2_countingBidsWith_X2 : ∀ w ∈ wsX20, w ∈ wsX2_countingBidsWith := fun w h => List.mem_cons_of_mem _ (List.mem_append_right _ (h))
set_option maxRecDepth 100000 in
set_option maxHeartbeats 4000000 in
theorem c_X2_countingBidsWith (l : Launch) (g : zG) (q : Nat → Nat) (a : zS) (bs : Nat → Int × Nat) (wb pd gw : Nat → Nat → Int) (ha : zOk a) (f : Nat) (hf : f < 8) : zM g l yX2_countingBidsWith wsX2_countingBidsWith { frames := 1, cells := 0, slots := 0, locals := 21 } [.ref (q 0), .int (nI f)] (wB g q a (zG0 a) bs wb pd gw) (zPi (nI (zCnt (fun b => zCn a (zOu a) b && (zBu a b).testBit f) (zNb a))) (wB g q a (zG0 a) bs wb pd gw)) 0 0 := by
  refine zM.of (cc := cX2_countingBidsWith) (nL := 4) (ret := (some .int)) (lv := [(0, .ref (q 0)), (1, .int (nI f))]) (by decide) rfl (Nat.le_of_ble_eq_true rfl) rfl ?_
  intro E C0 hi
  have C : zC g E cX2_countingBidsWith RX2 wsX2_countingBidsWith 4 (some .int) := C0
  obtain ⟨hnf, hnd, hnb, hou, hrs, hbd⟩ := id ha
  refine z_iconst C (nI 0) dX2_countingBidsWith_0 (by decide) ?_
  refine z_istore_n C dX2_countingBidsWith_1 (by decide) [(2, .int (nI 0)), (0, .ref (q 0)), (1, .int (nI f))] rfl ?_
  refine z_iconst C (nI 0) dX2_countingBidsWith_2 (by decide) ?_
  refine z_istore_n C dX2_countingBidsWith_3 (by decide) [(3, .int (nI 0)), (2, .int (nI 0)), (0, .ref (q 0)), (1, .int (nI f))] rfl ?_
  refine zW.pick (lv' := [(0, .ref (q 0)), (1, .int (nI f)), (2, .int (nI 0)), (3, .int (nI 0))]) [2, 3, 1, 0] rfl ?_
  have hlp4 : ∀ (k i : Nat), i + k = zNb a → zW g l ({ frames := 1, cells := 0, slots := 0, locals := 21 }) E (zMQ g E (zPi (nI (zCnt (fun b => zCn a (zOu a) b && (zBu a b).testBit f) (zNb a))) (wB g q a (zG0 a) bs wb pd gw)) 0 0) 4 0 0 (wB g q a (zG0 a) bs wb pd gw) [(0, .ref (q 0)), (1, .int (nI f)), (2, .int (nI (zCnt (fun b => zCn a (zOu a) b && (zBu a b).testBit f) i))), (3, .int (nI i))] [] 4 := by
    intro k
    induction k with
    | zero =>
      intro i hik
      refine z_iload_n C dX2_countingBidsWith_4 3 rfl ?_
      refine z_aload_n C dX2_countingBidsWith_5 0 rfl ?_
      refine z_get C inX2_countingBidsWith_X2 0 wB_o rfl 10 (by decide) (C.w 1 rfl) rfl dX2_countingBidsWith_6 ?_
      refine z_icmp_ge C 42 dX2_countingBidsWith_9 (by decide) (zle_NN (by omega) (by omega)) (fun c_9 => ?_) (fun h9 => absurd (by omega) h9)
      refine z_iload_n C dX2_countingBidsWith_42 2 rfl ?_
      exact z_iretP C dX2_countingBidsWith_43 (by rw [show i = zNb a by omega]) rfl
    | succ k ih4 =>
      intro i hik
      refine z_iload_n C dX2_countingBidsWith_4 3 rfl ?_
      refine z_aload_n C dX2_countingBidsWith_5 0 rfl ?_
      refine z_get C inX2_countingBidsWith_X2 0 wB_o rfl 10 (by decide) (C.w 1 rfl) rfl dX2_countingBidsWith_6 ?_
      refine z_icmp_ge C 42 dX2_countingBidsWith_9 (by decide) (zle_NN (by omega) (by omega)) (fun h9 => absurd h9 (by omega)) (fun c_9 => ?_)
      refine z_aload_n C dX2_countingBidsWith_12 0 rfl ?_
      refine z_iload_n C dX2_countingBidsWith_13 3 rfl ?_
      refine z_callV C (c_X2_counts l g q a bs wb pd gw ha i (by omega)) (cwV 1 C.ts gX2_countingBidsWith_X2_counts rfl rfl rfl (by decide +kernel) ⟨Nat.le_of_ble_eq_true rfl, Nat.le_of_ble_eq_true rfl⟩) wB_o rfl rfl rfl (Nat.le_of_ble_eq_true rfl) dX2_countingBidsWith_14 ⟨Nat.zero_le _, Nat.zero_le _⟩ (z_i ?_)
      refine z_if_eq C 36 dX2_countingBidsWith_17 (by decide) (zeq_B0 _) (fun c_17 => ?_) (fun c_17 => ?_)
      · skip
        refine z_iinc C dX2_countingBidsWith_36 3 (nI (i + 1)) rfl (nI_add i 1) (by decide) [(3, .int (nI (i + 1))), (0, .ref (q 0)), (1, .int (nI f)), (2, .int (nI (zCnt (fun b => zCn a (zOu a) b && (zBu a b).testBit f) i)))] rfl ?_
        refine z_goto C 4 dX2_countingBidsWith_39 (by decide) ?_
        refine zW.pick (lv' := [(0, .ref (q 0)), (1, .int (nI f)), (2, .int (nI (zCnt (fun b => zCn a (zOu a) b && (zBu a b).testBit f) i))), (3, .int (nI (i + 1)))]) [1, 2, 3, 0] rfl ?_
        refine zW.lve (lv' := [(0, .ref (q 0)), (1, .int (nI f)), (2, .int (nI (zCnt (fun b => zCn a (zOu a) b && (zBu a b).testBit f) (i + 1)))), (3, .int (nI (i + 1)))]) (by simp_all [zCnt]) ?_
        exact ih4 (i + 1) (by omega)
      · skip
        refine z_aload_n C dX2_countingBidsWith_20 0 rfl ?_
        refine z_get C inX2_countingBidsWith_X2 0 wB_o rfl 5 (by decide) (C.w 2 rfl) rfl dX2_countingBidsWith_21 ?_
        refine z_iload_n C dX2_countingBidsWith_24 3 rfl ?_
        refine z_ialdN C 4 wB_bu (by omega) (by decide) dX2_countingBidsWith_25 (v := nI (zBu a i)) rfl ?_
        have f_25b := (ha.bu8 (b := i) (by omega))
        refine z_iload_n C dX2_countingBidsWith_26 1 rfl ?_
        refine z_callS C (c_X2_hasField l g (wB g q a (zG0 a) bs wb pd gw) (zBu a i) f (by omega)) (va_cwS 2 C.ts gX2_countingBidsWith_X2_hasField rfl rfl rfl (by decide +kernel) ⟨Nat.le_of_ble_eq_true rfl, Nat.le_of_ble_eq_true rfl⟩) rfl rfl (Nat.le_of_ble_eq_true rfl) dX2_countingBidsWith_27 ⟨Nat.zero_le _, Nat.zero_le _⟩ (z_i ?_)
        refine z_if_eq C 36 dX2_countingBidsWith_30 (by decide) (zeq_B0 _) (fun c_30 => ?_) (fun c_30 => ?_)
        · skip
          refine z_iinc C dX2_countingBidsWith_36 3 (nI (i + 1)) rfl (nI_add i 1) (by decide) [(3, .int (nI (i + 1))), (0, .ref (q 0)), (1, .int (nI f)), (2, .int (nI (zCnt (fun b => zCn a (zOu a) b && (zBu a b).testBit f) i)))] rfl ?_
          refine z_goto C 4 dX2_countingBidsWith_39 (by decide) ?_
          refine zW.pick (lv' := [(0, .ref (q 0)), (1, .int (nI f)), (2, .int (nI (zCnt (fun b => zCn a (zOu a) b && (zBu a b).testBit f) i))), (3, .int (nI (i + 1)))]) [1, 2, 3, 0] rfl ?_
          refine zW.lve (lv' := [(0, .ref (q 0)), (1, .int (nI f)), (2, .int (nI (zCnt (fun b => zCn a (zOu a) b && (zBu a b).testBit f) (i + 1)))), (3, .int (nI (i + 1)))]) (by simp_all [zCnt]) ?_
          exact ih4 (i + 1) (by omega)
        · skip
          refine z_iinc C dX2_countingBidsWith_33 2 (nI (zCnt (fun b => zCn a (zOu a) b && (zBu a b).testBit f) i + 1)) rfl (nI_add (zCnt (fun b => zCn a (zOu a) b && (zBu a b).testBit f) i) 1) (by decide) [(2, .int (nI (zCnt (fun b => zCn a (zOu a) b && (zBu a b).testBit f) i + 1))), (0, .ref (q 0)), (1, .int (nI f)), (3, .int (nI i))] rfl ?_
          refine z_iinc C dX2_countingBidsWith_36 3 (nI (i + 1)) rfl (nI_add i 1) (by decide) [(3, .int (nI (i + 1))), (2, .int (nI (zCnt (fun b => zCn a (zOu a) b && (zBu a b).testBit f) i + 1))), (0, .ref (q 0)), (1, .int (nI f))] rfl ?_
          refine z_goto C 4 dX2_countingBidsWith_39 (by decide) ?_
          refine zW.pick (lv' := [(0, .ref (q 0)), (1, .int (nI f)), (2, .int (nI (zCnt (fun b => zCn a (zOu a) b && (zBu a b).testBit f) i + 1))), (3, .int (nI (i + 1)))]) [2, 3, 1, 0] rfl ?_
          refine zW.lve (lv' := [(0, .ref (q 0)), (1, .int (nI f)), (2, .int (nI (zCnt (fun b => zCn a (zOu a) b && (zBu a b).testBit f) (i + 1)))), (3, .int (nI (i + 1)))]) (by simp_all [zCnt]) ?_
          exact ih4 (i + 1) (by omega)
  exact hlp4 (zNb a) 0 (by omega)
set_option maxRecDepth 100000 in
set_option maxHeartbeats 4000000 in
theorem c_X2_ownerOf_no (l : Launch) (g : zG) (q : Nat → Nat) (a : zS) (bs : Nat → Int × Nat) (wb pd gw : Nat → Nat → Int) (ha : zOk a) : zM g l yX2_ownerOf wsX2_ownerOf { frames := 0, cells := 0, slots := 0, locals := 0 } [.ref (q 0), .int (iZ (-1))] (wB g q a (zG0 a) bs wb pd gw) (zPi (iZ (-1)) (wB g q a (zG0 a) bs wb pd gw)) 0 0 := by
  refine zM.of (cc := cX2_ownerOf) (nL := 2) (ret := (some .int)) (lv := [(0, .ref (q 0)), (1, .int (iZ (-1)))]) (by decide) rfl (Nat.le_of_ble_eq_true rfl) rfl ?_
  intro E C0 hi
  have C : zC g E cX2_ownerOf RX2 wsX2_ownerOf 2 (some .int) := C0
  obtain ⟨hnf, hnd, hnb, hou, hrs, hbd⟩ := id ha
  refine z_iload_n C dX2_ownerOf_0 1 rfl ?_
  refine z_iconst C (iZ (-1)) dX2_ownerOf_1 (by decide) ?_
  refine z_icmp_ne C 9 dX2_ownerOf_2 (by decide) Iff.rfl (fun h9 => absurd rfl h9) (fun c_2 => ?_)
  refine z_iconst C (iZ (-1)) dX2_ownerOf_5 (by decide) ?_
  refine z_goto C 15 dX2_ownerOf_6 (by decide) ?_
  exact z_iretP C dX2_ownerOf_15 rfl rfl
theorem inX2_ownerOf_X2 : ∀ w ∈ wsX20, w ∈ wsX2_ownerOf := fun w h => List.mem_cons_of_mem _ (List.mem_append_right _ (h))
set_option maxRecDepth 100000 in
set_option maxHeartbeats 4000000 in
theorem c_X2_ownerOf (l : Launch) (g : zG) (q : Nat → Nat) (a : zS) (bs : Nat → Int × Nat) (wb pd gw : Nat → Nat → Int) (ha : zOk a) (b : Nat) (hb : b < zNb a) : zM g l yX2_ownerOf wsX2_ownerOf { frames := 0, cells := 0, slots := 0, locals := 0 } [.ref (q 0), .int (nI b)] (wB g q a (zG0 a) bs wb pd gw) (zPi (nI (zOw a b)) (wB g q a (zG0 a) bs wb pd gw)) 0 0 := by
  refine zM.of (cc := cX2_ownerOf) (nL := 2) (ret := (some .int)) (lv := [(0, .ref (q 0)), (1, .int (nI b))]) (by decide) rfl (Nat.le_of_ble_eq_true rfl) rfl ?_
  intro E C0 hi
  have C : zC g E cX2_ownerOf RX2 wsX2_ownerOf 2 (some .int) := C0
  obtain ⟨hnf, hnd, hnb, hou, hrs, hbd⟩ := id ha
  refine z_iload_n C dX2_ownerOf_0 1 rfl ?_
  refine z_iconst C (iZ (-1)) dX2_ownerOf_1 (by decide) ?_
  refine z_icmp_ne C 9 dX2_ownerOf_2 (by decide) (zeq_ZZ (x := ((b : Nat) : Int)) (y := (-1)) (by unfold zB31; omega) (by unfold zB31; omega)) (fun c_2 => ?_) (fun h9 => absurd h9 (by omega))
  refine z_aload_n C dX2_ownerOf_9 0 rfl ?_
  refine z_get C inX2_ownerOf_X2 0 wB_o rfl 4 (by decide) (C.w 1 rfl) rfl dX2_ownerOf_10 ?_
  refine z_iload_n C dX2_ownerOf_13 1 rfl ?_
  refine z_ialdN C 3 wB_ow (by omega) (by decide) dX2_ownerOf_14 (v := nI (zOw a b)) rfl ?_
  have f_14b := (ha.ow (b := b) (by omega))
  exact z_iretP C dX2_ownerOf_15 rfl rfl
set_option maxRecDepth 100000 in
set_option maxHeartbeats 4000000 in
theorem c_X2_asNumber  (l : Launch) (g : zG) (w : va_W) (b : Bool) : zM g l yX2_asNumber wsX2_asNumber { frames := 0, cells := 0, slots := 0, locals := 0 } [.int (bI b)] (w) (zPi (bI b) (w)) 0 0 := by
  refine zM.of (cc := cX2_asNumber) (nL := 1) (ret := (some .int)) (lv := [(0, .int (bI b))]) (by decide) rfl (Nat.le_of_ble_eq_true rfl) rfl ?_
  intro E C0 hi
  have C : zC g E cX2_asNumber RX2 wsX2_asNumber 1 (some .int) := C0
  refine z_iload_n C dX2_asNumber_0 0 rfl ?_
  refine z_if_eq C 8 dX2_asNumber_1 (by decide) (zeq_B0 _) (fun c_1 => ?_) (fun c_1 => ?_)
  · skip
    refine z_iconst C (nI 0) dX2_asNumber_8 (by decide) ?_
    exact z_iretP C dX2_asNumber_9 (by simp_all [bI, zn0, zn1]) rfl
  · skip
    refine z_iconst C (nI 1) dX2_asNumber_4 (by decide) ?_
    refine z_goto C 9 dX2_asNumber_5 (by decide) ?_
    exact z_iretP C dX2_asNumber_9 (by simp_all [bI, zn0, zn1]) rfl
theorem inX2_requireField_X2 : ∀ w ∈ wsX20, w ∈ wsX2_requireField := fun w h => List.mem_cons_of_mem _ (List.mem_append_left _ (List.mem_append_right _ (h)))
set_option maxRecDepth 100000 in
set_option maxHeartbeats 4000000 in
theorem c_X2_requireField (l : Launch) (g : zG) (q : Nat → Nat) (a : zS) (bs : Nat → Int × Nat) (wb pd gw : Nat → Nat → Int) (ha : zOk a) (x : Nat) (hx : x < zNf a) : zM g l yX2_requireField wsX2_requireField { frames := 0, cells := 0, slots := 0, locals := 0 } [.ref (q 0), .int (nI x)] (wB g q a (zG0 a) bs wb pd gw) (zPv (wB g q a (zG0 a) bs wb pd gw)) 0 0 := by
  refine zM.of (cc := cX2_requireField) (nL := 2) (ret := none) (lv := [(0, .ref (q 0)), (1, .int (nI x))]) (by decide) rfl (Nat.le_of_ble_eq_true rfl) rfl ?_
  intro E C0 hi
  have C : zC g E cX2_requireField RX2 wsX2_requireField 2 none := C0
  obtain ⟨hnf, hnd, hnb, hou, hrs, hbd⟩ := id ha
  refine z_iload_n C dX2_requireField_0 1 rfl ?_
  refine z_if_lt C 12 dX2_requireField_1 (by decide) (zlt_N0 (by omega)) (fun h9 => absurd h9 id) (fun c_1 => ?_)
  refine z_iload_n C dX2_requireField_4 1 rfl ?_
  refine z_aload_n C dX2_requireField_5 0 rfl ?_
  refine z_get C inX2_requireField_X2 0 wB_o rfl 1 (by decide) (C.w 3 rfl) rfl dX2_requireField_6 ?_
  refine z_icmp_lt C 22 dX2_requireField_9 (by decide) (zlt_NN (by omega) (by omega)) (fun c_9 => ?_) (fun h9 => absurd (by omega) h9)
  exact z_vretP C dX2_requireField_22 rfl
theorem inX2_requireBidder_X2 : ∀ w ∈ wsX20, w ∈ wsX2_requireBidder := fun w h => List.mem_cons_of_mem _ (List.mem_append_left _ (List.mem_append_right _ (h)))
set_option maxRecDepth 100000 in
set_option maxHeartbeats 4000000 in
theorem c_X2_requireBidder (l : Launch) (g : zG) (q : Nat → Nat) (a : zS) (bs : Nat → Int × Nat) (wb pd gw : Nat → Nat → Int) (ha : zOk a) (x : Nat) (hx : x < zNd a) : zM g l yX2_requireBidder wsX2_requireBidder { frames := 0, cells := 0, slots := 0, locals := 0 } [.ref (q 0), .int (nI x)] (wB g q a (zG0 a) bs wb pd gw) (zPv (wB g q a (zG0 a) bs wb pd gw)) 0 0 := by
  refine zM.of (cc := cX2_requireBidder) (nL := 2) (ret := none) (lv := [(0, .ref (q 0)), (1, .int (nI x))]) (by decide) rfl (Nat.le_of_ble_eq_true rfl) rfl ?_
  intro E C0 hi
  have C : zC g E cX2_requireBidder RX2 wsX2_requireBidder 2 none := C0
  obtain ⟨hnf, hnd, hnb, hou, hrs, hbd⟩ := id ha
  refine z_iload_n C dX2_requireBidder_0 1 rfl ?_
  refine z_if_lt C 12 dX2_requireBidder_1 (by decide) (zlt_N0 (by omega)) (fun h9 => absurd h9 id) (fun c_1 => ?_)
  refine z_iload_n C dX2_requireBidder_4 1 rfl ?_
  refine z_aload_n C dX2_requireBidder_5 0 rfl ?_
  refine z_get C inX2_requireBidder_X2 0 wB_o rfl 3 (by decide) (C.w 3 rfl) rfl dX2_requireBidder_6 ?_
  refine z_icmp_lt C 22 dX2_requireBidder_9 (by decide) (zlt_NN (by omega) (by omega)) (fun c_9 => ?_) (fun h9 => absurd (by omega) h9)
  exact z_vretP C dX2_requireBidder_22 rfl
theorem inX2_requireBid_X2 : ∀ w ∈ wsX20, w ∈ wsX2_requireBid := fun w h => List.mem_cons_of_mem _ (List.mem_append_left _ (List.mem_append_right _ (h)))
set_option maxRecDepth 100000 in
set_option maxHeartbeats 4000000 in
theorem c_X2_requireBid (l : Launch) (g : zG) (q : Nat → Nat) (a : zS) (bs : Nat → Int × Nat) (wb pd gw : Nat → Nat → Int) (ha : zOk a) (x : Nat) (hx : x < zNb a) : zM g l yX2_requireBid wsX2_requireBid { frames := 0, cells := 0, slots := 0, locals := 0 } [.ref (q 0), .int (nI x)] (wB g q a (zG0 a) bs wb pd gw) (zPv (wB g q a (zG0 a) bs wb pd gw)) 0 0 := by
  refine zM.of (cc := cX2_requireBid) (nL := 2) (ret := none) (lv := [(0, .ref (q 0)), (1, .int (nI x))]) (by decide) rfl (Nat.le_of_ble_eq_true rfl) rfl ?_
  intro E C0 hi
  have C : zC g E cX2_requireBid RX2 wsX2_requireBid 2 none := C0
  obtain ⟨hnf, hnd, hnb, hou, hrs, hbd⟩ := id ha
  refine z_iload_n C dX2_requireBid_0 1 rfl ?_
  refine z_if_lt C 12 dX2_requireBid_1 (by decide) (zlt_N0 (by omega)) (fun h9 => absurd h9 id) (fun c_1 => ?_)
  refine z_iload_n C dX2_requireBid_4 1 rfl ?_
  refine z_aload_n C dX2_requireBid_5 0 rfl ?_
  refine z_get C inX2_requireBid_X2 0 wB_o rfl 10 (by decide) (C.w 3 rfl) rfl dX2_requireBid_6 ?_
  refine z_icmp_lt C 22 dX2_requireBid_9 (by decide) (zlt_NN (by omega) (by omega)) (fun c_9 => ?_) (fun h9 => absurd (by omega) h9)
  exact z_vretP C dX2_requireBid_22 rfl
set_option maxRecDepth 100000 in
set_option maxHeartbeats 4000000 in
theorem c_X2_requireWhat  (l : Launch) (g : zG) (w : va_W) (x t : Nat) (hx : x ≤ t) (ht : t < 100) : zM g l yX2_requireWhat wsX2_requireWhat { frames := 0, cells := 0, slots := 0, locals := 0 } [.int (nI x), .int (nI t)] (w) (zPv (w)) 0 0 := by
  refine zM.of (cc := cX2_requireWhat) (nL := 2) (ret := none) (lv := [(0, .int (nI x)), (1, .int (nI t))]) (by decide) rfl (Nat.le_of_ble_eq_true rfl) rfl ?_
  intro E C0 hi
  have C : zC g E cX2_requireWhat RX2 wsX2_requireWhat 2 none := C0
  refine z_iload_n C dX2_requireWhat_0 0 rfl ?_
  refine z_if_lt C 9 dX2_requireWhat_1 (by decide) (zlt_N0 (by omega)) (fun h9 => absurd h9 id) (fun c_1 => ?_)
  refine z_iload_n C dX2_requireWhat_4 0 rfl ?_
  refine z_iload_n C dX2_requireWhat_5 1 rfl ?_
  refine z_icmp_le C 19 dX2_requireWhat_6 (by decide) (zle_NN (by omega) (by omega)) (fun c_6 => ?_) (fun h9 => absurd (by omega) h9)
  exact z_vretP C dX2_requireWhat_19 rfl
set_option maxRecDepth 100000 in
set_option maxHeartbeats 4000000 in
theorem c_X2_requireReserve  (l : Launch) (g : zG) (w : va_W) (x : Nat) (hx : x ≤ 99) : zM g l yX2_requireReserve wsX2_requireReserve { frames := 0, cells := 0, slots := 0, locals := 0 } [.int (nI x)] (w) (zPv (w)) 0 0 := by
  refine zM.of (cc := cX2_requireReserve) (nL := 1) (ret := none) (lv := [(0, .int (nI x))]) (by decide) rfl (Nat.le_of_ble_eq_true rfl) rfl ?_
  intro E C0 hi
  have C : zC g E cX2_requireReserve RX2 wsX2_requireReserve 1 none := C0
  refine z_iload_n C dX2_requireReserve_0 0 rfl ?_
  refine z_if_lt C 10 dX2_requireReserve_1 (by decide) (zlt_N0 (by omega)) (fun h9 => absurd h9 id) (fun c_1 => ?_)
  refine z_iload_n C dX2_requireReserve_4 0 rfl ?_
  refine z_bipush C (nI 99) dX2_requireReserve_5 (by decide) ?_
  refine z_icmp_le C 20 dX2_requireReserve_7 (by decide) (zle_NN (by omega) (by omega)) (fun c_7 => ?_) (fun h9 => absurd (by omega) h9)
  exact z_vretP C dX2_requireReserve_20 rfl
set_option maxRecDepth 100000 in
set_option maxHeartbeats 4000000 in
theorem c_X2_requireAmount  (l : Launch) (g : zG) (w : va_W) (x : Nat) (hx : x ≤ 999) : zM g l yX2_requireAmount wsX2_requireAmount { frames := 0, cells := 0, slots := 0, locals := 0 } [.int (nI x)] (w) (zPv (w)) 0 0 := by
  refine zM.of (cc := cX2_requireAmount) (nL := 1) (ret := none) (lv := [(0, .int (nI x))]) (by decide) rfl (Nat.le_of_ble_eq_true rfl) rfl ?_
  intro E C0 hi
  have C : zC g E cX2_requireAmount RX2 wsX2_requireAmount 1 none := C0
  refine z_iload_n C dX2_requireAmount_0 0 rfl ?_
  refine z_if_lt C 11 dX2_requireAmount_1 (by decide) (zlt_N0 (by omega)) (fun h9 => absurd h9 id) (fun c_1 => ?_)
  refine z_iload_n C dX2_requireAmount_4 0 rfl ?_
  refine z_sipush C (nI 999) dX2_requireAmount_5 (by decide) ?_
  refine z_icmp_le C 21 dX2_requireAmount_8 (by decide) (zle_NN (by omega) (by omega)) (fun c_8 => ?_) (fun h9 => absurd (by omega) h9)
  exact z_vretP C dX2_requireAmount_21 rfl
theorem inX2_requireBundle_X2 : ∀ w ∈ wsX20, w ∈ wsX2_requireBundle := fun w h => List.mem_cons_of_mem _ (List.mem_append_left _ (List.mem_append_right _ (h)))
set_option maxRecDepth 100000 in
set_option maxHeartbeats 4000000 in
theorem c_X2_requireBundle (l : Launch) (g : zG) (q : Nat → Nat) (a : zS) (bs : Nat → Int × Nat) (wb pd gw : Nat → Nat → Int) (ha : zOk a) (x : Nat) (h0 : 0 < x) (hx : x < 2 ^ zNf a) : zM g l yX2_requireBundle wsX2_requireBundle { frames := 0, cells := 0, slots := 0, locals := 0 } [.ref (q 0), .int (nI x)] (wB g q a (zG0 a) bs wb pd gw) (zPv (wB g q a (zG0 a) bs wb pd gw)) 0 0 := by
  refine zM.of (cc := cX2_requireBundle) (nL := 2) (ret := none) (lv := [(0, .ref (q 0)), (1, .int (nI x))]) (by decide) rfl (Nat.le_of_ble_eq_true rfl) rfl ?_
  intro E C0 hi
  have C : zC g E cX2_requireBundle RX2 wsX2_requireBundle 2 none := C0
  obtain ⟨hnf, hnd, hnb, hou, hrs, hbd⟩ := id ha
  have p8 : 2 ^ zNf a ≤ 2 ^ 8 := zp2_le hnf
  refine z_iload_n C dX2_requireBundle_0 1 rfl ?_
  refine z_if_le C 14 dX2_requireBundle_1 (by decide) (zle_N0 (by omega)) (fun h9 => absurd h9 (by omega)) (fun c_1 => ?_)
  refine z_iload_n C dX2_requireBundle_4 1 rfl ?_
  refine z_iconst C (nI 1) dX2_requireBundle_5 (by decide) ?_
  refine z_aload_n C dX2_requireBundle_6 0 rfl ?_
  refine z_get C inX2_requireBundle_X2 0 wB_o rfl 1 (by decide) (C.w 3 rfl) rfl dX2_requireBundle_7 ?_
  refine z_ishl C dX2_requireBundle_10 (v := nI (2 ^ (zNf a))) (zshl_1N (by omega)) ?_
  refine z_icmp_lt C 24 dX2_requireBundle_11 (by decide) (zlt_NN (by omega) (by omega)) (fun c_11 => ?_) (fun h9 => absurd hx h9)
  exact z_vretP C dX2_requireBundle_24 rfl
set_option maxRecDepth 100000 in
set_option maxHeartbeats 4000000 in
theorem c_J7_fill_53178  (l : Launch) (g : zG) (w : va_W) (k adr n : Nat) (f : Nat → Int) (x : Int) (hk : w[k]? = some (adr, .inl (zI g, n, .inl (fun j => iZ (f j))))) (hn : n < 100) : zM g l yJ7_fill_53178 wsJ7_fill_53178 { frames := 0, cells := 0, slots := 0, locals := 0 } [.ref adr, .int (iZ x)] (w) (zPv (w.set k (adr, .inl (zI g, n, .inl (fun j => iZ ((zFil f n x) j)))))) 0 0 := by
  refine zM.of (cc := cJ7_fill_53178) (nL := 4) (ret := none) (lv := [(0, .ref adr), (1, .int (iZ x))]) (by decide) rfl (Nat.le_of_ble_eq_true rfl) rfl ?_
  intro E C0 hi
  have C : zC g E cJ7_fill_53178 RJ7 wsJ7_fill_53178 4 none := C0
  refine z_iconst C (nI 0) dJ7_fill_53178_0 (by decide) ?_
  refine z_istore_n C dJ7_fill_53178_1 (by decide) [(2, .int (nI 0)), (0, .ref adr), (1, .int (iZ x))] rfl ?_
  refine z_aload_n C dJ7_fill_53178_2 1 rfl ?_
  refine z_alenI C k hk dJ7_fill_53178_3 ?_
  refine z_istore_n C dJ7_fill_53178_4 (by decide) [(3, .int (nI n)), (2, .int (nI 0)), (0, .ref adr), (1, .int (iZ x))] rfl ?_
  refine zW.eqw (ws2 := w.set k (adr, .inl (zI g, n, .inl (fun j => iZ ((zFil f 0 x) j))))) (by rw [zFil_0]; exact zset_self hk) ?_
  refine zW.pick (lv' := [(0, .ref adr), (1, .int (iZ x)), (2, .int (nI 0)), (3, .int (nI n))]) [2, 3, 1, 0] rfl ?_
  have hlp5 : ∀ (kk i : Nat), i + kk = n → zW g l ({ frames := 0, cells := 0, slots := 0, locals := 0 }) E (zMQ g E (zPv (w.set k (adr, .inl (zI g, n, .inl (fun j => iZ ((zFil f n x) j)))))) 0 0) 4 0 0 (w.set k (adr, .inl (zI g, n, .inl (fun j => iZ ((zFil f i x) j))))) [(0, .ref adr), (1, .int (iZ x)), (2, .int (nI i)), (3, .int (nI n))] [] 5 := by
    intro kk
    induction kk with
    | zero =>
      intro i hik
      refine z_iload_n C dJ7_fill_53178_5 2 rfl ?_
      refine z_iload_n C dJ7_fill_53178_6 3 rfl ?_
      refine z_icmp_ge C 20 dJ7_fill_53178_7 (by decide) (zle_NN (by omega) (by omega)) (fun c_7 => ?_) (fun h9 => absurd (by omega) h9)
      exact z_vretP C dJ7_fill_53178_20 (by rw [show i = n by omega])
    | succ kk ih5 =>
      intro i hik
      refine z_iload_n C dJ7_fill_53178_5 2 rfl ?_
      refine z_iload_n C dJ7_fill_53178_6 3 rfl ?_
      refine z_icmp_ge C 20 dJ7_fill_53178_7 (by decide) (zle_NN (by omega) (by omega)) (fun h9 => absurd h9 (by omega)) (fun c_7 => ?_)
      refine z_aload_n C dJ7_fill_53178_10 0 rfl ?_
      refine z_iload_n C dJ7_fill_53178_11 2 rfl ?_
      refine z_iload_n C dJ7_fill_53178_12 1 rfl ?_
      refine z_iastN C k (zset_get hk) (by omega) (by omega) dJ7_fill_53178_13 ((zset_put w k adr (zFil f i x) i x).trans (by rw [zFil_up])) ?_
      refine z_iinc C dJ7_fill_53178_14 2 (nI (i + 1)) rfl (nI_add i 1) (by decide) [(2, .int (nI (i + 1))), (0, .ref adr), (1, .int (iZ x)), (3, .int (nI n))] rfl ?_
      refine z_goto C 5 dJ7_fill_53178_17 (by decide) ?_
      refine zW.pick (lv' := [(0, .ref adr), (1, .int (iZ x)), (2, .int (nI (i + 1))), (3, .int (nI n))]) [1, 2, 0, 3] rfl ?_
      exact ih5 (i + 1) (by omega)
  exact hlp5 (n) 0 (by omega)
end
section
def zCons (x y : Int × Nat) : Int × Nat := if zBt x y = true then y else x
/-- a bid that counts, with no field and no bidder taken -/
def zFitb (a : zS) (i tf tb : Nat) : Bool := (tf &&& zBu a i == 0) && (!(tb.testBit (zOw a i)) && zCn a (zOu a) i)
/-- the search: the best of x and of all sets that add to m bids from i on, k bids -/
def zDfs (a : zS) : Nat → Int × Nat → Nat → Nat → Nat → Int → Nat → Int × Nat
  | 0, x, _, _, _, _, _ => x
  | k + 1, x, i, tf, tb, gi, m => zDfs a k (if zFitb a i tf tb = true then zDfs a k (zCons x (gi + zGn a i, m ||| 2 ^ i)) (i + 1) (tf ||| zBu a i) (tb ||| 2 ^ zOw a i) (gi + zGn a i) (m ||| 2 ^ i) else x) (i + 1) tf tb gi m
def zSw (a : zS) (k : Nat) (x : Int × Nat) (i tf tb : Nat) (gi : Int) (m : Nat) : Int × Nat := if zFitb a i tf tb = true then zDfs a k (zCons x (gi + zGn a i, m ||| 2 ^ i)) (i + 1) (tf ||| zBu a i) (tb ||| 2 ^ zOw a i) (gi + zGn a i) (m ||| 2 ^ i) else x
theorem zDfs_s (a : zS) (k : Nat) (x : Int × Nat) (i tf tb : Nat) (gi : Int) (m : Nat) : zDfs a (k + 1) x i tf tb gi m = zDfs a k (zSw a k x i tf tb gi m) (i + 1) tf tb gi m := rfl
def zXok (x : Int × Nat) : Prop := 0 ≤ x.1 ∧ x.1 ≤ 11988 ∧ x.2 < 4096
theorem zCons_ok {x y : Int × Nat} (hx : zXok x) (hy : zXok y) : zXok (zCons x y) := by
  unfold zCons
  split
  · exact hy
  · exact hx
theorem zor_lt {m i : Nat} (h : m < 2 ^ i) : m ||| 2 ^ i < 2 ^ (i + 1) := by
  apply Nat.or_lt_two_pow
  · rw [Nat.pow_succ]; omega
  · rw [Nat.pow_succ]; have : 0 < 2 ^ i := Nat.two_pow_pos i; omega
theorem zCn_ge {a : zS} {o b : Nat} (h : zCn a o b = true) : 0 ≤ zGn a b := by
  simp only [zCn, Bool.and_eq_true, decide_eq_true_eq] at h
  exact h.2.2
theorem zDfs_ok {a : zS} (ha : zOk a) : ∀ (k : Nat) (x : Int × Nat) (i tf tb : Nat) (gi : Int) (m : Nat), i + k = zNb a → zXok x → 0 ≤ gi → gi ≤ 999 * i → m < 2 ^ i → zXok (zDfs a k x i tf tb gi m) := by
  intro k
  induction k with
  | zero => intro x i tf tb gi m _ hx _ _ _; exact hx
  | succ k ih =>
    intro x i tf tb gi m hk hx h1 h2 h3
    have hnb := ha.2.2.1
    rw [zDfs_s]
    have h4 : m < 2 ^ (i + 1) := by rw [Nat.pow_succ]; omega
    refine ih _ _ _ _ _ _ (by omega) ?_ h1 (by omega) h4
    unfold zSw
    split
    · next hf =>
      simp only [zFitb, Bool.and_eq_true] at hf
      have g1 := zCn_ge hf.2.2
      have g2 := zGn_bnd ha (b := i) (by omega)
      have g3 := zor_lt h3
      have g4 : 2 ^ (i + 1) ≤ 2 ^ 12 := zp2_le (by omega)
      exact ih _ _ _ _ _ _ (by omega) (zCons_ok hx ⟨by show 0 ≤ gi + zGn a i; omega, by show gi + zGn a i ≤ 11988; omega, by show m ||| 2 ^ i < 4096; omega⟩) (by omega) (by omega) g3
    · exact hx
theorem zSw_ok {a : zS} (ha : zOk a) {k : Nat} {x : Int × Nat} {i tf tb : Nat} {gi : Int} {m : Nat} (hk : i + (k + 1) = zNb a) (hx : zXok x) (h1 : 0 ≤ gi) (h2 : gi ≤ 999 * i) (h3 : m < 2 ^ i) : zXok (zSw a k x i tf tb gi m) := by
  unfold zSw
  split
  · next hf =>
    simp only [zFitb, Bool.and_eq_true] at hf
    have hnb := ha.2.2.1
    have g1 := zCn_ge hf.2.2
    have g2 := zGn_bnd ha (b := i) (by omega)
    have g3 := zor_lt h3
    have g4 : 2 ^ (i + 1) ≤ 2 ^ 12 := zp2_le (by omega)
    exact zDfs_ok ha _ _ _ _ _ _ _ (by omega) (zCons_ok hx ⟨by show 0 ≤ gi + zGn a i; omega, by show gi + zGn a i ≤ 11988; omega, by show m ||| 2 ^ i < 4096; omega⟩) (by omega) (by omega) g3
  · exact hx
def zSkM (l : Launch) (g : zG) (q : Nat → Nat) (a : zS) (wb pd gw : Nat → Nat → Int) (k : Nat) : Prop := ∀ (bs : Nat → Int × Nat) (z : Nat) (hz : z < 3) (i tf tb m : Nat) (gi : Int) (hik : i + k = zNb a) (hx : zXok (bs z)) (hg : 0 ≤ gi ∧ gi ≤ 999 * i) (hm : m < 2 ^ i), zM g l yX2_seek wsX2_seek { frames := 2 * k + 3, cells := 0, slots := 0, locals := 55 * k + 66 } [.ref (q 0), .ref (q (9 + z)), .int (nI i), .int (nI tf), .int (nI tb), .int (iZ gi), .int (nI m)] (wB g q a (zG0 a) bs wb pd gw) (zPv (wB g q a (zG0 a) (va_up bs z (zDfs a k (zCons (bs z) (gi, m)) i tf tb gi m)) wb pd gw)) 0 0
def zSwM (l : Launch) (g : zG) (q : Nat → Nat) (a : zS) (wb pd gw : Nat → Nat → Int) (k : Nat) : Prop := ∀ (bs : Nat → Int × Nat) (z : Nat) (hz : z < 3) (i tf tb m : Nat) (gi : Int) (hik : i + (k + 1) = zNb a) (hx : zXok (bs z)) (hg : 0 ≤ gi ∧ gi ≤ 999 * i) (hm : m < 2 ^ i), zM g l yX2_seekWith wsX2_seekWith { frames := 2 * k + 4, cells := 0, slots := 0, locals := 55 * k + 93 } [.ref (q 0), .ref (q (9 + z)), .int (nI i), .int (nI tf), .int (nI tb), .int (iZ gi), .int (nI m)] (wB g q a (zG0 a) bs wb pd gw) (zPv (wB g q a (zG0 a) (va_up bs z (zSw a k (bs z) i tf tb gi m)) wb pd gw)) 0 0
theorem inX2_seekWith_X2 : ∀ w ∈ wsX20, w ∈ wsX2_seekWith := fun w h => List.mem_cons_of_mem _ (List.mem_append_left _ (List.mem_append_right _ (h)))
set_option maxRecDepth 100000 in
set_option maxHeartbeats 4000000 in
theorem c_X2_seekWith (l : Launch) (g : zG) (q : Nat → Nat) (a : zS) (bs : Nat → Int × Nat) (wb pd gw : Nat → Nat → Int) (z : Nat) (ha : zOk a) (hz : z < 3) (k i tf tb m : Nat) (gi : Int) (hik : i + (k + 1) = zNb a) (hx : zXok (bs z)) (hg : 0 ≤ gi ∧ gi ≤ 999 * i) (hm : m < 2 ^ i) (hS : zSkM l g q a wb pd gw k) : zM g l yX2_seekWith wsX2_seekWith { frames := 2 * k + 4, cells := 0, slots := 0, locals := 55 * k + 93 } [.ref (q 0), .ref (q (9 + z)), .int (nI i), .int (nI tf), .int (nI tb), .int (iZ gi), .int (nI m)] (wB g q a (zG0 a) bs wb pd gw) (zPv (wB g q a (zG0 a) (va_up bs z (zSw a k (bs z) i tf tb gi m)) wb pd gw)) 0 0 := by
  refine zM.of (cc := cX2_seekWith) (nL := 9) (ret := none) (lv := [(0, .ref (q 0)), (1, .ref (q (9 + z))), (2, .int (nI i)), (3, .int (nI tf)), (4, .int (nI tb)), (5, .int (iZ gi)), (6, .int (nI m))]) (by decide) rfl (Nat.le_of_ble_eq_true rfl) rfl ?_
  intro E C0 hi
  have C : zC g E cX2_seekWith RX2 wsX2_seekWith 9 none := C0
  obtain ⟨hnf, hnd, hnb, hou, hrs, hbd⟩ := id ha
  have hi12 : i < 12 := by omega
  refine z_iconst C (nI 1) dX2_seekWith_0 (by decide) ?_
  refine z_aload_n C dX2_seekWith_1 0 rfl ?_
  refine z_get C inX2_seekWith_X2 0 wB_o rfl 4 (by decide) (C.w 1 rfl) rfl dX2_seekWith_2 ?_
  refine z_iload_n C dX2_seekWith_5 2 rfl ?_
  refine z_ialdN C 3 wB_ow (by omega) (by decide) dX2_seekWith_6 (v := nI (zOw a i)) rfl ?_
  have f_6b := (ha.ow (b := i) (by omega))
  refine z_ishl C dX2_seekWith_7 (v := nI (2 ^ (zOw a i))) (zshl_1N (by omega)) ?_
  refine z_istore C dX2_seekWith_8 (by decide) [(7, .int (nI (2 ^ (zOw a i)))), (0, .ref (q 0)), (1, .ref (q (9 + z))), (2, .int (nI i)), (3, .int (nI tf)), (4, .int (nI tb)), (5, .int (iZ gi)), (6, .int (nI m))] rfl ?_
  refine z_iload_n C dX2_seekWith_10 4 rfl ?_
  refine z_aload_n C dX2_seekWith_11 1 rfl ?_
  refine z_get C inX2_seekWith_X2 0 wB_o rfl 5 (by decide) (C.w 2 rfl) rfl dX2_seekWith_12 ?_
  refine z_iload_n C dX2_seekWith_15 3 rfl ?_
  refine z_ialdN C 4 wB_bu (by omega) (by decide) dX2_seekWith_16 (v := nI (zBu a i)) rfl ?_
  have f_16b := (ha.bu8 (b := i) (by omega))
  refine z_iand C dX2_seekWith_17 (v := nI (tf &&& (zBu a i))) (zand_NN tf (zBu a i)) ?_
  refine z_if_ne C 29 dX2_seekWith_18 (by decide) (zeq_N0 (by have : tf &&& zBu a i ≤ zBu a i := Nat.and_le_right; have := ha.bu8 (b := i) (by omega); omega)) (fun c_18 => ?_) (fun c_18 => ?_)
  · skip
    refine z_iconst C (nI 1) dX2_seekWith_29 (by decide) ?_
    refine z_goto C 34 dX2_seekWith_30 (by decide) ?_
    refine z_istore C dX2_seekWith_34 (by decide) [(8, .int (nI 1)), (7, .int (nI (2 ^ (zOw a i)))), (0, .ref (q 0)), (1, .ref (q (9 + z))), (2, .int (nI i)), (3, .int (nI tf)), (4, .int (nI tb)), (5, .int (iZ gi)), (6, .int (nI m))] rfl ?_
    refine z_iload C dX2_seekWith_36 0 rfl ?_
    refine z_if_ne C 49 dX2_seekWith_38 (by decide) (zeq_N0 (by omega)) (fun c_38 => ?_) (fun h9 => absurd h9 (by decide))
    exact z_vretP C dX2_seekWith_49 (by rw [show zSw a k (bs z) i tf tb gi m = bs z from if_neg (by simp_all [zFitb]), zup_id])
  · skip
    refine z_iload C dX2_seekWith_21 5 rfl ?_
    refine z_iload C dX2_seekWith_23 0 rfl ?_
    refine z_iand C dX2_seekWith_25 (v := nI (tb &&& (2 ^ (zOw a i)))) (zand_NN tb (2 ^ (zOw a i))) ?_
    refine z_if_eq C 33 dX2_seekWith_26 (by decide) (zbit_0 (by omega)) (fun c_26 => ?_) (fun c_26 => ?_)
    · skip
      refine z_iconst C (nI 0) dX2_seekWith_33 (by decide) ?_
      refine z_istore C dX2_seekWith_34 (by decide) [(8, .int (nI 0)), (7, .int (nI (2 ^ (zOw a i)))), (0, .ref (q 0)), (1, .ref (q (9 + z))), (2, .int (nI i)), (3, .int (nI tf)), (4, .int (nI tb)), (5, .int (iZ gi)), (6, .int (nI m))] rfl ?_
      refine z_iload C dX2_seekWith_36 0 rfl ?_
      refine z_if_ne C 49 dX2_seekWith_38 (by decide) (zeq_N0 (by omega)) (fun h9 => absurd (by decide) h9) (fun c_38 => ?_)
      refine z_aload_n C dX2_seekWith_41 2 rfl ?_
      refine z_iload_n C dX2_seekWith_42 4 rfl ?_
      refine z_callV C (c_X2_counts l g q a bs wb pd gw ha i (by omega)) (cwV 1 C.ts gX2_seekWith_X2_counts rfl rfl rfl (by decide +kernel) ⟨Nat.le_of_ble_eq_true rfl, Nat.le_of_ble_eq_true rfl⟩) wB_o rfl rfl rfl (Nat.le_of_ble_eq_true rfl) dX2_seekWith_43 ⟨Nat.zero_le _, Nat.zero_le _⟩ (z_i ?_)
      refine z_if_ne C 50 dX2_seekWith_46 (by decide) (zeq_B0 _) (fun c_46 => ?_) (fun c_46 => ?_)
      · skip
        have hf9 : zFitb a i tf tb = true := by simp_all [zFitb]
        have hge := zCn_ge (show zCn a (zOu a) i = true by simp_all)
        have hbn := zGn_bnd ha (b := i) (by omega)
        refine z_aload_n C dX2_seekWith_50 2 rfl ?_
        refine z_aload_n C dX2_seekWith_51 3 rfl ?_
        refine z_iload_n C dX2_seekWith_52 4 rfl ?_
        refine z_iconst C (nI 1) dX2_seekWith_53 (by decide) ?_
        refine z_iadd C dX2_seekWith_54 (v := nI (i + 1)) (nI_add i 1) ?_
        refine z_iload_n C dX2_seekWith_55 5 rfl ?_
        refine z_aload_n C dX2_seekWith_56 2 rfl ?_
        refine z_get C inX2_seekWith_X2 0 wB_o rfl 5 (by decide) (C.w 2 rfl) rfl dX2_seekWith_57 ?_
        refine z_iload_n C dX2_seekWith_60 4 rfl ?_
        refine z_ialdN C 4 wB_bu (by omega) (by decide) dX2_seekWith_61 (v := nI (zBu a i)) rfl ?_
        have f_61b := (ha.bu8 (b := i) (by omega))
        refine z_ior C dX2_seekWith_62 (v := nI (tf ||| (zBu a i))) (zor_NN tf (zBu a i)) ?_
        refine z_iload C dX2_seekWith_63 6 rfl ?_
        refine z_iload C dX2_seekWith_65 1 rfl ?_
        refine z_ior C dX2_seekWith_67 (v := nI (tb ||| (2 ^ (zOw a i)))) (zor_NN tb (2 ^ (zOw a i))) ?_
        refine z_iload C dX2_seekWith_68 7 rfl ?_
        refine z_aload_n C dX2_seekWith_70 2 rfl ?_
        refine z_get C inX2_seekWith_X2 0 wB_o rfl 7 (by decide) (C.w 3 rfl) rfl dX2_seekWith_71 ?_
        refine z_iload_n C dX2_seekWith_74 4 rfl ?_
        refine z_ialdN C 6 wB_G (by omega) (by decide) dX2_seekWith_75 (v := iZ ((zG0 a) i)) rfl ?_
        have f_75b := (zG0_bnd ha i)
        refine z_iadd C dX2_seekWith_76 (v := iZ (gi + zGn a i)) (by rw [iZ_add]; simp [zG0, show i < zNb a by omega]) ?_
        refine z_iload C dX2_seekWith_77 8 rfl ?_
        refine z_iconst C (nI 1) dX2_seekWith_79 (by decide) ?_
        refine z_iload_n C dX2_seekWith_80 4 rfl ?_
        refine z_ishl C dX2_seekWith_81 (v := nI (2 ^ i)) (zshl_1N (by omega)) ?_
        refine z_ior C dX2_seekWith_82 (v := nI (m ||| 2 ^ i)) (zor_NN _ _) ?_
        refine z_callV C (hS bs z hz (i + 1) (tf ||| zBu a i) (tb ||| 2 ^ zOw a i) (m ||| 2 ^ i) (gi + zGn a i) (by omega) hx ⟨by omega, by omega⟩ (zor_lt hm)) (cwV 6 C.ts gX2_seekWith_X2_seek rfl rfl rfl (by decide +kernel) ⟨by dsimp only; omega, by dsimp only; omega⟩) wB_o rfl rfl rfl (Nat.le_of_ble_eq_true rfl) dX2_seekWith_83 ⟨Nat.zero_le _, Nat.zero_le _⟩ (z_v ?_)
        exact z_vretP C dX2_seekWith_86 (by rw [show zSw a k (bs z) i tf tb gi m = _ from if_pos hf9])
      · skip
        exact z_vretP C dX2_seekWith_49 (by rw [show zSw a k (bs z) i tf tb gi m = bs z from if_neg (by simp_all [zFitb]), zup_id])
    · skip
      refine z_iconst C (nI 1) dX2_seekWith_29 (by decide) ?_
      refine z_goto C 34 dX2_seekWith_30 (by decide) ?_
      refine z_istore C dX2_seekWith_34 (by decide) [(8, .int (nI 1)), (7, .int (nI (2 ^ (zOw a i)))), (0, .ref (q 0)), (1, .ref (q (9 + z))), (2, .int (nI i)), (3, .int (nI tf)), (4, .int (nI tb)), (5, .int (iZ gi)), (6, .int (nI m))] rfl ?_
      refine z_iload C dX2_seekWith_36 0 rfl ?_
      refine z_if_ne C 49 dX2_seekWith_38 (by decide) (zeq_N0 (by omega)) (fun c_38 => ?_) (fun h9 => absurd h9 (by decide))
      exact z_vretP C dX2_seekWith_49 (by rw [show zSw a k (bs z) i tf tb gi m = bs z from if_neg (by simp_all [zFitb]), zup_id])
theorem inX2_seek_X2 : ∀ w ∈ wsX20, w ∈ wsX2_seek := fun w h => List.mem_cons_of_mem _ (List.mem_append_left _ (List.mem_append_right _ (h)))
set_option maxRecDepth 100000 in
set_option maxHeartbeats 4000000 in
theorem c_X2_seek (l : Launch) (g : zG) (q : Nat → Nat) (a : zS) (bs : Nat → Int × Nat) (wb pd gw : Nat → Nat → Int) (z : Nat) (ha : zOk a) (hz : z < 3) (k i tf tb m : Nat) (gi : Int) (hik : i + k = zNb a) (hx : zXok (bs z)) (hg : 0 ≤ gi ∧ gi ≤ 999 * i) (hm : m < 2 ^ i) (hW : ∀ j, j < k → zSwM l g q a wb pd gw j) : zM g l yX2_seek wsX2_seek { frames := 2 * k + 3, cells := 0, slots := 0, locals := 55 * k + 66 } [.ref (q 0), .ref (q (9 + z)), .int (nI i), .int (nI tf), .int (nI tb), .int (iZ gi), .int (nI m)] (wB g q a (zG0 a) bs wb pd gw) (zPv (wB g q a (zG0 a) (va_up bs z (zDfs a k (zCons (bs z) (gi, m)) i tf tb gi m)) wb pd gw)) 0 0 := by
  refine zM.of (cc := cX2_seek) (nL := 8) (ret := none) (lv := [(0, .ref (q 0)), (1, .ref (q (9 + z))), (2, .int (nI i)), (3, .int (nI tf)), (4, .int (nI tb)), (5, .int (iZ gi)), (6, .int (nI m))]) (by decide) rfl (Nat.le_of_ble_eq_true rfl) rfl ?_
  intro E C0 hi
  have C : zC g E cX2_seek RX2 wsX2_seek 8 none := C0
  obtain ⟨hnf, hnd, hnb, hou, hrs, hbd⟩ := id ha
  have hm12 : 2 ^ i ≤ 2 ^ 12 := zp2_le (by omega)
  have h1 : zB31 gi := by unfold zB31; omega
  have h2 : zB31 (bs z).1 := by have := hx.1; have := hx.2.1; unfold zB31; omega
  have h3 : m < 4096 := by omega
  have h4 := hx.2.2
  have hx0 : zXok (zCons (bs z) (gi, m)) := zCons_ok hx ⟨hg.1, by show gi ≤ 11988; omega, h3⟩
  refine z_aload_n C dX2_seek_0 1 rfl ?_
  refine z_iload C dX2_seek_1 5 rfl ?_
  refine z_iload C dX2_seek_3 6 rfl ?_
  refine z_callVN C (c_X0_consider l g q a bs wb pd gw z hz gi m h1 h2 h3 h4) ⟨va_cnB 2 C.ts ggX2_seek_X0_consider rfl rfl rfl (C.K.2.1 _ (List.mem_of_getElem? (i := 10) rfl)) (C.w 3 rfl) (by decide +kernel) ⟨by dsimp only; omega, by dsimp only; omega⟩, (C.w 2 rfl), (C.w 4 rfl)⟩ (wB_bs (z := z) (by omega)) rfl rfl rfl (Nat.le_of_ble_eq_true rfl) dX2_seek_5 ⟨Nat.zero_le _, Nat.zero_le _⟩ (z_v ?_)
  refine z_iload_n C dX2_seek_8 2 rfl ?_
  refine z_istore C dX2_seek_9 (by decide) [(7, .int (nI i)), (0, .ref (q 0)), (1, .ref (q (9 + z))), (2, .int (nI i)), (3, .int (nI tf)), (4, .int (nI tb)), (5, .int (iZ gi)), (6, .int (nI m))] rfl ?_
  refine zW.pick (lv' := [(0, .ref (q 0)), (1, .ref (q (9 + z))), (2, .int (nI i)), (3, .int (nI tf)), (4, .int (nI tb)), (5, .int (iZ gi)), (6, .int (nI m)), (7, .int (nI i))]) [1, 2, 3, 4, 5, 6, 7, 0] rfl ?_
  have hlp11 : ∀ (kk j : Nat) (x : Int × Nat), j + kk = zNb a → (i ≤ j) → (zXok x) → (zDfs a kk x j tf tb gi m = zDfs a k (zCons (bs z) (gi, m)) i tf tb gi m) → zW g l ({ frames := 2 * k + 3, cells := 0, slots := 0, locals := 55 * k + 66 }) E (zMQ g E (zPv (wB g q a (zG0 a) (va_up bs z (zDfs a k (zCons (bs z) (gi, m)) i tf tb gi m)) wb pd gw)) 0 0) 8 0 0 (wB g q a (zG0 a) (va_up bs z x) wb pd gw) [(0, .ref (q 0)), (1, .ref (q (9 + z))), (2, .int (nI i)), (3, .int (nI tf)), (4, .int (nI tb)), (5, .int (iZ gi)), (6, .int (nI m)), (7, .int (nI j))] [] 11 := by
    intro kk
    induction kk with
    | zero =>
      intro j x hjk hij hxx hr
      refine z_iload C dX2_seek_11 7 rfl ?_
      refine z_aload_n C dX2_seek_13 0 rfl ?_
      refine z_get C inX2_seek_X2 0 wB_o rfl 10 (by decide) (C.w 1 rfl) rfl dX2_seek_14 ?_
      refine z_icmp_ge C 40 dX2_seek_17 (by decide) (zle_NN (by omega) (by omega)) (fun c_17 => ?_) (fun h9 => absurd (by omega) h9)
      exact z_vretP C dX2_seek_40 (by rw [← hr]; rfl)
    | succ kk ih11 =>
      intro j x hjk hij hxx hr
      refine z_iload C dX2_seek_11 7 rfl ?_
      refine z_aload_n C dX2_seek_13 0 rfl ?_
      refine z_get C inX2_seek_X2 0 wB_o rfl 10 (by decide) (C.w 1 rfl) rfl dX2_seek_14 ?_
      refine z_icmp_ge C 40 dX2_seek_17 (by decide) (zle_NN (by omega) (by omega)) (fun h9 => absurd h9 (by omega)) (fun c_17 => ?_)
      refine z_aload_n C dX2_seek_20 0 rfl ?_
      refine z_aload_n C dX2_seek_21 1 rfl ?_
      refine z_iload C dX2_seek_22 7 rfl ?_
      refine z_iload_n C dX2_seek_24 3 rfl ?_
      refine z_iload C dX2_seek_25 4 rfl ?_
      refine z_iload C dX2_seek_27 5 rfl ?_
      refine z_iload C dX2_seek_29 6 rfl ?_
      refine z_callV C (hW kk (by omega) (va_up bs z x) z hz j tf tb m gi (by omega) (by rw [va_up_self]; exact hxx) ⟨hg.1, by omega⟩ (Nat.lt_of_lt_of_le hm (zp2_le (by omega)))) (cwV 6 C.ts gX2_seek_X2_seekWith rfl rfl rfl (by decide +kernel) ⟨by dsimp only; omega, by dsimp only; omega⟩) wB_o rfl rfl rfl (Nat.le_of_ble_eq_true rfl) dX2_seek_31 ⟨Nat.zero_le _, Nat.zero_le _⟩ (z_v ?_)
      rw [bx_uu, va_up_self]
      refine z_iinc C dX2_seek_34 7 (nI (j + 1)) rfl (nI_add j 1) (by decide) [(7, .int (nI (j + 1))), (0, .ref (q 0)), (1, .ref (q (9 + z))), (2, .int (nI i)), (3, .int (nI tf)), (4, .int (nI tb)), (5, .int (iZ gi)), (6, .int (nI m))] rfl ?_
      refine z_goto C 11 dX2_seek_37 (by decide) ?_
      refine zW.pick (lv' := [(0, .ref (q 0)), (1, .ref (q (9 + z))), (2, .int (nI i)), (3, .int (nI tf)), (4, .int (nI tb)), (5, .int (iZ gi)), (6, .int (nI m)), (7, .int (nI (j + 1)))]) [1, 2, 3, 4, 5, 6, 7, 0] rfl ?_
      exact ih11 (j + 1) (zSw a kk x j tf tb gi m) (by omega) (by omega) (zSw_ok ha (by omega) hxx hg.1 (by omega) (Nat.lt_of_lt_of_le hm (zp2_le hij))) hr
  exact hlp11 k i (zCons (bs z) (gi, m)) (by omega) (Nat.le_refl i) hx0 rfl
theorem zSkM_all (l : Launch) (g : zG) (q : Nat → Nat) (a : zS) (wb pd gw : Nat → Nat → Int) (ha : zOk a) : ∀ k, zSkM l g q a wb pd gw k := by
  intro k
  induction k using Nat.strongRecOn with
  | _ k ih => exact fun bs z hz i tf tb m gi hik hx hg hm => c_X2_seek l g q a bs wb pd gw z ha hz k i tf tb m gi hik hx hg hm (fun j hj bs z hz i tf tb m gi hik hx hg hm => c_X2_seekWith l g q a bs wb pd gw z ha hz j i tf tb m gi hik hx hg hm (ih j hj))
end
section
/-- a void answer, of the world only a proposition -/
def zPe (P : va_W → Prop) : Option Value → va_W → Prop := fun v w' => v = none ∧ P w'
theorem z_e {g : zG} {l : Launch} {R : Room} {E : zEnv} {Q : State → Prop} {nL cells slots : Nat} {lv : List (Nat × Value)} {rest : List Value} {pc : Nat} {P : va_W → Prop} (kk : ∀ w', P w' → zW g l R E Q nL cells slots w' lv rest pc) : ∀ v w', zPe P v w' → zW g l R E Q nL (cells + 0) (slots + 0) w' lv (v.toList ++ rest) pc := by
  rintro _ w' ⟨rfl, h⟩; exact kk w' h
theorem z_eret {g : zG} {l : Launch} {R : Room} {E : zEnv} {nL cells slots : Nat} {ws : va_W} {lv : List (Nat × Value)} {pc : Nat} {cc : ByteArray} {own : String} {Ts : List Cond} {P : va_W → Prop} (C : zC g E cc own Ts nL none) (d : decode cc pc = .ok (.return_, 1)) (hp : P ws) : zW g l R E (zMQ g E (zPe P) cells slots) nL cells slots ws lv [] pc := z_vret C d ⟨rfl, hp⟩
theorem zCons_00 : zCons ((0 : Int), (0 : Nat)) (0, 0) = (0, 0) := by decide
/-- the best set of bids, with these bidders taken -/
def zFw (a : zS) (ab : Nat) : Int × Nat := zDfs a (zNb a) (0, 0) 0 0 ab 0 0
theorem zFw_ok {a : zS} (ha : zOk a) (ab : Nat) : zXok (zFw a ab) := zDfs_ok ha _ _ _ _ _ _ _ (by omega) ⟨by decide, by decide, by decide⟩ (by omega) (by omega) (by decide)
def zGw (a : zS) (ab d : Nat) : Int := if d < zNd a then (zFw a (ab ||| 2 ^ d)).1 else 0
/-- the last bid below n that is in m and of the bidder e; -1 without one -/
def zLw (a : zS) (m : Nat) : Nat → Nat → Int
  | 0, _ => -1
  | n + 1, e => if m.testBit n = true ∧ zOw a n = e then (n : Int) else zLw a m n e
def zLp (a : zS) (ab : Nat) : Nat → Nat → Int
  | 0, _ => 0
  | n + 1, e => if (zFw a ab).2.testBit n = true ∧ zOw a n = e then (zRes a (zBu a n) : Int) + zGw a ab e - ((zFw a ab).1 - zGn a n) else zLp a ab n e
/-- a settled sale -/
def zSet (a : zS) (bs : Nat → Int × Nat) (wb pd gw : Nat → Nat → Int) (z ab : Nat) : Prop := bs z = zFw a ab ∧ ∀ d, d < 5 → wb z d = zLw a (zFw a ab).2 (zNb a) d ∧ pd z d = zLp a ab (zNb a) d ∧ gw z d = zGw a ab d
def zSame (z : Nat) (bs : Nat → Int × Nat) (wb pd gw : Nat → Nat → Int) (bs' : Nat → Int × Nat) (wb' pd' gw' : Nat → Nat → Int) : Prop := ∀ y, y < 2 → y ≠ z → bs' y = bs y ∧ wb' y = wb y ∧ pd' y = pd y ∧ gw' y = gw y
def zPst (g : zG) (q : Nat → Nat) (a : zS) (bs : Nat → Int × Nat) (wb pd gw : Nat → Nat → Int) (z ab : Nat) : va_W → Prop := fun w' => ∃ (bs' : Nat → Int × Nat) (wb' pd' gw' : Nat → Nat → Int), w' = wB g q a (zG0 a) bs' wb' pd' gw' ∧ zSet a bs' wb' pd' gw' z ab ∧ zSame z bs wb pd gw bs' wb' pd' gw'
theorem zst_b {bs bs1 : Nat → Int × Nat} {z : Nat} {F : Int × Nat} (hz : z < 2) (h : bs1 z = F ∧ ∀ y, y < 2 → y ≠ z → bs1 y = bs y) (v : Int × Nat) : (va_up bs1 2 v) z = F ∧ ∀ y, y < 2 → y ≠ z → va_up bs1 2 v y = bs y := by
  refine ⟨by rw [va_up_ne _ _ (by omega)]; exact h.1, fun y h1 h2 => by rw [va_up_ne _ _ (by omega)]; exact h.2 y h1 h2⟩
theorem zst_b0 {bs : Nat → Int × Nat} {z : Nat} (F : Int × Nat) : (va_up bs z F) z = F ∧ ∀ y, y < 2 → y ≠ z → va_up bs z F y = bs y := ⟨va_up_self _ _ _, fun y _ h2 => va_up_ne _ _ h2⟩
theorem zst_g0 {gw : Nat → Nat → Int} {z : Nat} (f : Nat → Int) (x : Int) : (∀ e, e < 5 → (va_up gw z (zFil (gw z) 5 x)) z e = if e < 0 then f e else x) ∧ ∀ y, y < 2 → y ≠ z → va_up gw z (zFil (gw z) 5 x) y = gw y := by
  refine ⟨fun e he => ?_, fun y _ h2 => va_up_ne _ _ h2⟩
  rw [va_up_self]
  simp [zFil, he]
theorem zst_g {gw gw1 : Nat → Nat → Int} {z d : Nat} {f : Nat → Int} {v x : Int} (h : (∀ e, e < 5 → gw1 z e = if e < d then f e else x) ∧ ∀ y, y < 2 → y ≠ z → gw1 y = gw y) (hv : v = f d) : (∀ e, e < 5 → (zup2 gw1 z d v) z e = if e < d + 1 then f e else x) ∧ ∀ y, y < 2 → y ≠ z → zup2 gw1 z d v y = gw y := by
  refine ⟨fun e he => ?_, fun y h1 h2 => by unfold zup2; rw [va_up_ne _ _ h2]; exact h.2 y h1 h2⟩
  unfold zup2
  rw [va_up_self]
  by_cases hed : e = d
  · subst hed
    rw [va_up_self, hv, if_pos (by omega)]
  · rw [va_up_ne _ _ hed, h.1 e he]
    by_cases h3 : e < d
    · rw [if_pos h3, if_pos (by omega)]
    · rw [if_neg h3, if_neg (by omega)]
theorem zst_w0 {wb : Nat → Nat → Int} {z : Nat} (f : Nat → Nat → Int) (x : Int) (h0 : ∀ e, f 0 e = x) : (∀ e, e < 5 → (va_up wb z (zFil (wb z) 5 x)) z e = f 0 e) ∧ ∀ y, y < 2 → y ≠ z → va_up wb z (zFil (wb z) 5 x) y = wb y := by
  refine ⟨fun e he => ?_, fun y _ h2 => va_up_ne _ _ h2⟩
  rw [va_up_self, h0]
  simp [zFil, he]
theorem zst_w {wb wb1 : Nat → Nat → Int} {z n o : Nat} {f : Nat → Nat → Int} {v : Int} (h : (∀ e, e < 5 → wb1 z e = f n e) ∧ ∀ y, y < 2 → y ≠ z → wb1 y = wb y) (h1 : f (n + 1) o = v) (h2 : ∀ e, e ≠ o → f (n + 1) e = f n e) : (∀ e, e < 5 → (zup2 wb1 z o v) z e = f (n + 1) e) ∧ ∀ y, y < 2 → y ≠ z → zup2 wb1 z o v y = wb y := by
  refine ⟨fun e he => ?_, fun y h3 h4 => by unfold zup2; rw [va_up_ne _ _ h4]; exact h.2 y h3 h4⟩
  unfold zup2
  rw [va_up_self]
  by_cases hed : e = o
  · subst hed
    rw [va_up_self, h1]
  · rw [va_up_ne _ _ hed, h.1 e he, h2 e hed]
theorem zst_wn {wb wb1 : Nat → Nat → Int} {z n : Nat} {f : Nat → Nat → Int} (h : (∀ e, e < 5 → wb1 z e = f n e) ∧ ∀ y, y < 2 → y ≠ z → wb1 y = wb y) (h2 : ∀ e, f (n + 1) e = f n e) : (∀ e, e < 5 → wb1 z e = f (n + 1) e) ∧ ∀ y, y < 2 → y ≠ z → wb1 y = wb y := ⟨fun e he => by rw [h.1 e he, h2 e], h.2⟩
def zSi (f : Nat → Int) : Nat → Int
  | 0 => 0
  | n + 1 => zSi f n + f n
/-- a price is told: the gains follow -/
theorem zG0_setPr (a : zS) {b : Nat} (hb : b < zNb a) (x : Nat) : va_up (zG0 a) b ((x : Int) - (zRes a (zBu a b) : Int)) = zG0 (zSetPr a b x) := by
  funext j
  by_cases h : j = b
  · subst h
    rw [va_up_self]
    have h1 : zNb (zSetPr a j x) = zNb a := rfl
    unfold zG0
    rw [h1, if_pos hb]
    show _ = ((va_up (zPr a) j x j : Nat) : Int) - (zRes (zSetPr a j x) (zBu (zSetPr a j x) j) : Int)
    rw [va_up_self]
    rfl
  · rw [va_up_ne _ _ h]
    unfold zG0 zGn
    show (if j < zNb a then _ else _) = if j < zNb a then ((va_up (zPr a) b x j : Nat) : Int) - _ else _
    rw [va_up_ne _ _ h]
    rfl
set_option maxRecDepth 100000 in
set_option maxHeartbeats 4000000 in
theorem c_X2_findWinners (l : Launch) (g : zG) (q : Nat → Nat) (a : zS) (bs : Nat → Int × Nat) (wb pd gw : Nat → Nat → Int) (z : Nat) (ha : zOk a) (hz : z < 3) (ab : Nat) : zM g l yX2_findWinners wsX2_findWinners { frames := 28, cells := 0, slots := 0, locals := 753 } [.ref (q 0), .ref (q (9 + z)), .int (nI ab)] (wB g q a (zG0 a) bs wb pd gw) (zPv (wB g q a (zG0 a) (va_up bs z (zFw a ab)) wb pd gw)) 0 0 := by
  refine zM.of (cc := cX2_findWinners) (nL := 3) (ret := none) (lv := [(0, .ref (q 0)), (1, .ref (q (9 + z))), (2, .int (nI ab))]) (by decide) rfl (Nat.le_of_ble_eq_true rfl) rfl ?_
  intro E C0 hi
  have C : zC g E cX2_findWinners RX2 wsX2_findWinners 3 none := C0
  obtain ⟨hnf, hnd, hnb, hou, hrs, hbd⟩ := id ha
  refine z_aload_n C dX2_findWinners_0 1 rfl ?_
  refine z_callVN C (c_X0_clear l g q a bs wb pd gw z (by omega)) ⟨va_cnB 0 C.ts ggX2_findWinners_X0_clear rfl rfl rfl (C.K.2.1 _ (List.mem_of_getElem? (i := 9) rfl)) (C.w 2 rfl) (by decide +kernel) ⟨Nat.le_of_ble_eq_true rfl, Nat.le_of_ble_eq_true rfl⟩, (C.w 1 rfl), (C.w 3 rfl)⟩ (wB_bs (z := z) (by omega)) rfl rfl rfl (Nat.le_of_ble_eq_true rfl) dX2_findWinners_1 ⟨Nat.zero_le _, Nat.zero_le _⟩ (z_v ?_)
  refine z_aload_n C dX2_findWinners_4 0 rfl ?_
  refine z_aload_n C dX2_findWinners_5 1 rfl ?_
  refine z_iconst C (nI 0) dX2_findWinners_6 (by decide) ?_
  refine z_iconst C (nI 0) dX2_findWinners_7 (by decide) ?_
  refine z_iload_n C dX2_findWinners_8 2 rfl ?_
  refine z_iconst C (nI 0) dX2_findWinners_9 (by decide) ?_
  refine z_iconst C (nI 0) dX2_findWinners_10 (by decide) ?_
  refine z_callV C (zSkM_all l g q a wb pd gw ha (zNb a) (va_up bs z (0, 0)) z hz 0 0 ab 0 0 (by omega) (by rw [va_up_self]; exact ⟨by decide, by decide, by decide⟩) ⟨by decide, by decide⟩ (by decide)) (cwV 6 C.ts gX2_findWinners_X2_seek rfl rfl rfl (by decide +kernel) ⟨by dsimp only; omega, by dsimp only; omega⟩) wB_o rfl rfl rfl (Nat.le_of_ble_eq_true rfl) dX2_findWinners_11 ⟨Nat.zero_le _, Nat.zero_le _⟩ (z_v ?_)
  exact z_vretP C dX2_findWinners_14 (by rw [bx_uu, va_up_self, zCons_00]; rfl)
theorem inX2_award_X0 : ∀ w ∈ wsX00, w ∈ wsX2_award := fun w h => List.mem_cons_of_mem _ (List.mem_append_right _ (h))
theorem inX2_award_X1 : ∀ w ∈ wsX10, w ∈ wsX2_award := fun w h => List.mem_cons_of_mem _ (List.mem_append_left _ (List.mem_append_right _ (h)))
theorem inX2_award_X2 : ∀ w ∈ wsX20, w ∈ wsX2_award := fun w h => List.mem_cons_of_mem _ (List.mem_append_left _ (List.mem_append_left _ (List.mem_append_right _ (h))))
set_option maxRecDepth 100000 in
set_option maxHeartbeats 4000000 in
theorem c_X2_award (l : Launch) (g : zG) (q : Nat → Nat) (a : zS) (bs : Nat → Int × Nat) (wb pd gw : Nat → Nat → Int) (z : Nat) (ha : zOk a) (hz : z < 2) (b : Nat) (hb : b < zNb a) : zM g l yX2_award wsX2_award { frames := 2, cells := 0, slots := 0, locals := 44 } [.ref (q 0), .ref (q (12 + z)), .int (nI b)] (wB g q a (zG0 a) bs wb pd gw) (zPv (wB g q a (zG0 a) bs (zup2 wb z (zOw a b) (b : Int)) (zup2 pd z (zOw a b) ((zRes a (zBu a b) : Int) + gw z (zOw a b) - ((bs z).1 - zG0 a b))) gw)) 0 0 := by
  refine zM.of (cc := cX2_award) (nL := 5) (ret := none) (lv := [(0, .ref (q 0)), (1, .ref (q (12 + z))), (2, .int (nI b))]) (by decide) rfl (Nat.le_of_ble_eq_true rfl) rfl ?_
  intro E C0 hi
  have C : zC g E cX2_award RX2 wsX2_award 5 none := C0
  obtain ⟨hnf, hnd, hnb, hou, hrs, hbd⟩ := id ha
  refine z_aload_n C dX2_award_0 0 rfl ?_
  refine z_get C inX2_award_X2 0 wB_o rfl 4 (by decide) (C.w 1 rfl) rfl dX2_award_1 ?_
  refine z_iload_n C dX2_award_4 2 rfl ?_
  refine z_ialdN C 3 wB_ow (by omega) (by decide) dX2_award_5 (v := nI (zOw a b)) rfl ?_
  have f_5b := (ha.ow (b := b) (by omega))
  refine z_istore_n C dX2_award_6 (by decide) [(3, .int (nI (zOw a b))), (0, .ref (q 0)), (1, .ref (q (12 + z))), (2, .int (nI b))] rfl ?_
  refine z_aload_n C dX2_award_7 2 rfl ?_
  refine z_getN C inX2_award_X1 (12 + z) (wB_sl (z := z) hz) rfl 0 (by decide) 0 rfl rfl dX2_award_8 ?_
  refine z_getN C inX2_award_X0 (9 + z) (wB_bs (z := z) (by omega)) rfl 0 (by decide) 4 rfl rfl dX2_award_11 ?_
  refine z_aload_n C dX2_award_14 1 rfl ?_
  refine z_get C inX2_award_X2 0 wB_o rfl 7 (by decide) (C.w 2 rfl) rfl dX2_award_15 ?_
  refine z_iload_n C dX2_award_18 3 rfl ?_
  refine z_ialdN C 6 wB_G (by omega) (by decide) dX2_award_19 (v := iZ ((zG0 a) b)) rfl ?_
  have f_19b := (zG0_bnd ha b)
  refine z_isub C dX2_award_20 (v := iZ (((bs z).1) - ((zG0 a) b))) (iZ_sub ((bs z).1) ((zG0 a) b)) ?_
  refine z_istore C dX2_award_21 (by decide) [(4, .int (iZ (((bs z).1) - ((zG0 a) b)))), (3, .int (nI (zOw a b))), (0, .ref (q 0)), (1, .ref (q (12 + z))), (2, .int (nI b))] rfl ?_
  refine z_aload_n C dX2_award_23 3 rfl ?_
  refine z_getN C inX2_award_X1 (12 + z) (wB_sl (z := z) hz) rfl 1 (by decide) 1 rfl rfl dX2_award_24 ?_
  refine z_iload_n C dX2_award_27 1 rfl ?_
  refine z_iload_n C dX2_award_28 4 rfl ?_
  refine z_iastN C (14 + z) (wB_wb (z := z) hz) (by omega) (by decide) dX2_award_29 (wB_set_wb (z := z) hz (zOw a b) ((b : Nat) : Int)) ?_
  refine z_aload_n C dX2_award_30 3 rfl ?_
  refine z_getN C inX2_award_X1 (12 + z) (wB_sl (z := z) hz) rfl 2 (by decide) 2 rfl rfl dX2_award_31 ?_
  refine z_iload_n C dX2_award_34 1 rfl ?_
  refine z_aload_n C dX2_award_35 2 rfl ?_
  refine z_aload_n C dX2_award_36 2 rfl ?_
  refine z_get C inX2_award_X2 0 wB_o rfl 5 (by decide) (C.w 3 rfl) rfl dX2_award_37 ?_
  refine z_iload_n C dX2_award_40 4 rfl ?_
  refine z_ialdN C 4 wB_bu (by omega) (by decide) dX2_award_41 (v := nI (zBu a b)) rfl ?_
  have f_41b := (ha.bu8 (b := b) (by omega))
  refine z_callV C (c_X2_reservesOf l g q a bs (zup2 wb z (zOw a b) ((b : Nat) : Int)) pd gw (zG0 a) ha (zBu a b)) (cwV 1 C.ts gX2_award_X2_reservesOf rfl rfl rfl (by decide +kernel) ⟨Nat.le_of_ble_eq_true rfl, Nat.le_of_ble_eq_true rfl⟩) wB_o rfl rfl rfl (Nat.le_of_ble_eq_true rfl) dX2_award_42 ⟨Nat.zero_le _, Nat.zero_le _⟩ (z_i ?_)
  refine z_aload_n C dX2_award_45 3 rfl ?_
  refine z_getN C inX2_award_X1 (12 + z) (wB_sl (z := z) hz) rfl 3 (by decide) 3 rfl rfl dX2_award_46 ?_
  refine z_iload_n C dX2_award_49 1 rfl ?_
  refine z_ialdN C (18 + z) (wB_gw (z := z) hz) (by omega) (by decide) dX2_award_50 (v := iZ (gw z (zOw a b))) rfl ?_
  refine z_iadd C dX2_award_51 (v := iZ (((zRes a (zBu a b) : Nat) : Int) + (gw z (zOw a b)))) (iZ_add ((zRes a (zBu a b) : Nat) : Int) (gw z (zOw a b))) ?_
  refine z_iload C dX2_award_52 0 rfl ?_
  refine z_isub C dX2_award_54 (v := iZ ((((zRes a (zBu a b) : Nat) : Int) + (gw z (zOw a b))) - (((bs z).1) - ((zG0 a) b)))) (iZ_sub (((zRes a (zBu a b) : Nat) : Int) + (gw z (zOw a b))) (((bs z).1) - ((zG0 a) b))) ?_
  refine z_iastN C (16 + z) (wB_pd (z := z) hz) (by omega) (by decide) dX2_award_55 (wB_set_pd (z := z) hz (zOw a b) ((((zRes a (zBu a b) : Nat) : Int) + (gw z (zOw a b))) - (((bs z).1) - ((zG0 a) b)))) ?_
  exact z_vretP C dX2_award_56 rfl
theorem inX1_clear_X1 : ∀ w ∈ wsX10, w ∈ wsX1_clear := fun w h => List.mem_cons_of_mem _ (List.mem_append_left _ (List.mem_append_right _ (h)))
set_option maxRecDepth 100000 in
set_option maxHeartbeats 4000000 in
theorem c_X1_clear (l : Launch) (g : zG) (q : Nat → Nat) (a : zS) (bs : Nat → Int × Nat) (wb pd gw : Nat → Nat → Int) (z : Nat) (hz : z < 2) : zM g l yX1_clear wsX1_clear { frames := 1, cells := 0, slots := 0, locals := 23 } [.ref (q (12 + z))] (wB g q a (zG0 a) bs wb pd gw) (zPv (wB g q a (zG0 a) (va_up bs z (0, 0)) (va_up wb z (zFil (wb z) 5 (-1))) (va_up pd z (zFil (pd z) 5 0)) (va_up gw z (zFil (gw z) 5 0)))) 0 0 := by
  refine zM.of (cc := cX1_clear) (nL := 1) (ret := none) (lv := [(0, .ref (q (12 + z)))]) (by decide) rfl (Nat.le_of_ble_eq_true rfl) rfl ?_
  intro E C0 hi
  have C : zC g E cX1_clear RX1 wsX1_clear 1 none := C0
  refine z_aload_n C dX1_clear_0 0 rfl ?_
  refine z_get C inX1_clear_X1 (12 + z) (wB_sl (z := z) hz) rfl 0 (by decide) (C.w 1 rfl) rfl dX1_clear_1 ?_
  refine z_callVN C (c_X0_clear l g q a bs wb pd gw z (by omega)) ⟨va_cnB 0 C.ts ggX1_clear_X0_clear rfl rfl rfl (C.K.2.1 _ (List.mem_of_getElem? (i := 14) rfl)) (C.w 6 rfl) (by decide +kernel) ⟨Nat.le_of_ble_eq_true rfl, Nat.le_of_ble_eq_true rfl⟩, (C.w 5 rfl), (C.w 7 rfl)⟩ (wB_bs (z := z) (by omega)) rfl rfl rfl (Nat.le_of_ble_eq_true rfl) dX1_clear_4 ⟨Nat.zero_le _, Nat.zero_le _⟩ (z_v ?_)
  refine z_aload_n C dX1_clear_7 0 rfl ?_
  refine z_get C inX1_clear_X1 (12 + z) (wB_sl (z := z) hz) rfl 1 (by decide) (C.w 2 rfl) rfl dX1_clear_8 ?_
  refine z_iconst C (iZ (-1)) dX1_clear_11 (by decide) ?_
  refine z_callS C (c_J7_fill_53178 l g (wB g q a (zG0 a) (va_up bs z (0, 0)) wb pd gw) (14 + z) (q (14 + z)) 5 (wb z) ((-1)) (wB_wb hz) (by decide)) (va_cwS 2 C.ts gX1_clear_J7_fill_53178 rfl rfl rfl (by decide +kernel) ⟨Nat.le_of_ble_eq_true rfl, Nat.le_of_ble_eq_true rfl⟩) rfl rfl (Nat.le_of_ble_eq_true rfl) dX1_clear_12 ⟨Nat.zero_le _, Nat.zero_le _⟩ (z_v ?_)
  refine zW.eqw (wB_fil_wb hz _) ?_
  refine z_aload_n C dX1_clear_15 0 rfl ?_
  refine z_get C inX1_clear_X1 (12 + z) (wB_sl (z := z) hz) rfl 2 (by decide) (C.w 3 rfl) rfl dX1_clear_16 ?_
  refine z_iconst C (nI 0) dX1_clear_19 (by decide) ?_
  refine z_callS C (c_J7_fill_53178 l g (wB g q a (zG0 a) (va_up bs z (0, 0)) (va_up wb z (zFil (wb z) 5 ((-1)))) pd gw) (16 + z) (q (16 + z)) 5 (pd z) (0) (wB_pd hz) (by decide)) (va_cwS 2 C.ts gX1_clear_J7_fill_53178 rfl rfl rfl (by decide +kernel) ⟨Nat.le_of_ble_eq_true rfl, Nat.le_of_ble_eq_true rfl⟩) rfl rfl (Nat.le_of_ble_eq_true rfl) dX1_clear_20 ⟨Nat.zero_le _, Nat.zero_le _⟩ (z_v ?_)
  refine zW.eqw (wB_fil_pd hz _) ?_
  refine z_aload_n C dX1_clear_23 0 rfl ?_
  refine z_get C inX1_clear_X1 (12 + z) (wB_sl (z := z) hz) rfl 3 (by decide) (C.w 4 rfl) rfl dX1_clear_24 ?_
  refine z_iconst C (nI 0) dX1_clear_27 (by decide) ?_
  refine z_callS C (c_J7_fill_53178 l g (wB g q a (zG0 a) (va_up bs z (0, 0)) (va_up wb z (zFil (wb z) 5 ((-1)))) (va_up pd z (zFil (pd z) 5 (0))) gw) (18 + z) (q (18 + z)) 5 (gw z) (0) (wB_gw hz) (by decide)) (va_cwS 2 C.ts gX1_clear_J7_fill_53178 rfl rfl rfl (by decide +kernel) ⟨Nat.le_of_ble_eq_true rfl, Nat.le_of_ble_eq_true rfl⟩) rfl rfl (Nat.le_of_ble_eq_true rfl) dX1_clear_28 ⟨Nat.zero_le _, Nat.zero_le _⟩ (z_v ?_)
  refine zW.eqw (wB_fil_gw hz _) ?_
  exact z_vretP C dX1_clear_31 rfl
theorem inX2_settle_X0 : ∀ w ∈ wsX00, w ∈ wsX2_settle := fun w h => List.mem_cons_of_mem _ (List.mem_append_right _ (h))
theorem inX2_settle_X1 : ∀ w ∈ wsX10, w ∈ wsX2_settle := fun w h => List.mem_cons_of_mem _ (List.mem_append_left _ (List.mem_append_left _ (List.mem_append_right _ (h))))
theorem inX2_settle_X2 : ∀ w ∈ wsX20, w ∈ wsX2_settle := fun w h => List.mem_cons_of_mem _ (List.mem_append_left _ (List.mem_append_right _ (h)))
set_option maxRecDepth 100000 in
set_option maxHeartbeats 4000000 in
theorem c_X2_settle (l : Launch) (g : zG) (q : Nat → Nat) (a : zS) (bs : Nat → Int × Nat) (wb pd gw : Nat → Nat → Int) (z : Nat) (ha : zOk a) (hz : z < 2) (ab : Nat) : zM g l yX2_settle wsX2_settle { frames := 29, cells := 0, slots := 0, locals := 775 } [.ref (q 0), .ref (q (12 + z)), .int (nI ab)] (wB g q a (zG0 a) bs wb pd gw) (zPe (zPst g q a bs wb pd gw z ab)) 0 0 := by
  refine zM.of (cc := cX2_settle) (nL := 4) (ret := none) (lv := [(0, .ref (q 0)), (1, .ref (q (12 + z))), (2, .int (nI ab))]) (by decide) rfl (Nat.le_of_ble_eq_true rfl) rfl ?_
  intro E C0 hi
  have C : zC g E cX2_settle RX2 wsX2_settle 4 none := C0
  obtain ⟨hnf, hnd, hnb, hou, hrs, hbd⟩ := id ha
  refine z_aload_n C dX2_settle_0 1 rfl ?_
  refine z_callVN C (c_X1_clear l g q a bs wb pd gw z hz) ⟨va_cnB 0 C.ts ggX2_settle_X1_clear rfl rfl rfl (C.K.2.1 _ (List.mem_of_getElem? (i := 8) rfl)) (C.w 5 rfl) (by decide +kernel) ⟨Nat.le_of_ble_eq_true rfl, Nat.le_of_ble_eq_true rfl⟩, (C.w 4 rfl), (C.w 6 rfl)⟩ (wB_sl (z := z) hz) rfl rfl rfl (Nat.le_of_ble_eq_true rfl) dX2_settle_1 ⟨Nat.zero_le _, Nat.zero_le _⟩ (z_v ?_)
  refine z_aload_n C dX2_settle_4 0 rfl ?_
  refine z_aload_n C dX2_settle_5 1 rfl ?_
  refine z_getN C inX2_settle_X1 (12 + z) (wB_sl (z := z) hz) rfl 0 (by decide) 0 rfl rfl dX2_settle_6 ?_
  refine z_iload_n C dX2_settle_9 2 rfl ?_
  refine z_callV C (c_X2_findWinners l g q a (va_up bs z (0, 0)) (va_up wb z (zFil (wb z) 5 (-1))) (va_up pd z (zFil (pd z) 5 0)) (va_up gw z (zFil (gw z) 5 0)) z ha (by omega) ab) (cwV 2 C.ts gX2_settle_X2_findWinners rfl rfl rfl (by decide +kernel) ⟨Nat.le_of_ble_eq_true rfl, Nat.le_of_ble_eq_true rfl⟩) wB_o rfl rfl rfl (Nat.le_of_ble_eq_true rfl) dX2_settle_10 ⟨Nat.zero_le _, Nat.zero_le _⟩ (z_v ?_)
  refine z_iconst C (nI 0) dX2_settle_13 (by decide) ?_
  refine z_istore_n C dX2_settle_14 (by decide) [(3, .int (nI 0)), (0, .ref (q 0)), (1, .ref (q (12 + z))), (2, .int (nI ab))] rfl ?_
  rw [bx_uu]
  refine zW.pick (lv' := [(0, .ref (q 0)), (1, .ref (q (12 + z))), (2, .int (nI ab)), (3, .int (nI 0))]) [1, 2, 3, 0] rfl ?_
  have hlp15 : ∀ (k d : Nat) (bs1 : Nat → Int × Nat) (gw1 : Nat → Nat → Int), d + k = zNd a → (bs1 z = zFw a ab ∧ ∀ y, y < 2 → y ≠ z → bs1 y = bs y) → ((∀ e, e < 5 → gw1 z e = if e < d then (zFw a (ab ||| 2 ^ e)).1 else 0) ∧ ∀ y, y < 2 → y ≠ z → gw1 y = gw y) → zW g l ({ frames := 29, cells := 0, slots := 0, locals := 775 }) E (zMQ g E (zPe (zPst g q a bs wb pd gw z ab)) 0 0) 4 0 0 (wB g q a (zG0 a) bs1 (va_up wb z (zFil (wb z) 5 (-1))) (va_up pd z (zFil (pd z) 5 0)) gw1) [(0, .ref (q 0)), (1, .ref (q (12 + z))), (2, .int (nI ab)), (3, .int (nI d))] [] 15 := by
    intro k
    induction k with
    | zero =>
      intro d bs1 gw1 hdk hb1 hg1
      refine z_iload_n C dX2_settle_15 3 rfl ?_
      refine z_aload_n C dX2_settle_16 0 rfl ?_
      refine z_get C inX2_settle_X2 0 wB_o rfl 3 (by decide) (C.w 1 rfl) rfl dX2_settle_17 ?_
      refine z_icmp_ge C 55 dX2_settle_20 (by decide) (zle_NN (by omega) (by omega)) (fun c_20 => ?_) (fun h9 => absurd (by omega) h9)
      have hgw : ∀ e, e < 5 → gw1 z e = zGw a ab e := fun e he => by rw [hg1.1 e he, show d = zNd a by omega]; rfl
      refine z_iconst C (nI 0) dX2_settle_55 (by decide) ?_
      refine z_istore_n C dX2_settle_56 (by decide) [(3, .int (nI 0)), (0, .ref (q 0)), (1, .ref (q (12 + z))), (2, .int (nI ab))] rfl ?_
      refine zW.pick (lv' := [(0, .ref (q 0)), (1, .ref (q (12 + z))), (2, .int (nI ab)), (3, .int (nI 0))]) [1, 2, 3, 0] rfl ?_
      have hlp57 : ∀ (kb b : Nat) (wb1 : Nat → Nat → Int) (pd1 : Nat → Nat → Int), b + kb = zNb a → ((∀ e, e < 5 → wb1 z e = zLw a (zFw a ab).2 b e) ∧ ∀ y, y < 2 → y ≠ z → wb1 y = wb y) → ((∀ e, e < 5 → pd1 z e = zLp a ab b e) ∧ ∀ y, y < 2 → y ≠ z → pd1 y = pd y) → zW g l ({ frames := 29, cells := 0, slots := 0, locals := 775 }) E (zMQ g E (zPe (zPst g q a bs wb pd gw z ab)) 0 0) 4 0 0 (wB g q a (zG0 a) bs1 wb1 pd1 gw1) [(0, .ref (q 0)), (1, .ref (q (12 + z))), (2, .int (nI ab)), (3, .int (nI b))] [] 57 := by
        intro kb
        induction kb with
        | zero =>
          intro b wb1 pd1 hbk hw1 hp1
          refine z_iload_n C dX2_settle_57 3 rfl ?_
          refine z_aload_n C dX2_settle_58 0 rfl ?_
          refine z_get C inX2_settle_X2 0 wB_o rfl 10 (by decide) (C.w 3 rfl) rfl dX2_settle_59 ?_
          refine z_icmp_ge C 88 dX2_settle_62 (by decide) (zle_NN (by omega) (by omega)) (fun c_62 => ?_) (fun h9 => absurd (by omega) h9)
          exact z_eret C dX2_settle_88 ⟨_, _, _, _, rfl, ⟨hb1.1, fun e he => ⟨by rw [hw1.1 e he, show b = zNb a by omega], by rw [hp1.1 e he, show b = zNb a by omega], hgw e he⟩⟩, fun y h1 h2 => ⟨hb1.2 y h1 h2, hw1.2 y h1 h2, hp1.2 y h1 h2, hg1.2 y h1 h2⟩⟩
        | succ kb ih57 =>
          intro b wb1 pd1 hbk hw1 hp1
          refine z_iload_n C dX2_settle_57 3 rfl ?_
          refine z_aload_n C dX2_settle_58 0 rfl ?_
          refine z_get C inX2_settle_X2 0 wB_o rfl 10 (by decide) (C.w 3 rfl) rfl dX2_settle_59 ?_
          refine z_icmp_ge C 88 dX2_settle_62 (by decide) (zle_NN (by omega) (by omega)) (fun h9 => absurd h9 (by omega)) (fun c_62 => ?_)
          refine z_aload_n C dX2_settle_65 1 rfl ?_
          refine z_getN C inX2_settle_X1 (12 + z) (wB_sl (z := z) hz) rfl 0 (by decide) 0 rfl rfl dX2_settle_66 ?_
          refine z_iload_n C dX2_settle_69 3 rfl ?_
          refine z_callVN C (c_X0_has l g q a bs1 wb1 pd1 gw1 z (by omega) b (by omega)) ⟨va_cnB 1 C.ts ggX2_settle_X0_has rfl rfl rfl (C.K.2.1 _ (List.mem_of_getElem? (i := 6) rfl)) (C.w 13 rfl) (by decide +kernel) ⟨Nat.le_of_ble_eq_true rfl, Nat.le_of_ble_eq_true rfl⟩, (C.w 58 rfl), (C.w 59 rfl)⟩ (wB_bs (z := z) (by omega)) rfl rfl rfl (Nat.le_of_ble_eq_true rfl) dX2_settle_70 ⟨Nat.zero_le _, Nat.zero_le _⟩ (z_i ?_)
          refine z_if_eq C 82 dX2_settle_73 (by decide) (zeq_B0 _) (fun c_73 => ?_) (fun c_73 => ?_)
          · skip
            have hw9 := zst_wn (f := zLw a (zFw a ab).2) (n := b) hw1 (fun e => if_neg (by rw [← hb1.1]; simp_all))
            have hp9 := zst_wn (f := zLp a ab) (n := b) hp1 (fun e => if_neg (by rw [← hb1.1]; simp_all))
            refine z_iinc C dX2_settle_82 3 (nI (b + 1)) rfl (nI_add b 1) (by decide) [(3, .int (nI (b + 1))), (0, .ref (q 0)), (1, .ref (q (12 + z))), (2, .int (nI ab))] rfl ?_
            refine z_goto C 57 dX2_settle_85 (by decide) ?_
            refine zW.pick (lv' := [(0, .ref (q 0)), (1, .ref (q (12 + z))), (2, .int (nI ab)), (3, .int (nI (b + 1)))]) [1, 2, 3, 0] rfl ?_
            exact ih57 (b + 1) wb1 pd1 (by omega) hw9 hp9
          · skip
            have how := ha.ow (b := b) (by omega)
            refine z_aload_n C dX2_settle_76 0 rfl ?_
            refine z_aload_n C dX2_settle_77 1 rfl ?_
            refine z_iload_n C dX2_settle_78 3 rfl ?_
            refine z_callV C (c_X2_award l g q a bs1 wb1 pd1 gw1 z ha hz b (by omega)) (cwV 2 C.ts gX2_settle_X2_award rfl rfl rfl (by decide +kernel) ⟨Nat.le_of_ble_eq_true rfl, Nat.le_of_ble_eq_true rfl⟩) wB_o rfl rfl rfl (Nat.le_of_ble_eq_true rfl) dX2_settle_79 ⟨Nat.zero_le _, Nat.zero_le _⟩ (z_v ?_)
            have htb : (zFw a ab).2.testBit b = true := by rw [← hb1.1]; simpa using c_73
            have hw9 := zst_w (f := zLw a (zFw a ab).2) (n := b) (o := zOw a b) hw1 (if_pos ⟨htb, rfl⟩) (fun e he => if_neg (fun h9 => he h9.2.symm))
            have hp9 := zst_w (f := zLp a ab) (n := b) (o := zOw a b) (v := (zRes a (zBu a b) : Int) + gw1 z (zOw a b) - ((bs1 z).1 - zG0 a b)) hp1 (by rw [hb1.1, hgw _ (by omega)]; unfold zG0; rw [if_pos (show b < zNb a by omega)]; exact if_pos ⟨htb, rfl⟩) (fun e he => if_neg (fun h9 => he h9.2.symm))
            refine z_iinc C dX2_settle_82 3 (nI (b + 1)) rfl (nI_add b 1) (by decide) [(3, .int (nI (b + 1))), (0, .ref (q 0)), (1, .ref (q (12 + z))), (2, .int (nI ab))] rfl ?_
            refine z_goto C 57 dX2_settle_85 (by decide) ?_
            refine zW.pick (lv' := [(0, .ref (q 0)), (1, .ref (q (12 + z))), (2, .int (nI ab)), (3, .int (nI (b + 1)))]) [1, 2, 3, 0] rfl ?_
            exact ih57 (b + 1) (zup2 wb1 z (zOw a b) ((b : Nat) : Int)) (zup2 pd1 z (zOw a b) ((zRes a (zBu a b) : Int) + gw1 z (zOw a b) - ((bs1 z).1 - zG0 a b))) (by omega) hw9 hp9
      exact hlp57 (zNb a) 0 (va_up wb z (zFil (wb z) 5 (-1))) (va_up pd z (zFil (pd z) 5 0)) (by omega) (zst_w0 (zLw a (zFw a ab).2) (-1) (fun _ => rfl)) (zst_w0 (zLp a ab) 0 (fun _ => rfl))
    | succ k ih15 =>
      intro d bs1 gw1 hdk hb1 hg1
      refine z_iload_n C dX2_settle_15 3 rfl ?_
      refine z_aload_n C dX2_settle_16 0 rfl ?_
      refine z_get C inX2_settle_X2 0 wB_o rfl 3 (by decide) (C.w 1 rfl) rfl dX2_settle_17 ?_
      refine z_icmp_ge C 55 dX2_settle_20 (by decide) (zle_NN (by omega) (by omega)) (fun h9 => absurd h9 (by omega)) (fun c_20 => ?_)
      refine z_aload_n C dX2_settle_23 0 rfl ?_
      refine z_aload_n C dX2_settle_24 0 rfl ?_
      refine z_get C inX2_settle_X2 0 wB_o rfl 13 (by decide) (C.w 2 rfl) rfl dX2_settle_25 ?_
      refine z_iload_n C dX2_settle_28 2 rfl ?_
      refine z_iconst C (nI 1) dX2_settle_29 (by decide) ?_
      refine z_iload_n C dX2_settle_30 3 rfl ?_
      refine z_ishl C dX2_settle_31 (v := nI (2 ^ d)) (zshl_1N (by omega)) ?_
      refine z_ior C dX2_settle_32 (v := nI (ab ||| (2 ^ d))) (zor_NN ab (2 ^ d)) ?_
      refine z_callV C (c_X2_findWinners l g q a bs1 (va_up wb z (zFil (wb z) 5 (-1))) (va_up pd z (zFil (pd z) 5 0)) gw1 2 ha (by decide) (ab ||| (2 ^ d))) (cwV 2 C.ts gX2_settle_X2_findWinners rfl rfl rfl (by decide +kernel) ⟨Nat.le_of_ble_eq_true rfl, Nat.le_of_ble_eq_true rfl⟩) wB_o rfl rfl rfl (Nat.le_of_ble_eq_true rfl) dX2_settle_33 ⟨Nat.zero_le _, Nat.zero_le _⟩ (z_v ?_)
      refine z_aload_n C dX2_settle_36 1 rfl ?_
      refine z_getN C inX2_settle_X1 (12 + z) (wB_sl (z := z) hz) rfl 3 (by decide) 3 rfl rfl dX2_settle_37 ?_
      refine z_iload_n C dX2_settle_40 3 rfl ?_
      refine z_aload_n C dX2_settle_41 0 rfl ?_
      refine z_get C inX2_settle_X2 0 wB_o rfl 13 (by decide) (C.w 2 rfl) rfl dX2_settle_42 ?_
      refine z_getN C inX2_settle_X0 (9 + 2) (wB_bs (z := 2) (by decide)) rfl 0 (by decide) 4 rfl rfl dX2_settle_45 ?_
      refine z_iastN C (18 + z) (wB_gw (z := z) hz) (by omega) (by decide) dX2_settle_48 (wB_set_gw (z := z) hz d (((va_up bs1 2 (zFw a (ab ||| (2 ^ d)))) 2).1)) ?_
      refine z_iinc C dX2_settle_49 3 (nI (d + 1)) rfl (nI_add d 1) (by decide) [(3, .int (nI (d + 1))), (0, .ref (q 0)), (1, .ref (q (12 + z))), (2, .int (nI ab))] rfl ?_
      refine z_goto C 15 dX2_settle_52 (by decide) ?_
      refine zW.pick (lv' := [(0, .ref (q 0)), (1, .ref (q (12 + z))), (2, .int (nI ab)), (3, .int (nI (d + 1)))]) [1, 2, 3, 0] rfl ?_
      exact ih15 (d + 1) (va_up bs1 2 (zFw a (ab ||| (2 ^ d)))) (zup2 gw1 z d (((va_up bs1 2 (zFw a (ab ||| (2 ^ d)))) 2).1)) (by omega) (zst_b (by omega) hb1 _) (zst_g (f := fun e => (zFw a (ab ||| 2 ^ e)).1) hg1 (by rw [va_up_self]))
  exact hlp15 (zNd a) 0 (va_up bs z (zFw a ab)) (va_up gw z (zFil (gw z) 5 0)) (by omega) (zst_b0 _) (zst_g0 (fun e => (zFw a (ab ||| 2 ^ e)).1) 0)
end
section
/-- what a winning bid brings its bidder -/
def zPfv (a : zS) (w p : Int) : Int := if w = -1 then 0 else (zWo a w.toNat : Int) - p
def zOrs (f : Nat → Nat) : Nat → Nat
  | 0 => 0
  | n + 1 => zOrs f n ||| f n
/-- of the bids below n for which p holds, the one with the highest price, of several the first; -1 without one -/
def zHi (a : zS) (p : Nat → Bool) : Nat → Int
  | 0 => -1
  | n + 1 => if p n = true ∧ (zHi a p n = -1 ∨ zPr a (zHi a p n).toNat < zPr a n) then (n : Int) else zHi a p n
theorem zHi_or (a : zS) (p : Nat → Bool) (n : Nat) : zHi a p n = -1 ∨ ∃ c, c < n ∧ zHi a p n = (c : Int) ∧ p c = true := by
  induction n with
  | zero => exact Or.inl rfl
  | succ n ih =>
    unfold zHi
    split
    · next h => exact Or.inr ⟨n, by omega, rfl, h.1⟩
    · rcases ih with h | ⟨c, h1, h2, h3⟩
      · exact Or.inl h
      · exact Or.inr ⟨c, by omega, h2, h3⟩
theorem zFst_or (p : Nat → Bool) : ∀ (k i : Nat), zFst p i k = -1 ∨ ∃ c, c < i + k ∧ zFst p i k = (c : Int) ∧ p c = true := by
  intro k
  induction k with
  | zero => exact fun _ => Or.inl rfl
  | succ k ih =>
    intro i
    unfold zFst
    split
    · next h => exact Or.inr ⟨i, by omega, rfl, h⟩
    · rcases ih (i + 1) with h | ⟨c, h1, h2⟩
      · exact Or.inl h
      · exact Or.inr ⟨c, by omega, h2⟩
theorem zLw_or (a : zS) (m : Nat) (e : Nat) : ∀ n, zLw a m n e = -1 ∨ ∃ c, c < n ∧ zLw a m n e = (c : Int) ∧ m.testBit c = true ∧ zOw a c = e := by
  intro n
  induction n with
  | zero => exact Or.inl rfl
  | succ n ih =>
    unfold zLw
    split
    · next h => exact Or.inr ⟨n, by omega, rfl, h⟩
    · rcases ih with h | ⟨c, h1, h2⟩
      · exact Or.inl h
      · exact Or.inr ⟨c, by omega, h2⟩
/-- who competes for the field f alone, the bidder lo left out -/
def zCo (a : zS) (f : Nat) (lo : Int) (b : Nat) : Bool := zCn a (zOu a) b && (decide (zBu a b = 2 ^ f) && decide ((zOw a b : Int) ≠ lo))
theorem inX2_winsWith_X2 : ∀ w ∈ wsX20, w ∈ wsX2_winsWith := fun w h => List.mem_cons_of_mem _ (List.mem_append_left _ (List.mem_append_right _ (h)))
set_option maxRecDepth 100000 in
set_option maxHeartbeats 4000000 in
theorem c_X2_winsWith (l : Launch) (g : zG) (q : Nat → Nat) (a : zS) (bs : Nat → Int × Nat) (wb pd gw : Nat → Nat → Int) (ha : zOk a) (b x : Nat) (hb : b < zNb a) (hx : zOk (zSetPr a b x)) : zM g l yX2_winsWith wsX2_winsWith { frames := 29, cells := 0, slots := 0, locals := 775 } [.ref (q 0), .int (nI b), .int (nI x)] (wB g q a (zG0 a) bs wb pd gw) (zPi (bI ((zFw (zSetPr a b x) 0).2.testBit b)) (wB g q (zSetPr a b x) (zG0 (zSetPr a b x)) (va_up bs 2 (zFw (zSetPr a b x) 0)) wb pd gw)) 0 0 := by
  refine zM.of (cc := cX2_winsWith) (nL := 3) (ret := (some .boolean)) (lv := [(0, .ref (q 0)), (1, .int (nI b)), (2, .int (nI x))]) (by decide) rfl (Nat.le_of_ble_eq_true rfl) rfl ?_
  intro E C0 hi
  have C : zC g E cX2_winsWith RX2 wsX2_winsWith 3 (some .boolean) := C0
  obtain ⟨hnf, hnd, hnb, hou, hrs, hbd⟩ := id ha
  refine z_aload_n C dX2_winsWith_0 0 rfl ?_
  refine z_iload_n C dX2_winsWith_1 1 rfl ?_
  refine z_iload_n C dX2_winsWith_2 2 rfl ?_
  refine z_callV C (c_X2_putPrice l g q a bs wb pd gw (zG0 a) ha b x (by omega) hx) (cwV 2 C.ts gX2_winsWith_X2_putPrice rfl rfl rfl (by decide +kernel) ⟨Nat.le_of_ble_eq_true rfl, Nat.le_of_ble_eq_true rfl⟩) wB_o rfl rfl rfl (Nat.le_of_ble_eq_true rfl) dX2_winsWith_3 ⟨Nat.zero_le _, Nat.zero_le _⟩ (z_v ?_)
  rw [zG0_setPr _ (by omega)]
  refine z_aload_n C dX2_winsWith_6 0 rfl ?_
  refine z_aload_n C dX2_winsWith_7 0 rfl ?_
  refine z_get C inX2_winsWith_X2 0 wB_o rfl 13 (by decide) (C.w 1 rfl) rfl dX2_winsWith_8 ?_
  refine z_iconst C (nI 0) dX2_winsWith_11 (by decide) ?_
  refine z_callV C (c_X2_findWinners l g q (zSetPr a b x) bs wb pd gw 2 hx (by decide) 0) (cwV 2 C.ts gX2_winsWith_X2_findWinners rfl rfl rfl (by decide +kernel) ⟨Nat.le_of_ble_eq_true rfl, Nat.le_of_ble_eq_true rfl⟩) wB_o rfl rfl rfl (Nat.le_of_ble_eq_true rfl) dX2_winsWith_12 ⟨Nat.zero_le _, Nat.zero_le _⟩ (z_v ?_)
  refine z_aload_n C dX2_winsWith_15 0 rfl ?_
  refine z_get C inX2_winsWith_X2 0 wB_o rfl 13 (by decide) (C.w 1 rfl) rfl dX2_winsWith_16 ?_
  refine z_iload_n C dX2_winsWith_19 1 rfl ?_
  refine z_callVN C (c_X0_has l g q (zSetPr a b x) (va_up bs 2 (zFw (zSetPr a b x) 0)) wb pd gw 2 (by decide) b (by omega)) ⟨va_cnB 1 C.ts ggX2_winsWith_X0_has rfl rfl rfl (C.K.2.1 _ (List.mem_of_getElem? (i := 6) rfl)) (C.w 24 rfl) (by decide +kernel) ⟨Nat.le_of_ble_eq_true rfl, Nat.le_of_ble_eq_true rfl⟩, (C.w 59 rfl), (C.w 60 rfl)⟩ (wB_bs (z := 2) (by decide)) rfl rfl rfl (Nat.le_of_ble_eq_true rfl) dX2_winsWith_20 ⟨Nat.zero_le _, Nat.zero_le _⟩ (z_i ?_)
  exact z_zretP C dX2_winsWith_23 (by rw [va_up_self]) rfl
theorem inX2_profit_X1 : ∀ w ∈ wsX10, w ∈ wsX2_profit := fun w h => List.mem_cons_of_mem _ (List.mem_append_left _ (List.mem_append_right _ (h)))
set_option maxRecDepth 100000 in
set_option maxHeartbeats 4000000 in
theorem c_X2_profit_no (l : Launch) (g : zG) (q : Nat → Nat) (a : zS) (bs : Nat → Int × Nat) (wb pd gw : Nat → Nat → Int) (z : Nat) (ha : zOk a) (hz : z < 2) (d : Nat) (hd : d < 5) (hw : wb z d = -1) : zM g l yX2_profit wsX2_profit { frames := 0, cells := 0, slots := 0, locals := 0 } [.ref (q 0), .ref (q (12 + z)), .int (nI d)] (wB g q a (zG0 a) bs wb pd gw) (zPi (iZ (zPfv a (wb z d) (pd z d))) (wB g q a (zG0 a) bs wb pd gw)) 0 0 := by
  refine zM.of (cc := cX2_profit) (nL := 4) (ret := (some .int)) (lv := [(0, .ref (q 0)), (1, .ref (q (12 + z))), (2, .int (nI d))]) (by decide) rfl (Nat.le_of_ble_eq_true rfl) rfl ?_
  intro E C0 hi
  have C : zC g E cX2_profit RX2 wsX2_profit 4 (some .int) := C0
  obtain ⟨hnf, hnd, hnb, hou, hrs, hbd⟩ := id ha
  refine z_aload_n C dX2_profit_0 1 rfl ?_
  refine z_getN C inX2_profit_X1 (12 + z) (wB_sl (z := z) hz) rfl 1 (by decide) 1 rfl rfl dX2_profit_1 ?_
  refine z_iload_n C dX2_profit_4 2 rfl ?_
  refine z_ialdN C (14 + z) (wB_wb (z := z) hz) (by omega) (by decide) dX2_profit_5 (v := iZ (wb z d)) rfl ?_
  refine zW.top (y := iZ (-1)) (by rw [hw]) ?_
  refine z_istore_n C dX2_profit_6 (by decide) [(3, .int (iZ (-1))), (0, .ref (q 0)), (1, .ref (q (12 + z))), (2, .int (nI d))] rfl ?_
  refine z_iload_n C dX2_profit_7 0 rfl ?_
  refine z_iconst C (iZ (-1)) dX2_profit_8 (by decide) ?_
  refine z_icmp_ne C 16 dX2_profit_9 (by decide) (zeq_ZZ (x := (-1)) (y := (-1)) (by unfold zB31; omega) (by unfold zB31; omega)) (fun h9 => absurd (by decide) h9) (fun c_9 => ?_)
  refine z_iconst C (nI 0) dX2_profit_12 (by decide) ?_
  refine z_goto C 29 dX2_profit_13 (by decide) ?_
  exact z_iretP C dX2_profit_29 (by rw [hw]; rfl) rfl
theorem inX2_profit_X2 : ∀ w ∈ wsX20, w ∈ wsX2_profit := fun w h => List.mem_cons_of_mem _ (List.mem_append_right _ (h))
set_option maxRecDepth 100000 in
set_option maxHeartbeats 4000000 in
theorem c_X2_profit_b (l : Launch) (g : zG) (q : Nat → Nat) (a : zS) (bs : Nat → Int × Nat) (wb pd gw : Nat → Nat → Int) (z : Nat) (ha : zOk a) (hz : z < 2) (d : Nat) (hd : d < 5) (c : Nat) (hc : c < zNb a) (hw : wb z d = (c : Int)) : zM g l yX2_profit wsX2_profit { frames := 0, cells := 0, slots := 0, locals := 0 } [.ref (q 0), .ref (q (12 + z)), .int (nI d)] (wB g q a (zG0 a) bs wb pd gw) (zPi (iZ (zPfv a (wb z d) (pd z d))) (wB g q a (zG0 a) bs wb pd gw)) 0 0 := by
  refine zM.of (cc := cX2_profit) (nL := 4) (ret := (some .int)) (lv := [(0, .ref (q 0)), (1, .ref (q (12 + z))), (2, .int (nI d))]) (by decide) rfl (Nat.le_of_ble_eq_true rfl) rfl ?_
  intro E C0 hi
  have C : zC g E cX2_profit RX2 wsX2_profit 4 (some .int) := C0
  obtain ⟨hnf, hnd, hnb, hou, hrs, hbd⟩ := id ha
  refine z_aload_n C dX2_profit_0 1 rfl ?_
  refine z_getN C inX2_profit_X1 (12 + z) (wB_sl (z := z) hz) rfl 1 (by decide) 1 rfl rfl dX2_profit_1 ?_
  refine z_iload_n C dX2_profit_4 2 rfl ?_
  refine z_ialdN C (14 + z) (wB_wb (z := z) hz) (by omega) (by decide) dX2_profit_5 (v := iZ (wb z d)) rfl ?_
  refine zW.top (y := nI c) (by rw [hw]; rfl) ?_
  refine z_istore_n C dX2_profit_6 (by decide) [(3, .int (nI c)), (0, .ref (q 0)), (1, .ref (q (12 + z))), (2, .int (nI d))] rfl ?_
  refine z_iload_n C dX2_profit_7 0 rfl ?_
  refine z_iconst C (iZ (-1)) dX2_profit_8 (by decide) ?_
  refine z_icmp_ne C 16 dX2_profit_9 (by decide) (zeq_ZZ (x := ((c : Nat) : Int)) (y := (-1)) (by unfold zB31; omega) (by unfold zB31; omega)) (fun c_9 => ?_) (fun h9 => absurd h9 (by omega))
  refine z_aload_n C dX2_profit_16 1 rfl ?_
  refine z_get C inX2_profit_X2 0 wB_o rfl 8 (by decide) (C.w 1 rfl) rfl dX2_profit_17 ?_
  refine z_iload_n C dX2_profit_20 0 rfl ?_
  refine z_ialdN C 7 wB_wo (by omega) (by decide) dX2_profit_21 (v := nI (zWo a c)) rfl ?_
  have f_21b := (ha.wo (b := c) (by omega))
  refine z_aload_n C dX2_profit_22 2 rfl ?_
  refine z_getN C inX2_profit_X1 (12 + z) (wB_sl (z := z) hz) rfl 2 (by decide) 2 rfl rfl dX2_profit_23 ?_
  refine z_iload_n C dX2_profit_26 3 rfl ?_
  refine z_ialdN C (16 + z) (wB_pd (z := z) hz) (by omega) (by decide) dX2_profit_27 (v := iZ (pd z d)) rfl ?_
  refine z_isub C dX2_profit_28 (v := iZ (((zWo a c : Nat) : Int) - (pd z d))) (iZ_sub ((zWo a c : Nat) : Int) (pd z d)) ?_
  exact z_iretP C dX2_profit_29 (by rw [hw]; unfold zPfv; rw [if_neg (by omega)]; rfl) rfl
theorem c_X2_profit (l : Launch) (g : zG) (q : Nat → Nat) (a : zS) (bs : Nat → Int × Nat) (wb pd gw : Nat → Nat → Int) (z : Nat) (ha : zOk a) (hz : z < 2) (d : Nat) (hd : d < 5) (hw : wb z d = -1 ∨ ∃ c, c < zNb a ∧ wb z d = (c : Int)) : zM g l yX2_profit wsX2_profit { frames := 0, cells := 0, slots := 0, locals := 0 } [.ref (q 0), .ref (q (12 + z)), .int (nI d)] (wB g q a (zG0 a) bs wb pd gw) (zPi (iZ (zPfv a (wb z d) (pd z d))) (wB g q a (zG0 a) bs wb pd gw)) 0 0 := by
  rcases hw with h | ⟨c, hc, h⟩
  · exact c_X2_profit_no l g q a bs wb pd gw z ha hz d hd h
  · exact c_X2_profit_b l g q a bs wb pd gw z ha hz d hd c hc h
theorem inX1_totalPaid_X1 : ∀ w ∈ wsX10, w ∈ wsX1_totalPaid := fun w h => List.mem_cons_of_mem _ (List.mem_append_right _ (h))
set_option maxRecDepth 100000 in
set_option maxHeartbeats 4000000 in
theorem c_X1_totalPaid (l : Launch) (g : zG) (q : Nat → Nat) (a : zS) (bs : Nat → Int × Nat) (wb pd gw : Nat → Nat → Int) (z : Nat) (hz : z < 2) : zM g l yX1_totalPaid wsX1_totalPaid { frames := 0, cells := 0, slots := 0, locals := 0 } [.ref (q (12 + z))] (wB g q a (zG0 a) bs wb pd gw) (zPi (iZ (zSi (pd z) 5)) (wB g q a (zG0 a) bs wb pd gw)) 0 0 := by
  refine zM.of (cc := cX1_totalPaid) (nL := 6) (ret := (some .int)) (lv := [(0, .ref (q (12 + z)))]) (by decide) rfl (Nat.le_of_ble_eq_true rfl) rfl ?_
  intro E C0 hi
  have C : zC g E cX1_totalPaid RX1 wsX1_totalPaid 6 (some .int) := C0
  refine z_iconst C (nI 0) dX1_totalPaid_0 (by decide) ?_
  refine z_istore_n C dX1_totalPaid_1 (by decide) [(1, .int (nI 0)), (0, .ref (q (12 + z)))] rfl ?_
  refine z_aload_n C dX1_totalPaid_2 1 rfl ?_
  refine z_get C inX1_totalPaid_X1 (12 + z) (wB_sl (z := z) hz) rfl 2 (by decide) (C.w 1 rfl) rfl dX1_totalPaid_3 ?_
  refine z_astore_n C dX1_totalPaid_6 (by decide) [(2, .ref (q (16 + z))), (1, .int (nI 0)), (0, .ref (q (12 + z)))] rfl ?_
  refine z_aload_n C dX1_totalPaid_7 0 rfl ?_
  refine z_alenI C (16 + z) (wB_pd (z := z) hz) dX1_totalPaid_8 ?_
  refine z_istore_n C dX1_totalPaid_9 (by decide) [(3, .int (nI 5)), (2, .ref (q (16 + z))), (1, .int (nI 0)), (0, .ref (q (12 + z)))] rfl ?_
  refine z_iconst C (nI 0) dX1_totalPaid_10 (by decide) ?_
  refine z_istore C dX1_totalPaid_11 (by decide) [(4, .int (nI 0)), (3, .int (nI 5)), (2, .ref (q (16 + z))), (1, .int (nI 0)), (0, .ref (q (12 + z)))] rfl ?_
  refine zW.pick (lv' := [(0, .ref (q (12 + z))), (1, .int (nI 0)), (2, .ref (q (16 + z))), (3, .int (nI 5)), (4, .int (nI 0))]) [4, 3, 2, 1, 0] rfl ?_
  have hlp13 : ∀ (k i : Nat), i + k = 5 → zW g l ({ frames := 0, cells := 0, slots := 0, locals := 0 }) E (zMQ g E (zPi (iZ (zSi (pd z) 5)) (wB g q a (zG0 a) bs wb pd gw)) 0 0) 6 0 0 (wB g q a (zG0 a) bs wb pd gw) [(0, .ref (q (12 + z))), (1, .int (iZ (zSi (pd z) i))), (2, .ref (q (16 + z))), (3, .int (nI 5)), (4, .int (nI i))] [] 13 := by
    intro k
    induction k with
    | zero =>
      intro i hik
      refine z_iload C dX1_totalPaid_13 4 rfl ?_
      refine z_iload_n C dX1_totalPaid_15 3 rfl ?_
      refine z_icmp_ge C 36 dX1_totalPaid_16 (by decide) (zle_NN (by omega) (by omega)) (fun c_16 => ?_) (fun h9 => absurd (by omega) h9)
      refine z_iload_n C dX1_totalPaid_36 1 rfl ?_
      exact z_iretP C dX1_totalPaid_37 (by rw [show i = 5 by omega]) rfl
    | succ k ih13 =>
      intro i hik
      refine z_iload C dX1_totalPaid_13 4 rfl ?_
      refine z_iload_n C dX1_totalPaid_15 3 rfl ?_
      refine z_icmp_ge C 36 dX1_totalPaid_16 (by decide) (zle_NN (by omega) (by omega)) (fun h9 => absurd h9 (by omega)) (fun c_16 => ?_)
      refine z_aload_n C dX1_totalPaid_19 2 rfl ?_
      refine z_iload C dX1_totalPaid_20 4 rfl ?_
      refine z_ialdN C (16 + z) (wB_pd (z := z) hz) (by omega) (by decide) dX1_totalPaid_22 (v := iZ (pd z i)) rfl ?_
      refine z_istore C dX1_totalPaid_23 (by decide) [(5, .int (iZ (pd z i))), (0, .ref (q (12 + z))), (1, .int (iZ (zSi (pd z) i))), (2, .ref (q (16 + z))), (3, .int (nI 5)), (4, .int (nI i))] rfl ?_
      refine z_iload_n C dX1_totalPaid_25 2 rfl ?_
      refine z_iload C dX1_totalPaid_26 0 rfl ?_
      refine z_iadd C dX1_totalPaid_28 (v := iZ ((zSi (pd z) i) + (pd z i))) (iZ_add (zSi (pd z) i) (pd z i)) ?_
      refine z_istore_n C dX1_totalPaid_29 (by decide) [(1, .int (iZ ((zSi (pd z) i) + (pd z i)))), (5, .int (iZ (pd z i))), (0, .ref (q (12 + z))), (2, .ref (q (16 + z))), (3, .int (nI 5)), (4, .int (nI i))] rfl ?_
      refine z_iinc C dX1_totalPaid_30 5 (nI (i + 1)) rfl (nI_add i 1) (by decide) [(4, .int (nI (i + 1))), (1, .int (iZ ((zSi (pd z) i) + (pd z i)))), (5, .int (iZ (pd z i))), (0, .ref (q (12 + z))), (2, .ref (q (16 + z))), (3, .int (nI 5))] rfl ?_
      refine z_goto C 13 dX1_totalPaid_33 (by decide) ?_
      refine zW.pick (lv' := [(0, .ref (q (12 + z))), (1, .int (iZ ((zSi (pd z) i) + (pd z i)))), (2, .ref (q (16 + z))), (3, .int (nI 5)), (4, .int (nI (i + 1)))]) [3, 1, 4, 5, 0] rfl ?_
      refine zW.lve (lv' := [(0, .ref (q (12 + z))), (1, .int (iZ (zSi (pd z) (i + 1)))), (2, .ref (q (16 + z))), (3, .int (nI 5)), (4, .int (nI (i + 1)))]) (rfl) ?_
      exact ih13 (i + 1) (by omega)
  exact hlp13 (5) 0 (by omega)
theorem inX2_totalProfit_X2 : ∀ w ∈ wsX20, w ∈ wsX2_totalProfit := fun w h => List.mem_cons_of_mem _ (List.mem_append_left _ (List.mem_append_right _ (h)))
set_option maxRecDepth 100000 in
set_option maxHeartbeats 4000000 in
theorem c_X2_totalProfit (l : Launch) (g : zG) (q : Nat → Nat) (a : zS) (bs : Nat → Int × Nat) (wb pd gw : Nat → Nat → Int) (ha : zOk a) (hw : ∀ d, d < 5 → wb 0 d = -1 ∨ ∃ c, c < zNb a ∧ wb 0 d = (c : Int)) : zM g l yX2_totalProfit wsX2_totalProfit { frames := 1, cells := 0, slots := 0, locals := 23 } [.ref (q 0)] (wB g q a (zG0 a) bs wb pd gw) (zPi (iZ (zSi (fun d => zPfv a (wb 0 d) (pd 0 d)) (zNd a))) (wB g q a (zG0 a) bs wb pd gw)) 0 0 := by
  refine zM.of (cc := cX2_totalProfit) (nL := 3) (ret := (some .int)) (lv := [(0, .ref (q 0))]) (by decide) rfl (Nat.le_of_ble_eq_true rfl) rfl ?_
  intro E C0 hi
  have C : zC g E cX2_totalProfit RX2 wsX2_totalProfit 3 (some .int) := C0
  obtain ⟨hnf, hnd, hnb, hou, hrs, hbd⟩ := id ha
  refine z_iconst C (nI 0) dX2_totalProfit_0 (by decide) ?_
  refine z_istore_n C dX2_totalProfit_1 (by decide) [(1, .int (nI 0)), (0, .ref (q 0))] rfl ?_
  refine z_iconst C (nI 0) dX2_totalProfit_2 (by decide) ?_
  refine z_istore_n C dX2_totalProfit_3 (by decide) [(2, .int (nI 0)), (1, .int (nI 0)), (0, .ref (q 0))] rfl ?_
  refine zW.pick (lv' := [(0, .ref (q 0)), (1, .int (nI 0)), (2, .int (nI 0))]) [2, 1, 0] rfl ?_
  have hlp4 : ∀ (k i : Nat), i + k = zNd a → zW g l ({ frames := 1, cells := 0, slots := 0, locals := 23 }) E (zMQ g E (zPi (iZ (zSi (fun d => zPfv a (wb 0 d) (pd 0 d)) (zNd a))) (wB g q a (zG0 a) bs wb pd gw)) 0 0) 3 0 0 (wB g q a (zG0 a) bs wb pd gw) [(0, .ref (q 0)), (1, .int (iZ (zSi (fun d => zPfv a (wb 0 d) (pd 0 d)) i))), (2, .int (nI i))] [] 4 := by
    intro k
    induction k with
    | zero =>
      intro i hik
      refine z_iload_n C dX2_totalProfit_4 2 rfl ?_
      refine z_aload_n C dX2_totalProfit_5 0 rfl ?_
      refine z_get C inX2_totalProfit_X2 0 wB_o rfl 3 (by decide) (C.w 1 rfl) rfl dX2_totalProfit_6 ?_
      refine z_icmp_ge C 30 dX2_totalProfit_9 (by decide) (zle_NN (by omega) (by omega)) (fun c_9 => ?_) (fun h9 => absurd (by omega) h9)
      refine z_iload_n C dX2_totalProfit_30 1 rfl ?_
      exact z_iretP C dX2_totalProfit_31 (by rw [show i = zNd a by omega]) rfl
    | succ k ih4 =>
      intro i hik
      refine z_iload_n C dX2_totalProfit_4 2 rfl ?_
      refine z_aload_n C dX2_totalProfit_5 0 rfl ?_
      refine z_get C inX2_totalProfit_X2 0 wB_o rfl 3 (by decide) (C.w 1 rfl) rfl dX2_totalProfit_6 ?_
      refine z_icmp_ge C 30 dX2_totalProfit_9 (by decide) (zle_NN (by omega) (by omega)) (fun h9 => absurd h9 (by omega)) (fun c_9 => ?_)
      refine z_iload_n C dX2_totalProfit_12 1 rfl ?_
      refine z_aload_n C dX2_totalProfit_13 0 rfl ?_
      refine z_aload_n C dX2_totalProfit_14 0 rfl ?_
      refine z_get C inX2_totalProfit_X2 0 wB_o rfl 11 (by decide) (C.w 2 rfl) rfl dX2_totalProfit_15 ?_
      refine z_iload_n C dX2_totalProfit_18 2 rfl ?_
      refine z_callV C (c_X2_profit l g q a bs wb pd gw 0 ha (by decide) i (by omega) (hw _ (by omega))) (cwV 2 C.ts gX2_totalProfit_X2_profit rfl rfl rfl (by decide +kernel) ⟨Nat.le_of_ble_eq_true rfl, Nat.le_of_ble_eq_true rfl⟩) wB_o rfl rfl rfl (Nat.le_of_ble_eq_true rfl) dX2_totalProfit_19 ⟨Nat.zero_le _, Nat.zero_le _⟩ (z_i ?_)
      refine z_iadd C dX2_totalProfit_22 (v := iZ ((zSi (fun d => zPfv a (wb 0 d) (pd 0 d)) i) + (zPfv a (wb 0 i) (pd 0 i)))) (iZ_add (zSi (fun d => zPfv a (wb 0 d) (pd 0 d)) i) (zPfv a (wb 0 i) (pd 0 i))) ?_
      refine z_istore_n C dX2_totalProfit_23 (by decide) [(1, .int (iZ ((zSi (fun d => zPfv a (wb 0 d) (pd 0 d)) i) + (zPfv a (wb 0 i) (pd 0 i))))), (0, .ref (q 0)), (2, .int (nI i))] rfl ?_
      refine z_iinc C dX2_totalProfit_24 2 (nI (i + 1)) rfl (nI_add i 1) (by decide) [(2, .int (nI (i + 1))), (1, .int (iZ ((zSi (fun d => zPfv a (wb 0 d) (pd 0 d)) i) + (zPfv a (wb 0 i) (pd 0 i))))), (0, .ref (q 0))] rfl ?_
      refine z_goto C 4 dX2_totalProfit_27 (by decide) ?_
      refine zW.pick (lv' := [(0, .ref (q 0)), (1, .int (iZ ((zSi (fun d => zPfv a (wb 0 d) (pd 0 d)) i) + (zPfv a (wb 0 i) (pd 0 i))))), (2, .int (nI (i + 1)))]) [2, 1, 0] rfl ?_
      refine zW.lve (lv' := [(0, .ref (q 0)), (1, .int (iZ (zSi (fun d => zPfv a (wb 0 d) (pd 0 d)) (i + 1)))), (2, .int (nI (i + 1)))]) (rfl) ?_
      exact ih4 (i + 1) (by omega)
  exact hlp4 (zNd a) 0 (by omega)
theorem inX2_winningPrices_X1 : ∀ w ∈ wsX10, w ∈ wsX2_winningPrices := fun w h => List.mem_cons_of_mem _ (List.mem_append_left _ (List.mem_append_right _ (h)))
theorem inX2_winningPrices_X2 : ∀ w ∈ wsX20, w ∈ wsX2_winningPrices := fun w h => List.mem_cons_of_mem _ (List.mem_append_left _ (List.mem_append_left _ (List.mem_append_right _ (h))))
set_option maxRecDepth 100000 in
set_option maxHeartbeats 4000000 in
theorem c_X2_winningPrices (l : Launch) (g : zG) (q : Nat → Nat) (a : zS) (bs : Nat → Int × Nat) (wb pd gw : Nat → Nat → Int) (ha : zOk a) : zM g l yX2_winningPrices wsX2_winningPrices { frames := 1, cells := 0, slots := 0, locals := 21 } [.ref (q 0)] (wB g q a (zG0 a) bs wb pd gw) (zPi (nI (zSum (fun b => if (bs 0).2.testBit b = true then zPr a b else 0) (zNb a))) (wB g q a (zG0 a) bs wb pd gw)) 0 0 := by
  refine zM.of (cc := cX2_winningPrices) (nL := 3) (ret := (some .int)) (lv := [(0, .ref (q 0))]) (by decide) rfl (Nat.le_of_ble_eq_true rfl) rfl ?_
  intro E C0 hi
  have C : zC g E cX2_winningPrices RX2 wsX2_winningPrices 3 (some .int) := C0
  obtain ⟨hnf, hnd, hnb, hou, hrs, hbd⟩ := id ha
  refine z_iconst C (nI 0) dX2_winningPrices_0 (by decide) ?_
  refine z_istore_n C dX2_winningPrices_1 (by decide) [(1, .int (nI 0)), (0, .ref (q 0))] rfl ?_
  refine z_iconst C (nI 0) dX2_winningPrices_2 (by decide) ?_
  refine z_istore_n C dX2_winningPrices_3 (by decide) [(2, .int (nI 0)), (1, .int (nI 0)), (0, .ref (q 0))] rfl ?_
  refine zW.pick (lv' := [(0, .ref (q 0)), (1, .int (nI 0)), (2, .int (nI 0))]) [2, 1, 0] rfl ?_
  have hlp4 : ∀ (k i : Nat), i + k = zNb a → zW g l ({ frames := 1, cells := 0, slots := 0, locals := 21 }) E (zMQ g E (zPi (nI (zSum (fun b => if (bs 0).2.testBit b = true then zPr a b else 0) (zNb a))) (wB g q a (zG0 a) bs wb pd gw)) 0 0) 3 0 0 (wB g q a (zG0 a) bs wb pd gw) [(0, .ref (q 0)), (1, .int (nI (zSum (fun b => if (bs 0).2.testBit b = true then zPr a b else 0) i))), (2, .int (nI i))] [] 4 := by
    intro k
    induction k with
    | zero =>
      intro i hik
      refine z_iload_n C dX2_winningPrices_4 2 rfl ?_
      refine z_aload_n C dX2_winningPrices_5 0 rfl ?_
      refine z_get C inX2_winningPrices_X2 0 wB_o rfl 10 (by decide) (C.w 1 rfl) rfl dX2_winningPrices_6 ?_
      refine z_icmp_ge C 41 dX2_winningPrices_9 (by decide) (zle_NN (by omega) (by omega)) (fun c_9 => ?_) (fun h9 => absurd (by omega) h9)
      refine z_iload_n C dX2_winningPrices_41 1 rfl ?_
      exact z_iretP C dX2_winningPrices_42 (by rw [show i = zNb a by omega]) rfl
    | succ k ih4 =>
      intro i hik
      refine z_iload_n C dX2_winningPrices_4 2 rfl ?_
      refine z_aload_n C dX2_winningPrices_5 0 rfl ?_
      refine z_get C inX2_winningPrices_X2 0 wB_o rfl 10 (by decide) (C.w 1 rfl) rfl dX2_winningPrices_6 ?_
      refine z_icmp_ge C 41 dX2_winningPrices_9 (by decide) (zle_NN (by omega) (by omega)) (fun h9 => absurd h9 (by omega)) (fun c_9 => ?_)
      refine z_aload_n C dX2_winningPrices_12 0 rfl ?_
      refine z_get C inX2_winningPrices_X2 0 wB_o rfl 11 (by decide) (C.w 2 rfl) rfl dX2_winningPrices_13 ?_
      refine z_getN C inX2_winningPrices_X1 (12 + 0) (wB_sl (z := 0) (by decide)) rfl 0 (by decide) 0 rfl rfl dX2_winningPrices_16 ?_
      refine z_iload_n C dX2_winningPrices_19 2 rfl ?_
      refine z_callVN C (c_X0_has l g q a bs wb pd gw 0 (by decide) i (by omega)) ⟨va_cnB 1 C.ts ggX2_winningPrices_X0_has rfl rfl rfl (C.K.2.1 _ (List.mem_of_getElem? (i := 6) rfl)) (C.w 5 rfl) (by decide +kernel) ⟨Nat.le_of_ble_eq_true rfl, Nat.le_of_ble_eq_true rfl⟩, (C.w 4 rfl), (C.w 6 rfl)⟩ (wB_bs (z := 0) (by decide)) rfl rfl rfl (Nat.le_of_ble_eq_true rfl) dX2_winningPrices_20 ⟨Nat.zero_le _, Nat.zero_le _⟩ (z_i ?_)
      refine z_if_eq C 35 dX2_winningPrices_23 (by decide) (zeq_B0 _) (fun c_23 => ?_) (fun c_23 => ?_)
      · skip
        refine z_iinc C dX2_winningPrices_35 2 (nI (i + 1)) rfl (nI_add i 1) (by decide) [(2, .int (nI (i + 1))), (0, .ref (q 0)), (1, .int (nI (zSum (fun b => if (bs 0).2.testBit b = true then zPr a b else 0) i)))] rfl ?_
        refine z_goto C 4 dX2_winningPrices_38 (by decide) ?_
        refine zW.pick (lv' := [(0, .ref (q 0)), (1, .int (nI (zSum (fun b => if (bs 0).2.testBit b = true then zPr a b else 0) i))), (2, .int (nI (i + 1)))]) [1, 2, 0] rfl ?_
        refine zW.lve (lv' := [(0, .ref (q 0)), (1, .int (nI (zSum (fun b => if (bs 0).2.testBit b = true then zPr a b else 0) (i + 1)))), (2, .int (nI (i + 1)))]) (by simp [zSum, c_23]) ?_
        exact ih4 (i + 1) (by omega)
      · skip
        refine z_iload_n C dX2_winningPrices_26 1 rfl ?_
        refine z_aload_n C dX2_winningPrices_27 0 rfl ?_
        refine z_get C inX2_winningPrices_X2 0 wB_o rfl 6 (by decide) (C.w 3 rfl) rfl dX2_winningPrices_28 ?_
        refine z_iload_n C dX2_winningPrices_31 2 rfl ?_
        refine z_ialdN C 5 wB_pr (by omega) (by decide) dX2_winningPrices_32 (v := nI (zPr a i)) rfl ?_
        have f_32b := (ha.pr (b := i) (by omega))
        refine z_iadd C dX2_winningPrices_33 (v := nI ((zSum (fun b => if (bs 0).2.testBit b = true then zPr a b else 0) i) + (zPr a i))) (nI_add (zSum (fun b => if (bs 0).2.testBit b = true then zPr a b else 0) i) (zPr a i)) ?_
        refine z_istore_n C dX2_winningPrices_34 (by decide) [(1, .int (nI ((zSum (fun b => if (bs 0).2.testBit b = true then zPr a b else 0) i) + (zPr a i)))), (0, .ref (q 0)), (2, .int (nI i))] rfl ?_
        refine z_iinc C dX2_winningPrices_35 2 (nI (i + 1)) rfl (nI_add i 1) (by decide) [(2, .int (nI (i + 1))), (1, .int (nI ((zSum (fun b => if (bs 0).2.testBit b = true then zPr a b else 0) i) + (zPr a i)))), (0, .ref (q 0))] rfl ?_
        refine z_goto C 4 dX2_winningPrices_38 (by decide) ?_
        refine zW.pick (lv' := [(0, .ref (q 0)), (1, .int (nI ((zSum (fun b => if (bs 0).2.testBit b = true then zPr a b else 0) i) + (zPr a i)))), (2, .int (nI (i + 1)))]) [2, 1, 0] rfl ?_
        refine zW.lve (lv' := [(0, .ref (q 0)), (1, .int (nI (zSum (fun b => if (bs 0).2.testBit b = true then zPr a b else 0) (i + 1)))), (2, .int (nI (i + 1)))]) (by simp [zSum, c_23]) ?_
        exact ih4 (i + 1) (by omega)
  exact hlp4 (zNb a) 0 (by omega)
theorem inX2_soldFields_X1 : ∀ w ∈ wsX10, w ∈ wsX2_soldFields := fun w h => List.mem_cons_of_mem _ (List.mem_append_left _ (List.mem_append_right _ (h)))
theorem inX2_soldFields_X2 : ∀ w ∈ wsX20, w ∈ wsX2_soldFields := fun w h => List.mem_cons_of_mem _ (List.mem_append_left _ (List.mem_append_left _ (List.mem_append_right _ (h))))
set_option maxRecDepth 100000 in
set_option maxHeartbeats 4000000 in
theorem c_X2_soldFields (l : Launch) (g : zG) (q : Nat → Nat) (a : zS) (bs : Nat → Int × Nat) (wb pd gw : Nat → Nat → Int) (ha : zOk a) : zM g l yX2_soldFields wsX2_soldFields { frames := 1, cells := 0, slots := 0, locals := 21 } [.ref (q 0)] (wB g q a (zG0 a) bs wb pd gw) (zPi (nI (zOrs (fun b => if (bs 0).2.testBit b = true then zBu a b else 0) (zNb a))) (wB g q a (zG0 a) bs wb pd gw)) 0 0 := by
  refine zM.of (cc := cX2_soldFields) (nL := 3) (ret := (some .int)) (lv := [(0, .ref (q 0))]) (by decide) rfl (Nat.le_of_ble_eq_true rfl) rfl ?_
  intro E C0 hi
  have C : zC g E cX2_soldFields RX2 wsX2_soldFields 3 (some .int) := C0
  obtain ⟨hnf, hnd, hnb, hou, hrs, hbd⟩ := id ha
  refine z_iconst C (nI 0) dX2_soldFields_0 (by decide) ?_
  refine z_istore_n C dX2_soldFields_1 (by decide) [(1, .int (nI 0)), (0, .ref (q 0))] rfl ?_
  refine z_iconst C (nI 0) dX2_soldFields_2 (by decide) ?_
  refine z_istore_n C dX2_soldFields_3 (by decide) [(2, .int (nI 0)), (1, .int (nI 0)), (0, .ref (q 0))] rfl ?_
  refine zW.pick (lv' := [(0, .ref (q 0)), (1, .int (nI 0)), (2, .int (nI 0))]) [2, 1, 0] rfl ?_
  have hlp4 : ∀ (k i : Nat), i + k = zNb a → zW g l ({ frames := 1, cells := 0, slots := 0, locals := 21 }) E (zMQ g E (zPi (nI (zOrs (fun b => if (bs 0).2.testBit b = true then zBu a b else 0) (zNb a))) (wB g q a (zG0 a) bs wb pd gw)) 0 0) 3 0 0 (wB g q a (zG0 a) bs wb pd gw) [(0, .ref (q 0)), (1, .int (nI (zOrs (fun b => if (bs 0).2.testBit b = true then zBu a b else 0) i))), (2, .int (nI i))] [] 4 := by
    intro k
    induction k with
    | zero =>
      intro i hik
      refine z_iload_n C dX2_soldFields_4 2 rfl ?_
      refine z_aload_n C dX2_soldFields_5 0 rfl ?_
      refine z_get C inX2_soldFields_X2 0 wB_o rfl 10 (by decide) (C.w 1 rfl) rfl dX2_soldFields_6 ?_
      refine z_icmp_ge C 41 dX2_soldFields_9 (by decide) (zle_NN (by omega) (by omega)) (fun c_9 => ?_) (fun h9 => absurd (by omega) h9)
      refine z_iload_n C dX2_soldFields_41 1 rfl ?_
      exact z_iretP C dX2_soldFields_42 (by rw [show i = zNb a by omega]) rfl
    | succ k ih4 =>
      intro i hik
      refine z_iload_n C dX2_soldFields_4 2 rfl ?_
      refine z_aload_n C dX2_soldFields_5 0 rfl ?_
      refine z_get C inX2_soldFields_X2 0 wB_o rfl 10 (by decide) (C.w 1 rfl) rfl dX2_soldFields_6 ?_
      refine z_icmp_ge C 41 dX2_soldFields_9 (by decide) (zle_NN (by omega) (by omega)) (fun h9 => absurd h9 (by omega)) (fun c_9 => ?_)
      refine z_aload_n C dX2_soldFields_12 0 rfl ?_
      refine z_get C inX2_soldFields_X2 0 wB_o rfl 11 (by decide) (C.w 2 rfl) rfl dX2_soldFields_13 ?_
      refine z_getN C inX2_soldFields_X1 (12 + 0) (wB_sl (z := 0) (by decide)) rfl 0 (by decide) 0 rfl rfl dX2_soldFields_16 ?_
      refine z_iload_n C dX2_soldFields_19 2 rfl ?_
      refine z_callVN C (c_X0_has l g q a bs wb pd gw 0 (by decide) i (by omega)) ⟨va_cnB 1 C.ts ggX2_soldFields_X0_has rfl rfl rfl (C.K.2.1 _ (List.mem_of_getElem? (i := 6) rfl)) (C.w 5 rfl) (by decide +kernel) ⟨Nat.le_of_ble_eq_true rfl, Nat.le_of_ble_eq_true rfl⟩, (C.w 4 rfl), (C.w 6 rfl)⟩ (wB_bs (z := 0) (by decide)) rfl rfl rfl (Nat.le_of_ble_eq_true rfl) dX2_soldFields_20 ⟨Nat.zero_le _, Nat.zero_le _⟩ (z_i ?_)
      refine z_if_eq C 35 dX2_soldFields_23 (by decide) (zeq_B0 _) (fun c_23 => ?_) (fun c_23 => ?_)
      · skip
        refine z_iinc C dX2_soldFields_35 2 (nI (i + 1)) rfl (nI_add i 1) (by decide) [(2, .int (nI (i + 1))), (0, .ref (q 0)), (1, .int (nI (zOrs (fun b => if (bs 0).2.testBit b = true then zBu a b else 0) i)))] rfl ?_
        refine z_goto C 4 dX2_soldFields_38 (by decide) ?_
        refine zW.pick (lv' := [(0, .ref (q 0)), (1, .int (nI (zOrs (fun b => if (bs 0).2.testBit b = true then zBu a b else 0) i))), (2, .int (nI (i + 1)))]) [1, 2, 0] rfl ?_
        refine zW.lve (lv' := [(0, .ref (q 0)), (1, .int (nI (zOrs (fun b => if (bs 0).2.testBit b = true then zBu a b else 0) (i + 1)))), (2, .int (nI (i + 1)))]) (by simp [zOrs, c_23]) ?_
        exact ih4 (i + 1) (by omega)
      · skip
        refine z_iload_n C dX2_soldFields_26 1 rfl ?_
        refine z_aload_n C dX2_soldFields_27 0 rfl ?_
        refine z_get C inX2_soldFields_X2 0 wB_o rfl 5 (by decide) (C.w 3 rfl) rfl dX2_soldFields_28 ?_
        refine z_iload_n C dX2_soldFields_31 2 rfl ?_
        refine z_ialdN C 4 wB_bu (by omega) (by decide) dX2_soldFields_32 (v := nI (zBu a i)) rfl ?_
        have f_32b := (ha.bu8 (b := i) (by omega))
        refine z_ior C dX2_soldFields_33 (v := nI ((zOrs (fun b => if (bs 0).2.testBit b = true then zBu a b else 0) i) ||| (zBu a i))) (zor_NN (zOrs (fun b => if (bs 0).2.testBit b = true then zBu a b else 0) i) (zBu a i)) ?_
        refine z_istore_n C dX2_soldFields_34 (by decide) [(1, .int (nI ((zOrs (fun b => if (bs 0).2.testBit b = true then zBu a b else 0) i) ||| (zBu a i)))), (0, .ref (q 0)), (2, .int (nI i))] rfl ?_
        refine z_iinc C dX2_soldFields_35 2 (nI (i + 1)) rfl (nI_add i 1) (by decide) [(2, .int (nI (i + 1))), (1, .int (nI ((zOrs (fun b => if (bs 0).2.testBit b = true then zBu a b else 0) i) ||| (zBu a i)))), (0, .ref (q 0))] rfl ?_
        refine z_goto C 4 dX2_soldFields_38 (by decide) ?_
        refine zW.pick (lv' := [(0, .ref (q 0)), (1, .int (nI ((zOrs (fun b => if (bs 0).2.testBit b = true then zBu a b else 0) i) ||| (zBu a i)))), (2, .int (nI (i + 1)))]) [2, 1, 0] rfl ?_
        refine zW.lve (lv' := [(0, .ref (q 0)), (1, .int (nI (zOrs (fun b => if (bs 0).2.testBit b = true then zBu a b else 0) (i + 1)))), (2, .int (nI (i + 1)))]) (by simp [zOrs, c_23]) ?_
        exact ih4 (i + 1) (by omega)
  exact hlp4 (zNb a) 0 (by omega)
theorem inX2_winnerOfField_X1 : ∀ w ∈ wsX10, w ∈ wsX2_winnerOfField := fun w h => List.mem_cons_of_mem _ (List.mem_append_left _ (List.mem_append_right _ (h)))
theorem inX2_winnerOfField_X2 : ∀ w ∈ wsX20, w ∈ wsX2_winnerOfField := fun w h => List.mem_cons_of_mem _ (List.mem_append_left _ (List.mem_append_left _ (List.mem_append_right _ (h))))
set_option maxRecDepth 100000 in
set_option maxHeartbeats 4000000 in
theorem c_X2_winnerOfField (l : Launch) (g : zG) (q : Nat → Nat) (a : zS) (bs : Nat → Int × Nat) (wb pd gw : Nat → Nat → Int) (ha : zOk a) (f : Nat) (hf : f < 8) : zM g l yX2_winnerOfField wsX2_winnerOfField { frames := 1, cells := 0, slots := 0, locals := 21 } [.ref (q 0), .int (nI f)] (wB g q a (zG0 a) bs wb pd gw) (zPi (iZ (zFst (fun b => (bs 0).2.testBit b && (zBu a b).testBit f) 0 (zNb a))) (wB g q a (zG0 a) bs wb pd gw)) 0 0 := by
  refine zM.of (cc := cX2_winnerOfField) (nL := 3) (ret := (some .int)) (lv := [(0, .ref (q 0)), (1, .int (nI f))]) (by decide) rfl (Nat.le_of_ble_eq_true rfl) rfl ?_
  intro E C0 hi
  have C : zC g E cX2_winnerOfField RX2 wsX2_winnerOfField 3 (some .int) := C0
  obtain ⟨hnf, hnd, hnb, hou, hrs, hbd⟩ := id ha
  refine z_iconst C (nI 0) dX2_winnerOfField_0 (by decide) ?_
  refine z_istore_n C dX2_winnerOfField_1 (by decide) [(2, .int (nI 0)), (0, .ref (q 0)), (1, .int (nI f))] rfl ?_
  refine zW.pick (lv' := [(0, .ref (q 0)), (1, .int (nI f)), (2, .int (nI 0))]) [1, 2, 0] rfl ?_
  have hlp2 : ∀ (k i : Nat), i + k = zNb a → (zFst (fun b => (bs 0).2.testBit b && (zBu a b).testBit f) i k = zFst (fun b => (bs 0).2.testBit b && (zBu a b).testBit f) 0 (zNb a)) → zW g l ({ frames := 1, cells := 0, slots := 0, locals := 21 }) E (zMQ g E (zPi (iZ (zFst (fun b => (bs 0).2.testBit b && (zBu a b).testBit f) 0 (zNb a))) (wB g q a (zG0 a) bs wb pd gw)) 0 0) 3 0 0 (wB g q a (zG0 a) bs wb pd gw) [(0, .ref (q 0)), (1, .int (nI f)), (2, .int (nI i))] [] 2 := by
    intro k
    induction k with
    | zero =>
      intro i hik hr
      refine z_iload_n C dX2_winnerOfField_2 2 rfl ?_
      refine z_aload_n C dX2_winnerOfField_3 0 rfl ?_
      refine z_get C inX2_winnerOfField_X2 0 wB_o rfl 10 (by decide) (C.w 1 rfl) rfl dX2_winnerOfField_4 ?_
      refine z_icmp_ge C 45 dX2_winnerOfField_7 (by decide) (zle_NN (by omega) (by omega)) (fun c_7 => ?_) (fun h9 => absurd (by omega) h9)
      refine z_iconst C (iZ (-1)) dX2_winnerOfField_45 (by decide) ?_
      exact z_iretP C dX2_winnerOfField_46 (by rw [← hr]; rfl) rfl
    | succ k ih2 =>
      intro i hik hr
      refine z_iload_n C dX2_winnerOfField_2 2 rfl ?_
      refine z_aload_n C dX2_winnerOfField_3 0 rfl ?_
      refine z_get C inX2_winnerOfField_X2 0 wB_o rfl 10 (by decide) (C.w 1 rfl) rfl dX2_winnerOfField_4 ?_
      refine z_icmp_ge C 45 dX2_winnerOfField_7 (by decide) (zle_NN (by omega) (by omega)) (fun h9 => absurd h9 (by omega)) (fun c_7 => ?_)
      refine z_aload_n C dX2_winnerOfField_10 0 rfl ?_
      refine z_get C inX2_winnerOfField_X2 0 wB_o rfl 11 (by decide) (C.w 2 rfl) rfl dX2_winnerOfField_11 ?_
      refine z_getN C inX2_winnerOfField_X1 (12 + 0) (wB_sl (z := 0) (by decide)) rfl 0 (by decide) 0 rfl rfl dX2_winnerOfField_14 ?_
      refine z_iload_n C dX2_winnerOfField_17 2 rfl ?_
      refine z_callVN C (c_X0_has l g q a bs wb pd gw 0 (by decide) i (by omega)) ⟨va_cnB 1 C.ts ggX2_winnerOfField_X0_has rfl rfl rfl (C.K.2.1 _ (List.mem_of_getElem? (i := 6) rfl)) (C.w 5 rfl) (by decide +kernel) ⟨Nat.le_of_ble_eq_true rfl, Nat.le_of_ble_eq_true rfl⟩, (C.w 4 rfl), (C.w 6 rfl)⟩ (wB_bs (z := 0) (by decide)) rfl rfl rfl (Nat.le_of_ble_eq_true rfl) dX2_winnerOfField_18 ⟨Nat.zero_le _, Nat.zero_le _⟩ (z_i ?_)
      refine z_if_eq C 39 dX2_winnerOfField_21 (by decide) (zeq_B0 _) (fun c_21 => ?_) (fun c_21 => ?_)
      · skip
        refine z_iinc C dX2_winnerOfField_39 2 (nI (i + 1)) rfl (nI_add i 1) (by decide) [(2, .int (nI (i + 1))), (0, .ref (q 0)), (1, .int (nI f))] rfl ?_
        refine z_goto C 2 dX2_winnerOfField_42 (by decide) ?_
        refine zW.pick (lv' := [(0, .ref (q 0)), (1, .int (nI f)), (2, .int (nI (i + 1)))]) [1, 2, 0] rfl ?_
        exact ih2 (i + 1) (by omega) (by rw [← hr]; simp_all [zFst])
      · skip
        refine z_aload_n C dX2_winnerOfField_24 0 rfl ?_
        refine z_get C inX2_winnerOfField_X2 0 wB_o rfl 5 (by decide) (C.w 3 rfl) rfl dX2_winnerOfField_25 ?_
        refine z_iload_n C dX2_winnerOfField_28 2 rfl ?_
        refine z_ialdN C 4 wB_bu (by omega) (by decide) dX2_winnerOfField_29 (v := nI (zBu a i)) rfl ?_
        have f_29b := (ha.bu8 (b := i) (by omega))
        refine z_iload_n C dX2_winnerOfField_30 1 rfl ?_
        refine z_callS C (c_X2_hasField l g (wB g q a (zG0 a) bs wb pd gw) (zBu a i) f (by omega)) (va_cwS 2 C.ts gX2_winnerOfField_X2_hasField rfl rfl rfl (by decide +kernel) ⟨Nat.le_of_ble_eq_true rfl, Nat.le_of_ble_eq_true rfl⟩) rfl rfl (Nat.le_of_ble_eq_true rfl) dX2_winnerOfField_31 ⟨Nat.zero_le _, Nat.zero_le _⟩ (z_i ?_)
        refine z_if_eq C 39 dX2_winnerOfField_34 (by decide) (zeq_B0 _) (fun c_34 => ?_) (fun c_34 => ?_)
        · skip
          refine z_iinc C dX2_winnerOfField_39 2 (nI (i + 1)) rfl (nI_add i 1) (by decide) [(2, .int (nI (i + 1))), (0, .ref (q 0)), (1, .int (nI f))] rfl ?_
          refine z_goto C 2 dX2_winnerOfField_42 (by decide) ?_
          refine zW.pick (lv' := [(0, .ref (q 0)), (1, .int (nI f)), (2, .int (nI (i + 1)))]) [1, 2, 0] rfl ?_
          exact ih2 (i + 1) (by omega) (by rw [← hr]; simp_all [zFst])
        · skip
          refine z_iload_n C dX2_winnerOfField_37 2 rfl ?_
          exact z_iretP C dX2_winnerOfField_38 (by rw [← hr]; simp [zFst, c_21, c_34]; rfl) rfl
  exact hlp2 (zNb a) 0 (by omega) rfl
theorem inX2_highestAlone_X2 : ∀ w ∈ wsX20, w ∈ wsX2_highestAlone := fun w h => List.mem_cons_of_mem _ (List.mem_append_right _ (h))
set_option maxRecDepth 100000 in
set_option maxHeartbeats 4000000 in
theorem c_X2_highestAlone (l : Launch) (g : zG) (q : Nat → Nat) (a : zS) (bs : Nat → Int × Nat) (wb pd gw : Nat → Nat → Int) (ha : zOk a) (f : Nat) (hf : f < 8) (lo : Int) (hlo : -1 ≤ lo ∧ lo < 5) : zM g l yX2_highestAlone wsX2_highestAlone { frames := 1, cells := 0, slots := 0, locals := 21 } [.ref (q 0), .int (nI f), .int (iZ lo)] (wB g q a (zG0 a) bs wb pd gw) (zPi (iZ (zHi a (zCo a f lo) (zNb a))) (wB g q a (zG0 a) bs wb pd gw)) 0 0 := by
  refine zM.of (cc := cX2_highestAlone) (nL := 6) (ret := (some .int)) (lv := [(0, .ref (q 0)), (1, .int (nI f)), (2, .int (iZ lo))]) (by decide) rfl (Nat.le_of_ble_eq_true rfl) rfl ?_
  intro E C0 hi
  have C : zC g E cX2_highestAlone RX2 wsX2_highestAlone 6 (some .int) := C0
  obtain ⟨hnf, hnd, hnb, hou, hrs, hbd⟩ := id ha
  have p8 : 2 ^ f ≤ 2 ^ 8 := zp2_le (by omega)
  refine z_iconst C (iZ (-1)) dX2_highestAlone_0 (by decide) ?_
  refine z_istore_n C dX2_highestAlone_1 (by decide) [(3, .int (iZ (-1))), (0, .ref (q 0)), (1, .int (nI f)), (2, .int (iZ lo))] rfl ?_
  refine z_iconst C (nI 0) dX2_highestAlone_2 (by decide) ?_
  refine z_istore C dX2_highestAlone_3 (by decide) [(4, .int (nI 0)), (3, .int (iZ (-1))), (0, .ref (q 0)), (1, .int (nI f)), (2, .int (iZ lo))] rfl ?_
  refine zW.pick (lv' := [(0, .ref (q 0)), (1, .int (nI f)), (2, .int (iZ lo)), (3, .int (iZ (-1))), (4, .int (nI 0))]) [2, 3, 4, 1, 0] rfl ?_
  have hlp5 : ∀ (k i : Nat), i + k = zNb a → zW g l ({ frames := 1, cells := 0, slots := 0, locals := 21 }) E (zMQ g E (zPi (iZ (zHi a (zCo a f lo) (zNb a))) (wB g q a (zG0 a) bs wb pd gw)) 0 0) 6 0 0 (wB g q a (zG0 a) bs wb pd gw) [(0, .ref (q 0)), (1, .int (nI f)), (2, .int (iZ lo)), (3, .int (iZ (zHi a (zCo a f lo) i))), (4, .int (nI i))] [] 5 := by
    intro k
    induction k with
    | zero =>
      intro i hik
      refine z_iload C dX2_highestAlone_5 4 rfl ?_
      refine z_aload_n C dX2_highestAlone_7 0 rfl ?_
      refine z_get C inX2_highestAlone_X2 0 wB_o rfl 10 (by decide) (C.w 1 rfl) rfl dX2_highestAlone_8 ?_
      refine z_icmp_ge C 89 dX2_highestAlone_11 (by decide) (zle_NN (by omega) (by omega)) (fun c_11 => ?_) (fun h9 => absurd (by omega) h9)
      refine z_iload_n C dX2_highestAlone_89 3 rfl ?_
      exact z_iretP C dX2_highestAlone_90 (by rw [show i = zNb a by omega]) rfl
    | succ k ih5 =>
      intro i hik
      have hH : -1 ≤ zHi a (zCo a f lo) i ∧ zHi a (zCo a f lo) i < 12 := by rcases zHi_or a (zCo a f lo) i with h | ⟨c, h1, h2, -⟩ <;> omega
      refine z_iload C dX2_highestAlone_5 4 rfl ?_
      refine z_aload_n C dX2_highestAlone_7 0 rfl ?_
      refine z_get C inX2_highestAlone_X2 0 wB_o rfl 10 (by decide) (C.w 1 rfl) rfl dX2_highestAlone_8 ?_
      refine z_icmp_ge C 89 dX2_highestAlone_11 (by decide) (zle_NN (by omega) (by omega)) (fun h9 => absurd h9 (by omega)) (fun c_11 => ?_)
      refine z_aload_n C dX2_highestAlone_14 0 rfl ?_
      refine z_iload C dX2_highestAlone_15 4 rfl ?_
      refine z_callV C (c_X2_counts l g q a bs wb pd gw ha i (by omega)) (cwV 1 C.ts gX2_highestAlone_X2_counts rfl rfl rfl (by decide +kernel) ⟨Nat.le_of_ble_eq_true rfl, Nat.le_of_ble_eq_true rfl⟩) wB_o rfl rfl rfl (Nat.le_of_ble_eq_true rfl) dX2_highestAlone_17 ⟨Nat.zero_le _, Nat.zero_le _⟩ (z_i ?_)
      refine z_if_eq C 51 dX2_highestAlone_20 (by decide) (zeq_B0 _) (fun c_20 => ?_) (fun c_20 => ?_)
      · skip
        refine z_iconst C (nI 0) dX2_highestAlone_51 (by decide) ?_
        refine z_istore C dX2_highestAlone_52 (by decide) [(5, .int (nI 0)), (0, .ref (q 0)), (1, .int (nI f)), (2, .int (iZ lo)), (3, .int (iZ (zHi a (zCo a f lo) i))), (4, .int (nI i))] rfl ?_
        refine z_iload C dX2_highestAlone_54 0 rfl ?_
        refine z_if_eq C 83 dX2_highestAlone_56 (by decide) (zeq_N0 (by omega)) (fun c_56 => ?_) (fun h9 => absurd (by decide) h9)
        refine z_iinc C dX2_highestAlone_83 5 (nI (i + 1)) rfl (nI_add i 1) (by decide) [(4, .int (nI (i + 1))), (5, .int (nI 0)), (0, .ref (q 0)), (1, .int (nI f)), (2, .int (iZ lo)), (3, .int (iZ (zHi a (zCo a f lo) i)))] rfl ?_
        refine z_goto C 5 dX2_highestAlone_86 (by decide) ?_
        refine zW.pick (lv' := [(0, .ref (q 0)), (1, .int (nI f)), (2, .int (iZ lo)), (3, .int (iZ (zHi a (zCo a f lo) i))), (4, .int (nI (i + 1)))]) [2, 3, 4, 5, 0] rfl ?_
        refine zW.lve (lv' := [(0, .ref (q 0)), (1, .int (nI f)), (2, .int (iZ lo)), (3, .int (iZ (zHi a (zCo a f lo) (i + 1)))), (4, .int (nI (i + 1)))]) (by first | (simp_all [zHi, zCo, iZ_n]; done) | (simp_all [zHi, zCo, iZ_n]; rw [if_neg (by omega)]; rfl)) ?_
        exact ih5 (i + 1) (by omega)
      · skip
        refine z_aload_n C dX2_highestAlone_23 0 rfl ?_
        refine z_get C inX2_highestAlone_X2 0 wB_o rfl 5 (by decide) (C.w 2 rfl) rfl dX2_highestAlone_24 ?_
        refine z_iload C dX2_highestAlone_27 4 rfl ?_
        refine z_ialdN C 4 wB_bu (by omega) (by decide) dX2_highestAlone_29 (v := nI (zBu a i)) rfl ?_
        have f_29b := (ha.bu8 (b := i) (by omega))
        refine z_iconst C (nI 1) dX2_highestAlone_30 (by decide) ?_
        refine z_iload_n C dX2_highestAlone_31 1 rfl ?_
        refine z_ishl C dX2_highestAlone_32 (v := nI (2 ^ f)) (zshl_1N (by omega)) ?_
        refine z_icmp_ne C 51 dX2_highestAlone_33 (by decide) (zeq_NN (by omega) (by omega)) (fun c_33 => ?_) (fun c_33 => ?_)
        · skip
          refine z_iconst C (nI 0) dX2_highestAlone_51 (by decide) ?_
          refine z_istore C dX2_highestAlone_52 (by decide) [(5, .int (nI 0)), (0, .ref (q 0)), (1, .int (nI f)), (2, .int (iZ lo)), (3, .int (iZ (zHi a (zCo a f lo) i))), (4, .int (nI i))] rfl ?_
          refine z_iload C dX2_highestAlone_54 0 rfl ?_
          refine z_if_eq C 83 dX2_highestAlone_56 (by decide) (zeq_N0 (by omega)) (fun c_56 => ?_) (fun h9 => absurd (by decide) h9)
          refine z_iinc C dX2_highestAlone_83 5 (nI (i + 1)) rfl (nI_add i 1) (by decide) [(4, .int (nI (i + 1))), (5, .int (nI 0)), (0, .ref (q 0)), (1, .int (nI f)), (2, .int (iZ lo)), (3, .int (iZ (zHi a (zCo a f lo) i)))] rfl ?_
          refine z_goto C 5 dX2_highestAlone_86 (by decide) ?_
          refine zW.pick (lv' := [(0, .ref (q 0)), (1, .int (nI f)), (2, .int (iZ lo)), (3, .int (iZ (zHi a (zCo a f lo) i))), (4, .int (nI (i + 1)))]) [2, 3, 4, 5, 0] rfl ?_
          refine zW.lve (lv' := [(0, .ref (q 0)), (1, .int (nI f)), (2, .int (iZ lo)), (3, .int (iZ (zHi a (zCo a f lo) (i + 1)))), (4, .int (nI (i + 1)))]) (by first | (simp_all [zHi, zCo, iZ_n]; done) | (simp_all [zHi, zCo, iZ_n]; rw [if_neg (by omega)]; rfl)) ?_
          exact ih5 (i + 1) (by omega)
        · skip
          refine z_aload_n C dX2_highestAlone_36 0 rfl ?_
          refine z_get C inX2_highestAlone_X2 0 wB_o rfl 4 (by decide) (C.w 3 rfl) rfl dX2_highestAlone_37 ?_
          refine z_iload C dX2_highestAlone_40 4 rfl ?_
          refine z_ialdN C 3 wB_ow (by omega) (by decide) dX2_highestAlone_42 (v := nI (zOw a i)) rfl ?_
          have f_42b := (ha.ow (b := i) (by omega))
          refine z_iload_n C dX2_highestAlone_43 2 rfl ?_
          refine z_icmp_eq C 51 dX2_highestAlone_44 (by decide) (zeq_ZZ (x := ((zOw a i : Nat) : Int)) (y := lo) (by unfold zB31; omega) (by unfold zB31; omega)) (fun c_44 => ?_) (fun c_44 => ?_)
          · skip
            refine z_iconst C (nI 0) dX2_highestAlone_51 (by decide) ?_
            refine z_istore C dX2_highestAlone_52 (by decide) [(5, .int (nI 0)), (0, .ref (q 0)), (1, .int (nI f)), (2, .int (iZ lo)), (3, .int (iZ (zHi a (zCo a f lo) i))), (4, .int (nI i))] rfl ?_
            refine z_iload C dX2_highestAlone_54 0 rfl ?_
            refine z_if_eq C 83 dX2_highestAlone_56 (by decide) (zeq_N0 (by omega)) (fun c_56 => ?_) (fun h9 => absurd (by decide) h9)
            refine z_iinc C dX2_highestAlone_83 5 (nI (i + 1)) rfl (nI_add i 1) (by decide) [(4, .int (nI (i + 1))), (5, .int (nI 0)), (0, .ref (q 0)), (1, .int (nI f)), (2, .int (iZ lo)), (3, .int (iZ (zHi a (zCo a f lo) i)))] rfl ?_
            refine z_goto C 5 dX2_highestAlone_86 (by decide) ?_
            refine zW.pick (lv' := [(0, .ref (q 0)), (1, .int (nI f)), (2, .int (iZ lo)), (3, .int (iZ (zHi a (zCo a f lo) i))), (4, .int (nI (i + 1)))]) [2, 3, 4, 5, 0] rfl ?_
            refine zW.lve (lv' := [(0, .ref (q 0)), (1, .int (nI f)), (2, .int (iZ lo)), (3, .int (iZ (zHi a (zCo a f lo) (i + 1)))), (4, .int (nI (i + 1)))]) (by first | (simp_all [zHi, zCo, iZ_n]; done) | (simp_all [zHi, zCo, iZ_n]; rw [if_neg (by omega)]; rfl)) ?_
            exact ih5 (i + 1) (by omega)
          · skip
            refine z_iconst C (nI 1) dX2_highestAlone_47 (by decide) ?_
            refine z_goto C 52 dX2_highestAlone_48 (by decide) ?_
            refine z_istore C dX2_highestAlone_52 (by decide) [(5, .int (nI 1)), (0, .ref (q 0)), (1, .int (nI f)), (2, .int (iZ lo)), (3, .int (iZ (zHi a (zCo a f lo) i))), (4, .int (nI i))] rfl ?_
            refine z_iload C dX2_highestAlone_54 0 rfl ?_
            refine z_if_eq C 83 dX2_highestAlone_56 (by decide) (zeq_N0 (by omega)) (fun h9 => absurd h9 (by decide)) (fun c_56 => ?_)
            refine z_iload_n C dX2_highestAlone_59 4 rfl ?_
            refine z_iconst C (iZ (-1)) dX2_highestAlone_60 (by decide) ?_
            refine z_icmp_eq C 80 dX2_highestAlone_61 (by decide) (zeq_ZZ (x := (zHi a (zCo a f lo) i)) (y := (-1)) (by unfold zB31; omega) (by unfold zB31; omega)) (fun c_61 => ?_) (fun c_61 => ?_)
            · skip
              refine z_iload C dX2_highestAlone_80 5 rfl ?_
              refine z_istore_n C dX2_highestAlone_82 (by decide) [(3, .int (nI i)), (5, .int (nI 1)), (0, .ref (q 0)), (1, .int (nI f)), (2, .int (iZ lo)), (4, .int (nI i))] rfl ?_
              refine z_iinc C dX2_highestAlone_83 5 (nI (i + 1)) rfl (nI_add i 1) (by decide) [(4, .int (nI (i + 1))), (3, .int (nI i)), (5, .int (nI 1)), (0, .ref (q 0)), (1, .int (nI f)), (2, .int (iZ lo))] rfl ?_
              refine z_goto C 5 dX2_highestAlone_86 (by decide) ?_
              refine zW.pick (lv' := [(0, .ref (q 0)), (1, .int (nI f)), (2, .int (iZ lo)), (3, .int (nI i)), (4, .int (nI (i + 1)))]) [3, 4, 5, 1, 0] rfl ?_
              refine zW.lve (lv' := [(0, .ref (q 0)), (1, .int (nI f)), (2, .int (iZ lo)), (3, .int (iZ (zHi a (zCo a f lo) (i + 1)))), (4, .int (nI (i + 1)))]) (by first | (simp_all [zHi, zCo, iZ_n]; done) | (simp_all [zHi, zCo, iZ_n]; rw [if_neg (by omega)]; rfl)) ?_
              exact ih5 (i + 1) (by omega)
            · skip
              obtain ⟨c, hc, hce, -⟩ := (zHi_or a (zCo a f lo) i).resolve_left c_61
              have f9 := ha.pr (b := c) (by omega)
              refine z_aload_n C dX2_highestAlone_64 1 rfl ?_
              refine z_get C inX2_highestAlone_X2 0 wB_o rfl 6 (by decide) (C.w 4 rfl) rfl dX2_highestAlone_65 ?_
              refine z_iload C dX2_highestAlone_68 5 rfl ?_
              refine z_ialdN C 5 wB_pr (by omega) (by decide) dX2_highestAlone_70 (v := nI (zPr a i)) rfl ?_
              have f_70b := (ha.pr (b := i) (by omega))
              refine z_aload_n C dX2_highestAlone_71 1 rfl ?_
              refine z_get C inX2_highestAlone_X2 0 wB_o rfl 6 (by decide) (C.w 4 rfl) rfl dX2_highestAlone_72 ?_
              refine z_iload_n C dX2_highestAlone_75 4 rfl ?_
              refine zW.top (y := nI c) (by rw [hce]; rfl) ?_
              refine z_ialdN C 5 wB_pr (by omega) (by decide) dX2_highestAlone_76 (v := nI (zPr a c)) rfl ?_
              have f_76b := (ha.pr (b := c) (by omega))
              refine z_icmp_le C 83 dX2_highestAlone_77 (by decide) (zle_NN (by omega) (by omega)) (fun c_77 => ?_) (fun c_77 => ?_)
              · skip
                refine z_iinc C dX2_highestAlone_83 5 (nI (i + 1)) rfl (nI_add i 1) (by decide) [(4, .int (nI (i + 1))), (5, .int (nI 1)), (0, .ref (q 0)), (1, .int (nI f)), (2, .int (iZ lo)), (3, .int (iZ (zHi a (zCo a f lo) i)))] rfl ?_
                refine z_goto C 5 dX2_highestAlone_86 (by decide) ?_
                refine zW.pick (lv' := [(0, .ref (q 0)), (1, .int (nI f)), (2, .int (iZ lo)), (3, .int (iZ (zHi a (zCo a f lo) i))), (4, .int (nI (i + 1)))]) [2, 3, 4, 5, 0] rfl ?_
                refine zW.lve (lv' := [(0, .ref (q 0)), (1, .int (nI f)), (2, .int (iZ lo)), (3, .int (iZ (zHi a (zCo a f lo) (i + 1)))), (4, .int (nI (i + 1)))]) (by first | (simp_all [zHi, zCo, iZ_n]; done) | (simp_all [zHi, zCo, iZ_n]; rw [if_neg (by omega)]; rfl)) ?_
                exact ih5 (i + 1) (by omega)
              · skip
                refine z_iload C dX2_highestAlone_80 5 rfl ?_
                refine z_istore_n C dX2_highestAlone_82 (by decide) [(3, .int (nI i)), (5, .int (nI 1)), (0, .ref (q 0)), (1, .int (nI f)), (2, .int (iZ lo)), (4, .int (nI i))] rfl ?_
                refine z_iinc C dX2_highestAlone_83 5 (nI (i + 1)) rfl (nI_add i 1) (by decide) [(4, .int (nI (i + 1))), (3, .int (nI i)), (5, .int (nI 1)), (0, .ref (q 0)), (1, .int (nI f)), (2, .int (iZ lo))] rfl ?_
                refine z_goto C 5 dX2_highestAlone_86 (by decide) ?_
                refine zW.pick (lv' := [(0, .ref (q 0)), (1, .int (nI f)), (2, .int (iZ lo)), (3, .int (nI i)), (4, .int (nI (i + 1)))]) [3, 4, 5, 1, 0] rfl ?_
                refine zW.lve (lv' := [(0, .ref (q 0)), (1, .int (nI f)), (2, .int (iZ lo)), (3, .int (iZ (zHi a (zCo a f lo) (i + 1)))), (4, .int (nI (i + 1)))]) (by first | (simp_all [zHi, zCo, iZ_n]; done) | (simp_all [zHi, zCo, iZ_n]; rw [if_neg (by omega)]; rfl)) ?_
                exact ih5 (i + 1) (by omega)
  exact hlp5 (zNb a) 0 (by omega)
theorem inX2_secondPrice_X2 : ∀ w ∈ wsX20, w ∈ wsX2_secondPrice := fun w h => List.mem_cons_of_mem _ (List.mem_append_right _ (h))
set_option maxRecDepth 100000 in
set_option maxHeartbeats 4000000 in
theorem c_X2_secondPrice_no (l : Launch) (g : zG) (q : Nat → Nat) (a : zS) (bs : Nat → Int × Nat) (wb pd gw : Nat → Nat → Int) (ha : zOk a) (f : Nat) (hf : f < zNf a) (c : Nat) (hc : c < zNb a) (hs : zHi a (zCo a f (zOw a c : Int)) (zNb a) = -1) : zM g l yX2_secondPrice wsX2_secondPrice { frames := 2, cells := 0, slots := 0, locals := 46 } [.ref (q 0), .int (nI f), .int (nI c)] (wB g q a (zG0 a) bs wb pd gw) (zPi (nI (zRs a f)) (wB g q a (zG0 a) bs wb pd gw)) 0 0 := by
  refine zM.of (cc := cX2_secondPrice) (nL := 4) (ret := (some .int)) (lv := [(0, .ref (q 0)), (1, .int (nI f)), (2, .int (nI c))]) (by decide) rfl (Nat.le_of_ble_eq_true rfl) rfl ?_
  intro E C0 hi
  have C : zC g E cX2_secondPrice RX2 wsX2_secondPrice 4 (some .int) := C0
  obtain ⟨hnf, hnd, hnb, hou, hrs, hbd⟩ := id ha
  refine z_aload_n C dX2_secondPrice_0 0 rfl ?_
  refine z_iload_n C dX2_secondPrice_1 1 rfl ?_
  refine z_aload_n C dX2_secondPrice_2 0 rfl ?_
  refine z_get C inX2_secondPrice_X2 0 wB_o rfl 4 (by decide) (C.w 1 rfl) rfl dX2_secondPrice_3 ?_
  refine z_iload_n C dX2_secondPrice_6 2 rfl ?_
  refine z_ialdN C 3 wB_ow (by omega) (by decide) dX2_secondPrice_7 (v := nI (zOw a c)) rfl ?_
  have f_7b := (ha.ow (b := c) (by omega))
  refine z_callV C (c_X2_highestAlone l g q a bs wb pd gw ha f (by omega) ((zOw a c : Nat) : Int) (by omega)) (cwV 2 C.ts gX2_secondPrice_X2_highestAlone rfl rfl rfl (by decide +kernel) ⟨Nat.le_of_ble_eq_true rfl, Nat.le_of_ble_eq_true rfl⟩) wB_o rfl rfl rfl (Nat.le_of_ble_eq_true rfl) dX2_secondPrice_8 ⟨Nat.zero_le _, Nat.zero_le _⟩ (z_i ?_)
  refine zW.top (y := iZ (-1)) (by rw [hs]) ?_
  refine z_istore_n C dX2_secondPrice_11 (by decide) [(3, .int (iZ (-1))), (0, .ref (q 0)), (1, .int (nI f)), (2, .int (nI c))] rfl ?_
  refine z_iload_n C dX2_secondPrice_12 0 rfl ?_
  refine z_iconst C (iZ (-1)) dX2_secondPrice_13 (by decide) ?_
  refine z_icmp_ne C 26 dX2_secondPrice_14 (by decide) (zeq_ZZ (x := (-1)) (y := (-1)) (by unfold zB31; omega) (by unfold zB31; omega)) (fun h9 => absurd (by decide) h9) (fun c_14 => ?_)
  refine z_aload_n C dX2_secondPrice_17 1 rfl ?_
  refine z_get C inX2_secondPrice_X2 0 wB_o rfl 0 (by decide) (C.w 2 rfl) rfl dX2_secondPrice_18 ?_
  refine z_iload_n C dX2_secondPrice_21 2 rfl ?_
  refine z_ialdN C 1 wB_rs (by omega) (by decide) dX2_secondPrice_22 (v := nI (zRs a f)) rfl ?_
  have f_22b := (ha.rs (f := f) (by omega))
  refine z_goto C 32 dX2_secondPrice_23 (by decide) ?_
  exact z_iretP C dX2_secondPrice_32 rfl rfl
set_option maxRecDepth 100000 in
set_option maxHeartbeats 4000000 in
theorem c_X2_secondPrice_b (l : Launch) (g : zG) (q : Nat → Nat) (a : zS) (bs : Nat → Int × Nat) (wb pd gw : Nat → Nat → Int) (ha : zOk a) (f : Nat) (hf : f < zNf a) (c : Nat) (hc : c < zNb a) (c2 : Nat) (hc2 : c2 < zNb a) (hs : zHi a (zCo a f (zOw a c : Int)) (zNb a) = (c2 : Int)) : zM g l yX2_secondPrice wsX2_secondPrice { frames := 2, cells := 0, slots := 0, locals := 46 } [.ref (q 0), .int (nI f), .int (nI c)] (wB g q a (zG0 a) bs wb pd gw) (zPi (nI (zPr a c2)) (wB g q a (zG0 a) bs wb pd gw)) 0 0 := by
  refine zM.of (cc := cX2_secondPrice) (nL := 4) (ret := (some .int)) (lv := [(0, .ref (q 0)), (1, .int (nI f)), (2, .int (nI c))]) (by decide) rfl (Nat.le_of_ble_eq_true rfl) rfl ?_
  intro E C0 hi
  have C : zC g E cX2_secondPrice RX2 wsX2_secondPrice 4 (some .int) := C0
  obtain ⟨hnf, hnd, hnb, hou, hrs, hbd⟩ := id ha
  refine z_aload_n C dX2_secondPrice_0 0 rfl ?_
  refine z_iload_n C dX2_secondPrice_1 1 rfl ?_
  refine z_aload_n C dX2_secondPrice_2 0 rfl ?_
  refine z_get C inX2_secondPrice_X2 0 wB_o rfl 4 (by decide) (C.w 1 rfl) rfl dX2_secondPrice_3 ?_
  refine z_iload_n C dX2_secondPrice_6 2 rfl ?_
  refine z_ialdN C 3 wB_ow (by omega) (by decide) dX2_secondPrice_7 (v := nI (zOw a c)) rfl ?_
  have f_7b := (ha.ow (b := c) (by omega))
  refine z_callV C (c_X2_highestAlone l g q a bs wb pd gw ha f (by omega) ((zOw a c : Nat) : Int) (by omega)) (cwV 2 C.ts gX2_secondPrice_X2_highestAlone rfl rfl rfl (by decide +kernel) ⟨Nat.le_of_ble_eq_true rfl, Nat.le_of_ble_eq_true rfl⟩) wB_o rfl rfl rfl (Nat.le_of_ble_eq_true rfl) dX2_secondPrice_8 ⟨Nat.zero_le _, Nat.zero_le _⟩ (z_i ?_)
  refine zW.top (y := nI c2) (by rw [hs]; rfl) ?_
  refine z_istore_n C dX2_secondPrice_11 (by decide) [(3, .int (nI c2)), (0, .ref (q 0)), (1, .int (nI f)), (2, .int (nI c))] rfl ?_
  refine z_iload_n C dX2_secondPrice_12 0 rfl ?_
  refine z_iconst C (iZ (-1)) dX2_secondPrice_13 (by decide) ?_
  refine z_icmp_ne C 26 dX2_secondPrice_14 (by decide) (zeq_ZZ (x := ((c2 : Nat) : Int)) (y := (-1)) (by unfold zB31; omega) (by unfold zB31; omega)) (fun c_14 => ?_) (fun h9 => absurd h9 (by omega))
  refine z_aload_n C dX2_secondPrice_26 1 rfl ?_
  refine z_get C inX2_secondPrice_X2 0 wB_o rfl 6 (by decide) (C.w 3 rfl) rfl dX2_secondPrice_27 ?_
  refine z_iload_n C dX2_secondPrice_30 0 rfl ?_
  refine z_ialdN C 5 wB_pr (by omega) (by decide) dX2_secondPrice_31 (v := nI (zPr a c2)) rfl ?_
  have f_31b := (ha.pr (b := c2) (by omega))
  exact z_iretP C dX2_secondPrice_32 rfl rfl
end
section
/-- an answer and, of the world, a proposition -/
def zPie (x : Int32) (P : va_W → Prop) : Option Value → va_W → Prop := fun v w' => v = some (.int x) ∧ P w'
theorem z_ie {g : zG} {l : Launch} {R : Room} {E : zEnv} {Q : State → Prop} {nL cells slots : Nat} {lv : List (Nat × Value)} {rest : List Value} {pc : Nat} {x : Int32} {P : va_W → Prop} (kk : ∀ w', P w' → zW g l R E Q nL cells slots w' lv (.int x :: rest) pc) : ∀ v w', zPie x P v w' → zW g l R E Q nL (cells + 0) (slots + 0) w' lv (v.toList ++ rest) pc := by
  rintro _ w' ⟨rfl, h⟩; exact kk w' h
theorem z_iretE {g : zG} {l : Launch} {R : Room} {E : zEnv} {nL cells slots : Nat} {ws : va_W} {lv : List (Nat × Value)} {pc : Nat} {cc : ByteArray} {own : String} {Ts : List Cond} {P : va_W → Prop} (C : zC g E cc own Ts nL (some .int)) {v x : Int32} (d : decode cc pc = .ok (.ireturn, 1)) (hx : v = x) (hp : P ws) : zW g l R E (zMQ g E (zPie x P) cells slots) nL cells slots ws lv [.int v] pc := z_iret C d ⟨by rw [hx], hp⟩
theorem z_zretE {g : zG} {l : Launch} {R : Room} {E : zEnv} {nL cells slots : Nat} {ws : va_W} {lv : List (Nat × Value)} {pc : Nat} {cc : ByteArray} {own : String} {Ts : List Cond} {P : va_W → Prop} (C : zC g E cc own Ts nL (some .boolean)) {v : Int32} {b : Bool} (d : decode cc pc = .ok (.ireturn, 1)) (hx : v = bI b) (hp : P ws) : zW g l R E (zMQ g E (zPie (bI b) P) cells slots) nL cells slots ws lv [.int v] pc := by
  subst hx
  exact z_zret C (zbI_nar b) d ⟨rfl, hp⟩
/-- the class's world, its sale settled -/
def zFace (g : zG) (q : Nat → Nat) (a : zS) : va_W → Prop := fun w' => ∃ (bs : Nat → Int × Nat) (wb pd gw : Nat → Nat → Int), w' = wB g q a (zG0 a) bs wb pd gw ∧ zSet a bs wb pd gw 0 0
/-- what holds of every state between two calls -/
def zInv (a : zS) : Prop := zOk a ∧ ∀ b, zNb a ≤ b → zGo a b = 0
theorem zDfs_cong {a a' : zS} {n : Nat} (h : ∀ b, b < n → zBu a b = zBu a' b ∧ zOw a b = zOw a' b ∧ zCn a (zOu a) b = zCn a' (zOu a') b ∧ zGn a b = zGn a' b) : ∀ (k : Nat) (x : Int × Nat) (i tf tb : Nat) (gi : Int) (m : Nat), i + k ≤ n → zDfs a k x i tf tb gi m = zDfs a' k x i tf tb gi m := by
  intro k
  induction k with
  | zero => intros; rfl
  | succ k ih =>
    intro x i tf tb gi m hk
    obtain ⟨h1, h2, h3, h4⟩ := h i (by omega)
    rw [zDfs_s, zDfs_s]
    have e1 : zSw a k x i tf tb gi m = zSw a' k x i tf tb gi m := by
      unfold zSw zFitb
      rw [h1, h2, h3, h4]
      split
      · exact ih _ _ _ _ _ _ (by omega)
      · rfl
    rw [e1]
    exact ih _ _ _ _ _ _ (by omega)
theorem zSum_cong {f f' : Nat → Nat} : ∀ n, (∀ i, i < n → f i = f' i) → zSum f n = zSum f' n
  | 0, _ => rfl
  | n + 1, h => by
    unfold zSum
    rw [zSum_cong n (fun i hi => h i (by omega)), h n (by omega)]
theorem zSi_cong {f f' : Nat → Int} : ∀ n, (∀ i, i < n → f i = f' i) → zSi f n = zSi f' n
  | 0, _ => rfl
  | n + 1, h => by
    unfold zSi
    rw [zSi_cong n (fun i hi => h i (by omega)), h n (by omega)]
-- a field comes
theorem zRes_new (a : zS) (x m : Nat) (hm : m < 2 ^ zNf a) : zRes (zSetNf (zSetRs a (zNf a) x) (zNf a + 1)) m = zRes a m := by
  show zSum (fun f => if m.testBit f = true then va_up (zRs a) (zNf a) x f else 0) (zNf a + 1) = _
  unfold zSum
  rw [if_neg (by rw [Nat.testBit_lt_two_pow hm]; simp), Nat.add_zero]
  refine zSum_cong _ (fun i hi => ?_)
  rw [va_up_ne _ _ (by omega)]
theorem zGn_new {a : zS} (ha : zOk a) (x : Nat) {b : Nat} (hb : b < zNb a) : zGn (zSetNf (zSetRs a (zNf a) x) (zNf a + 1)) b = zGn a b := by
  show (zPr a b : Int) - (zRes _ (zBu a b) : Int) = _
  rw [zRes_new a x _ (ha.bu hb)]
  rfl
theorem zFw_new {a : zS} (ha : zOk a) (x ab : Nat) : zFw (zSetNf (zSetRs a (zNf a) x) (zNf a + 1)) ab = zFw a ab := by
  refine zDfs_cong (a := zSetNf (zSetRs a (zNf a) x) (zNf a + 1)) (a' := a) (n := zNb a) (fun b hb => ⟨rfl, rfl, ?_, zGn_new ha x hb⟩) _ _ _ _ _ _ _ (by show 0 + zNb a ≤ _; omega)
  unfold zCn
  rw [zGn_new ha x hb]
  rfl
theorem zG0_new {a : zS} (ha : zOk a) (x : Nat) : zG0 (zSetNf (zSetRs a (zNf a) x) (zNf a + 1)) = zG0 a := by
  funext k
  unfold zG0
  show (if k < zNb a then _ else _) = _
  split
  · next h => exact zGn_new ha x h
  · rfl
theorem zLw_cong {a a' : zS} {m e : Nat} : ∀ n, (∀ b, b < n → zOw a b = zOw a' b) → zLw a m n e = zLw a' m n e
  | 0, _ => rfl
  | n + 1, h => by
    unfold zLw
    rw [zLw_cong n (fun b hb => h b (by omega)), h n (by omega)]
theorem zGw_new {a : zS} (ha : zOk a) (x ab d : Nat) : zGw (zSetNf (zSetRs a (zNf a) x) (zNf a + 1)) ab d = zGw a ab d := by
  unfold zGw
  rw [zFw_new ha]
  rfl
theorem zLp_new {a : zS} (ha : zOk a) (x ab e : Nat) : ∀ n, n ≤ zNb a → zLp (zSetNf (zSetRs a (zNf a) x) (zNf a + 1)) ab n e = zLp a ab n e
  | 0, _ => rfl
  | n + 1, h => by
    unfold zLp
    rw [zLp_new ha x ab e n (by omega), zFw_new ha, zGw_new ha, zGn_new ha x (by omega)]
    show (if _ ∧ zOw a n = e then (zRes _ (zBu a n) : Int) + _ - _ else _) = _
    rw [zRes_new a x _ (ha.bu (by omega))]
    rfl
theorem zSet_new {a : zS} (ha : zOk a) (x : Nat) {bs : Nat → Int × Nat} {wb pd gw : Nat → Nat → Int} {z ab : Nat} (h : zSet a bs wb pd gw z ab) : zSet (zSetNf (zSetRs a (zNf a) x) (zNf a + 1)) bs wb pd gw z ab := by
  refine ⟨by rw [zFw_new ha]; exact h.1, fun d hd => ?_⟩
  obtain ⟨h1, h2, h3⟩ := h.2 d hd
  rw [zFw_new ha, zGw_new ha]
  refine ⟨?_, ?_, h3⟩
  · rw [h1]; exact (zLw_cong (a := zSetNf (zSetRs a (zNf a) x) (zNf a + 1)) (a' := a) _ (fun _ _ => rfl)).symm
  · rw [h2]; exact (zLp_new ha x ab d _ (Nat.le_refl _)).symm
theorem zInv_new {a : zS} (h : zInv a) {x : Nat} (hx : x ≤ 99) (hf : zNf a < 8) : zInv (zSetNf (zSetRs a (zNf a) x) (zNf a + 1)) := by
  obtain ⟨⟨h1, h2, h3, h4, h5, h6⟩, h7⟩ := h
  refine ⟨⟨by show zNf a + 1 ≤ 8; omega, h2, h3, h4, fun f hf9 => ?_, fun b hb => ?_⟩, h7⟩
  · have hf9 : f < zNf a + 1 := hf9
    show va_up (zRs a) (zNf a) x f ≤ 99
    by_cases e : f = zNf a
    · rw [e, va_up_self]; exact hx
    · rw [va_up_ne _ _ e]; exact h5 f (by omega)
  · obtain ⟨g1, g2, g3, g4⟩ := h6 b hb
    exact ⟨g1, g2, by show zBu a b < 2 ^ (zNf a + 1); rw [Nat.pow_succ]; omega, g4⟩
theorem zInv_setRs {a : zS} (h : zInv a) {f x : Nat} (hx : x ≤ 99) : zInv (zSetRs a f x) := by
  obtain ⟨⟨h1, h2, h3, h4, h5, h6⟩, h7⟩ := h
  refine ⟨⟨h1, h2, h3, h4, fun i hi => ?_, h6⟩, h7⟩
  show va_up (zRs a) f x i ≤ 99
  by_cases e : i = f
  · rw [e, va_up_self]; exact hx
  · rw [va_up_ne _ _ e]; exact h5 i hi
theorem zInv_setPr {a : zS} (h : zInv a) {b x : Nat} (hx : x ≤ 999) : zInv (zSetPr a b x) := by
  obtain ⟨⟨h1, h2, h3, h4, h5, h6⟩, h7⟩ := h
  refine ⟨⟨h1, h2, h3, h4, h5, fun i hi => ?_⟩, h7⟩
  obtain ⟨g1, g2, g3, g4, g5, g6⟩ := h6 i hi
  refine ⟨g1, g2, g3, ?_, g5, g6⟩
  show va_up (zPr a) b x i ≤ 999
  by_cases e : i = b
  · rw [e, va_up_self]; exact hx
  · rw [va_up_ne _ _ e]; exact g4
theorem zInv_setWo {a : zS} (h : zInv a) {b x : Nat} (hx : x ≤ 999) : zInv (zSetWo a b x) := by
  obtain ⟨⟨h1, h2, h3, h4, h5, h6⟩, h7⟩ := h
  refine ⟨⟨h1, h2, h3, h4, h5, fun i hi => ?_⟩, h7⟩
  obtain ⟨g1, g2, g3, g4, g5, g6⟩ := h6 i hi
  refine ⟨g1, g2, g3, g4, ?_, g6⟩
  show va_up (zWo a) b x i ≤ 999
  by_cases e : i = b
  · rw [e, va_up_self]; exact hx
  · rw [va_up_ne _ _ e]; exact g5
theorem zInv_setGo {a : zS} (h : zInv a) {b : Nat} (hb : b < zNb a) : zInv (zSetGo a b 1) := by
  obtain ⟨⟨h1, h2, h3, h4, h5, h6⟩, h7⟩ := h
  refine ⟨⟨h1, h2, h3, h4, h5, fun i hi => ?_⟩, fun i hi => ?_⟩
  · obtain ⟨g1, g2, g3, g4, g5, g6⟩ := h6 i hi
    refine ⟨g1, g2, g3, g4, g5, ?_⟩
    show va_up (zGo a) b 1 i ≤ 1
    by_cases e : i = b
    · rw [e, va_up_self]; exact Nat.le_refl 1
    · rw [va_up_ne _ _ e]; exact g6
  · have hi : zNb a ≤ i := hi
    show va_up (zGo a) b 1 i = 0
    rw [va_up_ne _ _ (by omega)]
    exact h7 i hi
theorem zInv_join {a : zS} (h : zInv a) (hd : zNd a < 5) : zInv (zSetNd a (zNd a + 1)) := by
  obtain ⟨⟨h1, h2, h3, h4, h5, h6⟩, h7⟩ := h
  refine ⟨⟨h1, by show zNd a + 1 ≤ 5; omega, h3, by show zOu a < 2 ^ (zNd a + 1); rw [Nat.pow_succ]; omega, h5, fun i hi => ?_⟩, h7⟩
  obtain ⟨g1, g2⟩ := h6 i hi
  exact ⟨by show zOw a i < zNd a + 1; omega, g2⟩
/-- the set of those who are out, behind setIn -/
def zOuIn (o d : Nat) (v : Bool) : Nat := if v = true then (if o.testBit d = true then o - 2 ^ d else o) else o ||| 2 ^ d
theorem zOuIn_all : ∀ n, n < 6 → ∀ o, o < 2 ^ n → ∀ d, d < n → ∀ v : Bool, zOuIn o d v < 2 ^ n ∧ ∀ k, k < n → (zOuIn o d v).testBit k = (if k = d then !v else o.testBit k) := by decide +kernel
theorem zInv_setOu {a : zS} (h : zInv a) {d : Nat} (hd : d < zNd a) (v : Bool) : zInv (zSetOu a (zOuIn (zOu a) d v)) := by
  obtain ⟨⟨h1, h2, h3, h4, h5, h6⟩, h7⟩ := h
  exact ⟨⟨h1, h2, h3, (zOuIn_all _ (by omega) _ h4 d hd v).1, h5, h6⟩, h7⟩
theorem zup_B (f : Nat → Bool) (k : Nat) (x : Bool) : upd (fun j => bI (f j)) k (bI x) = fun j => bI (va_up f k x j) := by
  funext j
  simp only [upd, va_up]
  split <;> rfl
theorem zIn_setOu {a : zS} (ha : zOk a) {d : Nat} (hd : d < zNd a) (v : Bool) : va_up (zIn a) d v = zIn (zSetOu a (zOuIn (zOu a) d v)) := by
  funext k
  have h9 := (zOuIn_all _ (by have := ha.2.1; omega) _ ha.2.2.2.1 d hd v).2
  show _ = (decide (k < zNd a) && !((zOuIn (zOu a) d v).testBit k))
  by_cases hk : k < zNd a
  · rw [h9 k hk]
    by_cases e : k = d
    · subst e; rw [va_up_self, if_pos rfl]; simp [hk]
    · rw [va_up_ne _ _ e, if_neg e]; rfl
  · rw [va_up_ne _ _ (by omega)]
    unfold zIn
    simp [hk]
theorem zIn_join {a : zS} (ha : zOk a) : va_up (zIn a) (zNd a) true = zIn (zSetNd a (zNd a + 1)) := by
  funext k
  show _ = (decide (k < zNd a + 1) && !((zOu a).testBit k))
  by_cases e : k = zNd a
  · subst e
    rw [va_up_self, Nat.testBit_lt_two_pow ha.2.2.2.1]
    simp
  · rw [va_up_ne _ _ e]
    unfold zIn
    congr 1
    simp only [decide_eq_decide]
    omega
/-- a bid comes -/
def zBid (a : zS) (d m x : Nat) : zS := zSetNb (zSetPr (zSetWo (zSetBu (zSetOw a (zNb a) d) (zNb a) m) (zNb a) x) (zNb a) x) (zNb a + 1)
theorem zOk_at {a : zS} (h : zOk a) (o b p w : Nat) : zOk (zSetPr (zSetWo (zSetBu (zSetOw a (zNb a) o) (zNb a) b) (zNb a) w) (zNb a) p) ∧ zOk (zSetWo (zSetBu (zSetOw a (zNb a) o) (zNb a) b) (zNb a) w) := by
  obtain ⟨h1, h2, h3, h4, h5, h6⟩ := h
  refine ⟨⟨h1, h2, h3, h4, h5, fun i hi => ?_⟩, ⟨h1, h2, h3, h4, h5, fun i hi => ?_⟩⟩
  · have hi : i < zNb a := hi
    obtain ⟨g1, g2, g3, g4, g5, g6⟩ := h6 i hi
    refine ⟨?_, ?_, ?_, ?_, ?_, g6⟩
    · show va_up (zOw a) (zNb a) o i < _; rw [va_up_ne _ _ (by omega)]; exact g1
    · show 0 < va_up (zBu a) (zNb a) b i; rw [va_up_ne _ _ (by omega)]; exact g2
    · show va_up (zBu a) (zNb a) b i < _; rw [va_up_ne _ _ (by omega)]; exact g3
    · show va_up (zPr a) (zNb a) p i ≤ _; rw [va_up_ne _ _ (by omega)]; exact g4
    · show va_up (zWo a) (zNb a) w i ≤ _; rw [va_up_ne _ _ (by omega)]; exact g5
  · have hi : i < zNb a := hi
    obtain ⟨g1, g2, g3, g4, g5, g6⟩ := h6 i hi
    refine ⟨?_, ?_, ?_, g4, ?_, g6⟩
    · show va_up (zOw a) (zNb a) o i < _; rw [va_up_ne _ _ (by omega)]; exact g1
    · show 0 < va_up (zBu a) (zNb a) b i; rw [va_up_ne _ _ (by omega)]; exact g2
    · show va_up (zBu a) (zNb a) b i < _; rw [va_up_ne _ _ (by omega)]; exact g3
    · show va_up (zWo a) (zNb a) w i ≤ _; rw [va_up_ne _ _ (by omega)]; exact g5
theorem zInv_bid {a : zS} (h : zInv a) {d m x : Nat} (hd : d < zNd a) (hm0 : 0 < m) (hm : m < 2 ^ zNf a) (hx : x ≤ 999) (hb : zNb a < 12) : zInv (zBid a d m x) := by
  obtain ⟨⟨h1, h2, h3, h4, h5, h6⟩, h7⟩ := h
  refine ⟨⟨h1, h2, by show zNb a + 1 ≤ 12; omega, h4, h5, fun i hi => ?_⟩, fun i hi => h7 i (by have : zNb a + 1 ≤ i := hi; omega)⟩
  have hi : i < zNb a + 1 := hi
  by_cases e : i = zNb a
  · subst e
    refine ⟨?_, ?_, ?_, ?_, ?_, ?_⟩
    · show va_up (zOw a) (zNb a) d (zNb a) < _; rw [va_up_self]; exact hd
    · show 0 < va_up (zBu a) (zNb a) m (zNb a); rw [va_up_self]; exact hm0
    · show va_up (zBu a) (zNb a) m (zNb a) < _; rw [va_up_self]; exact hm
    · show va_up (zPr a) (zNb a) x (zNb a) ≤ _; rw [va_up_self]; exact hx
    · show va_up (zWo a) (zNb a) x (zNb a) ≤ _; rw [va_up_self]; exact hx
    · show zGo a (zNb a) ≤ 1; rw [h7 _ (Nat.le_refl _)]; exact Nat.zero_le _
  · obtain ⟨g1, g2, g3, g4, g5, g6⟩ := h6 i (by omega)
    refine ⟨?_, ?_, ?_, ?_, ?_, g6⟩
    · show va_up (zOw a) (zNb a) d i < _; rw [va_up_ne _ _ e]; exact g1
    · show 0 < va_up (zBu a) (zNb a) m i; rw [va_up_ne _ _ e]; exact g2
    · show va_up (zBu a) (zNb a) m i < _; rw [va_up_ne _ _ e]; exact g3
    · show va_up (zPr a) (zNb a) x i ≤ _; rw [va_up_ne _ _ e]; exact g4
    · show va_up (zWo a) (zNb a) x i ≤ _; rw [va_up_ne _ _ e]; exact g5
theorem zG0_bid (a : zS) (d m x : Nat) : va_up (zG0 a) (zNb a) ((x : Int) - (zRes a m : Int)) = zG0 (zBid a d m x) := by
  funext k
  unfold zG0
  show _ = if k < zNb a + 1 then ((va_up (zPr a) (zNb a) x k : Nat) : Int) - (zRes a (va_up (zBu a) (zNb a) m k) : Int) else 0
  by_cases e : k = zNb a
  · subst e
    rw [va_up_self, va_up_self, va_up_self, if_pos (by omega)]
  · rw [va_up_ne _ _ e, va_up_ne _ _ e, va_up_ne _ _ e]
    by_cases h : k < zNb a
    · rw [if_pos h, if_pos (by omega)]; rfl
    · rw [if_neg h, if_neg (by omega)]
section WBJ
variable {g : zG} {q : Nat → Nat} {a : zS} {G : Nat → Int} {bs : Nat → Int × Nat} {wb pd gw : Nat → Nat → Int}
theorem wB_setIn (ha : zOk a) {d : Nat} (hd : d < zNd a) (v : Bool) : (wB g q a G bs wb pd gw).set 2 (q 2, .inl (zZ g, 5, .inl (upd (fun k => bI (zIn a k)) d (bI v)))) = wB g q (zSetOu a (zOuIn (zOu a) d v)) G bs wb pd gw := by
  rw [zup_B, zIn_setOu ha hd]; rfl
theorem wB_join1 : (wB g q a G bs wb pd gw).set 2 (q 2, .inl (zZ g, 5, .inl (upd (fun k => bI (zIn a k)) (zNd a) (bI true)))) = (wB g q a G bs wb pd gw).set 2 (q 2, .inl (zZ g, 5, .inl (fun k => bI (va_up (zIn a) (zNd a) true k)))) := by
  rw [zup_B]
theorem wB_join2 (ha : zOk a) : ((wB g q a G bs wb pd gw).set 2 (q 2, .inl (zZ g, 5, .inl (fun k => bI (va_up (zIn a) (zNd a) true k))))).set 0 (q 0, .inr (2, [Value.ref (q 1), .int (nI (zNf a)), .ref (q 2), .int (nI (zNd a)), .ref (q 3), .ref (q 4), .ref (q 5), .ref (q 6), .ref (q 7), .ref (q 8), .int (nI (zNb a)), .ref (q 12), .ref (q 13), .ref (q 11)].set 3 (.int (nI (zNd a + 1))))) = wB g q (zSetNd a (zNd a + 1)) G bs wb pd gw := by
  rw [zIn_join ha]; rfl
end WBJ
theorem inX2_field_X2 : ∀ w ∈ wsX20, w ∈ wsX2_field := fun w h => List.mem_cons_of_mem _ (List.mem_append_left _ (List.mem_append_left _ (List.mem_append_right _ (h))))
set_option maxRecDepth 100000 in
set_option maxHeartbeats 4000000 in
theorem c_X2_field (l : Launch) (g : zG) (q : Nat → Nat) (a : zS) (bs : Nat → Int × Nat) (wb pd gw : Nat → Nat → Int) (ha : zInv a) (hs : zSet a bs wb pd gw 0 0) (x : Nat) (hx : x ≤ 99) (hf : zNf a < 8) : zM g l yX2_field wsX2_field { frames := 1, cells := 0, slots := 0, locals := 20 } [.ref (q 0), .int (nI x)] (wB g q a (zG0 a) bs wb pd gw) (zPie (nI (zNf a)) (zFace g q (zSetNf (zSetRs a (zNf a) x) (zNf a + 1)))) 0 0 := by
  refine zM.of (cc := cX2_field) (nL := 3) (ret := (some .int)) (lv := [(0, .ref (q 0)), (1, .int (nI x))]) (by decide) rfl (Nat.le_of_ble_eq_true rfl) rfl ?_
  intro E C0 hi
  have C : zC g E cX2_field RX2 wsX2_field 3 (some .int) := C0
  have hi9 := ha
  have ha := hi9.1
  obtain ⟨hnf, hnd, hnb, hou, hrs, hbd⟩ := id ha
  refine z_iload_n C dX2_field_0 1 rfl ?_
  refine z_callS C (c_X2_requireReserve l g (wB g q a (zG0 a) bs wb pd gw) x (by omega)) (va_cwS 1 C.ts gX2_field_X2_requireReserve rfl rfl rfl (by decide +kernel) ⟨Nat.le_of_ble_eq_true rfl, Nat.le_of_ble_eq_true rfl⟩) rfl rfl (Nat.le_of_ble_eq_true rfl) dX2_field_1 ⟨Nat.zero_le _, Nat.zero_le _⟩ (z_v ?_)
  refine z_aload_n C dX2_field_4 0 rfl ?_
  refine z_get C inX2_field_X2 0 wB_o rfl 1 (by decide) (C.w 3 rfl) rfl dX2_field_5 ?_
  refine z_bipush C (nI 8) dX2_field_8 (by decide) ?_
  refine z_icmp_lt C 23 dX2_field_10 (by decide) (zlt_NN (by omega) (by omega)) (fun c_10 => ?_) (fun h9 => absurd (by omega) h9)
  refine z_aload_n C dX2_field_23 0 rfl ?_
  refine z_get C inX2_field_X2 0 wB_o rfl 1 (by decide) (C.w 3 rfl) rfl dX2_field_24 ?_
  refine z_istore_n C dX2_field_27 (by decide) [(2, .int (nI (zNf a))), (0, .ref (q 0)), (1, .int (nI x))] rfl ?_
  refine z_aload_n C dX2_field_28 1 rfl ?_
  refine z_get C inX2_field_X2 0 wB_o rfl 0 (by decide) (C.w 4 rfl) rfl dX2_field_29 ?_
  refine z_iload_n C dX2_field_32 0 rfl ?_
  refine z_iload_n C dX2_field_33 2 rfl ?_
  refine z_iastN C 1 wB_rs (by omega) (by decide) dX2_field_34 (wB_set_rs (zNf a) x) ?_
  refine z_aload_n C dX2_field_35 1 rfl ?_
  refine z_dup C dX2_field_36 rfl ?_
  refine z_get C inX2_field_X2 0 wB_o rfl 1 (by decide) (C.w 3 rfl) rfl dX2_field_37 ?_
  refine z_iconst C (nI 1) dX2_field_40 (by decide) ?_
  refine z_iadd C dX2_field_41 (v := nI ((zNf (zSetRs a (zNf a) x)) + 1)) (nI_add (zNf (zSetRs a (zNf a) x)) 1) ?_
  refine z_put C inX2_field_X2 tyX2_ok nmX2 0 wB_o rfl 1 (by decide) (C.w 3 rfl) rfl (tyX2_ok 1 (by decide)) rfl rfl (Nat.le_of_ble_eq_true rfl) dX2_field_42 (wB_set_nf _) ?_
  refine z_iload_n C dX2_field_45 0 rfl ?_
  exact z_iretE C dX2_field_46 rfl ⟨bs, wb, pd, gw, by rw [zG0_new ha]; rfl, zSet_new ha x hs⟩
theorem zGi_up (a : zS) (f x i : Nat) : va_up (fun k => if k < i then zGn (zSetRs a f x) k else zG0 a k) i ((zPr (zSetRs a f x) i : Int) - (zRes (zSetRs a f x) (zBu (zSetRs a f x) i) : Int)) = (fun k => if k < (i + 1) then zGn (zSetRs a f x) k else zG0 a k) := by
  funext k
  by_cases e : k = i
  · subst e
    rw [va_up_self]
    simp [zGn]
  · rw [va_up_ne _ _ e]
    show (if k < i then _ else _) = if k < i + 1 then _ else _
    by_cases h : k < i
    · rw [if_pos h, if_pos (by omega)]
    · rw [if_neg h, if_neg (by omega)]
theorem zGi_end (a : zS) (f x : Nat) : (fun k => if k < zNb a then zGn (zSetRs a f x) k else zG0 a k) = zG0 (zSetRs a f x) := by
  funext k
  show (if k < zNb a then _ else _) = if k < zNb a then _ else _
  by_cases h : k < zNb a
  · rw [if_pos h, if_pos h]
  · rw [if_neg h, if_neg h]
    unfold zG0
    rw [if_neg h]
theorem zSetPr_id (a : zS) (b : Nat) : zSetPr a b (zPr a b) = a := by
  unfold zSetPr
  rw [zup_id]
  rfl
theorem inX2_setReserve_X2 : ∀ w ∈ wsX20, w ∈ wsX2_setReserve := fun w h => List.mem_cons_of_mem _ (List.mem_append_left _ (List.mem_append_left _ (List.mem_append_left _ (List.mem_append_left _ (List.mem_append_right _ (h))))))
set_option maxRecDepth 100000 in
set_option maxHeartbeats 4000000 in
theorem c_X2_setReserve (l : Launch) (g : zG) (q : Nat → Nat) (a : zS) (bs : Nat → Int × Nat) (wb pd gw : Nat → Nat → Int) (ha : zInv a) (hs : zSet a bs wb pd gw 0 0) (f x : Nat) (hf : f < zNf a) (hx : x ≤ 99) : zM g l yX2_setReserve wsX2_setReserve { frames := 30, cells := 0, slots := 0, locals := 798 } [.ref (q 0), .int (nI f), .int (nI x)] (wB g q a (zG0 a) bs wb pd gw) (zPie (nI (zRs a f)) (zFace g q (zSetRs a f x))) 0 0 := by
  refine zM.of (cc := cX2_setReserve) (nL := 5) (ret := (some .int)) (lv := [(0, .ref (q 0)), (1, .int (nI f)), (2, .int (nI x))]) (by decide) rfl (Nat.le_of_ble_eq_true rfl) rfl ?_
  intro E C0 hi
  have C : zC g E cX2_setReserve RX2 wsX2_setReserve 5 (some .int) := C0
  have hi9 := ha
  have ha := hi9.1
  obtain ⟨hnf, hnd, hnb, hou, hrs, hbd⟩ := id ha
  have h1 := zInv_setRs (f := f) hi9 hx
  have hnb1 : zNb (zSetRs a f x) = zNb a := rfl
  refine z_aload_n C dX2_setReserve_0 0 rfl ?_
  refine z_iload_n C dX2_setReserve_1 1 rfl ?_
  refine z_callV C (c_X2_requireField l g q a bs wb pd gw ha f (by omega)) (cwV 1 C.ts gX2_setReserve_X2_requireField rfl rfl rfl (by decide +kernel) ⟨Nat.le_of_ble_eq_true rfl, Nat.le_of_ble_eq_true rfl⟩) wB_o rfl rfl rfl (Nat.le_of_ble_eq_true rfl) dX2_setReserve_2 ⟨Nat.zero_le _, Nat.zero_le _⟩ (z_v ?_)
  refine z_iload_n C dX2_setReserve_5 2 rfl ?_
  refine z_callS C (c_X2_requireReserve l g (wB g q a (zG0 a) bs wb pd gw) x (by omega)) (va_cwS 1 C.ts gX2_setReserve_X2_requireReserve rfl rfl rfl (by decide +kernel) ⟨Nat.le_of_ble_eq_true rfl, Nat.le_of_ble_eq_true rfl⟩) rfl rfl (Nat.le_of_ble_eq_true rfl) dX2_setReserve_6 ⟨Nat.zero_le _, Nat.zero_le _⟩ (z_v ?_)
  refine z_aload_n C dX2_setReserve_9 0 rfl ?_
  refine z_get C inX2_setReserve_X2 0 wB_o rfl 0 (by decide) (C.w 1 rfl) rfl dX2_setReserve_10 ?_
  refine z_iload_n C dX2_setReserve_13 1 rfl ?_
  refine z_ialdN C 1 wB_rs (by omega) (by decide) dX2_setReserve_14 (v := nI (zRs a f)) rfl ?_
  have f_14b := (ha.rs (f := f) (by omega))
  refine z_istore_n C dX2_setReserve_15 (by decide) [(3, .int (nI (zRs a f))), (0, .ref (q 0)), (1, .int (nI f)), (2, .int (nI x))] rfl ?_
  refine z_aload_n C dX2_setReserve_16 1 rfl ?_
  refine z_get C inX2_setReserve_X2 0 wB_o rfl 0 (by decide) (C.w 1 rfl) rfl dX2_setReserve_17 ?_
  refine z_iload_n C dX2_setReserve_20 2 rfl ?_
  refine z_iload_n C dX2_setReserve_21 3 rfl ?_
  refine z_iastN C 1 wB_rs (by omega) (by decide) dX2_setReserve_22 (wB_set_rs f x) ?_
  refine z_iconst C (nI 0) dX2_setReserve_23 (by decide) ?_
  refine z_istore C dX2_setReserve_24 (by decide) [(4, .int (nI 0)), (3, .int (nI (zRs a f))), (0, .ref (q 0)), (1, .int (nI f)), (2, .int (nI x))] rfl ?_
  rw [show zG0 a = (fun k => if k < 0 then zGn (zSetRs a f x) k else zG0 a k) from by funext k; simp]
  refine zW.pick (lv' := [(0, .ref (q 0)), (1, .int (nI f)), (2, .int (nI x)), (3, .int (nI (zRs a f))), (4, .int (nI 0))]) [2, 3, 4, 1, 0] rfl ?_
  have hlp26 : ∀ (k i : Nat), i + k = zNb a → zW g l ({ frames := 30, cells := 0, slots := 0, locals := 798 }) E (zMQ g E (zPie (nI (zRs a f)) (zFace g q (zSetRs a f x))) 0 0) 5 0 0 (wB g q (zSetRs a f x) (fun k => if k < i then zGn (zSetRs a f x) k else zG0 a k) bs wb pd gw) [(0, .ref (q 0)), (1, .int (nI f)), (2, .int (nI x)), (3, .int (nI (zRs a f))), (4, .int (nI i))] [] 26 := by
    intro k
    induction k with
    | zero =>
      intro i hik
      refine z_iload C dX2_setReserve_26 4 rfl ?_
      refine z_aload_n C dX2_setReserve_28 0 rfl ?_
      refine z_get C inX2_setReserve_X2 0 wB_o rfl 10 (by decide) (C.w 2 rfl) rfl dX2_setReserve_29 ?_
      refine z_icmp_ge C 54 dX2_setReserve_32 (by decide) (zle_NN (by omega) (by omega)) (fun c_32 => ?_) (fun h9 => absurd (by omega) h9)
      rw [show i = zNb a by omega, zGi_end]
      refine z_aload_n C dX2_setReserve_54 0 rfl ?_
      refine z_aload_n C dX2_setReserve_55 0 rfl ?_
      refine z_get C inX2_setReserve_X2 0 wB_o rfl 11 (by decide) (C.w 4 rfl) rfl dX2_setReserve_56 ?_
      refine z_iconst C (nI 0) dX2_setReserve_59 (by decide) ?_
      refine z_callV C (c_X2_settle l g q (zSetRs a f x) bs wb pd gw 0 h1.1 (by decide) 0) (cwV 2 C.ts gX2_setReserve_X2_settle rfl rfl rfl (by decide +kernel) ⟨Nat.le_of_ble_eq_true rfl, Nat.le_of_ble_eq_true rfl⟩) wB_o rfl rfl rfl (Nat.le_of_ble_eq_true rfl) dX2_setReserve_60 ⟨Nat.zero_le _, Nat.zero_le _⟩ (z_e ?_)
      rintro _ ⟨bs2, wb2, pd2, gw2, rfl, hs2, hk2⟩
      refine z_iload_n C dX2_setReserve_63 3 rfl ?_
      exact z_iretE C dX2_setReserve_64 rfl ⟨_, _, _, _, rfl, hs2⟩
    | succ k ih26 =>
      intro i hik
      have hpp := zSetPr_id (zSetRs a f x) i
      refine z_iload C dX2_setReserve_26 4 rfl ?_
      refine z_aload_n C dX2_setReserve_28 0 rfl ?_
      refine z_get C inX2_setReserve_X2 0 wB_o rfl 10 (by decide) (C.w 2 rfl) rfl dX2_setReserve_29 ?_
      refine z_icmp_ge C 54 dX2_setReserve_32 (by decide) (zle_NN (by omega) (by omega)) (fun h9 => absurd h9 (by omega)) (fun c_32 => ?_)
      refine z_aload_n C dX2_setReserve_35 0 rfl ?_
      refine z_iload C dX2_setReserve_36 4 rfl ?_
      refine z_aload_n C dX2_setReserve_38 0 rfl ?_
      refine z_get C inX2_setReserve_X2 0 wB_o rfl 6 (by decide) (C.w 3 rfl) rfl dX2_setReserve_39 ?_
      refine z_iload C dX2_setReserve_42 4 rfl ?_
      refine z_ialdN C 5 wB_pr (by omega) (by decide) dX2_setReserve_44 (v := nI (zPr (zSetRs a f x) i)) rfl ?_
      have f_44b := (h1.1.pr (b := i) (by omega))
      refine z_callV C (c_X2_putPrice l g q (zSetRs a f x) bs wb pd gw (fun k => if k < i then zGn (zSetRs a f x) k else zG0 a k) h1.1 i (zPr (zSetRs a f x) i) (by omega) (by rw [hpp]; exact h1.1)) (cwV 2 C.ts gX2_setReserve_X2_putPrice rfl rfl rfl (by decide +kernel) ⟨Nat.le_of_ble_eq_true rfl, Nat.le_of_ble_eq_true rfl⟩) wB_o rfl rfl rfl (Nat.le_of_ble_eq_true rfl) dX2_setReserve_45 ⟨Nat.zero_le _, Nat.zero_le _⟩ (z_v ?_)
      rw [hpp, show va_up (fun k => if k < i then zGn (zSetRs a f x) k else zG0 a k) i ((zPr (zSetRs a f x) i : Int) - (zRes (zSetRs a f x) (zBu (zSetRs a f x) i) : Int)) = (fun k => if k < (i + 1) then zGn (zSetRs a f x) k else zG0 a k) from zGi_up a f x i]
      refine z_iinc C dX2_setReserve_48 4 (nI (i + 1)) rfl (nI_add i 1) (by decide) [(4, .int (nI (i + 1))), (0, .ref (q 0)), (1, .int (nI f)), (2, .int (nI x)), (3, .int (nI (zRs a f)))] rfl ?_
      refine z_goto C 26 dX2_setReserve_51 (by decide) ?_
      refine zW.pick (lv' := [(0, .ref (q 0)), (1, .int (nI f)), (2, .int (nI x)), (3, .int (nI (zRs a f))), (4, .int (nI (i + 1)))]) [1, 2, 3, 4, 0] rfl ?_
      exact ih26 (i + 1) (by omega)
  exact hlp26 (zNb a) 0 (by omega)
theorem inX2_join_X2 : ∀ w ∈ wsX20, w ∈ wsX2_join := fun w h => List.mem_cons_of_mem _ (List.mem_append_left _ (List.mem_append_left _ (List.mem_append_left _ (List.mem_append_right _ (h)))))
set_option maxRecDepth 100000 in
set_option maxHeartbeats 4000000 in
theorem c_X2_join (l : Launch) (g : zG) (q : Nat → Nat) (a : zS) (bs : Nat → Int × Nat) (wb pd gw : Nat → Nat → Int) (ha : zInv a) (hs : zSet a bs wb pd gw 0 0) (hd : zNd a < 5) : zM g l yX2_join wsX2_join { frames := 30, cells := 0, slots := 0, locals := 798 } [.ref (q 0)] (wB g q a (zG0 a) bs wb pd gw) (zPie (nI (zNd a)) (zFace g q (zSetNd a (zNd a + 1)))) 0 0 := by
  refine zM.of (cc := cX2_join) (nL := 2) (ret := (some .int)) (lv := [(0, .ref (q 0))]) (by decide) rfl (Nat.le_of_ble_eq_true rfl) rfl ?_
  intro E C0 hi
  have C : zC g E cX2_join RX2 wsX2_join 2 (some .int) := C0
  have hi9 := ha
  have ha := hi9.1
  obtain ⟨hnf, hnd, hnb, hou, hrs, hbd⟩ := id ha
  have h1 := zInv_join hi9 hd
  refine z_aload_n C dX2_join_0 0 rfl ?_
  refine z_get C inX2_join_X2 0 wB_o rfl 3 (by decide) (C.w 3 rfl) rfl dX2_join_1 ?_
  refine z_iconst C (nI 5) dX2_join_4 (by decide) ?_
  refine z_icmp_lt C 18 dX2_join_5 (by decide) (zlt_NN (by omega) (by omega)) (fun c_5 => ?_) (fun h9 => absurd (by omega) h9)
  refine z_aload_n C dX2_join_18 0 rfl ?_
  refine z_get C inX2_join_X2 0 wB_o rfl 3 (by decide) (C.w 3 rfl) rfl dX2_join_19 ?_
  refine z_istore_n C dX2_join_22 (by decide) [(1, .int (nI (zNd a))), (0, .ref (q 0))] rfl ?_
  refine z_aload_n C dX2_join_23 1 rfl ?_
  refine z_get C inX2_join_X2 0 wB_o rfl 2 (by decide) (C.w 4 rfl) rfl dX2_join_24 ?_
  refine z_iload_n C dX2_join_27 0 rfl ?_
  refine z_iconst C (nI 1) dX2_join_28 (by decide) ?_
  refine z_zastN C 2 wB_in (by omega) (by decide) (y := bI true) (by decide) dX2_join_29 wB_join1 ?_
  refine z_aload_n C dX2_join_30 1 rfl ?_
  refine z_dup C dX2_join_31 rfl ?_
  refine z_get C inX2_join_X2 0 rfl rfl 3 (by decide) (C.w 3 rfl) rfl dX2_join_32 ?_
  refine z_iconst C (nI 1) dX2_join_35 (by decide) ?_
  refine z_iadd C dX2_join_36 (v := nI ((zNd a) + 1)) (nI_add (zNd a) 1) ?_
  refine z_put C inX2_join_X2 tyX2_ok nmX2 0 rfl rfl 3 (by decide) (C.w 3 rfl) rfl (tyX2_ok 3 (by decide)) rfl rfl (Nat.le_of_ble_eq_true rfl) dX2_join_37 (wB_join2 ha) ?_
  refine z_aload_n C dX2_join_40 1 rfl ?_
  refine z_aload_n C dX2_join_41 1 rfl ?_
  refine z_get C inX2_join_X2 0 wB_o rfl 11 (by decide) (C.w 5 rfl) rfl dX2_join_42 ?_
  refine z_iconst C (nI 0) dX2_join_45 (by decide) ?_
  refine z_callV C (c_X2_settle l g q (zSetNd a (zNd a + 1)) bs wb pd gw 0 h1.1 (by decide) 0) (cwV 2 C.ts gX2_join_X2_settle rfl rfl rfl (by decide +kernel) ⟨Nat.le_of_ble_eq_true rfl, Nat.le_of_ble_eq_true rfl⟩) wB_o rfl rfl rfl (Nat.le_of_ble_eq_true rfl) dX2_join_46 ⟨Nat.zero_le _, Nat.zero_le _⟩ (z_e ?_)
  rintro _ ⟨bs2, wb2, pd2, gw2, rfl, hs2, hk2⟩
  refine z_iload_n C dX2_join_49 0 rfl ?_
  exact z_iretE C dX2_join_50 rfl ⟨_, _, _, _, rfl, hs2⟩
theorem inX2_setIn_X2 : ∀ w ∈ wsX20, w ∈ wsX2_setIn := fun w h => List.mem_cons_of_mem _ (List.mem_append_left _ (List.mem_append_left _ (List.mem_append_left _ (List.mem_append_right _ (h)))))
set_option maxRecDepth 100000 in
set_option maxHeartbeats 4000000 in
theorem c_X2_setIn (l : Launch) (g : zG) (q : Nat → Nat) (a : zS) (bs : Nat → Int × Nat) (wb pd gw : Nat → Nat → Int) (ha : zInv a) (hs : zSet a bs wb pd gw 0 0) (d : Nat) (hd : d < zNd a) (v : Bool) : zM g l yX2_setIn wsX2_setIn { frames := 30, cells := 0, slots := 0, locals := 798 } [.ref (q 0), .int (nI d), .int (bI v)] (wB g q a (zG0 a) bs wb pd gw) (zPie (bI (zIn a d)) (zFace g q (zSetOu a (zOuIn (zOu a) d v)))) 0 0 := by
  refine zM.of (cc := cX2_setIn) (nL := 4) (ret := (some .boolean)) (lv := [(0, .ref (q 0)), (1, .int (nI d)), (2, .int (bI v))]) (by decide) rfl (Nat.le_of_ble_eq_true rfl) rfl ?_
  intro E C0 hi
  have C : zC g E cX2_setIn RX2 wsX2_setIn 4 (some .boolean) := C0
  have hi9 := ha
  have ha := hi9.1
  obtain ⟨hnf, hnd, hnb, hou, hrs, hbd⟩ := id ha
  have h1 := zInv_setOu hi9 hd v
  refine z_aload_n C dX2_setIn_0 0 rfl ?_
  refine z_iload_n C dX2_setIn_1 1 rfl ?_
  refine z_callV C (c_X2_requireBidder l g q a bs wb pd gw ha d (by omega)) (cwV 1 C.ts gX2_setIn_X2_requireBidder rfl rfl rfl (by decide +kernel) ⟨Nat.le_of_ble_eq_true rfl, Nat.le_of_ble_eq_true rfl⟩) wB_o rfl rfl rfl (Nat.le_of_ble_eq_true rfl) dX2_setIn_2 ⟨Nat.zero_le _, Nat.zero_le _⟩ (z_v ?_)
  refine z_aload_n C dX2_setIn_5 0 rfl ?_
  refine z_get C inX2_setIn_X2 0 wB_o rfl 2 (by decide) (C.w 1 rfl) rfl dX2_setIn_6 ?_
  refine z_iload_n C dX2_setIn_9 1 rfl ?_
  refine z_zaldN C 2 wB_in (by omega) (by decide) dX2_setIn_10 (v := bI (zIn a d)) rfl ?_
  refine z_istore_n C dX2_setIn_11 (by decide) [(3, .int (bI (zIn a d))), (0, .ref (q 0)), (1, .int (nI d)), (2, .int (bI v))] rfl ?_
  refine z_aload_n C dX2_setIn_12 1 rfl ?_
  refine z_get C inX2_setIn_X2 0 wB_o rfl 2 (by decide) (C.w 1 rfl) rfl dX2_setIn_13 ?_
  refine z_iload_n C dX2_setIn_16 2 rfl ?_
  refine z_iload_n C dX2_setIn_17 3 rfl ?_
  refine z_zastN C 2 wB_in (by omega) (by decide) (zbI_vp _) dX2_setIn_18 (wB_setIn ha hd v) ?_
  refine z_aload_n C dX2_setIn_19 1 rfl ?_
  refine z_aload_n C dX2_setIn_20 1 rfl ?_
  refine z_get C inX2_setIn_X2 0 wB_o rfl 11 (by decide) (C.w 2 rfl) rfl dX2_setIn_21 ?_
  refine z_iconst C (nI 0) dX2_setIn_24 (by decide) ?_
  refine z_callV C (c_X2_settle l g q (zSetOu a (zOuIn (zOu a) d v)) bs wb pd gw 0 h1.1 (by decide) 0) (cwV 2 C.ts gX2_setIn_X2_settle rfl rfl rfl (by decide +kernel) ⟨Nat.le_of_ble_eq_true rfl, Nat.le_of_ble_eq_true rfl⟩) wB_o rfl rfl rfl (Nat.le_of_ble_eq_true rfl) dX2_setIn_25 ⟨Nat.zero_le _, Nat.zero_le _⟩ (z_e ?_)
  rintro _ ⟨bs2, wb2, pd2, gw2, rfl, hs2, hk2⟩
  refine z_iload_n C dX2_setIn_28 0 rfl ?_
  exact z_zretE C dX2_setIn_29 rfl ⟨_, _, _, _, rfl, hs2⟩
theorem inX2_bid_X2 : ∀ w ∈ wsX20, w ∈ wsX2_bid := fun w h => List.mem_cons_of_mem _ (List.mem_append_left _ (List.mem_append_left _ (List.mem_append_left _ (List.mem_append_left _ (List.mem_append_left _ (List.mem_append_right _ (h)))))))
set_option maxRecDepth 100000 in
set_option maxHeartbeats 4000000 in
theorem c_X2_bid (l : Launch) (g : zG) (q : Nat → Nat) (a : zS) (bs : Nat → Int × Nat) (wb pd gw : Nat → Nat → Int) (ha : zInv a) (hs : zSet a bs wb pd gw 0 0) (d m x : Nat) (hd : d < zNd a) (hm0 : 0 < m) (hm : m < 2 ^ zNf a) (hx : x ≤ 999) (hb : zNb a < 12) : zM g l yX2_bid wsX2_bid { frames := 30, cells := 0, slots := 0, locals := 798 } [.ref (q 0), .int (nI d), .int (nI m), .int (nI x)] (wB g q a (zG0 a) bs wb pd gw) (zPie (nI (zNb a)) (zFace g q (zBid a d m x))) 0 0 := by
  refine zM.of (cc := cX2_bid) (nL := 5) (ret := (some .int)) (lv := [(0, .ref (q 0)), (1, .int (nI d)), (2, .int (nI m)), (3, .int (nI x))]) (by decide) rfl (Nat.le_of_ble_eq_true rfl) rfl ?_
  intro E C0 hi
  have C : zC g E cX2_bid RX2 wsX2_bid 5 (some .int) := C0
  have hi9 := ha
  have ha := hi9.1
  obtain ⟨hnf, hnd, hnb, hou, hrs, hbd⟩ := id ha
  have h1 := zInv_bid hi9 hd hm0 hm hx hb
  have h2 := zOk_at ha d m x x
  refine z_aload_n C dX2_bid_0 0 rfl ?_
  refine z_iload_n C dX2_bid_1 1 rfl ?_
  refine z_callV C (c_X2_requireBidder l g q a bs wb pd gw ha d (by omega)) (cwV 1 C.ts gX2_bid_X2_requireBidder rfl rfl rfl (by decide +kernel) ⟨Nat.le_of_ble_eq_true rfl, Nat.le_of_ble_eq_true rfl⟩) wB_o rfl rfl rfl (Nat.le_of_ble_eq_true rfl) dX2_bid_2 ⟨Nat.zero_le _, Nat.zero_le _⟩ (z_v ?_)
  refine z_aload_n C dX2_bid_5 0 rfl ?_
  refine z_iload_n C dX2_bid_6 2 rfl ?_
  refine z_callV C (c_X2_requireBundle l g q a bs wb pd gw ha m (by omega) hm) (cwV 1 C.ts gX2_bid_X2_requireBundle rfl rfl rfl (by decide +kernel) ⟨Nat.le_of_ble_eq_true rfl, Nat.le_of_ble_eq_true rfl⟩) wB_o rfl rfl rfl (Nat.le_of_ble_eq_true rfl) dX2_bid_7 ⟨Nat.zero_le _, Nat.zero_le _⟩ (z_v ?_)
  refine z_iload_n C dX2_bid_10 3 rfl ?_
  refine z_callS C (c_X2_requireAmount l g (wB g q a (zG0 a) bs wb pd gw) x (by omega)) (va_cwS 1 C.ts gX2_bid_X2_requireAmount rfl rfl rfl (by decide +kernel) ⟨Nat.le_of_ble_eq_true rfl, Nat.le_of_ble_eq_true rfl⟩) rfl rfl (Nat.le_of_ble_eq_true rfl) dX2_bid_11 ⟨Nat.zero_le _, Nat.zero_le _⟩ (z_v ?_)
  refine z_aload_n C dX2_bid_14 0 rfl ?_
  refine z_get C inX2_bid_X2 0 wB_o rfl 10 (by decide) (C.w 3 rfl) rfl dX2_bid_15 ?_
  refine z_bipush C (nI 12) dX2_bid_18 (by decide) ?_
  refine z_icmp_lt C 33 dX2_bid_20 (by decide) (zlt_NN (by omega) (by omega)) (fun c_20 => ?_) (fun h9 => absurd (by omega) h9)
  refine z_aload_n C dX2_bid_33 0 rfl ?_
  refine z_get C inX2_bid_X2 0 wB_o rfl 10 (by decide) (C.w 3 rfl) rfl dX2_bid_34 ?_
  refine z_istore C dX2_bid_37 (by decide) [(4, .int (nI (zNb a))), (0, .ref (q 0)), (1, .int (nI d)), (2, .int (nI m)), (3, .int (nI x))] rfl ?_
  refine z_aload_n C dX2_bid_39 1 rfl ?_
  refine z_get C inX2_bid_X2 0 wB_o rfl 4 (by decide) (C.w 4 rfl) rfl dX2_bid_40 ?_
  refine z_iload C dX2_bid_43 0 rfl ?_
  refine z_iload_n C dX2_bid_45 2 rfl ?_
  refine z_iastN C 3 wB_ow (by omega) (by decide) dX2_bid_46 (wB_set_ow (zNb a) d) ?_
  refine z_aload_n C dX2_bid_47 1 rfl ?_
  refine z_get C inX2_bid_X2 0 wB_o rfl 5 (by decide) (C.w 5 rfl) rfl dX2_bid_48 ?_
  refine z_iload C dX2_bid_51 0 rfl ?_
  refine z_iload_n C dX2_bid_53 3 rfl ?_
  refine z_iastN C 4 wB_bu (by omega) (by decide) dX2_bid_54 (wB_set_bu (zNb a) m) ?_
  refine z_aload_n C dX2_bid_55 1 rfl ?_
  refine z_get C inX2_bid_X2 0 wB_o rfl 8 (by decide) (C.w 6 rfl) rfl dX2_bid_56 ?_
  refine z_iload C dX2_bid_59 0 rfl ?_
  refine z_iload_n C dX2_bid_61 4 rfl ?_
  refine z_iastN C 7 wB_wo (by omega) (by decide) dX2_bid_62 (wB_set_wo (zNb a) x) ?_
  refine z_aload_n C dX2_bid_63 1 rfl ?_
  refine z_iload C dX2_bid_64 0 rfl ?_
  refine z_iload_n C dX2_bid_66 4 rfl ?_
  refine z_callV C (c_X2_putPrice l g q (zSetWo (zSetBu (zSetOw a (zNb a) d) (zNb a) m) (zNb a) x) bs wb pd gw (zG0 a) h2.2 (zNb a) x (by omega) h2.1) (cwV 2 C.ts gX2_bid_X2_putPrice rfl rfl rfl (by decide +kernel) ⟨Nat.le_of_ble_eq_true rfl, Nat.le_of_ble_eq_true rfl⟩) wB_o rfl rfl rfl (Nat.le_of_ble_eq_true rfl) dX2_bid_67 ⟨Nat.zero_le _, Nat.zero_le _⟩ (z_v ?_)
  refine z_aload_n C dX2_bid_70 1 rfl ?_
  refine z_dup C dX2_bid_71 rfl ?_
  refine z_get C inX2_bid_X2 0 wB_o rfl 10 (by decide) (C.w 3 rfl) rfl dX2_bid_72 ?_
  refine z_iconst C (nI 1) dX2_bid_75 (by decide) ?_
  refine z_iadd C dX2_bid_76 (v := nI ((zNb (zSetPr (zSetWo (zSetBu (zSetOw a (zNb a) d) (zNb a) m) (zNb a) x) (zNb a) x)) + 1)) (nI_add (zNb (zSetPr (zSetWo (zSetBu (zSetOw a (zNb a) d) (zNb a) m) (zNb a) x) (zNb a) x)) 1) ?_
  refine z_put C inX2_bid_X2 tyX2_ok nmX2 0 wB_o rfl 10 (by decide) (C.w 3 rfl) rfl (tyX2_ok 10 (by decide)) rfl rfl (Nat.le_of_ble_eq_true rfl) dX2_bid_77 (wB_set_nb _) ?_
  rw [show va_up (zG0 a) (zNb a) _ = zG0 (zBid a d m x) from (by rw [← zG0_bid]; show va_up (zG0 a) (zNb a) ((x : Int) - (zRes a (va_up (zBu a) (zNb a) m (zNb a)) : Int)) = _; rw [va_up_self])]
  refine z_aload_n C dX2_bid_80 1 rfl ?_
  refine z_aload_n C dX2_bid_81 1 rfl ?_
  refine z_get C inX2_bid_X2 0 wB_o rfl 11 (by decide) (C.w 7 rfl) rfl dX2_bid_82 ?_
  refine z_iconst C (nI 0) dX2_bid_85 (by decide) ?_
  refine z_callV C (c_X2_settle l g q (zBid a d m x) bs wb pd gw 0 h1.1 (by decide) 0) (cwV 2 C.ts gX2_bid_X2_settle rfl rfl rfl (by decide +kernel) ⟨Nat.le_of_ble_eq_true rfl, Nat.le_of_ble_eq_true rfl⟩) wB_o rfl rfl rfl (Nat.le_of_ble_eq_true rfl) dX2_bid_86 ⟨Nat.zero_le _, Nat.zero_le _⟩ (z_e ?_)
  rintro _ ⟨bs2, wb2, pd2, gw2, rfl, hs2, hk2⟩
  refine z_iload C dX2_bid_89 0 rfl ?_
  exact z_iretE C dX2_bid_91 rfl ⟨_, _, _, _, rfl, hs2⟩
theorem inX2_setPrice_X2 : ∀ w ∈ wsX20, w ∈ wsX2_setPrice := fun w h => List.mem_cons_of_mem _ (List.mem_append_left _ (List.mem_append_left _ (List.mem_append_left _ (List.mem_append_left _ (List.mem_append_right _ (h))))))
set_option maxRecDepth 100000 in
set_option maxHeartbeats 4000000 in
theorem c_X2_setPrice (l : Launch) (g : zG) (q : Nat → Nat) (a : zS) (bs : Nat → Int × Nat) (wb pd gw : Nat → Nat → Int) (ha : zInv a) (hs : zSet a bs wb pd gw 0 0) (b x : Nat) (hb : b < zNb a) (hx : x ≤ 999) : zM g l yX2_setPrice wsX2_setPrice { frames := 30, cells := 0, slots := 0, locals := 798 } [.ref (q 0), .int (nI b), .int (nI x)] (wB g q a (zG0 a) bs wb pd gw) (zPie (nI (zPr a b)) (zFace g q (zSetPr a b x))) 0 0 := by
  refine zM.of (cc := cX2_setPrice) (nL := 4) (ret := (some .int)) (lv := [(0, .ref (q 0)), (1, .int (nI b)), (2, .int (nI x))]) (by decide) rfl (Nat.le_of_ble_eq_true rfl) rfl ?_
  intro E C0 hi
  have C : zC g E cX2_setPrice RX2 wsX2_setPrice 4 (some .int) := C0
  have hi9 := ha
  have ha := hi9.1
  obtain ⟨hnf, hnd, hnb, hou, hrs, hbd⟩ := id ha
  have h1 := zInv_setPr (b := b) hi9 hx
  refine z_aload_n C dX2_setPrice_0 0 rfl ?_
  refine z_iload_n C dX2_setPrice_1 1 rfl ?_
  refine z_callV C (c_X2_requireBid l g q a bs wb pd gw ha b (by omega)) (cwV 1 C.ts gX2_setPrice_X2_requireBid rfl rfl rfl (by decide +kernel) ⟨Nat.le_of_ble_eq_true rfl, Nat.le_of_ble_eq_true rfl⟩) wB_o rfl rfl rfl (Nat.le_of_ble_eq_true rfl) dX2_setPrice_2 ⟨Nat.zero_le _, Nat.zero_le _⟩ (z_v ?_)
  refine z_iload_n C dX2_setPrice_5 2 rfl ?_
  refine z_callS C (c_X2_requireAmount l g (wB g q a (zG0 a) bs wb pd gw) x (by omega)) (va_cwS 1 C.ts gX2_setPrice_X2_requireAmount rfl rfl rfl (by decide +kernel) ⟨Nat.le_of_ble_eq_true rfl, Nat.le_of_ble_eq_true rfl⟩) rfl rfl (Nat.le_of_ble_eq_true rfl) dX2_setPrice_6 ⟨Nat.zero_le _, Nat.zero_le _⟩ (z_v ?_)
  refine z_aload_n C dX2_setPrice_9 0 rfl ?_
  refine z_get C inX2_setPrice_X2 0 wB_o rfl 6 (by decide) (C.w 1 rfl) rfl dX2_setPrice_10 ?_
  refine z_iload_n C dX2_setPrice_13 1 rfl ?_
  refine z_ialdN C 5 wB_pr (by omega) (by decide) dX2_setPrice_14 (v := nI (zPr a b)) rfl ?_
  have f_14b := (ha.pr (b := b) (by omega))
  refine z_istore_n C dX2_setPrice_15 (by decide) [(3, .int (nI (zPr a b))), (0, .ref (q 0)), (1, .int (nI b)), (2, .int (nI x))] rfl ?_
  refine z_aload_n C dX2_setPrice_16 1 rfl ?_
  refine z_iload_n C dX2_setPrice_17 2 rfl ?_
  refine z_iload_n C dX2_setPrice_18 3 rfl ?_
  refine z_callV C (c_X2_putPrice l g q a bs wb pd gw (zG0 a) ha b x (by omega) h1.1) (cwV 2 C.ts gX2_setPrice_X2_putPrice rfl rfl rfl (by decide +kernel) ⟨Nat.le_of_ble_eq_true rfl, Nat.le_of_ble_eq_true rfl⟩) wB_o rfl rfl rfl (Nat.le_of_ble_eq_true rfl) dX2_setPrice_19 ⟨Nat.zero_le _, Nat.zero_le _⟩ (z_v ?_)
  rw [zG0_setPr _ (by omega)]
  refine z_aload_n C dX2_setPrice_22 1 rfl ?_
  refine z_aload_n C dX2_setPrice_23 1 rfl ?_
  refine z_get C inX2_setPrice_X2 0 wB_o rfl 11 (by decide) (C.w 2 rfl) rfl dX2_setPrice_24 ?_
  refine z_iconst C (nI 0) dX2_setPrice_27 (by decide) ?_
  refine z_callV C (c_X2_settle l g q (zSetPr a b x) bs wb pd gw 0 h1.1 (by decide) 0) (cwV 2 C.ts gX2_setPrice_X2_settle rfl rfl rfl (by decide +kernel) ⟨Nat.le_of_ble_eq_true rfl, Nat.le_of_ble_eq_true rfl⟩) wB_o rfl rfl rfl (Nat.le_of_ble_eq_true rfl) dX2_setPrice_28 ⟨Nat.zero_le _, Nat.zero_le _⟩ (z_e ?_)
  rintro _ ⟨bs2, wb2, pd2, gw2, rfl, hs2, hk2⟩
  refine z_iload_n C dX2_setPrice_31 0 rfl ?_
  exact z_iretE C dX2_setPrice_32 rfl ⟨_, _, _, _, rfl, hs2⟩
theorem zDfs_wo (a : zS) (b x : Nat) (ab : Nat) : zFw (zSetWo a b x) ab = zFw a ab := zDfs_cong (a := zSetWo a b x) (a' := a) (n := zNb a) (fun _ _ => ⟨rfl, rfl, rfl, rfl⟩) _ _ _ _ _ _ _ (by show 0 + zNb a ≤ _; omega)
theorem zLp_wo (a : zS) (b x ab e : Nat) : ∀ n, zLp (zSetWo a b x) ab n e = zLp a ab n e
  | 0 => rfl
  | n + 1 => by
    unfold zLp
    rw [zLp_wo a b x ab e n, zDfs_wo]
    unfold zGw
    rw [zDfs_wo]
    rfl
theorem zSet_wo {a : zS} {b x : Nat} {bs : Nat → Int × Nat} {wb pd gw : Nat → Nat → Int} {z ab : Nat} (h : zSet a bs wb pd gw z ab) : zSet (zSetWo a b x) bs wb pd gw z ab := by
  refine ⟨by rw [zDfs_wo]; exact h.1, fun d hd => ?_⟩
  obtain ⟨h1, h2, h3⟩ := h.2 d hd
  refine ⟨?_, ?_, ?_⟩
  · rw [h1, zDfs_wo]; exact (zLw_cong (a := zSetWo a b x) (a' := a) _ (fun _ _ => rfl)).symm
  · rw [h2]; exact (zLp_wo a b x ab d _).symm
  · rw [h3]; unfold zGw; rw [zDfs_wo]; rfl
theorem inX2_setWorth_X2 : ∀ w ∈ wsX20, w ∈ wsX2_setWorth := fun w h => List.mem_cons_of_mem _ (List.mem_append_left _ (List.mem_append_left _ (List.mem_append_right _ (h))))
set_option maxRecDepth 100000 in
set_option maxHeartbeats 4000000 in
theorem c_X2_setWorth (l : Launch) (g : zG) (q : Nat → Nat) (a : zS) (bs : Nat → Int × Nat) (wb pd gw : Nat → Nat → Int) (ha : zInv a) (hs : zSet a bs wb pd gw 0 0) (b x : Nat) (hb : b < zNb a) (hx : x ≤ 999) : zM g l yX2_setWorth wsX2_setWorth { frames := 1, cells := 0, slots := 0, locals := 21 } [.ref (q 0), .int (nI b), .int (nI x)] (wB g q a (zG0 a) bs wb pd gw) (zPie (nI (zWo a b)) (zFace g q (zSetWo a b x))) 0 0 := by
  refine zM.of (cc := cX2_setWorth) (nL := 4) (ret := (some .int)) (lv := [(0, .ref (q 0)), (1, .int (nI b)), (2, .int (nI x))]) (by decide) rfl (Nat.le_of_ble_eq_true rfl) rfl ?_
  intro E C0 hi
  have C : zC g E cX2_setWorth RX2 wsX2_setWorth 4 (some .int) := C0
  have hi9 := ha
  have ha := hi9.1
  obtain ⟨hnf, hnd, hnb, hou, hrs, hbd⟩ := id ha
  refine z_aload_n C dX2_setWorth_0 0 rfl ?_
  refine z_iload_n C dX2_setWorth_1 1 rfl ?_
  refine z_callV C (c_X2_requireBid l g q a bs wb pd gw ha b (by omega)) (cwV 1 C.ts gX2_setWorth_X2_requireBid rfl rfl rfl (by decide +kernel) ⟨Nat.le_of_ble_eq_true rfl, Nat.le_of_ble_eq_true rfl⟩) wB_o rfl rfl rfl (Nat.le_of_ble_eq_true rfl) dX2_setWorth_2 ⟨Nat.zero_le _, Nat.zero_le _⟩ (z_v ?_)
  refine z_iload_n C dX2_setWorth_5 2 rfl ?_
  refine z_callS C (c_X2_requireAmount l g (wB g q a (zG0 a) bs wb pd gw) x (by omega)) (va_cwS 1 C.ts gX2_setWorth_X2_requireAmount rfl rfl rfl (by decide +kernel) ⟨Nat.le_of_ble_eq_true rfl, Nat.le_of_ble_eq_true rfl⟩) rfl rfl (Nat.le_of_ble_eq_true rfl) dX2_setWorth_6 ⟨Nat.zero_le _, Nat.zero_le _⟩ (z_v ?_)
  refine z_aload_n C dX2_setWorth_9 0 rfl ?_
  refine z_get C inX2_setWorth_X2 0 wB_o rfl 8 (by decide) (C.w 1 rfl) rfl dX2_setWorth_10 ?_
  refine z_iload_n C dX2_setWorth_13 1 rfl ?_
  refine z_ialdN C 7 wB_wo (by omega) (by decide) dX2_setWorth_14 (v := nI (zWo a b)) rfl ?_
  have f_14b := (ha.wo (b := b) (by omega))
  refine z_istore_n C dX2_setWorth_15 (by decide) [(3, .int (nI (zWo a b))), (0, .ref (q 0)), (1, .int (nI b)), (2, .int (nI x))] rfl ?_
  refine z_aload_n C dX2_setWorth_16 1 rfl ?_
  refine z_get C inX2_setWorth_X2 0 wB_o rfl 8 (by decide) (C.w 1 rfl) rfl dX2_setWorth_17 ?_
  refine z_iload_n C dX2_setWorth_20 2 rfl ?_
  refine z_iload_n C dX2_setWorth_21 3 rfl ?_
  refine z_iastN C 7 wB_wo (by omega) (by decide) dX2_setWorth_22 (wB_set_wo b x) ?_
  refine z_iload_n C dX2_setWorth_23 0 rfl ?_
  exact z_iretE C dX2_setWorth_24 rfl ⟨bs, wb, pd, gw, rfl, zSet_wo hs⟩
theorem inX2_withdraw_X2 : ∀ w ∈ wsX20, w ∈ wsX2_withdraw := fun w h => List.mem_cons_of_mem _ (List.mem_append_left _ (List.mem_append_left _ (List.mem_append_left _ (List.mem_append_left _ (List.mem_append_right _ (h))))))
set_option maxRecDepth 100000 in
set_option maxHeartbeats 4000000 in
theorem c_X2_withdraw (l : Launch) (g : zG) (q : Nat → Nat) (a : zS) (bs : Nat → Int × Nat) (wb pd gw : Nat → Nat → Int) (ha : zInv a) (hs : zSet a bs wb pd gw 0 0) (b : Nat) (hb : b < zNb a) (hg : zGo a b = 0) : zM g l yX2_withdraw wsX2_withdraw { frames := 30, cells := 0, slots := 0, locals := 798 } [.ref (q 0), .int (nI b)] (wB g q a (zG0 a) bs wb pd gw) (zPie (nI (zSum (zLof (zSetGo a b 1)) (zNd a))) (zFace g q (zSetGo a b 1))) 0 0 := by
  refine zM.of (cc := cX2_withdraw) (nL := 2) (ret := (some .int)) (lv := [(0, .ref (q 0)), (1, .int (nI b))]) (by decide) rfl (Nat.le_of_ble_eq_true rfl) rfl ?_
  intro E C0 hi
  have C : zC g E cX2_withdraw RX2 wsX2_withdraw 2 (some .int) := C0
  have hi9 := ha
  have ha := hi9.1
  obtain ⟨hnf, hnd, hnb, hou, hrs, hbd⟩ := id ha
  have h1 := zInv_setGo hi9 hb
  refine z_aload_n C dX2_withdraw_0 0 rfl ?_
  refine z_iload_n C dX2_withdraw_1 1 rfl ?_
  refine z_callV C (c_X2_requireBid l g q a bs wb pd gw ha b (by omega)) (cwV 1 C.ts gX2_withdraw_X2_requireBid rfl rfl rfl (by decide +kernel) ⟨Nat.le_of_ble_eq_true rfl, Nat.le_of_ble_eq_true rfl⟩) wB_o rfl rfl rfl (Nat.le_of_ble_eq_true rfl) dX2_withdraw_2 ⟨Nat.zero_le _, Nat.zero_le _⟩ (z_v ?_)
  refine z_aload_n C dX2_withdraw_5 0 rfl ?_
  refine z_get C inX2_withdraw_X2 0 wB_o rfl 9 (by decide) (C.w 3 rfl) rfl dX2_withdraw_6 ?_
  refine z_iload_n C dX2_withdraw_9 1 rfl ?_
  refine z_zaldN C 8 wB_go (by omega) (by decide) dX2_withdraw_10 (v := nI (zGo a b)) rfl ?_
  have f_10b := (ha.go (b := b) (by omega))
  refine z_if_eq C 24 dX2_withdraw_11 (by decide) (zeq_N0 (by omega)) (fun c_11 => ?_) (fun h9 => absurd hg h9)
  refine z_aload_n C dX2_withdraw_24 0 rfl ?_
  refine z_get C inX2_withdraw_X2 0 wB_o rfl 9 (by decide) (C.w 3 rfl) rfl dX2_withdraw_25 ?_
  refine z_iload_n C dX2_withdraw_28 1 rfl ?_
  refine z_iconst C (nI 1) dX2_withdraw_29 (by decide) ?_
  refine z_zastN C 8 wB_go (by omega) (by decide) (y := nI 1) (by decide) dX2_withdraw_30 (wB_set_go b 1) ?_
  refine z_aload_n C dX2_withdraw_31 0 rfl ?_
  refine z_aload_n C dX2_withdraw_32 0 rfl ?_
  refine z_get C inX2_withdraw_X2 0 wB_o rfl 11 (by decide) (C.w 4 rfl) rfl dX2_withdraw_33 ?_
  refine z_iconst C (nI 0) dX2_withdraw_36 (by decide) ?_
  refine z_callV C (c_X2_settle l g q (zSetGo a b 1) bs wb pd gw 0 h1.1 (by decide) 0) (cwV 2 C.ts gX2_withdraw_X2_settle rfl rfl rfl (by decide +kernel) ⟨Nat.le_of_ble_eq_true rfl, Nat.le_of_ble_eq_true rfl⟩) wB_o rfl rfl rfl (Nat.le_of_ble_eq_true rfl) dX2_withdraw_37 ⟨Nat.zero_le _, Nat.zero_le _⟩ (z_e ?_)
  rintro _ ⟨bs2, wb2, pd2, gw2, rfl, hs2, hk2⟩
  refine z_aload_n C dX2_withdraw_40 0 rfl ?_
  refine z_callV C (c_X2_bidsLeft l g q (zSetGo a b 1) bs2 wb2 pd2 gw2 h1.1) (cwV 0 C.ts gX2_withdraw_X2_bidsLeft rfl rfl rfl (by decide +kernel) ⟨Nat.le_of_ble_eq_true rfl, Nat.le_of_ble_eq_true rfl⟩) wB_o rfl rfl rfl (Nat.le_of_ble_eq_true rfl) dX2_withdraw_41 ⟨Nat.zero_le _, Nat.zero_le _⟩ (z_i ?_)
  exact z_iretE C dX2_withdraw_44 rfl ⟨_, _, _, _, rfl, hs2⟩
end
section
theorem zn64 {r : UInt64} (h : FP.Core.dIsNaN r = false) : vf_n64 r := by
  have h1 : ¬ 9218868437227405312 < r.toNat % 2 ^ 63 := fun q => by
    rw [(FP.Core.isNaN_bits r).mpr q] at h
    cases h
  unfold vf_n64
  rw [UInt64.le_iff_toNat_le, UInt64.toNat_and]
  show r.toNat &&& (2 ^ 63 - 1) ≤ _
  rw [Nat.and_two_pow_sub_one_eq_mod]
  exact Nat.not_lt.mp h1
theorem zdiv_no (x y : Int32) (hy : y ≠ 0) : FP.Core.dIsNaN (FP.ddiv (FP.i2d x) (FP.i2d y)) = false := by
  refine FP.Core.ddiv_out (a := FP.Core.i2d x) (b := FP.Core.i2d y) ?_ (FP.Core.i2d_fin y) (fun h => FP.Core.i2d_ne_zero hy ((FP.Core.zero_bits2 _).mp h))
  rw [FP.Core.notNaN_iff]
  exact (FP.Core.i2d_fin x).ne_nan
theorem zdiv_ok (x y : Int32) (hy : y ≠ 0) : vf_n64 (FP.ddiv (FP.i2d x) (FP.i2d y)) := zn64 (zdiv_no x y hy)
/-- an answer of told -/
def aTold (a : zS) (b w : Nat) : Int := match w with
  | 0 => (zOw a b : Int)
  | 1 => (zBu a b : Int)
  | 2 => (zPr a b : Int)
  | 3 => (zWo a b : Int)
  | 4 => (zGo a b : Int)
  | 5 => zGn a b
  | 6 => if zCn a (zOu a) b = true then 1 else 0
  | _ => if (zFw a 0).2.testBit b = true then 1 else 0
def aWin (a : zS) (d : Nat) : Int := zLw a (zFw a 0).2 (zNb a) d
def aPaid (a : zS) (d : Nat) : Int := zLp a 0 (zNb a) d
def aProf (a : zS) (d : Nat) : Int := zPfv a (aWin a d) (aPaid a d)
def aAbout (a : zS) (d w : Nat) : Int := match w with
  | 0 => if zIn a d = true then 1 else 0
  | 1 => (zLof a d : Int)
  | 2 => aWin a d
  | 3 => aPaid a d
  | 4 => aProf a d
  | _ => zGw a 0 d
/-- who gets a field: the bid -/
def aWf (a : zS) (f : Nat) : Int := zFst (fun b => (zFw a 0).2.testBit b && (zBu a b).testBit f) 0 (zNb a)
def aLand (a : zS) (f w : Nat) : Int := match w with
  | 0 => (zRs a f : Int)
  | 1 => if aWf a f = -1 then -1 else (zOw a (aWf a f).toNat : Int)
  | _ => (zCnt (fun b => zCn a (zOu a) b && (zBu a b).testBit f) (zNb a) : Int)
def aSold (a : zS) : Nat := zOrs (fun b => if (zFw a 0).2.testBit b = true then zBu a b else 0) (zNb a)
def aCount (a : zS) (w : Nat) : Int := match w with
  | 0 => (zNf a : Int)
  | 1 => (zNd a : Int)
  | 2 => (zNb a : Int)
  | 3 => (zFw a 0).1
  | 4 => (zPop (zFw a 0).2 12 : Int)
  | 5 => (zPop (aSold a) 12 : Int)
  | 6 => zSi (aPaid a) 5
  | 7 => zSi (aProf a) (zNd a)
  | _ => (zSum (fun b => if (zFw a 0).2.testBit b = true then zPr a b else 0) (zNb a) : Int)
def aHi (a : zS) (f : Nat) (lo : Int) : Int := zHi a (zCo a f lo) (zNb a)
def aAlone (a : zS) (f w : Nat) : Int := if aHi a f (-1) = -1 then -1 else match w with
  | 0 => aHi a f (-1)
  | 1 => (zOw a (aHi a f (-1)).toNat : Int)
  | _ => if aHi a f (zOw a (aHi a f (-1)).toNat : Int) = -1 then (zRs a f : Int) else (zPr a (aHi a f (zOw a (aHi a f (-1)).toNat : Int)).toNat : Int)
theorem zOrs_lt {f : Nat → Nat} {k : Nat} : ∀ n, (∀ i, i < n → f i < 2 ^ k) → zOrs f n < 2 ^ k
  | 0, _ => Nat.two_pow_pos k
  | n + 1, h => by
    unfold zOrs
    exact Nat.or_lt_two_pow (zOrs_lt n (fun i hi => h i (by omega))) (h n (by omega))
theorem aSold_lt {a : zS} (ha : zOk a) : aSold a < 256 := by
  unfold aSold
  refine zOrs_lt (k := 8) _ (fun i hi => ?_)
  split
  · exact ha.bu8 hi
  · decide
theorem bI_Z (b : Bool) : bI b = iZ (if b = true then 1 else 0) := by cases b <;> rfl
theorem zSet.wb {a : zS} {bs : Nat → Int × Nat} {wb pd gw : Nat → Nat → Int} {z ab : Nat} (h : zSet a bs wb pd gw z ab) {d : Nat} (hd : d < 5) : wb z d = zLw a (zFw a ab).2 (zNb a) d := (h.2 d hd).1
theorem zSet.pd {a : zS} {bs : Nat → Int × Nat} {wb pd gw : Nat → Nat → Int} {z ab : Nat} (h : zSet a bs wb pd gw z ab) {d : Nat} (hd : d < 5) : pd z d = zLp a ab (zNb a) d := (h.2 d hd).2.1
theorem zSet.gw {a : zS} {bs : Nat → Int × Nat} {wb pd gw : Nat → Nat → Int} {z ab : Nat} (h : zSet a bs wb pd gw z ab) {d : Nat} (hd : d < 5) : gw z d = zGw a ab d := (h.2 d hd).2.2
theorem zSet.wor {a : zS} {bs : Nat → Int × Nat} {wb pd gw : Nat → Nat → Int} {z ab : Nat} (h : zSet a bs wb pd gw z ab) : ∀ d, d < 5 → wb z d = -1 ∨ ∃ c, c < zNb a ∧ wb z d = (c : Int) := by
  intro d hd
  rw [h.wb hd]
  rcases zLw_or a (zFw a ab).2 d (zNb a) with h1 | ⟨c, h1, h2, -⟩
  · exact Or.inl h1
  · exact Or.inr ⟨c, h1, h2⟩
set_option maxRecDepth 100000 in
set_option maxHeartbeats 4000000 in
theorem c_X2_asNumber_N  (l : Launch) (g : zG) (w : va_W) (n : Nat) (hn : n ≤ 1) : zM g l yX2_asNumber wsX2_asNumber { frames := 0, cells := 0, slots := 0, locals := 0 } [.int (nI n)] (w) (zPi (nI n) (w)) 0 0 := by
  refine zM.of (cc := cX2_asNumber) (nL := 1) (ret := (some .int)) (lv := [(0, .int (nI n))]) (by decide) rfl (Nat.le_of_ble_eq_true rfl) rfl ?_
  intro E C0 hi
  have C : zC g E cX2_asNumber RX2 wsX2_asNumber 1 (some .int) := C0
  refine z_iload_n C dX2_asNumber_0 0 rfl ?_
  refine z_if_eq C 8 dX2_asNumber_1 (by decide) (zeq_N0 (by omega)) (fun c_1 => ?_) (fun c_1 => ?_)
  · skip
    refine z_iconst C (nI 0) dX2_asNumber_8 (by decide) ?_
    exact z_iretP C dX2_asNumber_9 (by first | (rw [c_1]; done) | (rw [show n = 1 by omega]; done)) rfl
  · skip
    refine z_iconst C (nI 1) dX2_asNumber_4 (by decide) ?_
    refine z_goto C 9 dX2_asNumber_5 (by decide) ?_
    exact z_iretP C dX2_asNumber_9 (by first | (rw [c_1]; done) | (rw [show n = 1 by omega]; done)) rfl
theorem inX2_told_X1 : ∀ w ∈ wsX10, w ∈ wsX2_told := fun w h => List.mem_cons_of_mem _ (List.mem_append_left _ (List.mem_append_left _ (List.mem_append_right _ (h))))
theorem inX2_told_X2 : ∀ w ∈ wsX20, w ∈ wsX2_told := fun w h => List.mem_cons_of_mem _ (List.mem_append_left _ (List.mem_append_left _ (List.mem_append_left _ (List.mem_append_right _ (h)))))
set_option maxRecDepth 100000 in
set_option maxHeartbeats 4000000 in
theorem c_X2_told (l : Launch) (g : zG) (q : Nat → Nat) (a : zS) (bs : Nat → Int × Nat) (wb pd gw : Nat → Nat → Int) (ha : zOk a) (hs : zSet a bs wb pd gw 0 0) (b w : Nat) (hb : b < zNb a) (hw : w ≤ 7) : zM g l yX2_told wsX2_told { frames := 1, cells := 0, slots := 0, locals := 21 } [.ref (q 0), .int (nI b), .int (nI w)] (wB g q a (zG0 a) bs wb pd gw) (zPi (iZ (aTold a b w)) (wB g q a (zG0 a) bs wb pd gw)) 0 0 := by
  refine zM.of (cc := cX2_told) (nL := 3) (ret := (some .int)) (lv := [(0, .ref (q 0)), (1, .int (nI b)), (2, .int (nI w))]) (by decide) rfl (Nat.le_of_ble_eq_true rfl) rfl ?_
  intro E C0 hi
  have C : zC g E cX2_told RX2 wsX2_told 3 (some .int) := C0
  obtain ⟨hnf, hnd, hnb, hou, hrs, hbd⟩ := id ha
  have hxo := zFw_ok ha 0
  refine z_aload_n C dX2_told_0 0 rfl ?_
  refine z_iload_n C dX2_told_1 1 rfl ?_
  refine z_callV C (c_X2_requireBid l g q a bs wb pd gw ha b (by omega)) (cwV 1 C.ts gX2_told_X2_requireBid rfl rfl rfl (by decide +kernel) ⟨Nat.le_of_ble_eq_true rfl, Nat.le_of_ble_eq_true rfl⟩) wB_o rfl rfl rfl (Nat.le_of_ble_eq_true rfl) dX2_told_2 ⟨Nat.zero_le _, Nat.zero_le _⟩ (z_v ?_)
  refine z_iload_n C dX2_told_5 2 rfl ?_
  refine z_bipush C (nI 7) dX2_told_6 (by decide) ?_
  refine z_callS C (c_X2_requireWhat l g (wB g q a (zG0 a) bs wb pd gw) w 7 (by omega) (by omega)) (va_cwS 2 C.ts gX2_told_X2_requireWhat rfl rfl rfl (by decide +kernel) ⟨Nat.le_of_ble_eq_true rfl, Nat.le_of_ble_eq_true rfl⟩) rfl rfl (Nat.le_of_ble_eq_true rfl) dX2_told_8 ⟨Nat.zero_le _, Nat.zero_le _⟩ (z_v ?_)
  refine z_iload_n C dX2_told_11 2 rfl ?_
  rcases (show w = 0 ∨ w = 1 ∨ w = 2 ∨ w = 3 ∨ w = 4 ∨ w = 5 ∨ w = 6 ∨ w = 7 by omega) with rfl | rfl | rfl | rfl | rfl | rfl | rfl | rfl
  · skip
    refine z_tabIn C 56 dX2_told_12 (by decide) (by decide) (off := 44) (by decide) (by decide) ?_
    refine z_aload_n C dX2_told_56 0 rfl ?_
    refine z_get C inX2_told_X2 0 wB_o rfl 4 (by decide) (C.w 1 rfl) rfl dX2_told_57 ?_
    refine z_iload_n C dX2_told_60 1 rfl ?_
    refine z_ialdN C 3 wB_ow (by omega) (by decide) dX2_told_61 (v := nI (zOw a b)) rfl ?_
    have f_61b := (ha.ow (b := b) (by omega))
    exact z_iretP C dX2_told_62 rfl rfl
  · skip
    refine z_tabIn C 63 dX2_told_12 (by decide) (by decide) (off := 51) (by decide) (by decide) ?_
    refine z_aload_n C dX2_told_63 0 rfl ?_
    refine z_get C inX2_told_X2 0 wB_o rfl 5 (by decide) (C.w 2 rfl) rfl dX2_told_64 ?_
    refine z_iload_n C dX2_told_67 1 rfl ?_
    refine z_ialdN C 4 wB_bu (by omega) (by decide) dX2_told_68 (v := nI (zBu a b)) rfl ?_
    have f_68b := (ha.bu8 (b := b) (by omega))
    exact z_iretP C dX2_told_69 rfl rfl
  · skip
    refine z_tabIn C 70 dX2_told_12 (by decide) (by decide) (off := 58) (by decide) (by decide) ?_
    refine z_aload_n C dX2_told_70 0 rfl ?_
    refine z_get C inX2_told_X2 0 wB_o rfl 6 (by decide) (C.w 3 rfl) rfl dX2_told_71 ?_
    refine z_iload_n C dX2_told_74 1 rfl ?_
    refine z_ialdN C 5 wB_pr (by omega) (by decide) dX2_told_75 (v := nI (zPr a b)) rfl ?_
    have f_75b := (ha.pr (b := b) (by omega))
    exact z_iretP C dX2_told_76 rfl rfl
  · skip
    refine z_tabIn C 77 dX2_told_12 (by decide) (by decide) (off := 65) (by decide) (by decide) ?_
    refine z_aload_n C dX2_told_77 0 rfl ?_
    refine z_get C inX2_told_X2 0 wB_o rfl 8 (by decide) (C.w 4 rfl) rfl dX2_told_78 ?_
    refine z_iload_n C dX2_told_81 1 rfl ?_
    refine z_ialdN C 7 wB_wo (by omega) (by decide) dX2_told_82 (v := nI (zWo a b)) rfl ?_
    have f_82b := (ha.wo (b := b) (by omega))
    exact z_iretP C dX2_told_83 rfl rfl
  · skip
    refine z_tabIn C 84 dX2_told_12 (by decide) (by decide) (off := 72) (by decide) (by decide) ?_
    refine z_aload_n C dX2_told_84 0 rfl ?_
    refine z_get C inX2_told_X2 0 wB_o rfl 9 (by decide) (C.w 5 rfl) rfl dX2_told_85 ?_
    refine z_iload_n C dX2_told_88 1 rfl ?_
    refine z_zaldN C 8 wB_go (by omega) (by decide) dX2_told_89 (v := nI (zGo a b)) rfl ?_
    have f_89b := (ha.go (b := b) (by omega))
    refine z_callS C (c_X2_asNumber_N l g (wB g q a (zG0 a) bs wb pd gw) (zGo a b) (by omega)) (va_cwS 1 C.ts gX2_told_X2_asNumber rfl rfl rfl (by decide +kernel) ⟨Nat.le_of_ble_eq_true rfl, Nat.le_of_ble_eq_true rfl⟩) rfl rfl (Nat.le_of_ble_eq_true rfl) dX2_told_90 ⟨Nat.zero_le _, Nat.zero_le _⟩ (z_i ?_)
    exact z_iretP C dX2_told_93 rfl rfl
  · skip
    refine z_tabIn C 94 dX2_told_12 (by decide) (by decide) (off := 82) (by decide) (by decide) ?_
    refine z_aload_n C dX2_told_94 0 rfl ?_
    refine z_get C inX2_told_X2 0 wB_o rfl 7 (by decide) (C.w 6 rfl) rfl dX2_told_95 ?_
    refine z_iload_n C dX2_told_98 1 rfl ?_
    refine z_ialdN C 6 wB_G (by omega) (by decide) dX2_told_99 (v := iZ ((zG0 a) b)) rfl ?_
    have f_99b := (zG0_bnd ha b)
    exact z_iretP C dX2_told_100 (by show iZ (zG0 a b) = iZ (zGn a b); unfold zG0; rw [if_pos hb]) rfl
  · skip
    refine z_tabIn C 101 dX2_told_12 (by decide) (by decide) (off := 89) (by decide) (by decide) ?_
    refine z_aload_n C dX2_told_101 0 rfl ?_
    refine z_iload_n C dX2_told_102 1 rfl ?_
    refine z_callV C (c_X2_counts l g q a bs wb pd gw ha b (by omega)) (cwV 1 C.ts gX2_told_X2_counts rfl rfl rfl (by decide +kernel) ⟨Nat.le_of_ble_eq_true rfl, Nat.le_of_ble_eq_true rfl⟩) wB_o rfl rfl rfl (Nat.le_of_ble_eq_true rfl) dX2_told_103 ⟨Nat.zero_le _, Nat.zero_le _⟩ (z_i ?_)
    refine z_callS C (c_X2_asNumber l g (wB g q a (zG0 a) bs wb pd gw) (zCn a (zOu a) b)) (va_cwS 1 C.ts gX2_told_X2_asNumber rfl rfl rfl (by decide +kernel) ⟨Nat.le_of_ble_eq_true rfl, Nat.le_of_ble_eq_true rfl⟩) rfl rfl (Nat.le_of_ble_eq_true rfl) dX2_told_106 ⟨Nat.zero_le _, Nat.zero_le _⟩ (z_i ?_)
    exact z_iretP C dX2_told_109 (bI_Z _) rfl
  · skip
    refine z_tabOut C 110 dX2_told_12 (by decide) (by decide) ?_
    refine z_aload_n C dX2_told_110 0 rfl ?_
    refine z_get C inX2_told_X2 0 wB_o rfl 11 (by decide) (C.w 7 rfl) rfl dX2_told_111 ?_
    refine z_getN C inX2_told_X1 (12 + 0) (wB_sl (z := 0) (by decide)) rfl 0 (by decide) 0 rfl rfl dX2_told_114 ?_
    refine z_iload_n C dX2_told_117 1 rfl ?_
    refine z_callVN C (c_X0_has l g q a bs wb pd gw 0 (by decide) b (by omega)) ⟨va_cnB 1 C.ts ggX2_told_X0_has rfl rfl rfl (C.K.2.1 _ (List.mem_of_getElem? (i := 6) rfl)) (C.w 28 rfl) (by decide +kernel) ⟨Nat.le_of_ble_eq_true rfl, Nat.le_of_ble_eq_true rfl⟩, (C.w 27 rfl), (C.w 29 rfl)⟩ (wB_bs (z := 0) (by decide)) rfl rfl rfl (Nat.le_of_ble_eq_true rfl) dX2_told_118 ⟨Nat.zero_le _, Nat.zero_le _⟩ (z_i ?_)
    refine z_callS C (c_X2_asNumber l g (wB g q a (zG0 a) bs wb pd gw) ((bs 0).2.testBit b)) (va_cwS 1 C.ts gX2_told_X2_asNumber rfl rfl rfl (by decide +kernel) ⟨Nat.le_of_ble_eq_true rfl, Nat.le_of_ble_eq_true rfl⟩) rfl rfl (Nat.le_of_ble_eq_true rfl) dX2_told_121 ⟨Nat.zero_le _, Nat.zero_le _⟩ (z_i ?_)
    exact z_iretP C dX2_told_124 (by rw [hs.1]; exact bI_Z _) rfl
theorem inX2_about_X1 : ∀ w ∈ wsX10, w ∈ wsX2_about := fun w h => List.mem_cons_of_mem _ (List.mem_append_left _ (List.mem_append_right _ (h)))
theorem inX2_about_X2 : ∀ w ∈ wsX20, w ∈ wsX2_about := fun w h => List.mem_cons_of_mem _ (List.mem_append_left _ (List.mem_append_left _ (List.mem_append_right _ (h))))
set_option maxRecDepth 100000 in
set_option maxHeartbeats 4000000 in
theorem c_X2_about (l : Launch) (g : zG) (q : Nat → Nat) (a : zS) (bs : Nat → Int × Nat) (wb pd gw : Nat → Nat → Int) (ha : zOk a) (hs : zSet a bs wb pd gw 0 0) (d w : Nat) (hd : d < zNd a) (hw : w ≤ 5) : zM g l yX2_about wsX2_about { frames := 1, cells := 0, slots := 0, locals := 23 } [.ref (q 0), .int (nI d), .int (nI w)] (wB g q a (zG0 a) bs wb pd gw) (zPi (iZ (aAbout a d w)) (wB g q a (zG0 a) bs wb pd gw)) 0 0 := by
  refine zM.of (cc := cX2_about) (nL := 3) (ret := (some .int)) (lv := [(0, .ref (q 0)), (1, .int (nI d)), (2, .int (nI w))]) (by decide) rfl (Nat.le_of_ble_eq_true rfl) rfl ?_
  intro E C0 hi
  have C : zC g E cX2_about RX2 wsX2_about 3 (some .int) := C0
  obtain ⟨hnf, hnd, hnb, hou, hrs, hbd⟩ := id ha
  have hxo := zFw_ok ha 0
  have hd5 : d < 5 := by omega
  refine z_aload_n C dX2_about_0 0 rfl ?_
  refine z_iload_n C dX2_about_1 1 rfl ?_
  refine z_callV C (c_X2_requireBidder l g q a bs wb pd gw ha d (by omega)) (cwV 1 C.ts gX2_about_X2_requireBidder rfl rfl rfl (by decide +kernel) ⟨Nat.le_of_ble_eq_true rfl, Nat.le_of_ble_eq_true rfl⟩) wB_o rfl rfl rfl (Nat.le_of_ble_eq_true rfl) dX2_about_2 ⟨Nat.zero_le _, Nat.zero_le _⟩ (z_v ?_)
  refine z_iload_n C dX2_about_5 2 rfl ?_
  refine z_iconst C (nI 5) dX2_about_6 (by decide) ?_
  refine z_callS C (c_X2_requireWhat l g (wB g q a (zG0 a) bs wb pd gw) w 5 (by omega) (by omega)) (va_cwS 2 C.ts gX2_about_X2_requireWhat rfl rfl rfl (by decide +kernel) ⟨Nat.le_of_ble_eq_true rfl, Nat.le_of_ble_eq_true rfl⟩) rfl rfl (Nat.le_of_ble_eq_true rfl) dX2_about_7 ⟨Nat.zero_le _, Nat.zero_le _⟩ (z_v ?_)
  refine z_iload_n C dX2_about_10 2 rfl ?_
  rcases (show w = 0 ∨ w = 1 ∨ w = 2 ∨ w = 3 ∨ w = 4 ∨ w = 5 by omega) with rfl | rfl | rfl | rfl | rfl | rfl
  · skip
    refine z_tabIn C 44 dX2_about_11 (by decide) (by decide) (off := 33) (by decide) (by decide) ?_
    refine z_aload_n C dX2_about_44 0 rfl ?_
    refine z_get C inX2_about_X2 0 wB_o rfl 2 (by decide) (C.w 1 rfl) rfl dX2_about_45 ?_
    refine z_iload_n C dX2_about_48 1 rfl ?_
    refine z_zaldN C 2 wB_in (by omega) (by decide) dX2_about_49 (v := bI (zIn a d)) rfl ?_
    refine z_callS C (c_X2_asNumber l g (wB g q a (zG0 a) bs wb pd gw) (zIn a d)) (va_cwS 1 C.ts gX2_about_X2_asNumber rfl rfl rfl (by decide +kernel) ⟨Nat.le_of_ble_eq_true rfl, Nat.le_of_ble_eq_true rfl⟩) rfl rfl (Nat.le_of_ble_eq_true rfl) dX2_about_50 ⟨Nat.zero_le _, Nat.zero_le _⟩ (z_i ?_)
    exact z_iretP C dX2_about_53 (bI_Z _) rfl
  · skip
    refine z_tabIn C 54 dX2_about_11 (by decide) (by decide) (off := 43) (by decide) (by decide) ?_
    refine z_aload_n C dX2_about_54 0 rfl ?_
    refine z_iload_n C dX2_about_55 1 rfl ?_
    refine z_callV C (c_X2_bidsLeftOf l g q a bs wb pd gw ha d (by omega)) (cwV 1 C.ts gX2_about_X2_bidsLeftOf rfl rfl rfl (by decide +kernel) ⟨Nat.le_of_ble_eq_true rfl, Nat.le_of_ble_eq_true rfl⟩) wB_o rfl rfl rfl (Nat.le_of_ble_eq_true rfl) dX2_about_56 ⟨Nat.zero_le _, Nat.zero_le _⟩ (z_i ?_)
    exact z_iretP C dX2_about_59 rfl rfl
  · skip
    refine z_tabIn C 60 dX2_about_11 (by decide) (by decide) (off := 49) (by decide) (by decide) ?_
    refine z_aload_n C dX2_about_60 0 rfl ?_
    refine z_get C inX2_about_X2 0 wB_o rfl 11 (by decide) (C.w 2 rfl) rfl dX2_about_61 ?_
    refine z_getN C inX2_about_X1 (12 + 0) (wB_sl (z := 0) (by decide)) rfl 1 (by decide) 1 rfl rfl dX2_about_64 ?_
    refine z_iload_n C dX2_about_67 1 rfl ?_
    refine z_ialdN C (14 + 0) (wB_wb (z := 0) (by decide)) (by omega) (by decide) dX2_about_68 (v := iZ (wb 0 d)) rfl ?_
    exact z_iretP C dX2_about_69 (by rw [hs.wb hd5]; rfl) rfl
  · skip
    refine z_tabIn C 70 dX2_about_11 (by decide) (by decide) (off := 59) (by decide) (by decide) ?_
    refine z_aload_n C dX2_about_70 0 rfl ?_
    refine z_get C inX2_about_X2 0 wB_o rfl 11 (by decide) (C.w 2 rfl) rfl dX2_about_71 ?_
    refine z_getN C inX2_about_X1 (12 + 0) (wB_sl (z := 0) (by decide)) rfl 2 (by decide) 2 rfl rfl dX2_about_74 ?_
    refine z_iload_n C dX2_about_77 1 rfl ?_
    refine z_ialdN C (16 + 0) (wB_pd (z := 0) (by decide)) (by omega) (by decide) dX2_about_78 (v := iZ (pd 0 d)) rfl ?_
    exact z_iretP C dX2_about_79 (by rw [hs.pd hd5]; rfl) rfl
  · skip
    refine z_tabIn C 80 dX2_about_11 (by decide) (by decide) (off := 69) (by decide) (by decide) ?_
    refine z_aload_n C dX2_about_80 0 rfl ?_
    refine z_aload_n C dX2_about_81 0 rfl ?_
    refine z_get C inX2_about_X2 0 wB_o rfl 11 (by decide) (C.w 2 rfl) rfl dX2_about_82 ?_
    refine z_iload_n C dX2_about_85 1 rfl ?_
    refine z_callV C (c_X2_profit l g q a bs wb pd gw 0 ha (by decide) d (by omega) (hs.wor _ hd5)) (cwV 2 C.ts gX2_about_X2_profit rfl rfl rfl (by decide +kernel) ⟨Nat.le_of_ble_eq_true rfl, Nat.le_of_ble_eq_true rfl⟩) wB_o rfl rfl rfl (Nat.le_of_ble_eq_true rfl) dX2_about_86 ⟨Nat.zero_le _, Nat.zero_le _⟩ (z_i ?_)
    exact z_iretP C dX2_about_89 (by rw [hs.wb hd5, hs.pd hd5]; rfl) rfl
  · skip
    refine z_tabOut C 90 dX2_about_11 (by decide) (by decide) ?_
    refine z_aload_n C dX2_about_90 0 rfl ?_
    refine z_get C inX2_about_X2 0 wB_o rfl 11 (by decide) (C.w 2 rfl) rfl dX2_about_91 ?_
    refine z_getN C inX2_about_X1 (12 + 0) (wB_sl (z := 0) (by decide)) rfl 3 (by decide) 3 rfl rfl dX2_about_94 ?_
    refine z_iload_n C dX2_about_97 1 rfl ?_
    refine z_ialdN C (18 + 0) (wB_gw (z := 0) (by decide)) (by omega) (by decide) dX2_about_98 (v := iZ (gw 0 d)) rfl ?_
    exact z_iretP C dX2_about_99 (by rw [hs.gw hd5]; rfl) rfl
theorem inX2_land_X2 : ∀ w ∈ wsX20, w ∈ wsX2_land := fun w h => List.mem_cons_of_mem _ (List.mem_append_left _ (List.mem_append_left _ (List.mem_append_left _ (List.mem_append_right _ (h)))))
set_option maxRecDepth 100000 in
set_option maxHeartbeats 4000000 in
theorem c_X2_land (l : Launch) (g : zG) (q : Nat → Nat) (a : zS) (bs : Nat → Int × Nat) (wb pd gw : Nat → Nat → Int) (ha : zOk a) (hs : zSet a bs wb pd gw 0 0) (f w : Nat) (hf : f < zNf a) (hw : w ≤ 2) : zM g l yX2_land wsX2_land { frames := 2, cells := 0, slots := 0, locals := 44 } [.ref (q 0), .int (nI f), .int (nI w)] (wB g q a (zG0 a) bs wb pd gw) (zPi (iZ (aLand a f w)) (wB g q a (zG0 a) bs wb pd gw)) 0 0 := by
  refine zM.of (cc := cX2_land) (nL := 3) (ret := (some .int)) (lv := [(0, .ref (q 0)), (1, .int (nI f)), (2, .int (nI w))]) (by decide) rfl (Nat.le_of_ble_eq_true rfl) rfl ?_
  intro E C0 hi
  have C : zC g E cX2_land RX2 wsX2_land 3 (some .int) := C0
  obtain ⟨hnf, hnd, hnb, hou, hrs, hbd⟩ := id ha
  have hxo := zFw_ok ha 0
  refine z_aload_n C dX2_land_0 0 rfl ?_
  refine z_iload_n C dX2_land_1 1 rfl ?_
  refine z_callV C (c_X2_requireField l g q a bs wb pd gw ha f (by omega)) (cwV 1 C.ts gX2_land_X2_requireField rfl rfl rfl (by decide +kernel) ⟨Nat.le_of_ble_eq_true rfl, Nat.le_of_ble_eq_true rfl⟩) wB_o rfl rfl rfl (Nat.le_of_ble_eq_true rfl) dX2_land_2 ⟨Nat.zero_le _, Nat.zero_le _⟩ (z_v ?_)
  refine z_iload_n C dX2_land_5 2 rfl ?_
  refine z_iconst C (nI 2) dX2_land_6 (by decide) ?_
  refine z_callS C (c_X2_requireWhat l g (wB g q a (zG0 a) bs wb pd gw) w 2 (by omega) (by omega)) (va_cwS 2 C.ts gX2_land_X2_requireWhat rfl rfl rfl (by decide +kernel) ⟨Nat.le_of_ble_eq_true rfl, Nat.le_of_ble_eq_true rfl⟩) rfl rfl (Nat.le_of_ble_eq_true rfl) dX2_land_7 ⟨Nat.zero_le _, Nat.zero_le _⟩ (z_v ?_)
  refine z_iload_n C dX2_land_10 2 rfl ?_
  rcases (show w = 0 ∨ w = 1 ∨ w = 2 by omega) with rfl | rfl | rfl
  · skip
    refine z_lookup C 36 dX2_land_11 (by decide) (off := 25) (by decide) (by decide) ?_
    refine z_aload_n C dX2_land_36 0 rfl ?_
    refine z_get C inX2_land_X2 0 wB_o rfl 0 (by decide) (C.w 1 rfl) rfl dX2_land_37 ?_
    refine z_iload_n C dX2_land_40 1 rfl ?_
    refine z_ialdN C 1 wB_rs (by omega) (by decide) dX2_land_41 (v := nI (zRs a f)) rfl ?_
    have f_41b := (ha.rs (f := f) (by omega))
    exact z_iretP C dX2_land_42 rfl rfl
  · skip
    refine z_lookup C 43 dX2_land_11 (by decide) (off := 32) (by decide) (by decide) ?_
    refine z_aload_n C dX2_land_43 0 rfl ?_
    refine z_aload_n C dX2_land_44 0 rfl ?_
    refine z_iload_n C dX2_land_45 1 rfl ?_
    refine z_callV C (c_X2_winnerOfField l g q a bs wb pd gw ha f (by omega)) (cwV 1 C.ts gX2_land_X2_winnerOfField rfl rfl rfl (by decide +kernel) ⟨Nat.le_of_ble_eq_true rfl, Nat.le_of_ble_eq_true rfl⟩) wB_o rfl rfl rfl (Nat.le_of_ble_eq_true rfl) dX2_land_46 ⟨Nat.zero_le _, Nat.zero_le _⟩ (z_i ?_)
    have hwf : zFst (fun b => (bs 0).2.testBit b && (zBu a b).testBit f) 0 (zNb a) = aWf a f := by unfold aWf; rw [hs.1]
    rcases zFst_or (fun b => (zFw a 0).2.testBit b && (zBu a b).testBit f) (zNb a) 0 with hwn | ⟨c, hc, hce, -⟩
    · skip
      have hwn : aWf a f = -1 := hwn
      refine zW.top (y := iZ (-1)) (by rw [hwf, hwn]) ?_
      refine z_callV C (c_X2_ownerOf_no l g q a bs wb pd gw ha) (cwV 1 C.ts gX2_land_X2_ownerOf rfl rfl rfl (by decide +kernel) ⟨Nat.le_of_ble_eq_true rfl, Nat.le_of_ble_eq_true rfl⟩) wB_o rfl rfl rfl (Nat.le_of_ble_eq_true rfl) dX2_land_49 ⟨Nat.zero_le _, Nat.zero_le _⟩ (z_i ?_)
      exact z_iretP C dX2_land_52 (by unfold aLand; rw [hwn]; rfl) rfl
    · skip
      rw [Nat.zero_add] at hc
      have hwn : aWf a f = (c : Int) := hce
      refine zW.top (y := nI c) (by rw [hwf, hwn]; rfl) ?_
      refine z_callV C (c_X2_ownerOf l g q a bs wb pd gw ha c hc) (cwV 1 C.ts gX2_land_X2_ownerOf rfl rfl rfl (by decide +kernel) ⟨Nat.le_of_ble_eq_true rfl, Nat.le_of_ble_eq_true rfl⟩) wB_o rfl rfl rfl (Nat.le_of_ble_eq_true rfl) dX2_land_49 ⟨Nat.zero_le _, Nat.zero_le _⟩ (z_i ?_)
      exact z_iretP C dX2_land_52 (by unfold aLand; rw [hwn]; rw [if_neg (by omega)]; rfl) rfl
  · skip
    refine z_lookup C 53 dX2_land_11 (by decide) (off := 42) (by decide) (by decide) ?_
    refine z_aload_n C dX2_land_53 0 rfl ?_
    refine z_iload_n C dX2_land_54 1 rfl ?_
    refine z_callV C (c_X2_countingBidsWith l g q a bs wb pd gw ha f (by omega)) (cwV 1 C.ts gX2_land_X2_countingBidsWith rfl rfl rfl (by decide +kernel) ⟨Nat.le_of_ble_eq_true rfl, Nat.le_of_ble_eq_true rfl⟩) wB_o rfl rfl rfl (Nat.le_of_ble_eq_true rfl) dX2_land_55 ⟨Nat.zero_le _, Nat.zero_le _⟩ (z_i ?_)
    exact z_iretP C dX2_land_58 rfl rfl
theorem inX2_count_X0 : ∀ w ∈ wsX00, w ∈ wsX2_count := fun w h => List.mem_cons_of_mem _ (List.mem_append_left _ (List.mem_append_right _ (h)))
theorem inX2_count_X1 : ∀ w ∈ wsX10, w ∈ wsX2_count := fun w h => List.mem_cons_of_mem _ (List.mem_append_left _ (List.mem_append_left _ (List.mem_append_right _ (h))))
theorem inX2_count_X2 : ∀ w ∈ wsX20, w ∈ wsX2_count := fun w h => List.mem_cons_of_mem _ (List.mem_append_left _ (List.mem_append_left _ (List.mem_append_left _ (List.mem_append_right _ (h)))))
set_option maxRecDepth 100000 in
set_option maxHeartbeats 4000000 in
theorem c_X2_count (l : Launch) (g : zG) (q : Nat → Nat) (a : zS) (bs : Nat → Int × Nat) (wb pd gw : Nat → Nat → Int) (ha : zOk a) (hs : zSet a bs wb pd gw 0 0) (w : Nat) (hw : w ≤ 8) : zM g l yX2_count wsX2_count { frames := 2, cells := 0, slots := 0, locals := 45 } [.ref (q 0), .int (nI w)] (wB g q a (zG0 a) bs wb pd gw) (zPi (iZ (aCount a w)) (wB g q a (zG0 a) bs wb pd gw)) 0 0 := by
  refine zM.of (cc := cX2_count) (nL := 2) (ret := (some .int)) (lv := [(0, .ref (q 0)), (1, .int (nI w))]) (by decide) rfl (Nat.le_of_ble_eq_true rfl) rfl ?_
  intro E C0 hi
  have C : zC g E cX2_count RX2 wsX2_count 2 (some .int) := C0
  obtain ⟨hnf, hnd, hnb, hou, hrs, hbd⟩ := id ha
  have hxo := zFw_ok ha 0
  refine z_iload_n C dX2_count_0 1 rfl ?_
  refine z_bipush C (nI 8) dX2_count_1 (by decide) ?_
  refine z_callS C (c_X2_requireWhat l g (wB g q a (zG0 a) bs wb pd gw) w 8 (by omega) (by omega)) (va_cwS 2 C.ts gX2_count_X2_requireWhat rfl rfl rfl (by decide +kernel) ⟨Nat.le_of_ble_eq_true rfl, Nat.le_of_ble_eq_true rfl⟩) rfl rfl (Nat.le_of_ble_eq_true rfl) dX2_count_3 ⟨Nat.zero_le _, Nat.zero_le _⟩ (z_v ?_)
  refine z_iload_n C dX2_count_6 1 rfl ?_
  rcases (show w = 0 ∨ w = 1 ∨ w = 2 ∨ w = 3 ∨ w = 4 ∨ w = 5 ∨ w = 6 ∨ w = 7 ∨ w = 8 by omega) with rfl | rfl | rfl | rfl | rfl | rfl | rfl | rfl | rfl
  · skip
    refine z_tabIn C 52 dX2_count_7 (by decide) (by decide) (off := 45) (by decide) (by decide) ?_
    refine z_aload_n C dX2_count_52 0 rfl ?_
    refine z_get C inX2_count_X2 0 wB_o rfl 1 (by decide) (C.w 1 rfl) rfl dX2_count_53 ?_
    exact z_iretP C dX2_count_56 rfl rfl
  · skip
    refine z_tabIn C 57 dX2_count_7 (by decide) (by decide) (off := 50) (by decide) (by decide) ?_
    refine z_aload_n C dX2_count_57 0 rfl ?_
    refine z_get C inX2_count_X2 0 wB_o rfl 3 (by decide) (C.w 2 rfl) rfl dX2_count_58 ?_
    exact z_iretP C dX2_count_61 rfl rfl
  · skip
    refine z_tabIn C 62 dX2_count_7 (by decide) (by decide) (off := 55) (by decide) (by decide) ?_
    refine z_aload_n C dX2_count_62 0 rfl ?_
    refine z_get C inX2_count_X2 0 wB_o rfl 10 (by decide) (C.w 3 rfl) rfl dX2_count_63 ?_
    exact z_iretP C dX2_count_66 rfl rfl
  · skip
    refine z_tabIn C 67 dX2_count_7 (by decide) (by decide) (off := 60) (by decide) (by decide) ?_
    refine z_aload_n C dX2_count_67 0 rfl ?_
    refine z_get C inX2_count_X2 0 wB_o rfl 11 (by decide) (C.w 4 rfl) rfl dX2_count_68 ?_
    refine z_getN C inX2_count_X1 (12 + 0) (wB_sl (z := 0) (by decide)) rfl 0 (by decide) 0 rfl rfl dX2_count_71 ?_
    refine z_getN C inX2_count_X0 (9 + 0) (wB_bs (z := 0) (by decide)) rfl 0 (by decide) 4 rfl rfl dX2_count_74 ?_
    exact z_iretP C dX2_count_77 (by rw [hs.1]; rfl) rfl
  · skip
    refine z_tabIn C 78 dX2_count_7 (by decide) (by decide) (off := 71) (by decide) (by decide) ?_
    refine z_aload_n C dX2_count_78 0 rfl ?_
    refine z_get C inX2_count_X2 0 wB_o rfl 11 (by decide) (C.w 4 rfl) rfl dX2_count_79 ?_
    refine z_getN C inX2_count_X1 (12 + 0) (wB_sl (z := 0) (by decide)) rfl 0 (by decide) 0 rfl rfl dX2_count_82 ?_
    refine z_getN C inX2_count_X0 (9 + 0) (wB_bs (z := 0) (by decide)) rfl 1 (by decide) 5 rfl rfl dX2_count_85 ?_
    refine z_callS C (c_J6_bitCount_0f7a4 l g (wB g q a (zG0 a) bs wb pd gw) ((bs 0).2) (by rw [hs.1]; exact hxo.2.2)) (va_cwS 1 C.ts gX2_count_J6_bitCount_0f7a4 rfl rfl rfl (by decide +kernel) ⟨Nat.le_of_ble_eq_true rfl, Nat.le_of_ble_eq_true rfl⟩) rfl rfl (Nat.le_of_ble_eq_true rfl) dX2_count_88 ⟨Nat.zero_le _, Nat.zero_le _⟩ (z_i ?_)
    exact z_iretP C dX2_count_91 (by rw [hs.1]; rfl) rfl
  · skip
    refine z_tabIn C 92 dX2_count_7 (by decide) (by decide) (off := 85) (by decide) (by decide) ?_
    refine z_aload_n C dX2_count_92 0 rfl ?_
    refine z_callV C (c_X2_soldFields l g q a bs wb pd gw ha) (cwV 0 C.ts gX2_count_X2_soldFields rfl rfl rfl (by decide +kernel) ⟨Nat.le_of_ble_eq_true rfl, Nat.le_of_ble_eq_true rfl⟩) wB_o rfl rfl rfl (Nat.le_of_ble_eq_true rfl) dX2_count_93 ⟨Nat.zero_le _, Nat.zero_le _⟩ (z_i ?_)
    refine z_callS C (c_J6_bitCount_0f7a4 l g (wB g q a (zG0 a) bs wb pd gw) (zOrs (fun b => if (bs 0).2.testBit b = true then zBu a b else 0) (zNb a)) (by have := aSold_lt ha; rw [hs.1]; exact Nat.lt_trans this (by decide))) (va_cwS 1 C.ts gX2_count_J6_bitCount_0f7a4 rfl rfl rfl (by decide +kernel) ⟨Nat.le_of_ble_eq_true rfl, Nat.le_of_ble_eq_true rfl⟩) rfl rfl (Nat.le_of_ble_eq_true rfl) dX2_count_96 ⟨Nat.zero_le _, Nat.zero_le _⟩ (z_i ?_)
    exact z_iretP C dX2_count_99 (by rw [hs.1]; rfl) rfl
  · skip
    refine z_tabIn C 100 dX2_count_7 (by decide) (by decide) (off := 93) (by decide) (by decide) ?_
    refine z_aload_n C dX2_count_100 0 rfl ?_
    refine z_get C inX2_count_X2 0 wB_o rfl 11 (by decide) (C.w 4 rfl) rfl dX2_count_101 ?_
    refine z_callVN C (c_X1_totalPaid l g q a bs wb pd gw 0 (by decide)) ⟨va_cnB 0 C.ts ggX2_count_X1_totalPaid rfl rfl rfl (C.K.2.1 _ (List.mem_of_getElem? (i := 7) rfl)) (C.w 29 rfl) (by decide +kernel) ⟨Nat.le_of_ble_eq_true rfl, Nat.le_of_ble_eq_true rfl⟩, (C.w 28 rfl), (C.w 30 rfl)⟩ (wB_sl (z := 0) (by decide)) rfl rfl rfl (Nat.le_of_ble_eq_true rfl) dX2_count_104 ⟨Nat.zero_le _, Nat.zero_le _⟩ (z_i ?_)
    exact z_iretP C dX2_count_107 (congrArg iZ (zSi_cong 5 (fun d hd => hs.pd hd))) rfl
  · skip
    refine z_tabIn C 108 dX2_count_7 (by decide) (by decide) (off := 101) (by decide) (by decide) ?_
    refine z_aload_n C dX2_count_108 0 rfl ?_
    refine z_callV C (c_X2_totalProfit l g q a bs wb pd gw ha hs.wor) (cwV 0 C.ts gX2_count_X2_totalProfit rfl rfl rfl (by decide +kernel) ⟨Nat.le_of_ble_eq_true rfl, Nat.le_of_ble_eq_true rfl⟩) wB_o rfl rfl rfl (Nat.le_of_ble_eq_true rfl) dX2_count_109 ⟨Nat.zero_le _, Nat.zero_le _⟩ (z_i ?_)
    exact z_iretP C dX2_count_112 (congrArg iZ (zSi_cong _ (fun d hd => by show zPfv a (wb 0 d) (pd 0 d) = aProf a d; rw [hs.wb (by omega), hs.pd (by omega)]; rfl))) rfl
  · skip
    refine z_tabOut C 113 dX2_count_7 (by decide) (by decide) ?_
    refine z_aload_n C dX2_count_113 0 rfl ?_
    refine z_callV C (c_X2_winningPrices l g q a bs wb pd gw ha) (cwV 0 C.ts gX2_count_X2_winningPrices rfl rfl rfl (by decide +kernel) ⟨Nat.le_of_ble_eq_true rfl, Nat.le_of_ble_eq_true rfl⟩) wB_o rfl rfl rfl (Nat.le_of_ble_eq_true rfl) dX2_count_114 ⟨Nat.zero_le _, Nat.zero_le _⟩ (z_i ?_)
    exact z_iretP C dX2_count_117 (by rw [hs.1]; rfl) rfl
theorem inX2_alone_X2 : ∀ w ∈ wsX20, w ∈ wsX2_alone := fun w h => List.mem_cons_of_mem _ (List.mem_append_left _ (List.mem_append_right _ (h)))
set_option maxRecDepth 100000 in
set_option maxHeartbeats 4000000 in
theorem c_X2_alone (l : Launch) (g : zG) (q : Nat → Nat) (a : zS) (bs : Nat → Int × Nat) (wb pd gw : Nat → Nat → Int) (ha : zOk a) (hs : zSet a bs wb pd gw 0 0) (f w : Nat) (hf : f < zNf a) (hw : w ≤ 2) : zM g l yX2_alone wsX2_alone { frames := 3, cells := 0, slots := 0, locals := 69 } [.ref (q 0), .int (nI f), .int (nI w)] (wB g q a (zG0 a) bs wb pd gw) (zPi (iZ (aAlone a f w)) (wB g q a (zG0 a) bs wb pd gw)) 0 0 := by
  refine zM.of (cc := cX2_alone) (nL := 4) (ret := (some .int)) (lv := [(0, .ref (q 0)), (1, .int (nI f)), (2, .int (nI w))]) (by decide) rfl (Nat.le_of_ble_eq_true rfl) rfl ?_
  intro E C0 hi
  have C : zC g E cX2_alone RX2 wsX2_alone 4 (some .int) := C0
  obtain ⟨hnf, hnd, hnb, hou, hrs, hbd⟩ := id ha
  have hxo := zFw_ok ha 0
  refine z_aload_n C dX2_alone_0 0 rfl ?_
  refine z_iload_n C dX2_alone_1 1 rfl ?_
  refine z_callV C (c_X2_requireField l g q a bs wb pd gw ha f (by omega)) (cwV 1 C.ts gX2_alone_X2_requireField rfl rfl rfl (by decide +kernel) ⟨Nat.le_of_ble_eq_true rfl, Nat.le_of_ble_eq_true rfl⟩) wB_o rfl rfl rfl (Nat.le_of_ble_eq_true rfl) dX2_alone_2 ⟨Nat.zero_le _, Nat.zero_le _⟩ (z_v ?_)
  refine z_iload_n C dX2_alone_5 2 rfl ?_
  refine z_iconst C (nI 2) dX2_alone_6 (by decide) ?_
  refine z_callS C (c_X2_requireWhat l g (wB g q a (zG0 a) bs wb pd gw) w 2 (by omega) (by omega)) (va_cwS 2 C.ts gX2_alone_X2_requireWhat rfl rfl rfl (by decide +kernel) ⟨Nat.le_of_ble_eq_true rfl, Nat.le_of_ble_eq_true rfl⟩) rfl rfl (Nat.le_of_ble_eq_true rfl) dX2_alone_7 ⟨Nat.zero_le _, Nat.zero_le _⟩ (z_v ?_)
  refine z_aload_n C dX2_alone_10 0 rfl ?_
  refine z_iload_n C dX2_alone_11 1 rfl ?_
  refine z_iconst C (iZ (-1)) dX2_alone_12 (by decide) ?_
  refine z_callV C (c_X2_highestAlone l g q a bs wb pd gw ha f (by omega) (-1) (by omega)) (cwV 2 C.ts gX2_alone_X2_highestAlone rfl rfl rfl (by decide +kernel) ⟨Nat.le_of_ble_eq_true rfl, Nat.le_of_ble_eq_true rfl⟩) wB_o rfl rfl rfl (Nat.le_of_ble_eq_true rfl) dX2_alone_13 ⟨Nat.zero_le _, Nat.zero_le _⟩ (z_i ?_)
  rcases zHi_or a (zCo a f (-1)) (zNb a) with hwn | ⟨c, hc, hce, -⟩
  · skip
    have hwn : aHi a f (-1) = -1 := hwn
    refine zW.top (y := iZ (-1)) (congrArg iZ hwn) ?_
    refine z_istore_n C dX2_alone_16 (by decide) [(3, .int (iZ (-1))), (0, .ref (q 0)), (1, .int (nI f)), (2, .int (nI w))] rfl ?_
    refine z_iload_n C dX2_alone_17 0 rfl ?_
    refine z_iconst C (iZ (-1)) dX2_alone_18 (by decide) ?_
    refine z_icmp_ne C 24 dX2_alone_19 (by decide) (zeq_ZZ (x := (-1)) (y := (-1)) (by unfold zB31; omega) (by unfold zB31; omega)) (fun h9 => absurd (by decide) h9) (fun c_19 => ?_)
    refine z_iconst C (iZ (-1)) dX2_alone_22 (by decide) ?_
    exact z_iretP C dX2_alone_23 (by unfold aAlone; rw [if_pos hwn]) rfl
  · skip
    have hwn : aHi a f (-1) = (c : Int) := hce
    refine zW.top (y := nI c) (congrArg iZ hwn) ?_
    refine z_istore_n C dX2_alone_16 (by decide) [(3, .int (nI c)), (0, .ref (q 0)), (1, .int (nI f)), (2, .int (nI w))] rfl ?_
    refine z_iload_n C dX2_alone_17 0 rfl ?_
    refine z_iconst C (iZ (-1)) dX2_alone_18 (by decide) ?_
    refine z_icmp_ne C 24 dX2_alone_19 (by decide) (zeq_ZZ (x := ((c : Nat) : Int)) (y := (-1)) (by unfold zB31; omega) (by unfold zB31; omega)) (fun c_19 => ?_) (fun h9 => absurd h9 (by omega))
    refine z_iload_n C dX2_alone_24 3 rfl ?_
    rcases (show w = 0 ∨ w = 1 ∨ w = 2 by omega) with rfl | rfl | rfl
    · skip
      refine z_lookup C 52 dX2_alone_25 (by decide) (off := 27) (by decide) (by decide) ?_
      refine z_iload_n C dX2_alone_52 0 rfl ?_
      exact z_iretP C dX2_alone_53 (by unfold aAlone; rw [hwn, if_neg (by omega)]; rfl) rfl
    · skip
      refine z_lookup C 54 dX2_alone_25 (by decide) (off := 29) (by decide) (by decide) ?_
      refine z_aload_n C dX2_alone_54 1 rfl ?_
      refine z_get C inX2_alone_X2 0 wB_o rfl 4 (by decide) (C.w 1 rfl) rfl dX2_alone_55 ?_
      refine z_iload_n C dX2_alone_58 0 rfl ?_
      refine z_ialdN C 3 wB_ow (by omega) (by decide) dX2_alone_59 (v := nI (zOw a c)) rfl ?_
      have f_59b := (ha.ow (b := c) (by omega))
      exact z_iretP C dX2_alone_60 (by unfold aAlone; rw [hwn, if_neg (by omega)]; rfl) rfl
    · skip
      refine z_lookup C 61 dX2_alone_25 (by decide) (off := 36) (by decide) (by decide) ?_
      rcases zHi_or a (zCo a f (zOw a c : Int)) (zNb a) with hsn | ⟨c2, hc2, hsn, -⟩
      · skip
        refine z_aload_n C dX2_alone_61 1 rfl ?_
        refine z_iload_n C dX2_alone_62 2 rfl ?_
        refine z_iload_n C dX2_alone_63 0 rfl ?_
        refine z_callV C (c_X2_secondPrice_no l g q a bs wb pd gw ha f (by omega) c (by omega) hsn) (cwV 2 C.ts gX2_alone_X2_secondPrice rfl rfl rfl (by decide +kernel) ⟨Nat.le_of_ble_eq_true rfl, Nat.le_of_ble_eq_true rfl⟩) wB_o rfl rfl rfl (Nat.le_of_ble_eq_true rfl) dX2_alone_64 ⟨Nat.zero_le _, Nat.zero_le _⟩ (z_i ?_)
        exact z_iretP C dX2_alone_67 (by unfold aAlone; rw [hwn, if_neg (by omega)]; show _ = iZ (if aHi a f (zOw a ((c : Int)).toNat : Int) = -1 then _ else _); rw [if_pos (show aHi a f (zOw a ((c : Int)).toNat : Int) = -1 from hsn)]; rfl) rfl
      · skip
        refine z_aload_n C dX2_alone_61 1 rfl ?_
        refine z_iload_n C dX2_alone_62 2 rfl ?_
        refine z_iload_n C dX2_alone_63 0 rfl ?_
        refine z_callV C (c_X2_secondPrice_b l g q a bs wb pd gw ha f (by omega) c (by omega) c2 (by omega) hsn) (cwV 2 C.ts gX2_alone_X2_secondPrice rfl rfl rfl (by decide +kernel) ⟨Nat.le_of_ble_eq_true rfl, Nat.le_of_ble_eq_true rfl⟩) wB_o rfl rfl rfl (Nat.le_of_ble_eq_true rfl) dX2_alone_64 ⟨Nat.zero_le _, Nat.zero_le _⟩ (z_i ?_)
        exact z_iretP C dX2_alone_67 (by unfold aAlone; rw [hwn, if_neg (by omega)]; show _ = iZ (if aHi a f (zOw a ((c : Int)).toNat : Int) = -1 then _ else (zPr a (aHi a f (zOw a ((c : Int)).toNat : Int)).toNat : Int)); rw [show aHi a f (zOw a ((c : Int)).toNat : Int) = (c2 : Int) from hsn, if_neg (by omega)]; rfl) rfl
end
section
def zDg (f : Nat → Int) (d : Int64) : Nat → Int64
  | 0 => d
  | n + 1 => zDg f d n * 31 + (iZ (f n)).toInt64
def aDg2 (a : zS) : Nat → Int64
  | 0 => zDg (aCount a) 1619 9
  | n + 1 => zDg (aAlone a n) (zDg (aLand a n) (aDg2 a n) 3) 3
def aDg3 (a : zS) : Nat → Int64
  | 0 => aDg2 a (zNf a)
  | n + 1 => zDg (aAbout a n) (aDg3 a n) 6
def aDg4 (a : zS) : Nat → Int64
  | 0 => aDg3 a (zNd a)
  | n + 1 => zDg (aTold a n) (aDg4 a n) 8
def aDigest (a : zS) : Int64 := aDg4 a (zNb a)
def aWould (a : zS) (b x w : Nat) : Int := match w with
  | 0 => if (zFw (zSetPr a b x) 0).2.testBit b = true then 1 else 0
  | 1 => aPaid (zSetPr a b x) (zOw a b)
  | 2 => aProf (zSetPr a b x) (zOw a b)
  | _ => (zFw (zSetPr a b x) 0).1
/-- whether a bid would win with the price x -/
def aWins (a : zS) (b x : Nat) : Bool := (zFw (zSetPr a b x) 0).2.testBit b
def zLs (a : zS) (b : Nat) : Nat → Int → Int
  | 0, h => h
  | n + 1, h => zLs a b n (if h + ((2 ^ n : Nat) : Int) ≤ 999 ∧ aWins a b (h + ((2 ^ n : Nat) : Int)).toNat = false then h + ((2 ^ n : Nat) : Int) else h)
theorem zLs_s (a : zS) (b n : Nat) (h : Int) : zLs a b (n + 1) h = zLs a b n (if h + ((2 ^ n : Nat) : Int) ≤ 999 ∧ aWins a b (h + ((2 ^ n : Nat) : Int)).toNat = false then h + ((2 ^ n : Nat) : Int) else h) := rfl
def aLeast (a : zS) (b : Nat) : Int := if zLs a b 10 (-1) < 999 then zLs a b 10 (-1) + 1 else -1
/-- what all pay without the bidder d -/
def aPs (a : zS) (d : Nat) : Int := zSi (fun e => zLp a (2 ^ d) (zNb a) e) 5
def zRv (a : zS) : Nat → Int × Int
  | 0 => (-1, -1)
  | n + 1 => if (zRv a n).2 < aPs a n then ((n : Int), aPs a n) else zRv a n
def aMean (a : zS) : UInt64 := if zPop (zFw a 0).2 12 = 0 then 0 else FP.ddiv (FP.i2d (iZ (zSi (aPaid a) 5))) (FP.i2d (nI (zPop (zFw a 0).2 12)))
theorem zSet_keep {a : zS} {bs : Nat → Int × Nat} {wb pd gw : Nat → Nat → Int} {bs' : Nat → Int × Nat} {wb' pd' gw' : Nat → Nat → Int} (h : zSet a bs wb pd gw 0 0) (hk : zSame 1 bs wb pd gw bs' wb' pd' gw') : zSet a bs' wb' pd' gw' 0 0 := by
  obtain ⟨h1, h2, h3, h4⟩ := hk 0 (by decide) (by decide)
  unfold zSet
  rw [h1, h2, h3, h4]
  exact h
theorem zSetPr_back (a : zS) (b x : Nat) : zSetPr (zSetPr a b x) b (zPr a b) = a := by
  show zMk _ _ _ _ _ _ _ (va_up (va_up (zPr a) b x) b (zPr a b)) _ _ = _
  rw [bx_uu, zup_id]
  rfl
theorem zSetPr_2 (a : zS) (b x y : Nat) : zSetPr (zSetPr a b x) b y = zSetPr a b y := by
  show zMk _ _ _ _ _ _ _ (va_up (va_up (zPr a) b x) b y) _ _ = _
  rw [bx_uu]
  rfl
theorem zGw_bnd {a : zS} (ha : zOk a) (ab d : Nat) : 0 ≤ zGw a ab d ∧ zGw a ab d ≤ 11988 := by
  unfold zGw
  split
  · have h := zFw_ok ha (ab ||| 2 ^ d)
    exact ⟨h.1, h.2.1⟩
  · omega
theorem zLp_bnd {a : zS} (ha : zOk a) (ab e : Nat) : ∀ n, n ≤ zNb a → -20000 ≤ zLp a ab n e ∧ zLp a ab n e ≤ 20000
  | 0, _ => by unfold zLp; omega
  | n + 1, h => by
    unfold zLp
    split
    · have h1 := zRes_le ha (zBu a n)
      have h2 := zGw_bnd ha ab e
      have h3 := zFw_ok ha ab
      have h4 := h3.1
      have h5 := h3.2.1
      have h6 := zGn_bnd ha (b := n) (by omega)
      omega
    · exact zLp_bnd ha ab e n (by omega)
theorem zSi_bnd {f : Nat → Int} {c : Int} (h : ∀ i, -c ≤ f i ∧ f i ≤ c) (hc : 0 ≤ c) : ∀ n : Nat, -(c * n) ≤ zSi f n ∧ zSi f n ≤ c * n
  | 0 => by simp [zSi]
  | n + 1 => by
    have h1 := zSi_bnd h hc n
    have h2 := h n
    unfold zSi
    have h3 : c * ((n + 1 : Nat) : Int) = c * n + c := by rw [Int.natCast_add, Int.mul_add]; simp
    omega
theorem aPs_bnd {a : zS} (ha : zOk a) (d : Nat) : -100000 ≤ aPs a d ∧ aPs a d ≤ 100000 := by
  have h := zSi_bnd (f := fun e => zLp a (2 ^ d) (zNb a) e) (c := 20000) (fun e => zLp_bnd ha (2 ^ d) e _ (Nat.le_refl _)) (by decide) 5
  unfold aPs
  omega
theorem zRv_bnd {a : zS} (ha : zOk a) : ∀ n, -100000 ≤ (zRv a n).2 ∧ (zRv a n).2 ≤ 100000
  | 0 => by unfold zRv; omega
  | n + 1 => by
    unfold zRv
    split
    · exact aPs_bnd ha n
    · exact zRv_bnd ha n
set_option maxRecDepth 100000 in
set_option maxHeartbeats 4000000 in
theorem c_X2_digestField (l : Launch) (g : zG) (q : Nat → Nat) (a : zS) (bs : Nat → Int × Nat) (wb pd gw : Nat → Nat → Int) (ha : zOk a) (hs : zSet a bs wb pd gw 0 0) (d : Int64) (f : Nat) (hf : f < zNf a) : zM g l yX2_digestField wsX2_digestField { frames := 4, cells := 0, slots := 0, locals := 92 } [.ref (q 0), .long d, .int (nI f)] (wB g q a (zG0 a) bs wb pd gw) (zPl (zDg (aAlone a f) (zDg (aLand a f) d 3) 3) (wB g q a (zG0 a) bs wb pd gw)) 0 0 := by
  refine zM.of (cc := cX2_digestField) (nL := 7) (ret := (some .long)) (lv := [(0, .ref (q 0)), (1, .long d), (3, .int (nI f))]) (by decide) rfl (Nat.le_of_ble_eq_true rfl) rfl ?_
  intro E C0 hi
  have C : zC g E cX2_digestField RX2 wsX2_digestField 7 (some .long) := C0
  obtain ⟨hnf, hnd, hnb, hou, hrs, hbd⟩ := id ha
  have hxo := zFw_ok ha 0
  refine z_lload_n C dX2_digestField_0 1 rfl ?_
  refine z_lstore C dX2_digestField_1 (by decide) [(4, .long d), (0, .ref (q 0)), (1, .long d), (3, .int (nI f))] rfl ?_
  refine z_iconst C (nI 0) dX2_digestField_3 (by decide) ?_
  refine z_istore C dX2_digestField_4 (by decide) [(6, .int (nI 0)), (4, .long d), (0, .ref (q 0)), (1, .long d), (3, .int (nI f))] rfl ?_
  refine zW.pick (lv' := [(0, .ref (q 0)), (3, .int (nI f)), (4, .long d), (6, .int (nI 0))]) [2, 4, 1, 0] rfl ?_
  have hlp6 : ∀ (k i : Nat), i + k = 3 → zW g l ({ frames := 4, cells := 0, slots := 0, locals := 92 }) E (zMQ g E (zPl (zDg (aAlone a f) (zDg (aLand a f) d 3) 3) (wB g q a (zG0 a) bs wb pd gw)) 0 0) 7 0 0 (wB g q a (zG0 a) bs wb pd gw) [(0, .ref (q 0)), (3, .int (nI f)), (4, .long (zDg (aLand a f) d i)), (6, .int (nI i))] [] 6 := by
    intro k
    induction k with
    | zero =>
      intro i hik
      refine z_iload C dX2_digestField_6 3 rfl ?_
      refine z_iconst C (nI 2) dX2_digestField_8 (by decide) ?_
      refine z_icmp_gt C 35 dX2_digestField_9 (by decide) (zlt_NN (by omega) (by omega)) (fun c_9 => ?_) (fun h9 => absurd (by omega) h9)
      rw [show i = 3 by omega]
      refine z_iconst C (nI 0) dX2_digestField_35 (by decide) ?_
      refine z_istore C dX2_digestField_36 (by decide) [(6, .int (nI 0)), (0, .ref (q 0)), (3, .int (nI f)), (4, .long (zDg (aLand a f) d 3))] rfl ?_
      refine zW.pick (lv' := [(0, .ref (q 0)), (3, .int (nI f)), (4, .long (zDg (aLand a f) d 3)), (6, .int (nI 0))]) [1, 2, 3, 0] rfl ?_
      have hlp38 : ∀ (kj j : Nat), j + kj = 3 → zW g l ({ frames := 4, cells := 0, slots := 0, locals := 92 }) E (zMQ g E (zPl (zDg (aAlone a f) (zDg (aLand a f) d 3) 3) (wB g q a (zG0 a) bs wb pd gw)) 0 0) 7 0 0 (wB g q a (zG0 a) bs wb pd gw) [(0, .ref (q 0)), (3, .int (nI f)), (4, .long (zDg (aAlone a f) (zDg (aLand a f) d 3) j)), (6, .int (nI j))] [] 38 := by
        intro kj
        induction kj with
        | zero =>
          intro j hjk
          refine z_iload C dX2_digestField_38 3 rfl ?_
          refine z_iconst C (nI 2) dX2_digestField_40 (by decide) ?_
          refine z_icmp_gt C 67 dX2_digestField_41 (by decide) (zlt_NN (by omega) (by omega)) (fun c_41 => ?_) (fun h9 => absurd (by omega) h9)
          refine z_lload C dX2_digestField_67 2 rfl ?_
          exact z_lretP C dX2_digestField_69 (by rw [show j = 3 by omega]) rfl
        | succ kj ih38 =>
          intro j hjk
          refine z_iload C dX2_digestField_38 3 rfl ?_
          refine z_iconst C (nI 2) dX2_digestField_40 (by decide) ?_
          refine z_icmp_gt C 67 dX2_digestField_41 (by decide) (zlt_NN (by omega) (by omega)) (fun h9 => absurd h9 (by omega)) (fun c_41 => ?_)
          refine z_lload C dX2_digestField_44 2 rfl ?_
          refine z_ldc2 C (31) (C.w 1 rfl) dX2_digestField_46 ?_
          refine z_lmul C dX2_digestField_49 (v := (zDg (aAlone a f) (zDg (aLand a f) d 3) j) * (31)) rfl ?_
          refine z_aload_n C dX2_digestField_50 0 rfl ?_
          refine z_iload_n C dX2_digestField_51 1 rfl ?_
          refine z_iload C dX2_digestField_52 3 rfl ?_
          refine z_callV C (c_X2_alone l g q a bs wb pd gw ha hs f j (by omega) (by omega)) (cwV 2 C.ts gX2_digestField_X2_alone rfl rfl rfl (by decide +kernel) ⟨Nat.le_of_ble_eq_true rfl, Nat.le_of_ble_eq_true rfl⟩) wB_o rfl rfl rfl (Nat.le_of_ble_eq_true rfl) dX2_digestField_54 ⟨Nat.zero_le _, Nat.zero_le _⟩ (z_i ?_)
          refine z_i2l C dX2_digestField_57 (v := (iZ (aAlone a f j)).toInt64) rfl ?_
          refine z_ladd C dX2_digestField_58 (v := ((zDg (aAlone a f) (zDg (aLand a f) d 3) j) * (31)) + ((iZ (aAlone a f j)).toInt64)) rfl ?_
          refine z_lstore C dX2_digestField_59 (by decide) [(4, .long (((zDg (aAlone a f) (zDg (aLand a f) d 3) j) * (31)) + ((iZ (aAlone a f j)).toInt64))), (0, .ref (q 0)), (3, .int (nI f)), (6, .int (nI j))] rfl ?_
          refine z_iinc C dX2_digestField_61 3 (nI (j + 1)) rfl (nI_add j 1) (by decide) [(6, .int (nI (j + 1))), (4, .long (((zDg (aAlone a f) (zDg (aLand a f) d 3) j) * (31)) + ((iZ (aAlone a f j)).toInt64))), (0, .ref (q 0)), (3, .int (nI f))] rfl ?_
          refine z_goto C 38 dX2_digestField_64 (by decide) ?_
          refine zW.pick (lv' := [(0, .ref (q 0)), (3, .int (nI f)), (4, .long (((zDg (aAlone a f) (zDg (aLand a f) d 3) j) * (31)) + ((iZ (aAlone a f j)).toInt64))), (6, .int (nI (j + 1)))]) [2, 3, 1, 0] rfl ?_
          refine zW.lve (lv' := [(0, .ref (q 0)), (3, .int (nI f)), (4, .long (zDg (aAlone a f) (zDg (aLand a f) d 3) (j + 1))), (6, .int (nI (j + 1)))]) (rfl) ?_
          exact ih38 (j + 1) (by omega)
      exact hlp38 (3) 0 (by omega)
    | succ k ih6 =>
      intro i hik
      refine z_iload C dX2_digestField_6 3 rfl ?_
      refine z_iconst C (nI 2) dX2_digestField_8 (by decide) ?_
      refine z_icmp_gt C 35 dX2_digestField_9 (by decide) (zlt_NN (by omega) (by omega)) (fun h9 => absurd h9 (by omega)) (fun c_9 => ?_)
      refine z_lload C dX2_digestField_12 2 rfl ?_
      refine z_ldc2 C (31) (C.w 1 rfl) dX2_digestField_14 ?_
      refine z_lmul C dX2_digestField_17 (v := (zDg (aLand a f) d i) * (31)) rfl ?_
      refine z_aload_n C dX2_digestField_18 0 rfl ?_
      refine z_iload_n C dX2_digestField_19 1 rfl ?_
      refine z_iload C dX2_digestField_20 3 rfl ?_
      refine z_callV C (c_X2_land l g q a bs wb pd gw ha hs f i (by omega) (by omega)) (cwV 2 C.ts gX2_digestField_X2_land rfl rfl rfl (by decide +kernel) ⟨Nat.le_of_ble_eq_true rfl, Nat.le_of_ble_eq_true rfl⟩) wB_o rfl rfl rfl (Nat.le_of_ble_eq_true rfl) dX2_digestField_22 ⟨Nat.zero_le _, Nat.zero_le _⟩ (z_i ?_)
      refine z_i2l C dX2_digestField_25 (v := (iZ (aLand a f i)).toInt64) rfl ?_
      refine z_ladd C dX2_digestField_26 (v := ((zDg (aLand a f) d i) * (31)) + ((iZ (aLand a f i)).toInt64)) rfl ?_
      refine z_lstore C dX2_digestField_27 (by decide) [(4, .long (((zDg (aLand a f) d i) * (31)) + ((iZ (aLand a f i)).toInt64))), (0, .ref (q 0)), (3, .int (nI f)), (6, .int (nI i))] rfl ?_
      refine z_iinc C dX2_digestField_29 3 (nI (i + 1)) rfl (nI_add i 1) (by decide) [(6, .int (nI (i + 1))), (4, .long (((zDg (aLand a f) d i) * (31)) + ((iZ (aLand a f i)).toInt64))), (0, .ref (q 0)), (3, .int (nI f))] rfl ?_
      refine z_goto C 6 dX2_digestField_32 (by decide) ?_
      refine zW.pick (lv' := [(0, .ref (q 0)), (3, .int (nI f)), (4, .long (((zDg (aLand a f) d i) * (31)) + ((iZ (aLand a f i)).toInt64))), (6, .int (nI (i + 1)))]) [2, 3, 1, 0] rfl ?_
      refine zW.lve (lv' := [(0, .ref (q 0)), (3, .int (nI f)), (4, .long (zDg (aLand a f) d (i + 1))), (6, .int (nI (i + 1)))]) (rfl) ?_
      exact ih6 (i + 1) (by omega)
  exact hlp6 (3) 0 (by omega)
theorem inX2_digest_X2 : ∀ w ∈ wsX20, w ∈ wsX2_digest := fun w h => List.mem_cons_of_mem _ (List.mem_append_left _ (List.mem_append_left _ (List.mem_append_left _ (List.mem_append_right _ (h)))))
set_option maxRecDepth 100000 in
set_option maxHeartbeats 4000000 in
theorem c_X2_digest (l : Launch) (g : zG) (q : Nat → Nat) (a : zS) (bs : Nat → Int × Nat) (wb pd gw : Nat → Nat → Int) (ha : zOk a) (hs : zSet a bs wb pd gw 0 0)  : zM g l yX2_digest wsX2_digest { frames := 5, cells := 0, slots := 0, locals := 118 } [.ref (q 0)] (wB g q a (zG0 a) bs wb pd gw) (zPl (aDigest a) (wB g q a (zG0 a) bs wb pd gw)) 0 0 := by
  refine zM.of (cc := cX2_digest) (nL := 5) (ret := (some .long)) (lv := [(0, .ref (q 0))]) (by decide) rfl (Nat.le_of_ble_eq_true rfl) rfl ?_
  intro E C0 hi
  have C : zC g E cX2_digest RX2 wsX2_digest 5 (some .long) := C0
  obtain ⟨hnf, hnd, hnb, hou, hrs, hbd⟩ := id ha
  have hxo := zFw_ok ha 0
  refine z_ldc2 C (1619) (C.w 1 rfl) dX2_digest_0 ?_
  refine z_lstore_n C dX2_digest_3 (by decide) [(1, .long (1619)), (0, .ref (q 0))] rfl ?_
  refine z_iconst C (nI 0) dX2_digest_4 (by decide) ?_
  refine z_istore_n C dX2_digest_5 (by decide) [(3, .int (nI 0)), (1, .long (1619)), (0, .ref (q 0))] rfl ?_
  refine zW.pick (lv' := [(0, .ref (q 0)), (1, .long (1619)), (3, .int (nI 0))]) [2, 1, 0] rfl ?_
  have hlp6 : ∀ (k i : Nat), i + k = 9 → zW g l ({ frames := 5, cells := 0, slots := 0, locals := 118 }) E (zMQ g E (zPl (aDigest a) (wB g q a (zG0 a) bs wb pd gw)) 0 0) 5 0 0 (wB g q a (zG0 a) bs wb pd gw) [(0, .ref (q 0)), (1, .long (zDg (aCount a) 1619 i)), (3, .int (nI i))] [] 6 := by
    intro k
    induction k with
    | zero =>
      intro i hik
      refine z_iload_n C dX2_digest_6 2 rfl ?_
      refine z_bipush C (nI 8) dX2_digest_7 (by decide) ?_
      refine z_icmp_gt C 31 dX2_digest_9 (by decide) (zlt_NN (by omega) (by omega)) (fun c_9 => ?_) (fun h9 => absurd (by omega) h9)
      rw [show i = 9 by omega]
      refine z_iconst C (nI 0) dX2_digest_31 (by decide) ?_
      refine z_istore_n C dX2_digest_32 (by decide) [(3, .int (nI 0)), (0, .ref (q 0)), (1, .long (zDg (aCount a) 1619 9))] rfl ?_
      refine zW.pick (lv' := [(0, .ref (q 0)), (1, .long (zDg (aCount a) 1619 9)), (3, .int (nI 0))]) [1, 2, 0] rfl ?_
      have hlp33 : ∀ (k2 b2 : Nat), b2 + k2 = zNf a → zW g l ({ frames := 5, cells := 0, slots := 0, locals := 118 }) E (zMQ g E (zPl (aDigest a) (wB g q a (zG0 a) bs wb pd gw)) 0 0) 5 0 0 (wB g q a (zG0 a) bs wb pd gw) [(0, .ref (q 0)), (1, .long (aDg2 a b2)), (3, .int (nI b2))] [] 33 := by
        intro k2
        induction k2 with
        | zero =>
          intro b2 hb2k
          refine z_iload_n C dX2_digest_33 2 rfl ?_
          refine z_aload_n C dX2_digest_34 0 rfl ?_
          refine z_get C inX2_digest_X2 0 wB_o rfl 1 (by decide) (C.w 3 rfl) rfl dX2_digest_35 ?_
          refine z_icmp_ge C 54 dX2_digest_38 (by decide) (zle_NN (by omega) (by omega)) (fun c_38 => ?_) (fun h9 => absurd (by omega) h9)
          rw [show b2 = zNf a by omega]
          refine z_iconst C (nI 0) dX2_digest_54 (by decide) ?_
          refine z_istore_n C dX2_digest_55 (by decide) [(3, .int (nI 0)), (0, .ref (q 0)), (1, .long (aDg2 a (zNf a)))] rfl ?_
          refine zW.pick (lv' := [(0, .ref (q 0)), (1, .long (aDg2 a (zNf a))), (3, .int (nI 0))]) [1, 2, 0] rfl ?_
          have hlp56 : ∀ (k3 b3 : Nat), b3 + k3 = zNd a → zW g l ({ frames := 5, cells := 0, slots := 0, locals := 118 }) E (zMQ g E (zPl (aDigest a) (wB g q a (zG0 a) bs wb pd gw)) 0 0) 5 0 0 (wB g q a (zG0 a) bs wb pd gw) [(0, .ref (q 0)), (1, .long (aDg3 a b3)), (3, .int (nI b3))] [] 56 := by
            intro k3
            induction k3 with
            | zero =>
              intro b3 hb3k
              refine z_iload_n C dX2_digest_56 2 rfl ?_
              refine z_aload_n C dX2_digest_57 0 rfl ?_
              refine z_get C inX2_digest_X2 0 wB_o rfl 3 (by decide) (C.w 4 rfl) rfl dX2_digest_58 ?_
              refine z_icmp_ge C 100 dX2_digest_61 (by decide) (zle_NN (by omega) (by omega)) (fun c_61 => ?_) (fun h9 => absurd (by omega) h9)
              rw [show b3 = zNd a by omega]
              refine z_iconst C (nI 0) dX2_digest_100 (by decide) ?_
              refine z_istore_n C dX2_digest_101 (by decide) [(3, .int (nI 0)), (0, .ref (q 0)), (1, .long (aDg3 a (zNd a)))] rfl ?_
              refine zW.pick (lv' := [(0, .ref (q 0)), (1, .long (aDg3 a (zNd a))), (3, .int (nI 0))]) [1, 2, 0] rfl ?_
              have hlp102 : ∀ (k4 b4 : Nat), b4 + k4 = zNb a → zW g l ({ frames := 5, cells := 0, slots := 0, locals := 118 }) E (zMQ g E (zPl (aDigest a) (wB g q a (zG0 a) bs wb pd gw)) 0 0) 5 0 0 (wB g q a (zG0 a) bs wb pd gw) [(0, .ref (q 0)), (1, .long (aDg4 a b4)), (3, .int (nI b4))] [] 102 := by
                intro k4
                induction k4 with
                | zero =>
                  intro b4 hb4k
                  refine z_iload_n C dX2_digest_102 2 rfl ?_
                  refine z_aload_n C dX2_digest_103 0 rfl ?_
                  refine z_get C inX2_digest_X2 0 wB_o rfl 10 (by decide) (C.w 5 rfl) rfl dX2_digest_104 ?_
                  refine z_icmp_ge C 147 dX2_digest_107 (by decide) (zle_NN (by omega) (by omega)) (fun c_107 => ?_) (fun h9 => absurd (by omega) h9)
                  refine z_lload_n C dX2_digest_147 1 rfl ?_
                  exact z_lretP C dX2_digest_148 (by rw [show b4 = zNb a by omega]; rfl) rfl
                | succ k4 ih102 =>
                  intro b4 hb4k
                  refine z_iload_n C dX2_digest_102 2 rfl ?_
                  refine z_aload_n C dX2_digest_103 0 rfl ?_
                  refine z_get C inX2_digest_X2 0 wB_o rfl 10 (by decide) (C.w 5 rfl) rfl dX2_digest_104 ?_
                  refine z_icmp_ge C 147 dX2_digest_107 (by decide) (zle_NN (by omega) (by omega)) (fun h9 => absurd h9 (by omega)) (fun c_107 => ?_)
                  refine z_iconst C (nI 0) dX2_digest_110 (by decide) ?_
                  refine z_istore C dX2_digest_111 (by decide) [(4, .int (nI 0)), (0, .ref (q 0)), (1, .long (aDg4 a b4)), (3, .int (nI b4))] rfl ?_
                  refine zW.pick (lv' := [(0, .ref (q 0)), (1, .long (aDg4 a b4)), (3, .int (nI b4)), (4, .int (nI 0))]) [1, 2, 3, 0] rfl ?_
                  have hlp113 : ∀ (kj4 j4 : Nat), j4 + kj4 = 8 → zW g l ({ frames := 5, cells := 0, slots := 0, locals := 118 }) E (zMQ g E (zPl (aDigest a) (wB g q a (zG0 a) bs wb pd gw)) 0 0) 5 0 0 (wB g q a (zG0 a) bs wb pd gw) [(0, .ref (q 0)), (1, .long (zDg (aTold a b4) (aDg4 a b4) j4)), (3, .int (nI b4)), (4, .int (nI j4))] [] 113 := by
                    intro kj4
                    induction kj4 with
                    | zero =>
                      intro j4 hj4k
                      refine z_iload C dX2_digest_113 3 rfl ?_
                      refine z_bipush C (nI 7) dX2_digest_115 (by decide) ?_
                      refine z_icmp_gt C 141 dX2_digest_117 (by decide) (zlt_NN (by omega) (by omega)) (fun c_117 => ?_) (fun h9 => absurd (by omega) h9)
                      refine z_iinc C dX2_digest_141 2 (nI (b4 + 1)) rfl (nI_add b4 1) (by decide) [(3, .int (nI (b4 + 1))), (0, .ref (q 0)), (1, .long (zDg (aTold a b4) (aDg4 a b4) j4)), (4, .int (nI j4))] rfl ?_
                      refine z_goto C 102 dX2_digest_144 (by decide) ?_
                      refine zW.pick (lv' := [(0, .ref (q 0)), (1, .long (zDg (aTold a b4) (aDg4 a b4) j4)), (3, .int (nI (b4 + 1)))]) [1, 2, 0] rfl ?_
                      refine zW.lve (lv' := [(0, .ref (q 0)), (1, .long (aDg4 a (b4 + 1))), (3, .int (nI (b4 + 1)))]) ((by rw [show j4 = 8 by omega]; rfl)) ?_
                      exact ih102 (b4 + 1) (by omega)
                    | succ kj4 ih113 =>
                      intro j4 hj4k
                      refine z_iload C dX2_digest_113 3 rfl ?_
                      refine z_bipush C (nI 7) dX2_digest_115 (by decide) ?_
                      refine z_icmp_gt C 141 dX2_digest_117 (by decide) (zlt_NN (by omega) (by omega)) (fun h9 => absurd h9 (by omega)) (fun c_117 => ?_)
                      refine z_lload_n C dX2_digest_120 1 rfl ?_
                      refine z_ldc2 C (31) (C.w 2 rfl) dX2_digest_121 ?_
                      refine z_lmul C dX2_digest_124 (v := (zDg (aTold a b4) (aDg4 a b4) j4) * (31)) rfl ?_
                      refine z_aload_n C dX2_digest_125 0 rfl ?_
                      refine z_iload_n C dX2_digest_126 2 rfl ?_
                      refine z_iload C dX2_digest_127 3 rfl ?_
                      refine z_callV C (c_X2_told l g q a bs wb pd gw ha hs b4 j4 (by omega) (by omega)) (cwV 2 C.ts gX2_digest_X2_told rfl rfl rfl (by decide +kernel) ⟨Nat.le_of_ble_eq_true rfl, Nat.le_of_ble_eq_true rfl⟩) wB_o rfl rfl rfl (Nat.le_of_ble_eq_true rfl) dX2_digest_129 ⟨Nat.zero_le _, Nat.zero_le _⟩ (z_i ?_)
                      refine z_i2l C dX2_digest_132 (v := (iZ (aTold a b4 j4)).toInt64) rfl ?_
                      refine z_ladd C dX2_digest_133 (v := ((zDg (aTold a b4) (aDg4 a b4) j4) * (31)) + ((iZ (aTold a b4 j4)).toInt64)) rfl ?_
                      refine z_lstore_n C dX2_digest_134 (by decide) [(1, .long (((zDg (aTold a b4) (aDg4 a b4) j4) * (31)) + ((iZ (aTold a b4 j4)).toInt64))), (0, .ref (q 0)), (3, .int (nI b4)), (4, .int (nI j4))] rfl ?_
                      refine z_iinc C dX2_digest_135 3 (nI (j4 + 1)) rfl (nI_add j4 1) (by decide) [(4, .int (nI (j4 + 1))), (1, .long (((zDg (aTold a b4) (aDg4 a b4) j4) * (31)) + ((iZ (aTold a b4 j4)).toInt64))), (0, .ref (q 0)), (3, .int (nI b4))] rfl ?_
                      refine z_goto C 113 dX2_digest_138 (by decide) ?_
                      refine zW.pick (lv' := [(0, .ref (q 0)), (1, .long (((zDg (aTold a b4) (aDg4 a b4) j4) * (31)) + ((iZ (aTold a b4 j4)).toInt64))), (3, .int (nI b4)), (4, .int (nI (j4 + 1)))]) [2, 1, 3, 0] rfl ?_
                      refine zW.lve (lv' := [(0, .ref (q 0)), (1, .long (zDg (aTold a b4) (aDg4 a b4) (j4 + 1))), (3, .int (nI b4)), (4, .int (nI (j4 + 1)))]) (rfl) ?_
                      exact ih113 (j4 + 1) (by omega)
                  exact hlp113 (8) 0 (by omega)
              exact hlp102 (zNb a) 0 (by omega)
            | succ k3 ih56 =>
              intro b3 hb3k
              refine z_iload_n C dX2_digest_56 2 rfl ?_
              refine z_aload_n C dX2_digest_57 0 rfl ?_
              refine z_get C inX2_digest_X2 0 wB_o rfl 3 (by decide) (C.w 4 rfl) rfl dX2_digest_58 ?_
              refine z_icmp_ge C 100 dX2_digest_61 (by decide) (zle_NN (by omega) (by omega)) (fun h9 => absurd h9 (by omega)) (fun c_61 => ?_)
              refine z_iconst C (nI 0) dX2_digest_64 (by decide) ?_
              refine z_istore C dX2_digest_65 (by decide) [(4, .int (nI 0)), (0, .ref (q 0)), (1, .long (aDg3 a b3)), (3, .int (nI b3))] rfl ?_
              refine zW.pick (lv' := [(0, .ref (q 0)), (1, .long (aDg3 a b3)), (3, .int (nI b3)), (4, .int (nI 0))]) [1, 2, 3, 0] rfl ?_
              have hlp67 : ∀ (kj3 j3 : Nat), j3 + kj3 = 6 → zW g l ({ frames := 5, cells := 0, slots := 0, locals := 118 }) E (zMQ g E (zPl (aDigest a) (wB g q a (zG0 a) bs wb pd gw)) 0 0) 5 0 0 (wB g q a (zG0 a) bs wb pd gw) [(0, .ref (q 0)), (1, .long (zDg (aAbout a b3) (aDg3 a b3) j3)), (3, .int (nI b3)), (4, .int (nI j3))] [] 67 := by
                intro kj3
                induction kj3 with
                | zero =>
                  intro j3 hj3k
                  refine z_iload C dX2_digest_67 3 rfl ?_
                  refine z_iconst C (nI 5) dX2_digest_69 (by decide) ?_
                  refine z_icmp_gt C 94 dX2_digest_70 (by decide) (zlt_NN (by omega) (by omega)) (fun c_70 => ?_) (fun h9 => absurd (by omega) h9)
                  refine z_iinc C dX2_digest_94 2 (nI (b3 + 1)) rfl (nI_add b3 1) (by decide) [(3, .int (nI (b3 + 1))), (0, .ref (q 0)), (1, .long (zDg (aAbout a b3) (aDg3 a b3) j3)), (4, .int (nI j3))] rfl ?_
                  refine z_goto C 56 dX2_digest_97 (by decide) ?_
                  refine zW.pick (lv' := [(0, .ref (q 0)), (1, .long (zDg (aAbout a b3) (aDg3 a b3) j3)), (3, .int (nI (b3 + 1)))]) [1, 2, 0] rfl ?_
                  refine zW.lve (lv' := [(0, .ref (q 0)), (1, .long (aDg3 a (b3 + 1))), (3, .int (nI (b3 + 1)))]) ((by rw [show j3 = 6 by omega]; rfl)) ?_
                  exact ih56 (b3 + 1) (by omega)
                | succ kj3 ih67 =>
                  intro j3 hj3k
                  refine z_iload C dX2_digest_67 3 rfl ?_
                  refine z_iconst C (nI 5) dX2_digest_69 (by decide) ?_
                  refine z_icmp_gt C 94 dX2_digest_70 (by decide) (zlt_NN (by omega) (by omega)) (fun h9 => absurd h9 (by omega)) (fun c_70 => ?_)
                  refine z_lload_n C dX2_digest_73 1 rfl ?_
                  refine z_ldc2 C (31) (C.w 2 rfl) dX2_digest_74 ?_
                  refine z_lmul C dX2_digest_77 (v := (zDg (aAbout a b3) (aDg3 a b3) j3) * (31)) rfl ?_
                  refine z_aload_n C dX2_digest_78 0 rfl ?_
                  refine z_iload_n C dX2_digest_79 2 rfl ?_
                  refine z_iload C dX2_digest_80 3 rfl ?_
                  refine z_callV C (c_X2_about l g q a bs wb pd gw ha hs b3 j3 (by omega) (by omega)) (cwV 2 C.ts gX2_digest_X2_about rfl rfl rfl (by decide +kernel) ⟨Nat.le_of_ble_eq_true rfl, Nat.le_of_ble_eq_true rfl⟩) wB_o rfl rfl rfl (Nat.le_of_ble_eq_true rfl) dX2_digest_82 ⟨Nat.zero_le _, Nat.zero_le _⟩ (z_i ?_)
                  refine z_i2l C dX2_digest_85 (v := (iZ (aAbout a b3 j3)).toInt64) rfl ?_
                  refine z_ladd C dX2_digest_86 (v := ((zDg (aAbout a b3) (aDg3 a b3) j3) * (31)) + ((iZ (aAbout a b3 j3)).toInt64)) rfl ?_
                  refine z_lstore_n C dX2_digest_87 (by decide) [(1, .long (((zDg (aAbout a b3) (aDg3 a b3) j3) * (31)) + ((iZ (aAbout a b3 j3)).toInt64))), (0, .ref (q 0)), (3, .int (nI b3)), (4, .int (nI j3))] rfl ?_
                  refine z_iinc C dX2_digest_88 3 (nI (j3 + 1)) rfl (nI_add j3 1) (by decide) [(4, .int (nI (j3 + 1))), (1, .long (((zDg (aAbout a b3) (aDg3 a b3) j3) * (31)) + ((iZ (aAbout a b3 j3)).toInt64))), (0, .ref (q 0)), (3, .int (nI b3))] rfl ?_
                  refine z_goto C 67 dX2_digest_91 (by decide) ?_
                  refine zW.pick (lv' := [(0, .ref (q 0)), (1, .long (((zDg (aAbout a b3) (aDg3 a b3) j3) * (31)) + ((iZ (aAbout a b3 j3)).toInt64))), (3, .int (nI b3)), (4, .int (nI (j3 + 1)))]) [2, 1, 3, 0] rfl ?_
                  refine zW.lve (lv' := [(0, .ref (q 0)), (1, .long (zDg (aAbout a b3) (aDg3 a b3) (j3 + 1))), (3, .int (nI b3)), (4, .int (nI (j3 + 1)))]) (rfl) ?_
                  exact ih67 (j3 + 1) (by omega)
              exact hlp67 (6) 0 (by omega)
          exact hlp56 (zNd a) 0 (by omega)
        | succ k2 ih33 =>
          intro b2 hb2k
          refine z_iload_n C dX2_digest_33 2 rfl ?_
          refine z_aload_n C dX2_digest_34 0 rfl ?_
          refine z_get C inX2_digest_X2 0 wB_o rfl 1 (by decide) (C.w 3 rfl) rfl dX2_digest_35 ?_
          refine z_icmp_ge C 54 dX2_digest_38 (by decide) (zle_NN (by omega) (by omega)) (fun h9 => absurd h9 (by omega)) (fun c_38 => ?_)
          refine z_aload_n C dX2_digest_41 0 rfl ?_
          refine z_lload_n C dX2_digest_42 1 rfl ?_
          refine z_iload_n C dX2_digest_43 2 rfl ?_
          refine z_callV C (c_X2_digestField l g q a bs wb pd gw ha hs (aDg2 a b2) b2 (by omega)) (cwV 2 C.ts gX2_digest_X2_digestField rfl rfl rfl (by decide +kernel) ⟨Nat.le_of_ble_eq_true rfl, Nat.le_of_ble_eq_true rfl⟩) wB_o rfl rfl rfl (Nat.le_of_ble_eq_true rfl) dX2_digest_44 ⟨Nat.zero_le _, Nat.zero_le _⟩ (z_l ?_)
          refine z_lstore_n C dX2_digest_47 (by decide) [(1, .long (zDg (aAlone a b2) (zDg (aLand a b2) (aDg2 a b2) 3) 3)), (0, .ref (q 0)), (3, .int (nI b2))] rfl ?_
          refine z_iinc C dX2_digest_48 2 (nI (b2 + 1)) rfl (nI_add b2 1) (by decide) [(3, .int (nI (b2 + 1))), (1, .long (zDg (aAlone a b2) (zDg (aLand a b2) (aDg2 a b2) 3) 3)), (0, .ref (q 0))] rfl ?_
          refine z_goto C 33 dX2_digest_51 (by decide) ?_
          refine zW.pick (lv' := [(0, .ref (q 0)), (1, .long (zDg (aAlone a b2) (zDg (aLand a b2) (aDg2 a b2) 3) 3)), (3, .int (nI (b2 + 1)))]) [2, 1, 0] rfl ?_
          refine zW.lve (lv' := [(0, .ref (q 0)), (1, .long (aDg2 a (b2 + 1))), (3, .int (nI (b2 + 1)))]) (rfl) ?_
          exact ih33 (b2 + 1) (by omega)
      exact hlp33 (zNf a) 0 (by omega)
    | succ k ih6 =>
      intro i hik
      refine z_iload_n C dX2_digest_6 2 rfl ?_
      refine z_bipush C (nI 8) dX2_digest_7 (by decide) ?_
      refine z_icmp_gt C 31 dX2_digest_9 (by decide) (zlt_NN (by omega) (by omega)) (fun h9 => absurd h9 (by omega)) (fun c_9 => ?_)
      refine z_lload_n C dX2_digest_12 1 rfl ?_
      refine z_ldc2 C (31) (C.w 2 rfl) dX2_digest_13 ?_
      refine z_lmul C dX2_digest_16 (v := (zDg (aCount a) 1619 i) * (31)) rfl ?_
      refine z_aload_n C dX2_digest_17 0 rfl ?_
      refine z_iload_n C dX2_digest_18 2 rfl ?_
      refine z_callV C (c_X2_count l g q a bs wb pd gw ha hs i (by omega)) (cwV 1 C.ts gX2_digest_X2_count rfl rfl rfl (by decide +kernel) ⟨Nat.le_of_ble_eq_true rfl, Nat.le_of_ble_eq_true rfl⟩) wB_o rfl rfl rfl (Nat.le_of_ble_eq_true rfl) dX2_digest_19 ⟨Nat.zero_le _, Nat.zero_le _⟩ (z_i ?_)
      refine z_i2l C dX2_digest_22 (v := (iZ (aCount a i)).toInt64) rfl ?_
      refine z_ladd C dX2_digest_23 (v := ((zDg (aCount a) 1619 i) * (31)) + ((iZ (aCount a i)).toInt64)) rfl ?_
      refine z_lstore_n C dX2_digest_24 (by decide) [(1, .long (((zDg (aCount a) 1619 i) * (31)) + ((iZ (aCount a i)).toInt64))), (0, .ref (q 0)), (3, .int (nI i))] rfl ?_
      refine z_iinc C dX2_digest_25 2 (nI (i + 1)) rfl (nI_add i 1) (by decide) [(3, .int (nI (i + 1))), (1, .long (((zDg (aCount a) 1619 i) * (31)) + ((iZ (aCount a i)).toInt64))), (0, .ref (q 0))] rfl ?_
      refine z_goto C 6 dX2_digest_28 (by decide) ?_
      refine zW.pick (lv' := [(0, .ref (q 0)), (1, .long (((zDg (aCount a) 1619 i) * (31)) + ((iZ (aCount a i)).toInt64))), (3, .int (nI (i + 1)))]) [2, 1, 0] rfl ?_
      refine zW.lve (lv' := [(0, .ref (q 0)), (1, .long (zDg (aCount a) 1619 (i + 1))), (3, .int (nI (i + 1)))]) (rfl) ?_
      exact ih6 (i + 1) (by omega)
  exact hlp6 (9) 0 (by omega)
theorem inX2_would_X0 : ∀ w ∈ wsX00, w ∈ wsX2_would := fun w h => List.mem_cons_of_mem _ (List.mem_append_left _ (List.mem_append_left _ (List.mem_append_right _ (h))))
theorem inX2_would_X1 : ∀ w ∈ wsX10, w ∈ wsX2_would := fun w h => List.mem_cons_of_mem _ (List.mem_append_left _ (List.mem_append_left _ (List.mem_append_left _ (List.mem_append_right _ (h)))))
theorem inX2_would_X2 : ∀ w ∈ wsX20, w ∈ wsX2_would := fun w h => List.mem_cons_of_mem _ (List.mem_append_left _ (List.mem_append_left _ (List.mem_append_left _ (List.mem_append_left _ (List.mem_append_right _ (h))))))
set_option maxRecDepth 100000 in
set_option maxHeartbeats 4000000 in
theorem c_X2_would (l : Launch) (g : zG) (q : Nat → Nat) (a : zS) (bs : Nat → Int × Nat) (wb pd gw : Nat → Nat → Int) (ha : zInv a) (hs : zSet a bs wb pd gw 0 0) (b x w : Nat) (hb : b < zNb a) (hx : x ≤ 999) (hw : w ≤ 3) : zM g l yX2_would wsX2_would { frames := 30, cells := 0, slots := 0, locals := 798 } [.ref (q 0), .int (nI b), .int (nI x), .int (nI w)] (wB g q a (zG0 a) bs wb pd gw) (zPie (iZ (aWould a b x w)) (zFace g q a)) 0 0 := by
  refine zM.of (cc := cX2_would) (nL := 5) (ret := (some .int)) (lv := [(0, .ref (q 0)), (1, .int (nI b)), (2, .int (nI x)), (3, .int (nI w))]) (by decide) rfl (Nat.le_of_ble_eq_true rfl) rfl ?_
  intro E C0 hi
  have C : zC g E cX2_would RX2 wsX2_would 5 (some .int) := C0
  have hi9 := ha
  have ha := hi9.1
  obtain ⟨hnf, hnd, hnb, hou, hrs, hbd⟩ := id ha
  have h1 := zInv_setPr (b := b) hi9 hx
  have how := ha.ow hb
  refine z_aload_n C dX2_would_0 0 rfl ?_
  refine z_iload_n C dX2_would_1 1 rfl ?_
  refine z_callV C (c_X2_requireBid l g q a bs wb pd gw ha b (by omega)) (cwV 1 C.ts gX2_would_X2_requireBid rfl rfl rfl (by decide +kernel) ⟨Nat.le_of_ble_eq_true rfl, Nat.le_of_ble_eq_true rfl⟩) wB_o rfl rfl rfl (Nat.le_of_ble_eq_true rfl) dX2_would_2 ⟨Nat.zero_le _, Nat.zero_le _⟩ (z_v ?_)
  refine z_iload_n C dX2_would_5 3 rfl ?_
  refine z_iconst C (nI 3) dX2_would_6 (by decide) ?_
  refine z_callS C (c_X2_requireWhat l g (wB g q a (zG0 a) bs wb pd gw) w 3 (by omega) (by omega)) (va_cwS 2 C.ts gX2_would_X2_requireWhat rfl rfl rfl (by decide +kernel) ⟨Nat.le_of_ble_eq_true rfl, Nat.le_of_ble_eq_true rfl⟩) rfl rfl (Nat.le_of_ble_eq_true rfl) dX2_would_7 ⟨Nat.zero_le _, Nat.zero_le _⟩ (z_v ?_)
  refine z_iload_n C dX2_would_10 2 rfl ?_
  refine z_callS C (c_X2_requireAmount l g (wB g q a (zG0 a) bs wb pd gw) x (by omega)) (va_cwS 1 C.ts gX2_would_X2_requireAmount rfl rfl rfl (by decide +kernel) ⟨Nat.le_of_ble_eq_true rfl, Nat.le_of_ble_eq_true rfl⟩) rfl rfl (Nat.le_of_ble_eq_true rfl) dX2_would_11 ⟨Nat.zero_le _, Nat.zero_le _⟩ (z_v ?_)
  refine z_aload_n C dX2_would_14 0 rfl ?_
  refine z_get C inX2_would_X2 0 wB_o rfl 6 (by decide) (C.w 1 rfl) rfl dX2_would_15 ?_
  refine z_iload_n C dX2_would_18 1 rfl ?_
  refine z_ialdN C 5 wB_pr (by omega) (by decide) dX2_would_19 (v := nI (zPr a b)) rfl ?_
  have f_19b := (ha.pr (b := b) (by omega))
  refine z_istore C dX2_would_20 (by decide) [(4, .int (nI (zPr a b))), (0, .ref (q 0)), (1, .int (nI b)), (2, .int (nI x)), (3, .int (nI w))] rfl ?_
  refine z_aload_n C dX2_would_22 1 rfl ?_
  refine z_iload_n C dX2_would_23 2 rfl ?_
  refine z_iload_n C dX2_would_24 3 rfl ?_
  refine z_callV C (c_X2_putPrice l g q a bs wb pd gw (zG0 a) ha b x (by omega) h1.1) (cwV 2 C.ts gX2_would_X2_putPrice rfl rfl rfl (by decide +kernel) ⟨Nat.le_of_ble_eq_true rfl, Nat.le_of_ble_eq_true rfl⟩) wB_o rfl rfl rfl (Nat.le_of_ble_eq_true rfl) dX2_would_25 ⟨Nat.zero_le _, Nat.zero_le _⟩ (z_v ?_)
  rw [zG0_setPr _ (by omega)]
  refine z_aload_n C dX2_would_28 1 rfl ?_
  refine z_aload_n C dX2_would_29 1 rfl ?_
  refine z_get C inX2_would_X2 0 wB_o rfl 12 (by decide) (C.w 2 rfl) rfl dX2_would_30 ?_
  refine z_iconst C (nI 0) dX2_would_33 (by decide) ?_
  refine z_callV C (c_X2_settle l g q (zSetPr a b x) bs wb pd gw 1 h1.1 (by decide) 0) (cwV 2 C.ts gX2_would_X2_settle rfl rfl rfl (by decide +kernel) ⟨Nat.le_of_ble_eq_true rfl, Nat.le_of_ble_eq_true rfl⟩) wB_o rfl rfl rfl (Nat.le_of_ble_eq_true rfl) dX2_would_34 ⟨Nat.zero_le _, Nat.zero_le _⟩ (z_e ?_)
  rintro _ ⟨bs2, wb2, pd2, gw2, rfl, hs2, hk2⟩
  refine z_aload_n C dX2_would_37 1 rfl ?_
  refine z_iload_n C dX2_would_38 2 rfl ?_
  refine z_iload C dX2_would_39 0 rfl ?_
  refine z_callV C (c_X2_putPrice l g q (zSetPr a b x) bs2 wb2 pd2 gw2 (zG0 (zSetPr a b x)) h1.1 b (zPr a b) (by omega) (by rw [zSetPr_back]; exact ha)) (cwV 2 C.ts gX2_would_X2_putPrice rfl rfl rfl (by decide +kernel) ⟨Nat.le_of_ble_eq_true rfl, Nat.le_of_ble_eq_true rfl⟩) wB_o rfl rfl rfl (Nat.le_of_ble_eq_true rfl) dX2_would_41 ⟨Nat.zero_le _, Nat.zero_le _⟩ (z_v ?_)
  rw [zG0_setPr _ (show b < zNb (zSetPr a b x) from hb)]
  rw [zSetPr_back]
  refine z_iload_n C dX2_would_44 4 rfl ?_
  rcases (show w = 0 ∨ w = 1 ∨ w = 2 ∨ w = 3 by omega) with rfl | rfl | rfl | rfl
  · skip
    refine z_tabIn C 72 dX2_would_45 (by decide) (by decide) (off := 27) (by decide) (by decide) ?_
    refine z_aload_n C dX2_would_72 1 rfl ?_
    refine z_get C inX2_would_X2 0 wB_o rfl 12 (by decide) (C.w 2 rfl) rfl dX2_would_73 ?_
    refine z_getN C inX2_would_X1 (12 + 1) (wB_sl (z := 1) (by decide)) rfl 0 (by decide) 0 rfl rfl dX2_would_76 ?_
    refine z_iload_n C dX2_would_79 2 rfl ?_
    refine z_callVN C (c_X0_has l g q a bs2 wb2 pd2 gw2 1 (by decide) b (by omega)) ⟨va_cnB 1 C.ts ggX2_would_X0_has rfl rfl rfl (C.K.2.1 _ (List.mem_of_getElem? (i := 6) rfl)) (C.w 50 rfl) (by decide +kernel) ⟨Nat.le_of_ble_eq_true rfl, Nat.le_of_ble_eq_true rfl⟩, (C.w 91 rfl), (C.w 92 rfl)⟩ (wB_bs (z := 1) (by decide)) rfl rfl rfl (Nat.le_of_ble_eq_true rfl) dX2_would_80 ⟨Nat.zero_le _, Nat.zero_le _⟩ (z_i ?_)
    refine z_callS C (c_X2_asNumber l g (wB g q a (zG0 a) bs2 wb2 pd2 gw2) ((bs2 1).2.testBit b)) (va_cwS 1 C.ts gX2_would_X2_asNumber rfl rfl rfl (by decide +kernel) ⟨Nat.le_of_ble_eq_true rfl, Nat.le_of_ble_eq_true rfl⟩) rfl rfl (Nat.le_of_ble_eq_true rfl) dX2_would_83 ⟨Nat.zero_le _, Nat.zero_le _⟩ (z_i ?_)
    exact z_iretE C dX2_would_86 (by rw [hs2.1]; exact bI_Z _) ⟨_, _, _, _, rfl, zSet_keep hs hk2⟩
  · skip
    refine z_tabIn C 87 dX2_would_45 (by decide) (by decide) (off := 42) (by decide) (by decide) ?_
    refine z_aload_n C dX2_would_87 1 rfl ?_
    refine z_get C inX2_would_X2 0 wB_o rfl 12 (by decide) (C.w 2 rfl) rfl dX2_would_88 ?_
    refine z_getN C inX2_would_X1 (12 + 1) (wB_sl (z := 1) (by decide)) rfl 2 (by decide) 2 rfl rfl dX2_would_91 ?_
    refine z_aload_n C dX2_would_94 1 rfl ?_
    refine z_get C inX2_would_X2 0 wB_o rfl 4 (by decide) (C.w 3 rfl) rfl dX2_would_95 ?_
    refine z_iload_n C dX2_would_98 2 rfl ?_
    refine z_ialdN C 3 wB_ow (by omega) (by decide) dX2_would_99 (v := nI (zOw a b)) rfl ?_
    have f_99b := (ha.ow (b := b) (by omega))
    refine z_ialdN C (16 + 1) (wB_pd (z := 1) (by decide)) (by omega) (by decide) dX2_would_100 (v := iZ (pd2 1 (zOw a b))) rfl ?_
    exact z_iretE C dX2_would_101 (by rw [hs2.pd (by omega)]; rfl) ⟨_, _, _, _, rfl, zSet_keep hs hk2⟩
  · skip
    refine z_tabIn C 102 dX2_would_45 (by decide) (by decide) (off := 57) (by decide) (by decide) ?_
    refine z_aload_n C dX2_would_102 1 rfl ?_
    refine z_aload_n C dX2_would_103 1 rfl ?_
    refine z_get C inX2_would_X2 0 wB_o rfl 12 (by decide) (C.w 2 rfl) rfl dX2_would_104 ?_
    refine z_aload_n C dX2_would_107 1 rfl ?_
    refine z_get C inX2_would_X2 0 wB_o rfl 4 (by decide) (C.w 3 rfl) rfl dX2_would_108 ?_
    refine z_iload_n C dX2_would_111 2 rfl ?_
    refine z_ialdN C 3 wB_ow (by omega) (by decide) dX2_would_112 (v := nI (zOw a b)) rfl ?_
    have f_112b := (ha.ow (b := b) (by omega))
    refine z_callV C (c_X2_profit l g q a bs2 wb2 pd2 gw2 1 ha (by decide) (zOw a b) (by omega) (hs2.wor _ (by omega))) (cwV 2 C.ts gX2_would_X2_profit rfl rfl rfl (by decide +kernel) ⟨Nat.le_of_ble_eq_true rfl, Nat.le_of_ble_eq_true rfl⟩) wB_o rfl rfl rfl (Nat.le_of_ble_eq_true rfl) dX2_would_113 ⟨Nat.zero_le _, Nat.zero_le _⟩ (z_i ?_)
    exact z_iretE C dX2_would_116 (by rw [hs2.wb (by omega), hs2.pd (by omega)]; rfl) ⟨_, _, _, _, rfl, zSet_keep hs hk2⟩
  · skip
    refine z_tabOut C 117 dX2_would_45 (by decide) (by decide) ?_
    refine z_aload_n C dX2_would_117 1 rfl ?_
    refine z_get C inX2_would_X2 0 wB_o rfl 12 (by decide) (C.w 2 rfl) rfl dX2_would_118 ?_
    refine z_getN C inX2_would_X1 (12 + 1) (wB_sl (z := 1) (by decide)) rfl 0 (by decide) 0 rfl rfl dX2_would_121 ?_
    refine z_getN C inX2_would_X0 (9 + 1) (wB_bs (z := 1) (by decide)) rfl 0 (by decide) 4 rfl rfl dX2_would_124 ?_
    exact z_iretE C dX2_would_127 (by rw [hs2.1]; rfl) ⟨_, _, _, _, rfl, zSet_keep hs hk2⟩
theorem inX2_least_X2 : ∀ w ∈ wsX20, w ∈ wsX2_least := fun w h => List.mem_cons_of_mem _ (List.mem_append_left _ (List.mem_append_left _ (List.mem_append_right _ (h))))
set_option maxRecDepth 100000 in
set_option maxHeartbeats 4000000 in
theorem c_X2_least (l : Launch) (g : zG) (q : Nat → Nat) (a : zS) (bs : Nat → Int × Nat) (wb pd gw : Nat → Nat → Int) (ha : zInv a) (hs : zSet a bs wb pd gw 0 0) (b : Nat) (hb : b < zNb a) : zM g l yX2_least wsX2_least { frames := 30, cells := 0, slots := 0, locals := 797 } [.ref (q 0), .int (nI b)] (wB g q a (zG0 a) bs wb pd gw) (zPie (iZ (aLeast a b)) (zFace g q a)) 0 0 := by
  refine zM.of (cc := cX2_least) (nL := 6) (ret := (some .int)) (lv := [(0, .ref (q 0)), (1, .int (nI b))]) (by decide) rfl (Nat.le_of_ble_eq_true rfl) rfl ?_
  intro E C0 hi
  have C : zC g E cX2_least RX2 wsX2_least 6 (some .int) := C0
  have hi9 := ha
  have ha := hi9.1
  obtain ⟨hnf, hnd, hnb, hou, hrs, hbd⟩ := id ha
  have hall : ∀ x, x ≤ 999 → zOk (zSetPr a b x) := fun x hx => (zInv_setPr (b := b) hi9 hx).1
  refine z_aload_n C dX2_least_0 0 rfl ?_
  refine z_iload_n C dX2_least_1 1 rfl ?_
  refine z_callV C (c_X2_requireBid l g q a bs wb pd gw ha b (by omega)) (cwV 1 C.ts gX2_least_X2_requireBid rfl rfl rfl (by decide +kernel) ⟨Nat.le_of_ble_eq_true rfl, Nat.le_of_ble_eq_true rfl⟩) wB_o rfl rfl rfl (Nat.le_of_ble_eq_true rfl) dX2_least_2 ⟨Nat.zero_le _, Nat.zero_le _⟩ (z_v ?_)
  refine z_aload_n C dX2_least_5 0 rfl ?_
  refine z_get C inX2_least_X2 0 wB_o rfl 6 (by decide) (C.w 1 rfl) rfl dX2_least_6 ?_
  refine z_iload_n C dX2_least_9 1 rfl ?_
  refine z_ialdN C 5 wB_pr (by omega) (by decide) dX2_least_10 (v := nI (zPr a b)) rfl ?_
  have f_10b := (ha.pr (b := b) (by omega))
  refine z_istore_n C dX2_least_11 (by decide) [(2, .int (nI (zPr a b))), (0, .ref (q 0)), (1, .int (nI b))] rfl ?_
  refine z_iconst C (iZ (-1)) dX2_least_12 (by decide) ?_
  refine z_istore_n C dX2_least_13 (by decide) [(3, .int (iZ (-1))), (2, .int (nI (zPr a b))), (0, .ref (q 0)), (1, .int (nI b))] rfl ?_
  refine z_sipush C (nI 512) dX2_least_14 (by decide) ?_
  refine z_istore C dX2_least_17 (by decide) [(4, .int (nI 512)), (3, .int (iZ (-1))), (2, .int (nI (zPr a b))), (0, .ref (q 0)), (1, .int (nI b))] rfl ?_
  rw [show wB g q a (zG0 a) bs wb pd gw = wB g q (zSetPr a b (zPr a b)) (zG0 (zSetPr a b (zPr a b))) bs wb pd gw by rw [zSetPr_id]]
  refine zW.pick (lv' := [(0, .ref (q 0)), (1, .int (nI b)), (2, .int (nI (zPr a b))), (3, .int (iZ (-1))), (4, .int (nI 512))]) [3, 4, 2, 1, 0] rfl ?_
  have hlp19 : ∀ (k i : Nat) (h : Int) (p : Nat) (bs1 : Nat → Int × Nat), i + k = 10 → (-1 ≤ h ∧ h ≤ 999) → (p ≤ 999) → (zSet a bs1 wb pd gw 0 0) → (zLs a b k h = zLs a b 10 (-1)) → zW g l ({ frames := 30, cells := 0, slots := 0, locals := 797 }) E (zMQ g E (zPie (iZ (aLeast a b)) (zFace g q a)) 0 0) 6 0 0 (wB g q (zSetPr a b p) (zG0 (zSetPr a b p)) bs1 wb pd gw) [(0, .ref (q 0)), (1, .int (nI b)), (2, .int (nI (zPr a b))), (3, .int (iZ h)), (4, .int (nI (2 ^ k / 2)))] [] 19 := by
    intro k
    induction k with
    | zero =>
      intro i h p bs1 hik hh hp hs1 hr
      refine z_iload C dX2_least_19 4 rfl ?_
      refine z_if_le C 60 dX2_least_21 (by decide) (zle_N0 (by omega)) (fun c_21 => ?_) (fun h9 => absurd (by decide) h9)
      refine z_aload_n C dX2_least_60 0 rfl ?_
      refine z_iload_n C dX2_least_61 1 rfl ?_
      refine z_iload_n C dX2_least_62 2 rfl ?_
      refine z_callV C (c_X2_putPrice l g q (zSetPr a b p) bs1 wb pd gw (zG0 (zSetPr a b p)) (hall _ hp) b (zPr a b) (by omega) (by rw [zSetPr_2, zSetPr_id]; exact ha)) (cwV 2 C.ts gX2_least_X2_putPrice rfl rfl rfl (by decide +kernel) ⟨Nat.le_of_ble_eq_true rfl, Nat.le_of_ble_eq_true rfl⟩) wB_o rfl rfl rfl (Nat.le_of_ble_eq_true rfl) dX2_least_63 ⟨Nat.zero_le _, Nat.zero_le _⟩ (z_v ?_)
      rw [zG0_setPr _ (show b < zNb (zSetPr a b p) from hb)]
      rw [zSetPr_2, zSetPr_id]
      refine z_iload_n C dX2_least_66 3 rfl ?_
      refine z_sipush C (nI 999) dX2_least_67 (by decide) ?_
      refine z_icmp_ge C 79 dX2_least_70 (by decide) (zle_ZZ (x := 999) (y := h) (by unfold zB31; omega) (by unfold zB31; omega)) (fun c_70 => ?_) (fun c_70 => ?_)
      · skip
        refine z_iconst C (iZ (-1)) dX2_least_79 (by decide) ?_
        exact z_iretE C dX2_least_80 (by have hr9 : h = zLs a b 10 (-1) := hr; unfold aLeast; rw [← hr9]; first | (rw [if_pos (by omega)]; done) | (rw [if_pos (by omega)]; rfl) | (rw [if_neg (by omega)]; done) | (rw [if_neg (by omega)]; rfl)) ⟨_, _, _, _, rfl, hs1⟩
      · skip
        refine z_iload_n C dX2_least_73 3 rfl ?_
        refine z_iconst C (nI 1) dX2_least_74 (by decide) ?_
        refine z_iadd C dX2_least_75 (v := iZ (h + 1)) (iZ_add h 1) ?_
        refine z_goto C 80 dX2_least_76 (by decide) ?_
        exact z_iretE C dX2_least_80 (by have hr9 : h = zLs a b 10 (-1) := hr; unfold aLeast; rw [← hr9]; first | (rw [if_pos (by omega)]; done) | (rw [if_pos (by omega)]; rfl) | (rw [if_neg (by omega)]; done) | (rw [if_neg (by omega)]; rfl)) ⟨_, _, _, _, rfl, hs1⟩
    | succ k ih19 =>
      intro i h p bs1 hik hh hp hs1 hr
      have e2 : 2 ^ (k + 1) / 2 = 2 ^ k := by rw [Nat.pow_succ]; omega
      have hk9 : 2 ^ k ≤ 2 ^ 9 := zp2_le (by omega)
      have hk0 := Nat.two_pow_pos k
      refine z_iload C dX2_least_19 4 rfl ?_
      rw [e2]
      refine z_if_le C 60 dX2_least_21 (by decide) (zle_N0 (by omega)) (fun h9 => absurd h9 (by have := Nat.two_pow_pos k; omega)) (fun c_21 => ?_)
      refine z_iload_n C dX2_least_24 3 rfl ?_
      refine z_iload C dX2_least_25 4 rfl ?_
      refine z_iadd C dX2_least_27 (v := iZ (h + ((2 ^ k : Nat) : Int))) (iZ_add h ((2 ^ k : Nat) : Int)) ?_
      refine z_istore C dX2_least_28 (by decide) [(5, .int (iZ (h + ((2 ^ k : Nat) : Int)))), (0, .ref (q 0)), (1, .int (nI b)), (2, .int (nI (zPr a b))), (3, .int (iZ h)), (4, .int (nI (2 ^ k)))] rfl ?_
      refine z_iload C dX2_least_30 0 rfl ?_
      refine z_sipush C (nI 999) dX2_least_32 (by decide) ?_
      refine z_icmp_gt C 51 dX2_least_35 (by decide) (zlt_ZZ (x := 999) (y := (h + ((2 ^ k : Nat) : Int))) (by unfold zB31; omega) (by unfold zB31; omega)) (fun c_35 => ?_) (fun c_35 => ?_)
      · skip
        refine z_iload C dX2_least_51 5 rfl ?_
        refine z_iconst C (nI 2) dX2_least_53 (by decide) ?_
        refine z_idiv C dX2_least_54 (by decide) (v := nI (2 ^ k / 2)) (pk_div (by omega) (by decide) (by decide)) ?_
        refine z_istore C dX2_least_55 (by decide) [(4, .int (nI (2 ^ k / 2))), (5, .int (iZ (h + ((2 ^ k : Nat) : Int)))), (0, .ref (q 0)), (1, .int (nI b)), (2, .int (nI (zPr a b))), (3, .int (iZ h))] rfl ?_
        refine z_goto C 19 dX2_least_57 (by decide) ?_
        refine zW.pick (lv' := [(0, .ref (q 0)), (1, .int (nI b)), (2, .int (nI (zPr a b))), (3, .int (iZ h)), (4, .int (nI (2 ^ k / 2)))]) [2, 3, 4, 5, 0] rfl ?_
        exact ih19 (i + 1) h p bs1 (by omega) hh hp hs1 (by rw [← hr, zLs_s, if_neg (by omega)])
      · skip
        refine z_aload_n C dX2_least_38 1 rfl ?_
        refine z_iload_n C dX2_least_39 2 rfl ?_
        refine z_iload C dX2_least_40 0 rfl ?_
        obtain ⟨x, hxe⟩ : ∃ x : Nat, h + ((2 ^ k : Nat) : Int) = (x : Int) := ⟨(h + ((2 ^ k : Nat) : Int)).toNat, by omega⟩
        have hx9 : x ≤ 999 := by omega
        refine zW.top (y := nI x) (by rw [hxe]; rfl) ?_
        refine z_callV C (c_X2_winsWith l g q (zSetPr a b p) bs1 wb pd gw (hall _ hp) b x hb (by rw [zSetPr_2]; exact hall _ hx9)) (cwV 2 C.ts gX2_least_X2_winsWith rfl rfl rfl (by decide +kernel) ⟨Nat.le_of_ble_eq_true rfl, Nat.le_of_ble_eq_true rfl⟩) wB_o rfl rfl rfl (Nat.le_of_ble_eq_true rfl) dX2_least_42 ⟨Nat.zero_le _, Nat.zero_le _⟩ (z_i ?_)
        rw [zSetPr_2]
        refine z_if_ne C 51 dX2_least_45 (by decide) (zeq_B0 _) (fun c_45 => ?_) (fun c_45 => ?_)
        · skip
          refine z_iload C dX2_least_51 5 rfl ?_
          refine z_iconst C (nI 2) dX2_least_53 (by decide) ?_
          refine z_idiv C dX2_least_54 (by decide) (v := nI (2 ^ k / 2)) (pk_div (by omega) (by decide) (by decide)) ?_
          refine z_istore C dX2_least_55 (by decide) [(4, .int (nI (2 ^ k / 2))), (5, .int (iZ (h + ((2 ^ k : Nat) : Int)))), (0, .ref (q 0)), (1, .int (nI b)), (2, .int (nI (zPr a b))), (3, .int (iZ h))] rfl ?_
          refine z_goto C 19 dX2_least_57 (by decide) ?_
          refine zW.pick (lv' := [(0, .ref (q 0)), (1, .int (nI b)), (2, .int (nI (zPr a b))), (3, .int (iZ h)), (4, .int (nI (2 ^ k / 2)))]) [2, 3, 4, 5, 0] rfl ?_
          exact ih19 (i + 1) h x (va_up bs1 2 (zFw (zSetPr a b x) 0)) (by omega) hh hx9 (by unfold zSet; rw [va_up_ne _ _ (by decide)]; exact hs1) (by rw [← hr, zLs_s, if_neg (by rw [hxe]; intro h9; have h8 := h9.2; simp [aWins] at h8; simp_all)])
        · skip
          refine z_iload C dX2_least_48 0 rfl ?_
          refine z_istore_n C dX2_least_50 (by decide) [(3, .int (iZ (h + ((2 ^ k : Nat) : Int)))), (5, .int (iZ (h + ((2 ^ k : Nat) : Int)))), (0, .ref (q 0)), (1, .int (nI b)), (2, .int (nI (zPr a b))), (4, .int (nI (2 ^ k)))] rfl ?_
          refine z_iload C dX2_least_51 5 rfl ?_
          refine z_iconst C (nI 2) dX2_least_53 (by decide) ?_
          refine z_idiv C dX2_least_54 (by decide) (v := nI (2 ^ k / 2)) (pk_div (by omega) (by decide) (by decide)) ?_
          refine z_istore C dX2_least_55 (by decide) [(4, .int (nI (2 ^ k / 2))), (3, .int (iZ (h + ((2 ^ k : Nat) : Int)))), (5, .int (iZ (h + ((2 ^ k : Nat) : Int)))), (0, .ref (q 0)), (1, .int (nI b)), (2, .int (nI (zPr a b)))] rfl ?_
          refine z_goto C 19 dX2_least_57 (by decide) ?_
          refine zW.pick (lv' := [(0, .ref (q 0)), (1, .int (nI b)), (2, .int (nI (zPr a b))), (3, .int (iZ (h + ((2 ^ k : Nat) : Int)))), (4, .int (nI (2 ^ k / 2)))]) [3, 4, 5, 1, 0] rfl ?_
          exact ih19 (i + 1) (h + ((2 ^ k : Nat) : Int)) x (va_up bs1 2 (zFw (zSetPr a b x) 0)) (by omega) (by omega) hx9 (by unfold zSet; rw [va_up_ne _ _ (by decide)]; exact hs1) (by rw [← hr, zLs_s, if_pos ⟨by omega, by rw [hxe]; simpa [aWins] using c_45⟩])
  exact hlp19 (10) 0 (-1) (zPr a b) bs (by omega) (⟨by decide, by decide⟩) (ha.pr hb) hs rfl
theorem inX2_rival_X2 : ∀ w ∈ wsX20, w ∈ wsX2_rival := fun w h => List.mem_cons_of_mem _ (List.mem_append_left _ (List.mem_append_left _ (List.mem_append_right _ (h))))
set_option maxRecDepth 100000 in
set_option maxHeartbeats 4000000 in
theorem c_X2_rival (l : Launch) (g : zG) (q : Nat → Nat) (a : zS) (bs : Nat → Int × Nat) (wb pd gw : Nat → Nat → Int) (ha : zInv a) (hs : zSet a bs wb pd gw 0 0)  : zM g l yX2_rival wsX2_rival { frames := 30, cells := 0, slots := 0, locals := 798 } [.ref (q 0)] (wB g q a (zG0 a) bs wb pd gw) (zPie (iZ ((zRv a (zNd a)).1)) (zFace g q a)) 0 0 := by
  refine zM.of (cc := cX2_rival) (nL := 5) (ret := (some .int)) (lv := [(0, .ref (q 0))]) (by decide) rfl (Nat.le_of_ble_eq_true rfl) rfl ?_
  intro E C0 hi
  have C : zC g E cX2_rival RX2 wsX2_rival 5 (some .int) := C0
  have hi9 := ha
  have ha := hi9.1
  obtain ⟨hnf, hnd, hnb, hou, hrs, hbd⟩ := id ha
  refine z_iconst C (iZ (-1)) dX2_rival_0 (by decide) ?_
  refine z_istore_n C dX2_rival_1 (by decide) [(1, .int (iZ (-1))), (0, .ref (q 0))] rfl ?_
  refine z_iconst C (iZ (-1)) dX2_rival_2 (by decide) ?_
  refine z_istore_n C dX2_rival_3 (by decide) [(2, .int (iZ (-1))), (1, .int (iZ (-1))), (0, .ref (q 0))] rfl ?_
  refine z_iconst C (nI 0) dX2_rival_4 (by decide) ?_
  refine z_istore_n C dX2_rival_5 (by decide) [(3, .int (nI 0)), (2, .int (iZ (-1))), (1, .int (iZ (-1))), (0, .ref (q 0))] rfl ?_
  refine zW.pick (lv' := [(0, .ref (q 0)), (1, .int (iZ (-1))), (2, .int (iZ (-1))), (3, .int (nI 0))]) [3, 2, 1, 0] rfl ?_
  have hlp6 : ∀ (k d : Nat) (bs1 : Nat → Int × Nat) (wb1 : Nat → Nat → Int) (pd1 : Nat → Nat → Int) (gw1 : Nat → Nat → Int), d + k = zNd a → (zSet a bs1 wb1 pd1 gw1 0 0) → zW g l ({ frames := 30, cells := 0, slots := 0, locals := 798 }) E (zMQ g E (zPie (iZ ((zRv a (zNd a)).1)) (zFace g q a)) 0 0) 5 0 0 (wB g q a (zG0 a) bs1 wb1 pd1 gw1) [(0, .ref (q 0)), (1, .int (iZ ((zRv a d).1))), (2, .int (iZ ((zRv a d).2))), (3, .int (nI d))] [] 6 := by
    intro k
    induction k with
    | zero =>
      intro d bs1 wb1 pd1 gw1 hdk hs1
      refine z_iload_n C dX2_rival_6 3 rfl ?_
      refine z_aload_n C dX2_rival_7 0 rfl ?_
      refine z_get C inX2_rival_X2 0 wB_o rfl 3 (by decide) (C.w 1 rfl) rfl dX2_rival_8 ?_
      refine z_icmp_ge C 51 dX2_rival_11 (by decide) (zle_NN (by omega) (by omega)) (fun c_11 => ?_) (fun h9 => absurd (by omega) h9)
      refine z_iload_n C dX2_rival_51 1 rfl ?_
      exact z_iretE C dX2_rival_52 (by rw [show d = zNd a by omega]) ⟨_, _, _, _, rfl, hs1⟩
    | succ k ih6 =>
      intro d bs1 wb1 pd1 gw1 hdk hs1
      refine z_iload_n C dX2_rival_6 3 rfl ?_
      refine z_aload_n C dX2_rival_7 0 rfl ?_
      refine z_get C inX2_rival_X2 0 wB_o rfl 3 (by decide) (C.w 1 rfl) rfl dX2_rival_8 ?_
      refine z_icmp_ge C 51 dX2_rival_11 (by decide) (zle_NN (by omega) (by omega)) (fun h9 => absurd h9 (by omega)) (fun c_11 => ?_)
      refine z_aload_n C dX2_rival_14 0 rfl ?_
      refine z_aload_n C dX2_rival_15 0 rfl ?_
      refine z_get C inX2_rival_X2 0 wB_o rfl 12 (by decide) (C.w 2 rfl) rfl dX2_rival_16 ?_
      refine z_iconst C (nI 1) dX2_rival_19 (by decide) ?_
      refine z_iload_n C dX2_rival_20 3 rfl ?_
      refine z_ishl C dX2_rival_21 (v := nI (2 ^ d)) (zshl_1N (by omega)) ?_
      refine z_callV C (c_X2_settle l g q a bs1 wb1 pd1 gw1 1 ha (by decide) (2 ^ d)) (cwV 2 C.ts gX2_rival_X2_settle rfl rfl rfl (by decide +kernel) ⟨Nat.le_of_ble_eq_true rfl, Nat.le_of_ble_eq_true rfl⟩) wB_o rfl rfl rfl (Nat.le_of_ble_eq_true rfl) dX2_rival_22 ⟨Nat.zero_le _, Nat.zero_le _⟩ (z_e ?_)
      rintro _ ⟨bs2, wb2, pd2, gw2, rfl, hs2, hk2⟩
      refine z_aload_n C dX2_rival_25 0 rfl ?_
      refine z_get C inX2_rival_X2 0 wB_o rfl 12 (by decide) (C.w 2 rfl) rfl dX2_rival_26 ?_
      refine z_callVN C (c_X1_totalPaid l g q a bs2 wb2 pd2 gw2 1 (by decide)) ⟨va_cnB 0 C.ts ggX2_rival_X1_totalPaid rfl rfl rfl (C.K.2.1 _ (List.mem_of_getElem? (i := 7) rfl)) (C.w 11 rfl) (by decide +kernel) ⟨Nat.le_of_ble_eq_true rfl, Nat.le_of_ble_eq_true rfl⟩, (C.w 79 rfl), (C.w 80 rfl)⟩ (wB_sl (z := 1) (by decide)) rfl rfl rfl (Nat.le_of_ble_eq_true rfl) dX2_rival_29 ⟨Nat.zero_le _, Nat.zero_le _⟩ (z_i ?_)
      refine zW.top (y := iZ (aPs a d)) (congrArg iZ (zSi_cong 5 (fun e he => hs2.pd he))) ?_
      have bp := aPs_bnd ha d
      have br := zRv_bnd ha d
      refine z_istore C dX2_rival_32 (by decide) [(4, .int (iZ (aPs a d))), (0, .ref (q 0)), (1, .int (iZ ((zRv a d).1))), (2, .int (iZ ((zRv a d).2))), (3, .int (nI d))] rfl ?_
      refine z_iload C dX2_rival_34 0 rfl ?_
      refine z_iload_n C dX2_rival_36 3 rfl ?_
      refine z_icmp_le C 45 dX2_rival_37 (by decide) (zle_ZZ (x := (aPs a d)) (y := ((zRv a d).2)) (by unfold zB31; omega) (by unfold zB31; omega)) (fun c_37 => ?_) (fun c_37 => ?_)
      · skip
        refine z_iinc C dX2_rival_45 4 (nI (d + 1)) rfl (nI_add d 1) (by decide) [(3, .int (nI (d + 1))), (4, .int (iZ (aPs a d))), (0, .ref (q 0)), (1, .int (iZ ((zRv a d).1))), (2, .int (iZ ((zRv a d).2)))] rfl ?_
        refine z_goto C 6 dX2_rival_48 (by decide) ?_
        refine zW.pick (lv' := [(0, .ref (q 0)), (1, .int (iZ ((zRv a d).1))), (2, .int (iZ ((zRv a d).2))), (3, .int (nI (d + 1)))]) [2, 3, 4, 0] rfl ?_
        refine zW.lve (lv' := [(0, .ref (q 0)), (1, .int (iZ ((zRv a (d + 1)).1))), (2, .int (iZ ((zRv a (d + 1)).2))), (3, .int (nI (d + 1)))]) (by first | (simp_all [zRv, iZ_n]; done) | (simp_all only [zRv]; rw [if_neg (by omega)])) ?_
        exact ih6 (d + 1) bs2 wb2 pd2 gw2 (by omega) (zSet_keep hs1 hk2)
      · skip
        refine z_iload_n C dX2_rival_40 4 rfl ?_
        refine z_istore_n C dX2_rival_41 (by decide) [(1, .int (nI d)), (4, .int (iZ (aPs a d))), (0, .ref (q 0)), (2, .int (iZ ((zRv a d).2))), (3, .int (nI d))] rfl ?_
        refine z_iload C dX2_rival_42 1 rfl ?_
        refine z_istore_n C dX2_rival_44 (by decide) [(2, .int (iZ (aPs a d))), (1, .int (nI d)), (4, .int (iZ (aPs a d))), (0, .ref (q 0)), (3, .int (nI d))] rfl ?_
        refine z_iinc C dX2_rival_45 4 (nI (d + 1)) rfl (nI_add d 1) (by decide) [(3, .int (nI (d + 1))), (2, .int (iZ (aPs a d))), (1, .int (nI d)), (4, .int (iZ (aPs a d))), (0, .ref (q 0))] rfl ?_
        refine z_goto C 6 dX2_rival_48 (by decide) ?_
        refine zW.pick (lv' := [(0, .ref (q 0)), (1, .int (nI d)), (2, .int (iZ (aPs a d))), (3, .int (nI (d + 1)))]) [4, 2, 1, 0] rfl ?_
        refine zW.lve (lv' := [(0, .ref (q 0)), (1, .int (iZ ((zRv a (d + 1)).1))), (2, .int (iZ ((zRv a (d + 1)).2))), (3, .int (nI (d + 1)))]) (by first | (simp_all [zRv, iZ_n]; done) | (simp_all only [zRv]; rw [if_neg (by omega)])) ?_
        exact ih6 (d + 1) bs2 wb2 pd2 gw2 (by omega) (zSet_keep hs1 hk2)
  exact hlp6 (zNd a) 0 bs wb pd gw (by omega) hs
theorem inX2_mean_X0 : ∀ w ∈ wsX00, w ∈ wsX2_mean := fun w h => List.mem_cons_of_mem _ (List.mem_append_right _ (h))
theorem inX2_mean_X1 : ∀ w ∈ wsX10, w ∈ wsX2_mean := fun w h => List.mem_cons_of_mem _ (List.mem_append_left _ (List.mem_append_right _ (h)))
theorem inX2_mean_X2 : ∀ w ∈ wsX20, w ∈ wsX2_mean := fun w h => List.mem_cons_of_mem _ (List.mem_append_left _ (List.mem_append_left _ (List.mem_append_right _ (h))))
set_option maxRecDepth 100000 in
set_option maxHeartbeats 4000000 in
theorem c_X2_mean (l : Launch) (g : zG) (q : Nat → Nat) (a : zS) (bs : Nat → Int × Nat) (wb pd gw : Nat → Nat → Int) (ha : zOk a) (hs : zSet a bs wb pd gw 0 0)  : zM g l yX2_mean wsX2_mean { frames := 1, cells := 0, slots := 0, locals := 25 } [.ref (q 0)] (wB g q a (zG0 a) bs wb pd gw) (zPd (aMean a) (wB g q a (zG0 a) bs wb pd gw)) 0 0 := by
  refine zM.of (cc := cX2_mean) (nL := 2) (ret := (some .double)) (lv := [(0, .ref (q 0))]) (by decide) rfl (Nat.le_of_ble_eq_true rfl) rfl ?_
  intro E C0 hi
  have C : zC g E cX2_mean RX2 wsX2_mean 2 (some .double) := C0
  obtain ⟨hnf, hnd, hnb, hou, hrs, hbd⟩ := id ha
  have hxo := zFw_ok ha 0
  have hpl := zPop_le (bs 0).2 12
  refine z_aload_n C dX2_mean_0 0 rfl ?_
  refine z_get C inX2_mean_X2 0 wB_o rfl 11 (by decide) (C.w 1 rfl) rfl dX2_mean_1 ?_
  refine z_getN C inX2_mean_X1 (12 + 0) (wB_sl (z := 0) (by decide)) rfl 0 (by decide) 0 rfl rfl dX2_mean_4 ?_
  refine z_getN C inX2_mean_X0 (9 + 0) (wB_bs (z := 0) (by decide)) rfl 1 (by decide) 5 rfl rfl dX2_mean_7 ?_
  refine z_callS C (c_J6_bitCount_0f7a4 l g (wB g q a (zG0 a) bs wb pd gw) ((bs 0).2) (by rw [hs.1]; exact hxo.2.2)) (va_cwS 1 C.ts gX2_mean_J6_bitCount_0f7a4 rfl rfl rfl (by decide +kernel) ⟨Nat.le_of_ble_eq_true rfl, Nat.le_of_ble_eq_true rfl⟩) rfl rfl (Nat.le_of_ble_eq_true rfl) dX2_mean_10 ⟨Nat.zero_le _, Nat.zero_le _⟩ (z_i ?_)
  refine z_istore_n C dX2_mean_13 (by decide) [(1, .int (nI (zPop ((bs 0).2) 12))), (0, .ref (q 0))] rfl ?_
  refine z_iload_n C dX2_mean_14 0 rfl ?_
  refine z_if_ne C 20 dX2_mean_15 (by decide) (zeq_N0 (by omega)) (fun c_15 => ?_) (fun c_15 => ?_)
  · skip
    refine z_aload_n C dX2_mean_20 1 rfl ?_
    refine z_get C inX2_mean_X2 0 wB_o rfl 11 (by decide) (C.w 1 rfl) rfl dX2_mean_21 ?_
    refine z_callVN C (c_X1_totalPaid l g q a bs wb pd gw 0 (by decide)) ⟨va_cnB 0 C.ts ggX2_mean_X1_totalPaid rfl rfl rfl (C.K.2.1 _ (List.mem_of_getElem? (i := 7) rfl)) (C.w 10 rfl) (by decide +kernel) ⟨Nat.le_of_ble_eq_true rfl, Nat.le_of_ble_eq_true rfl⟩, (C.w 9 rfl), (C.w 11 rfl)⟩ (wB_sl (z := 0) (by decide)) rfl rfl rfl (Nat.le_of_ble_eq_true rfl) dX2_mean_24 ⟨Nat.zero_le _, Nat.zero_le _⟩ (z_i ?_)
    refine z_i2d C dX2_mean_27 ?_
    refine z_iload_n C dX2_mean_28 0 rfl ?_
    refine z_i2d C dX2_mean_29 ?_
    refine z_ddiv C dX2_mean_30 (zdiv_ok _ _ (fun h => c_15 ((zeq_N0 (by omega)).mp h))) ?_
    exact z_dretP C dX2_mean_31 (by unfold aMean; rw [← hs.1, if_neg c_15, zSi_cong 5 (fun d hd => hs.pd hd)]; rfl) rfl
  · skip
    refine z_dconst0 C dX2_mean_18 ?_
    exact z_dretP C dX2_mean_19 (by unfold aMean; rw [← hs.1, if_pos c_15]) rfl
end
