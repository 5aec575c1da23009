-- ===== PART A: goes FIRST, ahead of the names: the tables' words, and 'selects' of the private methods out of them =====
/-- a private method of a class that the tables say can be made, by its rows of tables_1 -/
def lw_okq (q : MethodName × Nat) : Prop := (q.1.cls ≠ "java/lang/invoke/MethodHandle" ∧ q.1.cls ≠ "java/lang/invoke/VarHandle") ∧ Cond.instantiable q.1.cls q.2 ∈ tables_1 ∧ Cond.privateMethod q.1 ∈ tables_1 ∧ Cond.instanceMethod q.1 ∈ tables_1
theorem lw_p0 : lw_okq (⟨"BundlesOfBids", "refuse", "(I)I"⟩, 12) := ⟨⟨by decide +kernel, by decide +kernel⟩, List.mem_of_getElem? (i := 21) (by decide +kernel), List.mem_of_getElem? (i := 249) (by decide +kernel), List.mem_of_getElem? (i := 250) (by decide +kernel)⟩
theorem lw_p1 : lw_okq (⟨"BundlesOfBids$Script", "isFull", "()Z"⟩, 10) := ⟨⟨by decide +kernel, by decide +kernel⟩, List.mem_of_getElem? (i := 155) (by decide +kernel), List.mem_of_getElem? (i := 253) (by decide +kernel), List.mem_of_getElem? (i := 254) (by decide +kernel)⟩
theorem lw_p2 : lw_okq (⟨"BundlesOfBids$Script", "append", "(I)I"⟩, 10) := ⟨⟨by decide +kernel, by decide +kernel⟩, List.mem_of_getElem? (i := 155) (by decide +kernel), List.mem_of_getElem? (i := 257) (by decide +kernel), List.mem_of_getElem? (i := 258) (by decide +kernel)⟩
theorem lw_p3 : lw_okq (⟨"BundlesOfBids$Script", "parse", "()I"⟩, 10) := ⟨⟨by decide +kernel, by decide +kernel⟩, List.mem_of_getElem? (i := 155) (by decide +kernel), List.mem_of_getElem? (i := 266) (by decide +kernel), List.mem_of_getElem? (i := 267) (by decide +kernel)⟩
theorem lw_p4 : lw_okq (⟨"BundlesOfBids$Script", "readStatement", "()V"⟩, 10) := ⟨⟨by decide +kernel, by decide +kernel⟩, List.mem_of_getElem? (i := 155) (by decide +kernel), List.mem_of_getElem? (i := 270) (by decide +kernel), List.mem_of_getElem? (i := 271) (by decide +kernel)⟩
theorem lw_p5 : lw_okq (⟨"BundlesOfBids$Script", "readWord", "()I"⟩, 10) := ⟨⟨by decide +kernel, by decide +kernel⟩, List.mem_of_getElem? (i := 155) (by decide +kernel), List.mem_of_getElem? (i := 274) (by decide +kernel), List.mem_of_getElem? (i := 275) (by decide +kernel)⟩
theorem lw_p6 : lw_okq (⟨"BundlesOfBids$Script", "signHere", "()I"⟩, 10) := ⟨⟨by decide +kernel, by decide +kernel⟩, List.mem_of_getElem? (i := 155) (by decide +kernel), List.mem_of_getElem? (i := 278) (by decide +kernel), List.mem_of_getElem? (i := 279) (by decide +kernel)⟩
theorem lw_p7 : lw_okq (⟨"BundlesOfBids$Script", "wordFrom", "(II)I"⟩, 10) := ⟨⟨by decide +kernel, by decide +kernel⟩, List.mem_of_getElem? (i := 155) (by decide +kernel), List.mem_of_getElem? (i := 285) (by decide +kernel), List.mem_of_getElem? (i := 286) (by decide +kernel)⟩
theorem lw_p8 : lw_okq (⟨"BundlesOfBids$Script", "spells", "(Ljava/lang/String;II)Z"⟩, 10) := ⟨⟨by decide +kernel, by decide +kernel⟩, List.mem_of_getElem? (i := 155) (by decide +kernel), List.mem_of_getElem? (i := 290) (by decide +kernel), List.mem_of_getElem? (i := 291) (by decide +kernel)⟩
theorem lw_p9 : lw_okq (⟨"BundlesOfBids$Script", "noteFault", "(I)V"⟩, 10) := ⟨⟨by decide +kernel, by decide +kernel⟩, List.mem_of_getElem? (i := 155) (by decide +kernel), List.mem_of_getElem? (i := 346) (by decide +kernel), List.mem_of_getElem? (i := 347) (by decide +kernel)⟩
theorem lw_p10 : lw_okq (⟨"BundlesOfBids$Script", "readSign", "(I)V"⟩, 10) := ⟨⟨by decide +kernel, by decide +kernel⟩, List.mem_of_getElem? (i := 155) (by decide +kernel), List.mem_of_getElem? (i := 350) (by decide +kernel), List.mem_of_getElem? (i := 351) (by decide +kernel)⟩
theorem lw_p11 : lw_okq (⟨"BundlesOfBids$Script", "readItem", "()I"⟩, 10) := ⟨⟨by decide +kernel, by decide +kernel⟩, List.mem_of_getElem? (i := 155) (by decide +kernel), List.mem_of_getElem? (i := 354) (by decide +kernel), List.mem_of_getElem? (i := 355) (by decide +kernel)⟩
theorem lw_p12 : lw_okq (⟨"BundlesOfBids$Script", "readNumber", "()I"⟩, 10) := ⟨⟨by decide +kernel, by decide +kernel⟩, List.mem_of_getElem? (i := 155) (by decide +kernel), List.mem_of_getElem? (i := 358) (by decide +kernel), List.mem_of_getElem? (i := 359) (by decide +kernel)⟩
theorem lw_p13 : lw_okq (⟨"BundlesOfBids$Script", "readSet", "()I"⟩, 10) := ⟨⟨by decide +kernel, by decide +kernel⟩, List.mem_of_getElem? (i := 155) (by decide +kernel), List.mem_of_getElem? (i := 365) (by decide +kernel), List.mem_of_getElem? (i := 366) (by decide +kernel)⟩
theorem lw_p14 : lw_okq (⟨"BundlesOfBids", "obeyScript", "()I"⟩, 12) := ⟨⟨by decide +kernel, by decide +kernel⟩, List.mem_of_getElem? (i := 21) (by decide +kernel), List.mem_of_getElem? (i := 369) (by decide +kernel), List.mem_of_getElem? (i := 370) (by decide +kernel)⟩
theorem lw_p15 : lw_okq (⟨"BundlesOfBids$Sale", "takeFrom", "(LBundlesOfBids$Sale;)V"⟩, 9) := ⟨⟨by decide +kernel, by decide +kernel⟩, List.mem_of_getElem? (i := 29) (by decide +kernel), List.mem_of_getElem? (i := 373) (by decide +kernel), List.mem_of_getElem? (i := 374) (by decide +kernel)⟩
def lw_privs_1 : List (MethodName × Nat) := [(⟨"BundlesOfBids", "refuse", "(I)I"⟩, 12), (⟨"BundlesOfBids$Script", "isFull", "()Z"⟩, 10), (⟨"BundlesOfBids$Script", "append", "(I)I"⟩, 10), (⟨"BundlesOfBids$Script", "parse", "()I"⟩, 10), (⟨"BundlesOfBids$Script", "readStatement", "()V"⟩, 10), (⟨"BundlesOfBids$Script", "readWord", "()I"⟩, 10), (⟨"BundlesOfBids$Script", "signHere", "()I"⟩, 10), (⟨"BundlesOfBids$Script", "wordFrom", "(II)I"⟩, 10), (⟨"BundlesOfBids$Script", "spells", "(Ljava/lang/String;II)Z"⟩, 10), (⟨"BundlesOfBids$Script", "noteFault", "(I)V"⟩, 10), (⟨"BundlesOfBids$Script", "readSign", "(I)V"⟩, 10), (⟨"BundlesOfBids$Script", "readItem", "()I"⟩, 10), (⟨"BundlesOfBids$Script", "readNumber", "()I"⟩, 10), (⟨"BundlesOfBids$Script", "readSet", "()I"⟩, 10), (⟨"BundlesOfBids", "obeyScript", "()I"⟩, 12), (⟨"BundlesOfBids$Sale", "takeFrom", "(LBundlesOfBids$Sale;)V"⟩, 9)]
theorem lw_r1 : ∀ q ∈ lw_privs_1, lw_okq q := List.forall_mem_cons.mpr ⟨lw_p0, List.forall_mem_cons.mpr ⟨lw_p1, List.forall_mem_cons.mpr ⟨lw_p2, List.forall_mem_cons.mpr ⟨lw_p3, List.forall_mem_cons.mpr ⟨lw_p4, List.forall_mem_cons.mpr ⟨lw_p5, List.forall_mem_cons.mpr ⟨lw_p6, List.forall_mem_cons.mpr ⟨lw_p7, List.forall_mem_cons.mpr ⟨lw_p8, List.forall_mem_cons.mpr ⟨lw_p9, List.forall_mem_cons.mpr ⟨lw_p10, List.forall_mem_cons.mpr ⟨lw_p11, List.forall_mem_cons.mpr ⟨lw_p12, List.forall_mem_cons.mpr ⟨lw_p13, List.forall_mem_cons.mpr ⟨lw_p14, List.forall_mem_cons.mpr ⟨lw_p15, fun _ h => absurd h List.not_mem_nil⟩⟩⟩⟩⟩⟩⟩⟩⟩⟩⟩⟩⟩⟩⟩⟩
theorem lw_p16 : lw_okq (⟨"BundlesOfBids$Script", "obey", "(LBundlesOfBids$Sale;)I"⟩, 10) := ⟨⟨by decide +kernel, by decide +kernel⟩, List.mem_of_getElem? (i := 155) (by decide +kernel), List.mem_of_getElem? (i := 380) (by decide +kernel), List.mem_of_getElem? (i := 381) (by decide +kernel)⟩
theorem lw_p17 : lw_okq (⟨"BundlesOfBids$Script", "isRight", "(LBundlesOfBids$Sale;I)Z"⟩, 10) := ⟨⟨by decide +kernel, by decide +kernel⟩, List.mem_of_getElem? (i := 155) (by decide +kernel), List.mem_of_getElem? (i := 384) (by decide +kernel), List.mem_of_getElem? (i := 385) (by decide +kernel)⟩
theorem lw_p18 : lw_okq (⟨"BundlesOfBids$Sale", "isFull", "()Z"⟩, 9) := ⟨⟨by decide +kernel, by decide +kernel⟩, List.mem_of_getElem? (i := 29) (by decide +kernel), List.mem_of_getElem? (i := 391) (by decide +kernel), List.mem_of_getElem? (i := 392) (by decide +kernel)⟩
theorem lw_p19 : lw_okq (⟨"BundlesOfBids$Sale", "hasBid", "(I)Z"⟩, 9) := ⟨⟨by decide +kernel, by decide +kernel⟩, List.mem_of_getElem? (i := 29) (by decide +kernel), List.mem_of_getElem? (i := 395) (by decide +kernel), List.mem_of_getElem? (i := 396) (by decide +kernel)⟩
theorem lw_p20 : lw_okq (⟨"BundlesOfBids$Sale", "addBid", "(III)V"⟩, 9) := ⟨⟨by decide +kernel, by decide +kernel⟩, List.mem_of_getElem? (i := 29) (by decide +kernel), List.mem_of_getElem? (i := 405) (by decide +kernel), List.mem_of_getElem? (i := 406) (by decide +kernel)⟩
theorem lw_p21 : lw_okq (⟨"BundlesOfBids$Sale", "turnOver", "(I)V"⟩, 9) := ⟨⟨by decide +kernel, by decide +kernel⟩, List.mem_of_getElem? (i := 29) (by decide +kernel), List.mem_of_getElem? (i := 411) (by decide +kernel), List.mem_of_getElem? (i := 412) (by decide +kernel)⟩
theorem lw_p22 : lw_okq (⟨"BundlesOfBids$Sale", "setKind", "(III)V"⟩, 9) := ⟨⟨by decide +kernel, by decide +kernel⟩, List.mem_of_getElem? (i := 29) (by decide +kernel), List.mem_of_getElem? (i := 416) (by decide +kernel), List.mem_of_getElem? (i := 417) (by decide +kernel)⟩
theorem lw_p23 : lw_okq (⟨"BundlesOfBids$Sale", "setReserve", "(II)V"⟩, 9) := ⟨⟨by decide +kernel, by decide +kernel⟩, List.mem_of_getElem? (i := 29) (by decide +kernel), List.mem_of_getElem? (i := 420) (by decide +kernel), List.mem_of_getElem? (i := 421) (by decide +kernel)⟩
theorem lw_p24 : lw_okq (⟨"BundlesOfBids$Sale", "setPrice", "(II)V"⟩, 9) := ⟨⟨by decide +kernel, by decide +kernel⟩, List.mem_of_getElem? (i := 29) (by decide +kernel), List.mem_of_getElem? (i := 425) (by decide +kernel), List.mem_of_getElem? (i := 426) (by decide +kernel)⟩
theorem lw_p25 : lw_okq (⟨"BundlesOfBids$Script", "forget", "()V"⟩, 10) := ⟨⟨by decide +kernel, by decide +kernel⟩, List.mem_of_getElem? (i := 155) (by decide +kernel), List.mem_of_getElem? (i := 429) (by decide +kernel), List.mem_of_getElem? (i := 430) (by decide +kernel)⟩
theorem lw_p26 : lw_okq (⟨"BundlesOfBids$Sale", "priceOf", "(I)I"⟩, 9) := ⟨⟨by decide +kernel, by decide +kernel⟩, List.mem_of_getElem? (i := 29) (by decide +kernel), List.mem_of_getElem? (i := 454) (by decide +kernel), List.mem_of_getElem? (i := 455) (by decide +kernel)⟩
theorem lw_p27 : lw_okq (⟨"BundlesOfBids$Sale", "kindOf", "(I)I"⟩, 9) := ⟨⟨by decide +kernel, by decide +kernel⟩, List.mem_of_getElem? (i := 29) (by decide +kernel), List.mem_of_getElem? (i := 463) (by decide +kernel), List.mem_of_getElem? (i := 464) (by decide +kernel)⟩
theorem lw_p28 : lw_okq (⟨"BundlesOfBids$Sale", "figureOf", "(I)I"⟩, 9) := ⟨⟨by decide +kernel, by decide +kernel⟩, List.mem_of_getElem? (i := 29) (by decide +kernel), List.mem_of_getElem? (i := 467) (by decide +kernel), List.mem_of_getElem? (i := 468) (by decide +kernel)⟩
theorem lw_p29 : lw_okq (⟨"BundlesOfBids$Sale", "reserveOf", "(I)I"⟩, 9) := ⟨⟨by decide +kernel, by decide +kernel⟩, List.mem_of_getElem? (i := 29) (by decide +kernel), List.mem_of_getElem? (i := 477) (by decide +kernel), List.mem_of_getElem? (i := 478) (by decide +kernel)⟩
theorem lw_p30 : lw_okq (⟨"BundlesOfBids$Sale", "bidderOf", "(I)I"⟩, 9) := ⟨⟨by decide +kernel, by decide +kernel⟩, List.mem_of_getElem? (i := 29) (by decide +kernel), List.mem_of_getElem? (i := 486) (by decide +kernel), List.mem_of_getElem? (i := 487) (by decide +kernel)⟩
theorem lw_p31 : lw_okq (⟨"BundlesOfBids$Sale", "setOf", "(I)I"⟩, 9) := ⟨⟨by decide +kernel, by decide +kernel⟩, List.mem_of_getElem? (i := 29) (by decide +kernel), List.mem_of_getElem? (i := 490) (by decide +kernel), List.mem_of_getElem? (i := 491) (by decide +kernel)⟩
def lw_privs_2 : List (MethodName × Nat) := [(⟨"BundlesOfBids$Script", "obey", "(LBundlesOfBids$Sale;)I"⟩, 10), (⟨"BundlesOfBids$Script", "isRight", "(LBundlesOfBids$Sale;I)Z"⟩, 10), (⟨"BundlesOfBids$Sale", "isFull", "()Z"⟩, 9), (⟨"BundlesOfBids$Sale", "hasBid", "(I)Z"⟩, 9), (⟨"BundlesOfBids$Sale", "addBid", "(III)V"⟩, 9), (⟨"BundlesOfBids$Sale", "turnOver", "(I)V"⟩, 9), (⟨"BundlesOfBids$Sale", "setKind", "(III)V"⟩, 9), (⟨"BundlesOfBids$Sale", "setReserve", "(II)V"⟩, 9), (⟨"BundlesOfBids$Sale", "setPrice", "(II)V"⟩, 9), (⟨"BundlesOfBids$Script", "forget", "()V"⟩, 10), (⟨"BundlesOfBids$Sale", "priceOf", "(I)I"⟩, 9), (⟨"BundlesOfBids$Sale", "kindOf", "(I)I"⟩, 9), (⟨"BundlesOfBids$Sale", "figureOf", "(I)I"⟩, 9), (⟨"BundlesOfBids$Sale", "reserveOf", "(I)I"⟩, 9), (⟨"BundlesOfBids$Sale", "bidderOf", "(I)I"⟩, 9), (⟨"BundlesOfBids$Sale", "setOf", "(I)I"⟩, 9)]
theorem lw_r2 : ∀ q ∈ lw_privs_2, lw_okq q := List.forall_mem_cons.mpr ⟨lw_p16, List.forall_mem_cons.mpr ⟨lw_p17, List.forall_mem_cons.mpr ⟨lw_p18, List.forall_mem_cons.mpr ⟨lw_p19, List.forall_mem_cons.mpr ⟨lw_p20, List.forall_mem_cons.mpr ⟨lw_p21, List.forall_mem_cons.mpr ⟨lw_p22, List.forall_mem_cons.mpr ⟨lw_p23, List.forall_mem_cons.mpr ⟨lw_p24, List.forall_mem_cons.mpr ⟨lw_p25, List.forall_mem_cons.mpr ⟨lw_p26, List.forall_mem_cons.mpr ⟨lw_p27, List.forall_mem_cons.mpr ⟨lw_p28, List.forall_mem_cons.mpr ⟨lw_p29, List.forall_mem_cons.mpr ⟨lw_p30, List.forall_mem_cons.mpr ⟨lw_p31, fun _ h => absurd h List.not_mem_nil⟩⟩⟩⟩⟩⟩⟩⟩⟩⟩⟩⟩⟩⟩⟩⟩
theorem lw_p32 : lw_okq (⟨"BundlesOfBids", "winnersOf", "(LBundlesOfBids$Sale;)I"⟩, 12) := ⟨⟨by decide +kernel, by decide +kernel⟩, List.mem_of_getElem? (i := 21) (by decide +kernel), List.mem_of_getElem? (i := 494) (by decide +kernel), List.mem_of_getElem? (i := 495) (by decide +kernel)⟩
theorem lw_p33 : lw_okq (⟨"BundlesOfBids$Outcomes", "gather", "(LBundlesOfBids$Sale;)V"⟩, 6) := ⟨⟨by decide +kernel, by decide +kernel⟩, List.mem_of_getElem? (i := 71) (by decide +kernel), List.mem_of_getElem? (i := 498) (by decide +kernel), List.mem_of_getElem? (i := 499) (by decide +kernel)⟩
theorem lw_p34 : lw_okq (⟨"BundlesOfBids$Outcomes", "gatherPacks", "(LBundlesOfBids$Sale;)V"⟩, 6) := ⟨⟨by decide +kernel, by decide +kernel⟩, List.mem_of_getElem? (i := 71) (by decide +kernel), List.mem_of_getElem? (i := 502) (by decide +kernel), List.mem_of_getElem? (i := 503) (by decide +kernel)⟩
theorem lw_p35 : lw_okq (⟨"BundlesOfBids$Sale", "reservesBut", "(I)I"⟩, 9) := ⟨⟨by decide +kernel, by decide +kernel⟩, List.mem_of_getElem? (i := 29) (by decide +kernel), List.mem_of_getElem? (i := 506) (by decide +kernel), List.mem_of_getElem? (i := 507) (by decide +kernel)⟩
theorem lw_p36 : lw_okq (⟨"BundlesOfBids$Outcomes", "addPack", "(III)V"⟩, 6) := ⟨⟨by decide +kernel, by decide +kernel⟩, List.mem_of_getElem? (i := 71) (by decide +kernel), List.mem_of_getElem? (i := 511) (by decide +kernel), List.mem_of_getElem? (i := 512) (by decide +kernel)⟩
theorem lw_p37 : lw_okq (⟨"BundlesOfBids$Sale", "allows", "(I)Z"⟩, 9) := ⟨⟨by decide +kernel, by decide +kernel⟩, List.mem_of_getElem? (i := 29) (by decide +kernel), List.mem_of_getElem? (i := 518) (by decide +kernel), List.mem_of_getElem? (i := 519) (by decide +kernel)⟩
theorem lw_p38 : lw_okq (⟨"BundlesOfBids$Sale", "mayWin", "(III)Z"⟩, 9) := ⟨⟨by decide +kernel, by decide +kernel⟩, List.mem_of_getElem? (i := 29) (by decide +kernel), List.mem_of_getElem? (i := 522) (by decide +kernel), List.mem_of_getElem? (i := 523) (by decide +kernel)⟩
theorem lw_p39 : lw_okq (⟨"BundlesOfBids$Sale", "pricesOf", "(I)I"⟩, 9) := ⟨⟨by decide +kernel, by decide +kernel⟩, List.mem_of_getElem? (i := 29) (by decide +kernel), List.mem_of_getElem? (i := 532) (by decide +kernel), List.mem_of_getElem? (i := 533) (by decide +kernel)⟩
theorem lw_p40 : lw_okq (⟨"BundlesOfBids$Sale", "itemsOf", "(I)I"⟩, 9) := ⟨⟨by decide +kernel, by decide +kernel⟩, List.mem_of_getElem? (i := 29) (by decide +kernel), List.mem_of_getElem? (i := 536) (by decide +kernel), List.mem_of_getElem? (i := 537) (by decide +kernel)⟩
theorem lw_p41 : lw_okq (⟨"BundlesOfBids$Outcomes", "first", "(I)I"⟩, 6) := ⟨⟨by decide +kernel, by decide +kernel⟩, List.mem_of_getElem? (i := 71) (by decide +kernel), List.mem_of_getElem? (i := 544) (by decide +kernel), List.mem_of_getElem? (i := 545) (by decide +kernel)⟩
theorem lw_p42 : lw_okq (⟨"BundlesOfBids$Outcomes", "keyAt", "(I)I"⟩, 6) := ⟨⟨by decide +kernel, by decide +kernel⟩, List.mem_of_getElem? (i := 71) (by decide +kernel), List.mem_of_getElem? (i := 549) (by decide +kernel), List.mem_of_getElem? (i := 550) (by decide +kernel)⟩
theorem lw_p43 : lw_okq (⟨"BundlesOfBids$Search", "lineUp", "(LBundlesOfBids$Sale;)V"⟩, 5) := ⟨⟨by decide +kernel, by decide +kernel⟩, List.mem_of_getElem? (i := 133) (by decide +kernel), List.mem_of_getElem? (i := 557) (by decide +kernel), List.mem_of_getElem? (i := 558) (by decide +kernel)⟩
theorem lw_p44 : lw_okq (⟨"BundlesOfBids$Search", "insert", "(I)V"⟩, 5) := ⟨⟨by decide +kernel, by decide +kernel⟩, List.mem_of_getElem? (i := 133) (by decide +kernel), List.mem_of_getElem? (i := 565) (by decide +kernel), List.mem_of_getElem? (i := 566) (by decide +kernel)⟩
theorem lw_p45 : lw_okq (⟨"BundlesOfBids$Search", "shareOf", "(I)I"⟩, 5) := ⟨⟨by decide +kernel, by decide +kernel⟩, List.mem_of_getElem? (i := 133) (by decide +kernel), List.mem_of_getElem? (i := 569) (by decide +kernel), List.mem_of_getElem? (i := 570) (by decide +kernel)⟩
theorem lw_p46 : lw_okq (⟨"BundlesOfBids$Search", "placeOf", "(I)I"⟩, 5) := ⟨⟨by decide +kernel, by decide +kernel⟩, List.mem_of_getElem? (i := 133) (by decide +kernel), List.mem_of_getElem? (i := 573) (by decide +kernel), List.mem_of_getElem? (i := 574) (by decide +kernel)⟩
theorem lw_p47 : lw_okq (⟨"BundlesOfBids$Search", "bidAt", "(I)I"⟩, 5) := ⟨⟨by decide +kernel, by decide +kernel⟩, List.mem_of_getElem? (i := 133) (by decide +kernel), List.mem_of_getElem? (i := 577) (by decide +kernel), List.mem_of_getElem? (i := 578) (by decide +kernel)⟩
def lw_privs_3 : List (MethodName × Nat) := [(⟨"BundlesOfBids", "winnersOf", "(LBundlesOfBids$Sale;)I"⟩, 12), (⟨"BundlesOfBids$Outcomes", "gather", "(LBundlesOfBids$Sale;)V"⟩, 6), (⟨"BundlesOfBids$Outcomes", "gatherPacks", "(LBundlesOfBids$Sale;)V"⟩, 6), (⟨"BundlesOfBids$Sale", "reservesBut", "(I)I"⟩, 9), (⟨"BundlesOfBids$Outcomes", "addPack", "(III)V"⟩, 6), (⟨"BundlesOfBids$Sale", "allows", "(I)Z"⟩, 9), (⟨"BundlesOfBids$Sale", "mayWin", "(III)Z"⟩, 9), (⟨"BundlesOfBids$Sale", "pricesOf", "(I)I"⟩, 9), (⟨"BundlesOfBids$Sale", "itemsOf", "(I)I"⟩, 9), (⟨"BundlesOfBids$Outcomes", "first", "(I)I"⟩, 6), (⟨"BundlesOfBids$Outcomes", "keyAt", "(I)I"⟩, 6), (⟨"BundlesOfBids$Search", "lineUp", "(LBundlesOfBids$Sale;)V"⟩, 5), (⟨"BundlesOfBids$Search", "insert", "(I)V"⟩, 5), (⟨"BundlesOfBids$Search", "shareOf", "(I)I"⟩, 5), (⟨"BundlesOfBids$Search", "placeOf", "(I)I"⟩, 5), (⟨"BundlesOfBids$Search", "bidAt", "(I)I"⟩, 5)]
theorem lw_r3 : ∀ q ∈ lw_privs_3, lw_okq q := List.forall_mem_cons.mpr ⟨lw_p32, List.forall_mem_cons.mpr ⟨lw_p33, List.forall_mem_cons.mpr ⟨lw_p34, List.forall_mem_cons.mpr ⟨lw_p35, List.forall_mem_cons.mpr ⟨lw_p36, List.forall_mem_cons.mpr ⟨lw_p37, List.forall_mem_cons.mpr ⟨lw_p38, List.forall_mem_cons.mpr ⟨lw_p39, List.forall_mem_cons.mpr ⟨lw_p40, List.forall_mem_cons.mpr ⟨lw_p41, List.forall_mem_cons.mpr ⟨lw_p42, List.forall_mem_cons.mpr ⟨lw_p43, List.forall_mem_cons.mpr ⟨lw_p44, List.forall_mem_cons.mpr ⟨lw_p45, List.forall_mem_cons.mpr ⟨lw_p46, List.forall_mem_cons.mpr ⟨lw_p47, fun _ h => absurd h List.not_mem_nil⟩⟩⟩⟩⟩⟩⟩⟩⟩⟩⟩⟩⟩⟩⟩⟩
theorem lw_p48 : lw_okq (⟨"BundlesOfBids$Sale", "bidsOfGroup", "(I)I"⟩, 9) := ⟨⟨by decide +kernel, by decide +kernel⟩, List.mem_of_getElem? (i := 29) (by decide +kernel), List.mem_of_getElem? (i := 585) (by decide +kernel), List.mem_of_getElem? (i := 586) (by decide +kernel)⟩
theorem lw_p49 : lw_okq (⟨"BundlesOfBids", "charge", "(LBundlesOfBids$Sale;)V"⟩, 12) := ⟨⟨by decide +kernel, by decide +kernel⟩, List.mem_of_getElem? (i := 21) (by decide +kernel), List.mem_of_getElem? (i := 589) (by decide +kernel), List.mem_of_getElem? (i := 590) (by decide +kernel)⟩
theorem lw_p50 : lw_okq (⟨"BundlesOfBids$Bill", "charge", "(LBundlesOfBids$Sale;LBundlesOfBids$Outcomes;)V"⟩, 8) := ⟨⟨by decide +kernel, by decide +kernel⟩, List.mem_of_getElem? (i := 97) (by decide +kernel), List.mem_of_getElem? (i := 593) (by decide +kernel), List.mem_of_getElem? (i := 594) (by decide +kernel)⟩
theorem lw_p51 : lw_okq (⟨"BundlesOfBids$Bill", "harmBy", "(LBundlesOfBids$Sale;LBundlesOfBids$Outcomes;I)I"⟩, 8) := ⟨⟨by decide +kernel, by decide +kernel⟩, List.mem_of_getElem? (i := 97) (by decide +kernel), List.mem_of_getElem? (i := 604) (by decide +kernel), List.mem_of_getElem? (i := 605) (by decide +kernel)⟩
theorem lw_p52 : lw_okq (⟨"BundlesOfBids", "areBids", "(I)Z"⟩, 12) := ⟨⟨by decide +kernel, by decide +kernel⟩, List.mem_of_getElem? (i := 21) (by decide +kernel), List.mem_of_getElem? (i := 618) (by decide +kernel), List.mem_of_getElem? (i := 619) (by decide +kernel)⟩
theorem lw_p53 : lw_okq (⟨"BundlesOfBids$Outcomes", "has", "(I)Z"⟩, 6) := ⟨⟨by decide +kernel, by decide +kernel⟩, List.mem_of_getElem? (i := 71) (by decide +kernel), List.mem_of_getElem? (i := 622) (by decide +kernel), List.mem_of_getElem? (i := 623) (by decide +kernel)⟩
theorem lw_p54 : lw_okq (⟨"BundlesOfBids", "worthOf", "(LBundlesOfBids$Sale;)I"⟩, 12) := ⟨⟨by decide +kernel, by decide +kernel⟩, List.mem_of_getElem? (i := 21) (by decide +kernel), List.mem_of_getElem? (i := 630) (by decide +kernel), List.mem_of_getElem? (i := 631) (by decide +kernel)⟩
theorem lw_p55 : lw_okq (⟨"BundlesOfBids$Search", "branchesOf", "(LBundlesOfBids$Sale;)I"⟩, 5) := ⟨⟨by decide +kernel, by decide +kernel⟩, List.mem_of_getElem? (i := 133) (by decide +kernel), List.mem_of_getElem? (i := 636) (by decide +kernel), List.mem_of_getElem? (i := 637) (by decide +kernel)⟩
theorem lw_p56 : lw_okq (⟨"BundlesOfBids$Search", "bound", "(LBundlesOfBids$Sale;II)I"⟩, 5) := ⟨⟨by decide +kernel, by decide +kernel⟩, List.mem_of_getElem? (i := 133) (by decide +kernel), List.mem_of_getElem? (i := 644) (by decide +kernel), List.mem_of_getElem? (i := 645) (by decide +kernel)⟩
theorem lw_p57 : lw_okq (⟨"BundlesOfBids$Search", "mostFor", "(LBundlesOfBids$Sale;II)I"⟩, 5) := ⟨⟨by decide +kernel, by decide +kernel⟩, List.mem_of_getElem? (i := 133) (by decide +kernel), List.mem_of_getElem? (i := 650) (by decide +kernel), List.mem_of_getElem? (i := 651) (by decide +kernel)⟩
theorem lw_p58 : lw_okq (⟨"BundlesOfBids$Search", "find", "(LBundlesOfBids$Sale;I)V"⟩, 5) := ⟨⟨by decide +kernel, by decide +kernel⟩, List.mem_of_getElem? (i := 133) (by decide +kernel), List.mem_of_getElem? (i := 658) (by decide +kernel), List.mem_of_getElem? (i := 659) (by decide +kernel)⟩
theorem lw_p59 : lw_okq (⟨"BundlesOfBids$Outcomes", "ranked", "(I)I"⟩, 6) := ⟨⟨by decide +kernel, by decide +kernel⟩, List.mem_of_getElem? (i := 71) (by decide +kernel), List.mem_of_getElem? (i := 671) (by decide +kernel), List.mem_of_getElem? (i := 672) (by decide +kernel)⟩
theorem lw_p60 : lw_okq (⟨"BundlesOfBids$Outcomes", "nextAbove", "(I)I"⟩, 6) := ⟨⟨by decide +kernel, by decide +kernel⟩, List.mem_of_getElem? (i := 71) (by decide +kernel), List.mem_of_getElem? (i := 675) (by decide +kernel), List.mem_of_getElem? (i := 676) (by decide +kernel)⟩
theorem lw_p61 : lw_okq (⟨"BundlesOfBids$Sale", "holders", "(I)I"⟩, 9) := ⟨⟨by decide +kernel, by decide +kernel⟩, List.mem_of_getElem? (i := 29) (by decide +kernel), List.mem_of_getElem? (i := 686) (by decide +kernel), List.mem_of_getElem? (i := 687) (by decide +kernel)⟩
theorem lw_p62 : lw_okq (⟨"BundlesOfBids", "scarcity", "(I)I"⟩, 12) := ⟨⟨by decide +kernel, by decide +kernel⟩, List.mem_of_getElem? (i := 21) (by decide +kernel), List.mem_of_getElem? (i := 693) (by decide +kernel), List.mem_of_getElem? (i := 694) (by decide +kernel)⟩
theorem lw_p63 : lw_okq (⟨"BundlesOfBids", "chargeAndLift", "()V"⟩, 12) := ⟨⟨by decide +kernel, by decide +kernel⟩, List.mem_of_getElem? (i := 21) (by decide +kernel), List.mem_of_getElem? (i := 715) (by decide +kernel), List.mem_of_getElem? (i := 716) (by decide +kernel)⟩
def lw_privs_4 : List (MethodName × Nat) := [(⟨"BundlesOfBids$Sale", "bidsOfGroup", "(I)I"⟩, 9), (⟨"BundlesOfBids", "charge", "(LBundlesOfBids$Sale;)V"⟩, 12), (⟨"BundlesOfBids$Bill", "charge", "(LBundlesOfBids$Sale;LBundlesOfBids$Outcomes;)V"⟩, 8), (⟨"BundlesOfBids$Bill", "harmBy", "(LBundlesOfBids$Sale;LBundlesOfBids$Outcomes;I)I"⟩, 8), (⟨"BundlesOfBids", "areBids", "(I)Z"⟩, 12), (⟨"BundlesOfBids$Outcomes", "has", "(I)Z"⟩, 6), (⟨"BundlesOfBids", "worthOf", "(LBundlesOfBids$Sale;)I"⟩, 12), (⟨"BundlesOfBids$Search", "branchesOf", "(LBundlesOfBids$Sale;)I"⟩, 5), (⟨"BundlesOfBids$Search", "bound", "(LBundlesOfBids$Sale;II)I"⟩, 5), (⟨"BundlesOfBids$Search", "mostFor", "(LBundlesOfBids$Sale;II)I"⟩, 5), (⟨"BundlesOfBids$Search", "find", "(LBundlesOfBids$Sale;I)V"⟩, 5), (⟨"BundlesOfBids$Outcomes", "ranked", "(I)I"⟩, 6), (⟨"BundlesOfBids$Outcomes", "nextAbove", "(I)I"⟩, 6), (⟨"BundlesOfBids$Sale", "holders", "(I)I"⟩, 9), (⟨"BundlesOfBids", "scarcity", "(I)I"⟩, 12), (⟨"BundlesOfBids", "chargeAndLift", "()V"⟩, 12)]
theorem lw_r4 : ∀ q ∈ lw_privs_4, lw_okq q := List.forall_mem_cons.mpr ⟨lw_p48, List.forall_mem_cons.mpr ⟨lw_p49, List.forall_mem_cons.mpr ⟨lw_p50, List.forall_mem_cons.mpr ⟨lw_p51, List.forall_mem_cons.mpr ⟨lw_p52, List.forall_mem_cons.mpr ⟨lw_p53, List.forall_mem_cons.mpr ⟨lw_p54, List.forall_mem_cons.mpr ⟨lw_p55, List.forall_mem_cons.mpr ⟨lw_p56, List.forall_mem_cons.mpr ⟨lw_p57, List.forall_mem_cons.mpr ⟨lw_p58, List.forall_mem_cons.mpr ⟨lw_p59, List.forall_mem_cons.mpr ⟨lw_p60, List.forall_mem_cons.mpr ⟨lw_p61, List.forall_mem_cons.mpr ⟨lw_p62, List.forall_mem_cons.mpr ⟨lw_p63, fun _ h => absurd h List.not_mem_nil⟩⟩⟩⟩⟩⟩⟩⟩⟩⟩⟩⟩⟩⟩⟩⟩
theorem lw_p64 : lw_okq (⟨"BundlesOfBids$Bill", "lift", "(LBundlesOfBids$Sale;LBundlesOfBids$Outcomes;)V"⟩, 8) := ⟨⟨by decide +kernel, by decide +kernel⟩, List.mem_of_getElem? (i := 97) (by decide +kernel), List.mem_of_getElem? (i := 719) (by decide +kernel), List.mem_of_getElem? (i := 720) (by decide +kernel)⟩
theorem lw_p65 : lw_okq (⟨"BundlesOfBids$Bill", "blocker", "([I)I"⟩, 8) := ⟨⟨by decide +kernel, by decide +kernel⟩, List.mem_of_getElem? (i := 97) (by decide +kernel), List.mem_of_getElem? (i := 726) (by decide +kernel), List.mem_of_getElem? (i := 727) (by decide +kernel)⟩
theorem lw_p66 : lw_okq (⟨"BundlesOfBids$Bill", "excess", "([II)I"⟩, 8) := ⟨⟨by decide +kernel, by decide +kernel⟩, List.mem_of_getElem? (i := 97) (by decide +kernel), List.mem_of_getElem? (i := 730) (by decide +kernel), List.mem_of_getElem? (i := 731) (by decide +kernel)⟩
theorem lw_p67 : lw_okq (⟨"BundlesOfBids$Bill", "putOnOthers", "(II)V"⟩, 8) := ⟨⟨by decide +kernel, by decide +kernel⟩, List.mem_of_getElem? (i := 97) (by decide +kernel), List.mem_of_getElem? (i := 735) (by decide +kernel), List.mem_of_getElem? (i := 736) (by decide +kernel)⟩
theorem lw_p68 : lw_okq (⟨"BundlesOfBids$Bill", "payment", "(II)I"⟩, 8) := ⟨⟨by decide +kernel, by decide +kernel⟩, List.mem_of_getElem? (i := 97) (by decide +kernel), List.mem_of_getElem? (i := 742) (by decide +kernel), List.mem_of_getElem? (i := 743) (by decide +kernel)⟩
theorem lw_p69 : lw_okq (⟨"BundlesOfBids$Bill", "payments", "(I)[I"⟩, 8) := ⟨⟨by decide +kernel, by decide +kernel⟩, List.mem_of_getElem? (i := 97) (by decide +kernel), List.mem_of_getElem? (i := 747) (by decide +kernel), List.mem_of_getElem? (i := 748) (by decide +kernel)⟩
theorem lw_p70 : lw_okq (⟨"BundlesOfBids$Outcomes", "mostPrices", "(LBundlesOfBids$Sale;I)I"⟩, 6) := ⟨⟨by decide +kernel, by decide +kernel⟩, List.mem_of_getElem? (i := 71) (by decide +kernel), List.mem_of_getElem? (i := 770) (by decide +kernel), List.mem_of_getElem? (i := 771) (by decide +kernel)⟩
theorem lw_p71 : lw_okq (⟨"BundlesOfBids", "shillSurplus", "(I)I"⟩, 12) := ⟨⟨by decide +kernel, by decide +kernel⟩, List.mem_of_getElem? (i := 21) (by decide +kernel), List.mem_of_getElem? (i := 781) (by decide +kernel), List.mem_of_getElem? (i := 782) (by decide +kernel)⟩
theorem lw_p72 : lw_okq (⟨"BundlesOfBids", "refuseLong", "(I)J"⟩, 12) := ⟨⟨by decide +kernel, by decide +kernel⟩, List.mem_of_getElem? (i := 21) (by decide +kernel), List.mem_of_getElem? (i := 801) (by decide +kernel), List.mem_of_getElem? (i := 802) (by decide +kernel)⟩
theorem lw_p73 : lw_okq (⟨"BundlesOfBids$Bill", "happy", "()I"⟩, 8) := ⟨⟨by decide +kernel, by decide +kernel⟩, List.mem_of_getElem? (i := 97) (by decide +kernel), List.mem_of_getElem? (i := 819) (by decide +kernel), List.mem_of_getElem? (i := 820) (by decide +kernel)⟩
theorem lw_p74 : lw_okq (⟨"BundlesOfBids$Print", "putWinners", "(LBundlesOfBids$Sale;II)V"⟩, 2) := ⟨⟨by decide +kernel, by decide +kernel⟩, List.mem_of_getElem? (i := 194) (by decide +kernel), List.mem_of_getElem? (i := 827) (by decide +kernel), List.mem_of_getElem? (i := 828) (by decide +kernel)⟩
theorem lw_p75 : lw_okq (⟨"BundlesOfBids$Print", "put", "(I)V"⟩, 2) := ⟨⟨by decide +kernel, by decide +kernel⟩, List.mem_of_getElem? (i := 194) (by decide +kernel), List.mem_of_getElem? (i := 832) (by decide +kernel), List.mem_of_getElem? (i := 833) (by decide +kernel)⟩
theorem lw_p76 : lw_okq (⟨"BundlesOfBids$Print", "putBid", "(LBundlesOfBids$Sale;I)V"⟩, 2) := ⟨⟨by decide +kernel, by decide +kernel⟩, List.mem_of_getElem? (i := 194) (by decide +kernel), List.mem_of_getElem? (i := 836) (by decide +kernel), List.mem_of_getElem? (i := 837) (by decide +kernel)⟩
theorem lw_p77 : lw_okq (⟨"BundlesOfBids$Print", "putNumber", "(I)V"⟩, 2) := ⟨⟨by decide +kernel, by decide +kernel⟩, List.mem_of_getElem? (i := 194) (by decide +kernel), List.mem_of_getElem? (i := 841) (by decide +kernel), List.mem_of_getElem? (i := 842) (by decide +kernel)⟩
theorem lw_p78 : lw_okq (⟨"BundlesOfBids$Print", "signAt", "(I)I"⟩, 2) := ⟨⟨by decide +kernel, by decide +kernel⟩, List.mem_of_getElem? (i := 194) (by decide +kernel), List.mem_of_getElem? (i := 847) (by decide +kernel), List.mem_of_getElem? (i := 848) (by decide +kernel)⟩
theorem lw_p79 : lw_okq (⟨"BundlesOfBids", "firstWrongTold", "(I)I"⟩, 12) := ⟨⟨by decide +kernel, by decide +kernel⟩, List.mem_of_getElem? (i := 21) (by decide +kernel), List.mem_of_getElem? (i := 855) (by decide +kernel), List.mem_of_getElem? (i := 856) (by decide +kernel)⟩
def lw_privs_5 : List (MethodName × Nat) := [(⟨"BundlesOfBids$Bill", "lift", "(LBundlesOfBids$Sale;LBundlesOfBids$Outcomes;)V"⟩, 8), (⟨"BundlesOfBids$Bill", "blocker", "([I)I"⟩, 8), (⟨"BundlesOfBids$Bill", "excess", "([II)I"⟩, 8), (⟨"BundlesOfBids$Bill", "putOnOthers", "(II)V"⟩, 8), (⟨"BundlesOfBids$Bill", "payment", "(II)I"⟩, 8), (⟨"BundlesOfBids$Bill", "payments", "(I)[I"⟩, 8), (⟨"BundlesOfBids$Outcomes", "mostPrices", "(LBundlesOfBids$Sale;I)I"⟩, 6), (⟨"BundlesOfBids", "shillSurplus", "(I)I"⟩, 12), (⟨"BundlesOfBids", "refuseLong", "(I)J"⟩, 12), (⟨"BundlesOfBids$Bill", "happy", "()I"⟩, 8), (⟨"BundlesOfBids$Print", "putWinners", "(LBundlesOfBids$Sale;II)V"⟩, 2), (⟨"BundlesOfBids$Print", "put", "(I)V"⟩, 2), (⟨"BundlesOfBids$Print", "putBid", "(LBundlesOfBids$Sale;I)V"⟩, 2), (⟨"BundlesOfBids$Print", "putNumber", "(I)V"⟩, 2), (⟨"BundlesOfBids$Print", "signAt", "(I)I"⟩, 2), (⟨"BundlesOfBids", "firstWrongTold", "(I)I"⟩, 12)]
theorem lw_r5 : ∀ q ∈ lw_privs_5, lw_okq q := List.forall_mem_cons.mpr ⟨lw_p64, List.forall_mem_cons.mpr ⟨lw_p65, List.forall_mem_cons.mpr ⟨lw_p66, List.forall_mem_cons.mpr ⟨lw_p67, List.forall_mem_cons.mpr ⟨lw_p68, List.forall_mem_cons.mpr ⟨lw_p69, List.forall_mem_cons.mpr ⟨lw_p70, List.forall_mem_cons.mpr ⟨lw_p71, List.forall_mem_cons.mpr ⟨lw_p72, List.forall_mem_cons.mpr ⟨lw_p73, List.forall_mem_cons.mpr ⟨lw_p74, List.forall_mem_cons.mpr ⟨lw_p75, List.forall_mem_cons.mpr ⟨lw_p76, List.forall_mem_cons.mpr ⟨lw_p77, List.forall_mem_cons.mpr ⟨lw_p78, List.forall_mem_cons.mpr ⟨lw_p79, fun _ h => absurd h List.not_mem_nil⟩⟩⟩⟩⟩⟩⟩⟩⟩⟩⟩⟩⟩⟩⟩⟩
theorem lw_p80 : lw_okq (⟨"BundlesOfBidsModel", "refuses", "(I)I"⟩, 31) := ⟨⟨by decide +kernel, by decide +kernel⟩, List.mem_of_getElem? (i := 897) (by decide +kernel), List.mem_of_getElem? (i := 1013) (by decide +kernel), List.mem_of_getElem? (i := 1014) (by decide +kernel)⟩
theorem lw_p81 : lw_okq (⟨"BundlesOfBidsModel", "rowNow", "()[I"⟩, 31) := ⟨⟨by decide +kernel, by decide +kernel⟩, List.mem_of_getElem? (i := 897) (by decide +kernel), List.mem_of_getElem? (i := 1021) (by decide +kernel), List.mem_of_getElem? (i := 1022) (by decide +kernel)⟩
theorem lw_p82 : lw_okq (⟨"BundlesOfBidsModel", "statement", "()I"⟩, 31) := ⟨⟨by decide +kernel, by decide +kernel⟩, List.mem_of_getElem? (i := 897) (by decide +kernel), List.mem_of_getElem? (i := 1025) (by decide +kernel), List.mem_of_getElem? (i := 1026) (by decide +kernel)⟩
theorem lw_p83 : lw_okq (⟨"BundlesOfBidsModel", "word", "()I"⟩, 31) := ⟨⟨by decide +kernel, by decide +kernel⟩, List.mem_of_getElem? (i := 897) (by decide +kernel), List.mem_of_getElem? (i := 1029) (by decide +kernel), List.mem_of_getElem? (i := 1030) (by decide +kernel)⟩
theorem lw_p84 : lw_okq (⟨"BundlesOfBidsModel", "isLetter", "()Z"⟩, 31) := ⟨⟨by decide +kernel, by decide +kernel⟩, List.mem_of_getElem? (i := 897) (by decide +kernel), List.mem_of_getElem? (i := 1033) (by decide +kernel), List.mem_of_getElem? (i := 1034) (by decide +kernel)⟩
theorem lw_p85 : lw_okq (⟨"BundlesOfBidsModel", "isWord", "(Ljava/lang/String;II)Z"⟩, 31) := ⟨⟨by decide +kernel, by decide +kernel⟩, List.mem_of_getElem? (i := 897) (by decide +kernel), List.mem_of_getElem? (i := 1040) (by decide +kernel), List.mem_of_getElem? (i := 1041) (by decide +kernel)⟩
theorem lw_p86 : lw_okq (⟨"BundlesOfBidsModel", "isNext", "(I)Z"⟩, 31) := ⟨⟨by decide +kernel, by decide +kernel⟩, List.mem_of_getElem? (i := 897) (by decide +kernel), List.mem_of_getElem? (i := 1046) (by decide +kernel), List.mem_of_getElem? (i := 1047) (by decide +kernel)⟩
theorem lw_p87 : lw_okq (⟨"BundlesOfBidsModel", "part", "(I)Z"⟩, 31) := ⟨⟨by decide +kernel, by decide +kernel⟩, List.mem_of_getElem? (i := 897) (by decide +kernel), List.mem_of_getElem? (i := 1050) (by decide +kernel), List.mem_of_getElem? (i := 1051) (by decide +kernel)⟩
theorem lw_p88 : lw_okq (⟨"BundlesOfBidsModel", "isDigit", "()Z"⟩, 31) := ⟨⟨by decide +kernel, by decide +kernel⟩, List.mem_of_getElem? (i := 897) (by decide +kernel), List.mem_of_getElem? (i := 1054) (by decide +kernel), List.mem_of_getElem? (i := 1055) (by decide +kernel)⟩
theorem lw_p89 : lw_okq (⟨"BundlesOfBidsModel", "faults", "(I[I)I"⟩, 31) := ⟨⟨by decide +kernel, by decide +kernel⟩, List.mem_of_getElem? (i := 897) (by decide +kernel), List.mem_of_getElem? (i := 1061) (by decide +kernel), List.mem_of_getElem? (i := 1062) (by decide +kernel)⟩
theorem lw_p90 : lw_okq (⟨"BundlesOfBidsModel", "layBack", "([I)V"⟩, 31) := ⟨⟨by decide +kernel, by decide +kernel⟩, List.mem_of_getElem? (i := 897) (by decide +kernel), List.mem_of_getElem? (i := 1065) (by decide +kernel), List.mem_of_getElem? (i := 1066) (by decide +kernel)⟩
theorem lw_p91 : lw_okq (⟨"BundlesOfBidsModel", "fits", "(I)Z"⟩, 31) := ⟨⟨by decide +kernel, by decide +kernel⟩, List.mem_of_getElem? (i := 897) (by decide +kernel), List.mem_of_getElem? (i := 1069) (by decide +kernel), List.mem_of_getElem? (i := 1070) (by decide +kernel)⟩
theorem lw_p92 : lw_okq (⟨"BundlesOfBidsModel", "comes", "(I)V"⟩, 31) := ⟨⟨by decide +kernel, by decide +kernel⟩, List.mem_of_getElem? (i := 897) (by decide +kernel), List.mem_of_getElem? (i := 1073) (by decide +kernel), List.mem_of_getElem? (i := 1074) (by decide +kernel)⟩
theorem lw_p93 : lw_okq (⟨"BundlesOfBidsModel", "isBid", "(I)Z"⟩, 31) := ⟨⟨by decide +kernel, by decide +kernel⟩, List.mem_of_getElem? (i := 897) (by decide +kernel), List.mem_of_getElem? (i := 1085) (by decide +kernel), List.mem_of_getElem? (i := 1086) (by decide +kernel)⟩
theorem lw_p94 : lw_okq (⟨"BundlesOfBidsModel", "winnersNow", "()I"⟩, 31) := ⟨⟨by decide +kernel, by decide +kernel⟩, List.mem_of_getElem? (i := 897) (by decide +kernel), List.mem_of_getElem? (i := 1105) (by decide +kernel), List.mem_of_getElem? (i := 1106) (by decide +kernel)⟩
theorem lw_p95 : lw_okq (⟨"BundlesOfBidsModel", "winnersOf", "(I)I"⟩, 31) := ⟨⟨by decide +kernel, by decide +kernel⟩, List.mem_of_getElem? (i := 897) (by decide +kernel), List.mem_of_getElem? (i := 1109) (by decide +kernel), List.mem_of_getElem? (i := 1110) (by decide +kernel)⟩
def lw_privs_6 : List (MethodName × Nat) := [(⟨"BundlesOfBidsModel", "refuses", "(I)I"⟩, 31), (⟨"BundlesOfBidsModel", "rowNow", "()[I"⟩, 31), (⟨"BundlesOfBidsModel", "statement", "()I"⟩, 31), (⟨"BundlesOfBidsModel", "word", "()I"⟩, 31), (⟨"BundlesOfBidsModel", "isLetter", "()Z"⟩, 31), (⟨"BundlesOfBidsModel", "isWord", "(Ljava/lang/String;II)Z"⟩, 31), (⟨"BundlesOfBidsModel", "isNext", "(I)Z"⟩, 31), (⟨"BundlesOfBidsModel", "part", "(I)Z"⟩, 31), (⟨"BundlesOfBidsModel", "isDigit", "()Z"⟩, 31), (⟨"BundlesOfBidsModel", "faults", "(I[I)I"⟩, 31), (⟨"BundlesOfBidsModel", "layBack", "([I)V"⟩, 31), (⟨"BundlesOfBidsModel", "fits", "(I)Z"⟩, 31), (⟨"BundlesOfBidsModel", "comes", "(I)V"⟩, 31), (⟨"BundlesOfBidsModel", "isBid", "(I)Z"⟩, 31), (⟨"BundlesOfBidsModel", "winnersNow", "()I"⟩, 31), (⟨"BundlesOfBidsModel", "winnersOf", "(I)I"⟩, 31)]
theorem lw_r6 : ∀ q ∈ lw_privs_6, lw_okq q := List.forall_mem_cons.mpr ⟨lw_p80, List.forall_mem_cons.mpr ⟨lw_p81, List.forall_mem_cons.mpr ⟨lw_p82, List.forall_mem_cons.mpr ⟨lw_p83, List.forall_mem_cons.mpr ⟨lw_p84, List.forall_mem_cons.mpr ⟨lw_p85, List.forall_mem_cons.mpr ⟨lw_p86, List.forall_mem_cons.mpr ⟨lw_p87, List.forall_mem_cons.mpr ⟨lw_p88, List.forall_mem_cons.mpr ⟨lw_p89, List.forall_mem_cons.mpr ⟨lw_p90, List.forall_mem_cons.mpr ⟨lw_p91, List.forall_mem_cons.mpr ⟨lw_p92, List.forall_mem_cons.mpr ⟨lw_p93, List.forall_mem_cons.mpr ⟨lw_p94, List.forall_mem_cons.mpr ⟨lw_p95, fun _ h => absurd h List.not_mem_nil⟩⟩⟩⟩⟩⟩⟩⟩⟩⟩⟩⟩⟩⟩⟩⟩
theorem lw_p96 : lw_okq (⟨"BundlesOfBidsModel", "table", "()V"⟩, 31) := ⟨⟨by decide +kernel, by decide +kernel⟩, List.mem_of_getElem? (i := 897) (by decide +kernel), List.mem_of_getElem? (i := 1113) (by decide +kernel), List.mem_of_getElem? (i := 1114) (by decide +kernel)⟩
theorem lw_p97 : lw_okq (⟨"BundlesOfBidsModel", "tabulates", "()V"⟩, 31) := ⟨⟨by decide +kernel, by decide +kernel⟩, List.mem_of_getElem? (i := 897) (by decide +kernel), List.mem_of_getElem? (i := 1117) (by decide +kernel), List.mem_of_getElem? (i := 1118) (by decide +kernel)⟩
theorem lw_p98 : lw_okq (⟨"BundlesOfBidsModel", "findOwn", "()V"⟩, 31) := ⟨⟨by decide +kernel, by decide +kernel⟩, List.mem_of_getElem? (i := 897) (by decide +kernel), List.mem_of_getElem? (i := 1121) (by decide +kernel), List.mem_of_getElem? (i := 1122) (by decide +kernel)⟩
theorem lw_p99 : lw_okq (⟨"BundlesOfBidsModel", "itemsOf", "(I)I"⟩, 31) := ⟨⟨by decide +kernel, by decide +kernel⟩, List.mem_of_getElem? (i := 897) (by decide +kernel), List.mem_of_getElem? (i := 1125) (by decide +kernel), List.mem_of_getElem? (i := 1126) (by decide +kernel)⟩
theorem lw_p100 : lw_okq (⟨"BundlesOfBidsModel", "mayWin", "(II)Z"⟩, 31) := ⟨⟨by decide +kernel, by decide +kernel⟩, List.mem_of_getElem? (i := 897) (by decide +kernel), List.mem_of_getElem? (i := 1129) (by decide +kernel), List.mem_of_getElem? (i := 1130) (by decide +kernel)⟩
theorem lw_p101 : lw_okq (⟨"BundlesOfBidsModel", "worthOf", "(II)I"⟩, 31) := ⟨⟨by decide +kernel, by decide +kernel⟩, List.mem_of_getElem? (i := 897) (by decide +kernel), List.mem_of_getElem? (i := 1136) (by decide +kernel), List.mem_of_getElem? (i := 1137) (by decide +kernel)⟩
theorem lw_p102 : lw_okq (⟨"BundlesOfBidsModel", "isAhead", "(II)Z"⟩, 31) := ⟨⟨by decide +kernel, by decide +kernel⟩, List.mem_of_getElem? (i := 897) (by decide +kernel), List.mem_of_getElem? (i := 1140) (by decide +kernel), List.mem_of_getElem? (i := 1141) (by decide +kernel)⟩
theorem lw_p103 : lw_okq (⟨"BundlesOfBidsModel", "placeOf", "(I)I"⟩, 31) := ⟨⟨by decide +kernel, by decide +kernel⟩, List.mem_of_getElem? (i := 897) (by decide +kernel), List.mem_of_getElem? (i := 1144) (by decide +kernel), List.mem_of_getElem? (i := 1145) (by decide +kernel)⟩
theorem lw_p104 : lw_okq (⟨"BundlesOfBidsModel", "findOrder", "()V"⟩, 31) := ⟨⟨by decide +kernel, by decide +kernel⟩, List.mem_of_getElem? (i := 897) (by decide +kernel), List.mem_of_getElem? (i := 1148) (by decide +kernel), List.mem_of_getElem? (i := 1149) (by decide +kernel)⟩
theorem lw_p105 : lw_okq (⟨"BundlesOfBidsModel", "ownNow", "(I)I"⟩, 31) := ⟨⟨by decide +kernel, by decide +kernel⟩, List.mem_of_getElem? (i := 897) (by decide +kernel), List.mem_of_getElem? (i := 1156) (by decide +kernel), List.mem_of_getElem? (i := 1157) (by decide +kernel)⟩
theorem lw_p106 : lw_okq (⟨"BundlesOfBidsModel", "pricesOf", "(I)I"⟩, 31) := ⟨⟨by decide +kernel, by decide +kernel⟩, List.mem_of_getElem? (i := 897) (by decide +kernel), List.mem_of_getElem? (i := 1160) (by decide +kernel), List.mem_of_getElem? (i := 1161) (by decide +kernel)⟩
theorem lw_p107 : lw_okq (⟨"BundlesOfBidsModel", "harmOf", "(I)I"⟩, 31) := ⟨⟨by decide +kernel, by decide +kernel⟩, List.mem_of_getElem? (i := 897) (by decide +kernel), List.mem_of_getElem? (i := 1164) (by decide +kernel), List.mem_of_getElem? (i := 1165) (by decide +kernel)⟩
theorem lw_p108 : lw_okq (⟨"BundlesOfBidsModel", "bestOf", "(I)I"⟩, 31) := ⟨⟨by decide +kernel, by decide +kernel⟩, List.mem_of_getElem? (i := 897) (by decide +kernel), List.mem_of_getElem? (i := 1168) (by decide +kernel), List.mem_of_getElem? (i := 1169) (by decide +kernel)⟩
theorem lw_p109 : lw_okq (⟨"BundlesOfBidsModel", "looked", "()I"⟩, 31) := ⟨⟨by decide +kernel, by decide +kernel⟩, List.mem_of_getElem? (i := 897) (by decide +kernel), List.mem_of_getElem? (i := 1180) (by decide +kernel), List.mem_of_getElem? (i := 1181) (by decide +kernel)⟩
theorem lw_p110 : lw_okq (⟨"BundlesOfBidsModel", "boundOf", "(II)I"⟩, 31) := ⟨⟨by decide +kernel, by decide +kernel⟩, List.mem_of_getElem? (i := 897) (by decide +kernel), List.mem_of_getElem? (i := 1184) (by decide +kernel), List.mem_of_getElem? (i := 1185) (by decide +kernel)⟩
theorem lw_p111 : lw_okq (⟨"BundlesOfBidsModel", "isOutcome", "(I)Z"⟩, 31) := ⟨⟨by decide +kernel, by decide +kernel⟩, List.mem_of_getElem? (i := 897) (by decide +kernel), List.mem_of_getElem? (i := 1193) (by decide +kernel), List.mem_of_getElem? (i := 1194) (by decide +kernel)⟩
def lw_privs_7 : List (MethodName × Nat) := [(⟨"BundlesOfBidsModel", "table", "()V"⟩, 31), (⟨"BundlesOfBidsModel", "tabulates", "()V"⟩, 31), (⟨"BundlesOfBidsModel", "findOwn", "()V"⟩, 31), (⟨"BundlesOfBidsModel", "itemsOf", "(I)I"⟩, 31), (⟨"BundlesOfBidsModel", "mayWin", "(II)Z"⟩, 31), (⟨"BundlesOfBidsModel", "worthOf", "(II)I"⟩, 31), (⟨"BundlesOfBidsModel", "isAhead", "(II)Z"⟩, 31), (⟨"BundlesOfBidsModel", "placeOf", "(I)I"⟩, 31), (⟨"BundlesOfBidsModel", "findOrder", "()V"⟩, 31), (⟨"BundlesOfBidsModel", "ownNow", "(I)I"⟩, 31), (⟨"BundlesOfBidsModel", "pricesOf", "(I)I"⟩, 31), (⟨"BundlesOfBidsModel", "harmOf", "(I)I"⟩, 31), (⟨"BundlesOfBidsModel", "bestOf", "(I)I"⟩, 31), (⟨"BundlesOfBidsModel", "looked", "()I"⟩, 31), (⟨"BundlesOfBidsModel", "boundOf", "(II)I"⟩, 31), (⟨"BundlesOfBidsModel", "isOutcome", "(I)Z"⟩, 31)]
theorem lw_r7 : ∀ q ∈ lw_privs_7, lw_okq q := List.forall_mem_cons.mpr ⟨lw_p96, List.forall_mem_cons.mpr ⟨lw_p97, List.forall_mem_cons.mpr ⟨lw_p98, List.forall_mem_cons.mpr ⟨lw_p99, List.forall_mem_cons.mpr ⟨lw_p100, List.forall_mem_cons.mpr ⟨lw_p101, List.forall_mem_cons.mpr ⟨lw_p102, List.forall_mem_cons.mpr ⟨lw_p103, List.forall_mem_cons.mpr ⟨lw_p104, List.forall_mem_cons.mpr ⟨lw_p105, List.forall_mem_cons.mpr ⟨lw_p106, List.forall_mem_cons.mpr ⟨lw_p107, List.forall_mem_cons.mpr ⟨lw_p108, List.forall_mem_cons.mpr ⟨lw_p109, List.forall_mem_cons.mpr ⟨lw_p110, List.forall_mem_cons.mpr ⟨lw_p111, fun _ h => absurd h List.not_mem_nil⟩⟩⟩⟩⟩⟩⟩⟩⟩⟩⟩⟩⟩⟩⟩⟩
theorem lw_p112 : lw_okq (⟨"BundlesOfBidsModel", "worthLess", "(I)I"⟩, 31) := ⟨⟨by decide +kernel, by decide +kernel⟩, List.mem_of_getElem? (i := 897) (by decide +kernel), List.mem_of_getElem? (i := 1201) (by decide +kernel), List.mem_of_getElem? (i := 1202) (by decide +kernel)⟩
theorem lw_p113 : lw_okq (⟨"BundlesOfBidsModel", "finds", "(I)V"⟩, 31) := ⟨⟨by decide +kernel, by decide +kernel⟩, List.mem_of_getElem? (i := 897) (by decide +kernel), List.mem_of_getElem? (i := 1217) (by decide +kernel), List.mem_of_getElem? (i := 1218) (by decide +kernel)⟩
theorem lw_p114 : lw_okq (⟨"BundlesOfBidsModel", "findLifted", "()V"⟩, 31) := ⟨⟨by decide +kernel, by decide +kernel⟩, List.mem_of_getElem? (i := 897) (by decide +kernel), List.mem_of_getElem? (i := 1221) (by decide +kernel), List.mem_of_getElem? (i := 1222) (by decide +kernel)⟩
theorem lw_p115 : lw_okq (⟨"BundlesOfBidsModel", "findHarm", "()V"⟩, 31) := ⟨⟨by decide +kernel, by decide +kernel⟩, List.mem_of_getElem? (i := 897) (by decide +kernel), List.mem_of_getElem? (i := 1225) (by decide +kernel), List.mem_of_getElem? (i := 1226) (by decide +kernel)⟩
theorem lw_p116 : lw_okq (⟨"BundlesOfBidsModel", "blocker", "()I"⟩, 31) := ⟨⟨by decide +kernel, by decide +kernel⟩, List.mem_of_getElem? (i := 897) (by decide +kernel), List.mem_of_getElem? (i := 1229) (by decide +kernel), List.mem_of_getElem? (i := 1230) (by decide +kernel)⟩
theorem lw_p117 : lw_okq (⟨"BundlesOfBidsModel", "blocksBy", "(I)I"⟩, 31) := ⟨⟨by decide +kernel, by decide +kernel⟩, List.mem_of_getElem? (i := 897) (by decide +kernel), List.mem_of_getElem? (i := 1233) (by decide +kernel), List.mem_of_getElem? (i := 1234) (by decide +kernel)⟩
theorem lw_p118 : lw_okq (⟨"BundlesOfBidsModel", "ofGroup", "(I)I"⟩, 31) := ⟨⟨by decide +kernel, by decide +kernel⟩, List.mem_of_getElem? (i := 897) (by decide +kernel), List.mem_of_getElem? (i := 1237) (by decide +kernel), List.mem_of_getElem? (i := 1238) (by decide +kernel)⟩
theorem lw_p119 : lw_okq (⟨"BundlesOfBidsModel", "together", "([I)I"⟩, 31) := ⟨⟨by decide +kernel, by decide +kernel⟩, List.mem_of_getElem? (i := 897) (by decide +kernel), List.mem_of_getElem? (i := 1241) (by decide +kernel), List.mem_of_getElem? (i := 1242) (by decide +kernel)⟩
theorem lw_p120 : lw_okq (⟨"BundlesOfBidsModel", "winsBy", "(II)Z"⟩, 31) := ⟨⟨by decide +kernel, by decide +kernel⟩, List.mem_of_getElem? (i := 897) (by decide +kernel), List.mem_of_getElem? (i := 1275) (by decide +kernel), List.mem_of_getElem? (i := 1276) (by decide +kernel)⟩
theorem lw_p121 : lw_okq (⟨"BundlesOfBidsModel", "otherwise", "()I"⟩, 31) := ⟨⟨by decide +kernel, by decide +kernel⟩, List.mem_of_getElem? (i := 897) (by decide +kernel), List.mem_of_getElem? (i := 1455) (by decide +kernel), List.mem_of_getElem? (i := 1456) (by decide +kernel)⟩
theorem lw_p122 : lw_okq (⟨"BundlesOfBidsModel", "draw", "(I)I"⟩, 31) := ⟨⟨by decide +kernel, by decide +kernel⟩, List.mem_of_getElem? (i := 897) (by decide +kernel), List.mem_of_getElem? (i := 1475) (by decide +kernel), List.mem_of_getElem? (i := 1476) (by decide +kernel)⟩
def lw_privs_8 : List (MethodName × Nat) := [(⟨"BundlesOfBidsModel", "worthLess", "(I)I"⟩, 31), (⟨"BundlesOfBidsModel", "finds", "(I)V"⟩, 31), (⟨"BundlesOfBidsModel", "findLifted", "()V"⟩, 31), (⟨"BundlesOfBidsModel", "findHarm", "()V"⟩, 31), (⟨"BundlesOfBidsModel", "blocker", "()I"⟩, 31), (⟨"BundlesOfBidsModel", "blocksBy", "(I)I"⟩, 31), (⟨"BundlesOfBidsModel", "ofGroup", "(I)I"⟩, 31), (⟨"BundlesOfBidsModel", "together", "([I)I"⟩, 31), (⟨"BundlesOfBidsModel", "winsBy", "(II)Z"⟩, 31), (⟨"BundlesOfBidsModel", "otherwise", "()I"⟩, 31), (⟨"BundlesOfBidsModel", "draw", "(I)I"⟩, 31)]
theorem lw_r8 : ∀ q ∈ lw_privs_8, lw_okq q := List.forall_mem_cons.mpr ⟨lw_p112, List.forall_mem_cons.mpr ⟨lw_p113, List.forall_mem_cons.mpr ⟨lw_p114, List.forall_mem_cons.mpr ⟨lw_p115, List.forall_mem_cons.mpr ⟨lw_p116, List.forall_mem_cons.mpr ⟨lw_p117, List.forall_mem_cons.mpr ⟨lw_p118, List.forall_mem_cons.mpr ⟨lw_p119, List.forall_mem_cons.mpr ⟨lw_p120, List.forall_mem_cons.mpr ⟨lw_p121, List.forall_mem_cons.mpr ⟨lw_p122, fun _ h => absurd h List.not_mem_nil⟩⟩⟩⟩⟩⟩⟩⟩⟩⟩⟩
def lw_privs : List (MethodName × Nat) := lw_privs_1 ++ (lw_privs_2 ++ (lw_privs_3 ++ (lw_privs_4 ++ (lw_privs_5 ++ (lw_privs_6 ++ (lw_privs_7 ++ (lw_privs_8)))))))
def lw_tbl : List Cond := k2_sels lw_privs ++ tables_1
theorem lw_privs_ok : ∀ q ∈ lw_privs, lw_okq q := by
  show ∀ q ∈ lw_privs_1 ++ (lw_privs_2 ++ (lw_privs_3 ++ (lw_privs_4 ++ (lw_privs_5 ++ (lw_privs_6 ++ (lw_privs_7 ++ (lw_privs_8))))))), lw_okq q
  exact List.forall_mem_append.mpr ⟨lw_r1, List.forall_mem_append.mpr ⟨lw_r2, List.forall_mem_append.mpr ⟨lw_r3, List.forall_mem_append.mpr ⟨lw_r4, List.forall_mem_append.mpr ⟨lw_r5, List.forall_mem_append.mpr ⟨lw_r6, List.forall_mem_append.mpr ⟨lw_r7, lw_r8⟩⟩⟩⟩⟩⟩⟩
-- ===== end of PART A; then your names; then what follows =====
/-! ===== names: what the task prints, without its word lists ===== -/
/-- 'selects' of the private methods that StringBuilder has from above -/
def xsel : List Cond := [.selects "java/lang/StringBuilder" ⟨"java/lang/AbstractStringBuilder", "ensureCapacityInternal", "(I)V"⟩ ⟨"java/lang/AbstractStringBuilder", "ensureCapacityInternal", "(I)V"⟩, .selects "java/lang/StringBuilder" ⟨"java/lang/AbstractStringBuilder", "newCapacity", "(I)I"⟩ ⟨"java/lang/AbstractStringBuilder", "newCapacity", "(I)I"⟩]
theorem xsel_ok {C : String} {y : MethodName} {s : State} {args : Array Value} {n : Nat} (hy : y.cls ≠ "java/lang/invoke/MethodHandle" ∧ y.cls ≠ "java/lang/invoke/VarHandle")
    (hins : (Cond.instantiable C n).before args s = true) (hpriv : (Cond.privateMethod y).before args s = true) (hinst : (Cond.instanceMethod y).before args s = true) (hsame : (Cond.sameMethod y.cls y.cls y.name y.desc).before args s = true) :
    (Cond.selects C y y).before args s = true := by
  obtain ⟨c, k, hc, hk, -, hniab, -, -⟩ := Cond.instantiable_spec hins
  obtain ⟨mk, methM, hnamed, hmethM, -, -⟩ := Cond.instanceMethod_spec hinst
  have hfound : s.methodFound? y.cls y.name y.desc = some mk := State.methodFound?_of_named hnamed hy
  have hsel : selectMethod {} s.vm c mk = .method mk := selectMethod_private hmethM (Cond.privateMethod_at hpriv mk methM hnamed hmethM)
  have hcls : s.vm.findClass y.cls = some mk.cls := findClass_of_methodNamed hnamed
  have hn2 : s.methodNamed? ⟨y.cls, y.name, y.desc⟩ = some mk := hnamed
  simp only [Cond.before, Cond.holds, Cond.value, hcls, hfound, hn2] at hsame
  simp only [Cond.before, Cond.holds, Cond.value, hc, hfound, hnamed, hsel]
  simp at hsame ⊢
  exact hsame
/-- the words that every method is given: those of the tables that stay true -/
def tbl : List Cond := xsel ++ lw_tbl.filter goodWord
theorem tb_filter {w : Cond} {i : Nat} (h : lw_tbl[i]? = some w) (hg : goodWord w = true) : w ∈ tbl := List.mem_append_right _ (List.mem_filter.mpr ⟨List.mem_of_getElem? h, hg⟩)
theorem tb_good : ∀ w ∈ tbl, goodWord w = true := fun w h => by
  rcases List.mem_append.mp h with h | h
  · exact List.all_eq_true.mp (show xsel.all goodWord = true from by decide +kernel) w h
  · exact (List.mem_filter.mp h).2
def RX0 : String := "BundlesOfBids$Bill"
def TX0 : u_T := fun k => match k with
  | 0 => ("BundlesOfBids$Bill", "won", "[I", true)
  | 1 => ("BundlesOfBids$Bill", "byHarm", "[I", true)
  | 2 => ("BundlesOfBids$Bill", "lifted", "[I", true)
  | 3 => ("BundlesOfBids$Bill", "groupWorths", "[I", true)
  | 4 => ("BundlesOfBids$Bill", "winning", "I", false)
  | 5 => ("BundlesOfBids$Bill", "worth", "I", false)
  | 6 => ("BundlesOfBids$Bill", "unsold", "I", false)
  | _ => ("BundlesOfBids$Bill", "liftCount", "I", false)
def tyX0 : Nat → FieldType := fun k => match k with
  | 0 => .array .int
  | 1 => .array .int
  | 2 => .array .int
  | 3 => .array .int
  | 4 => .int
  | 5 => .int
  | 6 => .int
  | _ => .int
abbrev wsX00 : List Cond := u_ws RX0 TX0 8
theorem nmX0 : ∀ a, a < 8 → ∀ b, b < 8 → a ≠ b → (TX0 a).2.1 ≠ (TX0 b).2.1 := by decide +kernel
theorem tyX0_ok : ∀ k, k < 8 → parseFieldDescriptor (TX0 k).2.2.1 = some (tyX0 k) := by decide +kernel
abbrev cX0_init : ByteArray := prog_2_method_1_code
def yX0_init : MethodName := ⟨RX0, "<init>", "()V"⟩
abbrev cX0_charge : ByteArray := prog_2_method_2_code
def yX0_charge : MethodName := ⟨RX0, "charge", "(LBundlesOfBids$Sale;LBundlesOfBids$Outcomes;)V"⟩
abbrev cX0_harmBy : ByteArray := prog_2_method_3_code
def yX0_harmBy : MethodName := ⟨RX0, "harmBy", "(LBundlesOfBids$Sale;LBundlesOfBids$Outcomes;I)I"⟩
abbrev cX0_happy : ByteArray := prog_2_method_4_code
def yX0_happy : MethodName := ⟨RX0, "happy", "()I"⟩
abbrev cX0_payments : ByteArray := prog_2_method_5_code
def yX0_payments : MethodName := ⟨RX0, "payments", "(I)[I"⟩
abbrev cX0_payment : ByteArray := prog_2_method_6_code
def yX0_payment : MethodName := ⟨RX0, "payment", "(II)I"⟩
abbrev cX0_total : ByteArray := prog_2_method_7_code
def yX0_total : MethodName := ⟨RX0, "total", "([II)I"⟩
abbrev cX0_lift : ByteArray := prog_2_method_8_code
def yX0_lift : MethodName := ⟨RX0, "lift", "(LBundlesOfBids$Sale;LBundlesOfBids$Outcomes;)V"⟩
abbrev cX0_putOnOthers : ByteArray := prog_2_method_9_code
def yX0_putOnOthers : MethodName := ⟨RX0, "putOnOthers", "(II)V"⟩
abbrev cX0_excess : ByteArray := prog_2_method_10_code
def yX0_excess : MethodName := ⟨RX0, "excess", "([II)I"⟩
abbrev cX0_blocker : ByteArray := prog_2_method_11_code
def yX0_blocker : MethodName := ⟨RX0, "blocker", "([I)I"⟩
def RX1 : String := "BundlesOfBids$Outcomes"
def TX1 : u_T := fun k => match k with
  | 0 => ("BundlesOfBids$Outcomes", "packs", "[I", true)
  | 1 => ("BundlesOfBids$Outcomes", "packItems", "[I", true)
  | 2 => ("BundlesOfBids$Outcomes", "packWorths", "[I", true)
  | 3 => ("BundlesOfBids$Outcomes", "keys", "[I", true)
  | 4 => ("BundlesOfBids$Outcomes", "packCount", "I", false)
  | _ => ("BundlesOfBids$Outcomes", "size", "I", false)
def tyX1 : Nat → FieldType := fun k => match k with
  | 0 => .array .int
  | 1 => .array .int
  | 2 => .array .int
  | 3 => .array .int
  | 4 => .int
  | _ => .int
abbrev wsX10 : List Cond := u_ws RX1 TX1 6
theorem nmX1 : ∀ a, a < 6 → ∀ b, b < 6 → a ≠ b → (TX1 a).2.1 ≠ (TX1 b).2.1 := by decide +kernel
theorem tyX1_ok : ∀ k, k < 6 → parseFieldDescriptor (TX1 k).2.2.1 = some (tyX1 k) := by decide +kernel
abbrev cX1_init : ByteArray := prog_3_method_1_code
def yX1_init : MethodName := ⟨RX1, "<init>", "()V"⟩
abbrev cX1_bidsIn : ByteArray := prog_3_method_2_code
def yX1_bidsIn : MethodName := ⟨RX1, "bidsIn", "(I)I"⟩
abbrev cX1_worthIn : ByteArray := prog_3_method_3_code
def yX1_worthIn : MethodName := ⟨RX1, "worthIn", "(I)I"⟩
abbrev cX1_keyOf : ByteArray := prog_3_method_4_code
def yX1_keyOf : MethodName := ⟨RX1, "keyOf", "(II)I"⟩
abbrev cX1_gather : ByteArray := prog_3_method_5_code
def yX1_gather : MethodName := ⟨RX1, "gather", "(LBundlesOfBids$Sale;)V"⟩
abbrev cX1_gatherPacks : ByteArray := prog_3_method_6_code
def yX1_gatherPacks : MethodName := ⟨RX1, "gatherPacks", "(LBundlesOfBids$Sale;)V"⟩
abbrev cX1_addPack : ByteArray := prog_3_method_7_code
def yX1_addPack : MethodName := ⟨RX1, "addPack", "(III)V"⟩
abbrev cX1_keyAt : ByteArray := prog_3_method_8_code
def yX1_keyAt : MethodName := ⟨RX1, "keyAt", "(I)I"⟩
abbrev cX1_has : ByteArray := prog_3_method_9_code
def yX1_has : MethodName := ⟨RX1, "has", "(I)Z"⟩
abbrev cX1_first : ByteArray := prog_3_method_10_code
def yX1_first : MethodName := ⟨RX1, "first", "(I)I"⟩
abbrev cX1_ranked : ByteArray := prog_3_method_11_code
def yX1_ranked : MethodName := ⟨RX1, "ranked", "(I)I"⟩
abbrev cX1_nextAbove : ByteArray := prog_3_method_12_code
def yX1_nextAbove : MethodName := ⟨RX1, "nextAbove", "(I)I"⟩
abbrev cX1_mostPrices : ByteArray := prog_3_method_13_code
def yX1_mostPrices : MethodName := ⟨RX1, "mostPrices", "(LBundlesOfBids$Sale;I)I"⟩
def RX2 : String := "BundlesOfBids$Print"
def TX2 : u_T := fun k => match k with
  | 0 => ("BundlesOfBids$Print", "signs", "[I", true)
  | _ => ("BundlesOfBids$Print", "length", "I", false)
def tyX2 : Nat → FieldType := fun k => match k with
  | 0 => .array .int
  | _ => .int
abbrev wsX20 : List Cond := u_ws RX2 TX2 2
theorem nmX2 : ∀ a, a < 2 → ∀ b, b < 2 → a ≠ b → (TX2 a).2.1 ≠ (TX2 b).2.1 := by decide +kernel
theorem tyX2_ok : ∀ k, k < 2 → parseFieldDescriptor (TX2 k).2.2.1 = some (tyX2 k) := by decide +kernel
abbrev cX2_init : ByteArray := prog_4_method_1_code
def yX2_init : MethodName := ⟨RX2, "<init>", "()V"⟩
abbrev cX2_signAt : ByteArray := prog_4_method_2_code
def yX2_signAt : MethodName := ⟨RX2, "signAt", "(I)I"⟩
abbrev cX2_putWinners : ByteArray := prog_4_method_3_code
def yX2_putWinners : MethodName := ⟨RX2, "putWinners", "(LBundlesOfBids$Sale;II)V"⟩
abbrev cX2_putBid : ByteArray := prog_4_method_4_code
def yX2_putBid : MethodName := ⟨RX2, "putBid", "(LBundlesOfBids$Sale;I)V"⟩
abbrev cX2_putNumber : ByteArray := prog_4_method_5_code
def yX2_putNumber : MethodName := ⟨RX2, "putNumber", "(I)V"⟩
abbrev cX2_put : ByteArray := prog_4_method_6_code
def yX2_put : MethodName := ⟨RX2, "put", "(I)V"⟩
def RX3 : String := "BundlesOfBids$Sale"
def TX3 : u_T := fun k => match k with
  | 0 => ("BundlesOfBids$Sale", "bidders", "[I", true)
  | 1 => ("BundlesOfBids$Sale", "sets", "[I", true)
  | 2 => ("BundlesOfBids$Sale", "prices", "[I", true)
  | 3 => ("BundlesOfBids$Sale", "owned", "[I", true)
  | 4 => ("BundlesOfBids$Sale", "kinds", "[I", true)
  | 5 => ("BundlesOfBids$Sale", "figures", "[I", true)
  | 6 => ("BundlesOfBids$Sale", "reserves", "[I", true)
  | 7 => ("BundlesOfBids$Sale", "came", "I", false)
  | _ => ("BundlesOfBids$Sale", "active", "I", false)
def tyX3 : Nat → FieldType := fun k => match k with
  | 0 => .array .int
  | 1 => .array .int
  | 2 => .array .int
  | 3 => .array .int
  | 4 => .array .int
  | 5 => .array .int
  | 6 => .array .int
  | 7 => .int
  | _ => .int
abbrev wsX30 : List Cond := u_ws RX3 TX3 9
theorem nmX3 : ∀ a, a < 9 → ∀ b, b < 9 → a ≠ b → (TX3 a).2.1 ≠ (TX3 b).2.1 := by decide +kernel
theorem tyX3_ok : ∀ k, k < 9 → parseFieldDescriptor (TX3 k).2.2.1 = some (tyX3 k) := by decide +kernel
abbrev cX3_init : ByteArray := prog_5_method_1_code
def yX3_init : MethodName := ⟨RX3, "<init>", "()V"⟩
abbrev cX3_takeFrom : ByteArray := prog_5_method_2_code
def yX3_takeFrom : MethodName := ⟨RX3, "takeFrom", "(LBundlesOfBids$Sale;)V"⟩
abbrev cX3_isFull : ByteArray := prog_5_method_3_code
def yX3_isFull : MethodName := ⟨RX3, "isFull", "()Z"⟩
abbrev cX3_hasBid : ByteArray := prog_5_method_4_code
def yX3_hasBid : MethodName := ⟨RX3, "hasBid", "(I)Z"⟩
abbrev cX3_bidderOf : ByteArray := prog_5_method_5_code
def yX3_bidderOf : MethodName := ⟨RX3, "bidderOf", "(I)I"⟩
abbrev cX3_setOf : ByteArray := prog_5_method_6_code
def yX3_setOf : MethodName := ⟨RX3, "setOf", "(I)I"⟩
abbrev cX3_priceOf : ByteArray := prog_5_method_7_code
def yX3_priceOf : MethodName := ⟨RX3, "priceOf", "(I)I"⟩
abbrev cX3_kindOf : ByteArray := prog_5_method_8_code
def yX3_kindOf : MethodName := ⟨RX3, "kindOf", "(I)I"⟩
abbrev cX3_figureOf : ByteArray := prog_5_method_9_code
def yX3_figureOf : MethodName := ⟨RX3, "figureOf", "(I)I"⟩
abbrev cX3_reserveOf : ByteArray := prog_5_method_10_code
def yX3_reserveOf : MethodName := ⟨RX3, "reserveOf", "(I)I"⟩
abbrev cX3_addBid : ByteArray := prog_5_method_11_code
def yX3_addBid : MethodName := ⟨RX3, "addBid", "(III)V"⟩
abbrev cX3_turnOver : ByteArray := prog_5_method_12_code
def yX3_turnOver : MethodName := ⟨RX3, "turnOver", "(I)V"⟩
abbrev cX3_setPrice : ByteArray := prog_5_method_13_code
def yX3_setPrice : MethodName := ⟨RX3, "setPrice", "(II)V"⟩
abbrev cX3_setKind : ByteArray := prog_5_method_14_code
def yX3_setKind : MethodName := ⟨RX3, "setKind", "(III)V"⟩
abbrev cX3_setReserve : ByteArray := prog_5_method_15_code
def yX3_setReserve : MethodName := ⟨RX3, "setReserve", "(II)V"⟩
abbrev cX3_bidsOfGroup : ByteArray := prog_5_method_16_code
def yX3_bidsOfGroup : MethodName := ⟨RX3, "bidsOfGroup", "(I)I"⟩
abbrev cX3_pricesOf : ByteArray := prog_5_method_17_code
def yX3_pricesOf : MethodName := ⟨RX3, "pricesOf", "(I)I"⟩
abbrev cX3_itemsOf : ByteArray := prog_5_method_18_code
def yX3_itemsOf : MethodName := ⟨RX3, "itemsOf", "(I)I"⟩
abbrev cX3_holders : ByteArray := prog_5_method_19_code
def yX3_holders : MethodName := ⟨RX3, "holders", "(I)I"⟩
abbrev cX3_reservesBut : ByteArray := prog_5_method_20_code
def yX3_reservesBut : MethodName := ⟨RX3, "reservesBut", "(I)I"⟩
abbrev cX3_allows : ByteArray := prog_5_method_21_code
def yX3_allows : MethodName := ⟨RX3, "allows", "(I)Z"⟩
abbrev cX3_mayWin : ByteArray := prog_5_method_22_code
def yX3_mayWin : MethodName := ⟨RX3, "mayWin", "(III)Z"⟩
def RX4 : String := "BundlesOfBids$Script"
def TX4 : u_T := fun k => match k with
  | 0 => ("BundlesOfBids$Script", "letters", "[I", true)
  | 1 => ("BundlesOfBids$Script", "starts", "[I", true)
  | 2 => ("BundlesOfBids$Script", "words", "[I", true)
  | 3 => ("BundlesOfBids$Script", "firsts", "[I", true)
  | 4 => ("BundlesOfBids$Script", "seconds", "[I", true)
  | 5 => ("BundlesOfBids$Script", "thirds", "[I", true)
  | 6 => ("BundlesOfBids$Script", "size", "I", false)
  | 7 => ("BundlesOfBids$Script", "place", "I", false)
  | 8 => ("BundlesOfBids$Script", "fault", "I", false)
  | _ => ("BundlesOfBids$Script", "statements", "I", false)
def tyX4 : Nat → FieldType := fun k => match k with
  | 0 => .array .int
  | 1 => .array .int
  | 2 => .array .int
  | 3 => .array .int
  | 4 => .array .int
  | 5 => .array .int
  | 6 => .int
  | 7 => .int
  | 8 => .int
  | _ => .int
abbrev wsX40 : List Cond := u_ws RX4 TX4 10
theorem nmX4 : ∀ a, a < 10 → ∀ b, b < 10 → a ≠ b → (TX4 a).2.1 ≠ (TX4 b).2.1 := by decide +kernel
theorem tyX4_ok : ∀ k, k < 10 → parseFieldDescriptor (TX4 k).2.2.1 = some (tyX4 k) := by decide +kernel
abbrev cX4_init : ByteArray := prog_6_method_1_code
def yX4_init : MethodName := ⟨RX4, "<init>", "()V"⟩
abbrev cX4_isFull : ByteArray := prog_6_method_2_code
def yX4_isFull : MethodName := ⟨RX4, "isFull", "()Z"⟩
abbrev cX4_append : ByteArray := prog_6_method_3_code
def yX4_append : MethodName := ⟨RX4, "append", "(I)I"⟩
abbrev cX4_forget : ByteArray := prog_6_method_4_code
def yX4_forget : MethodName := ⟨RX4, "forget", "()V"⟩
abbrev cX4_parse : ByteArray := prog_6_method_5_code
def yX4_parse : MethodName := ⟨RX4, "parse", "()I"⟩
abbrev cX4_readStatement : ByteArray := prog_6_method_6_code
def yX4_readStatement : MethodName := ⟨RX4, "readStatement", "()V"⟩
abbrev cX4_signHere : ByteArray := prog_6_method_7_code
def yX4_signHere : MethodName := ⟨RX4, "signHere", "()I"⟩
abbrev cX4_isSmall : ByteArray := prog_6_method_8_code
def yX4_isSmall : MethodName := ⟨RX4, "isSmall", "(I)Z"⟩
abbrev cX4_isDigit : ByteArray := prog_6_method_9_code
def yX4_isDigit : MethodName := ⟨RX4, "isDigit", "(I)Z"⟩
abbrev cX4_noteFault : ByteArray := prog_6_method_10_code
def yX4_noteFault : MethodName := ⟨RX4, "noteFault", "(I)V"⟩
abbrev cX4_readSign : ByteArray := prog_6_method_11_code
def yX4_readSign : MethodName := ⟨RX4, "readSign", "(I)V"⟩
abbrev cX4_readWord : ByteArray := prog_6_method_12_code
def yX4_readWord : MethodName := ⟨RX4, "readWord", "()I"⟩
abbrev cX4_wordFrom : ByteArray := prog_6_method_13_code
def yX4_wordFrom : MethodName := ⟨RX4, "wordFrom", "(II)I"⟩
abbrev cX4_spells : ByteArray := prog_6_method_14_code
def yX4_spells : MethodName := ⟨RX4, "spells", "(Ljava/lang/String;II)Z"⟩
abbrev cX4_readNumber : ByteArray := prog_6_method_15_code
def yX4_readNumber : MethodName := ⟨RX4, "readNumber", "()I"⟩
abbrev cX4_readItem : ByteArray := prog_6_method_16_code
def yX4_readItem : MethodName := ⟨RX4, "readItem", "()I"⟩
abbrev cX4_readSet : ByteArray := prog_6_method_17_code
def yX4_readSet : MethodName := ⟨RX4, "readSet", "()I"⟩
abbrev cX4_obey : ByteArray := prog_6_method_18_code
def yX4_obey : MethodName := ⟨RX4, "obey", "(LBundlesOfBids$Sale;)I"⟩
abbrev cX4_isRight : ByteArray := prog_6_method_19_code
def yX4_isRight : MethodName := ⟨RX4, "isRight", "(LBundlesOfBids$Sale;I)Z"⟩
abbrev cX4_carryOut : ByteArray := prog_6_method_20_code
def yX4_carryOut : MethodName := ⟨RX4, "carryOut", "(LBundlesOfBids$Sale;IIII)V"⟩
def RX5 : String := "BundlesOfBids$Search"
def TX5 : u_T := fun k => match k with
  | 0 => ("BundlesOfBids$Search", "shares", "[I", true)
  | 1 => ("BundlesOfBids$Search", "order", "[I", true)
  | 2 => ("BundlesOfBids$Search", "length", "I", false)
  | 3 => ("BundlesOfBids$Search", "looked", "I", false)
  | _ => ("BundlesOfBids$Search", "found", "I", false)
def tyX5 : Nat → FieldType := fun k => match k with
  | 0 => .array .int
  | 1 => .array .int
  | 2 => .int
  | 3 => .int
  | _ => .int
abbrev wsX50 : List Cond := u_ws RX5 TX5 5
theorem nmX5 : ∀ a, a < 5 → ∀ b, b < 5 → a ≠ b → (TX5 a).2.1 ≠ (TX5 b).2.1 := by decide +kernel
theorem tyX5_ok : ∀ k, k < 5 → parseFieldDescriptor (TX5 k).2.2.1 = some (tyX5 k) := by decide +kernel
abbrev cX5_init : ByteArray := prog_7_method_1_code
def yX5_init : MethodName := ⟨RX5, "<init>", "()V"⟩
abbrev cX5_lineUp : ByteArray := prog_7_method_2_code
def yX5_lineUp : MethodName := ⟨RX5, "lineUp", "(LBundlesOfBids$Sale;)V"⟩
abbrev cX5_insert : ByteArray := prog_7_method_3_code
def yX5_insert : MethodName := ⟨RX5, "insert", "(I)V"⟩
abbrev cX5_bidAt : ByteArray := prog_7_method_4_code
def yX5_bidAt : MethodName := ⟨RX5, "bidAt", "(I)I"⟩
abbrev cX5_shareOf : ByteArray := prog_7_method_5_code
def yX5_shareOf : MethodName := ⟨RX5, "shareOf", "(I)I"⟩
abbrev cX5_placeOf : ByteArray := prog_7_method_6_code
def yX5_placeOf : MethodName := ⟨RX5, "placeOf", "(I)I"⟩
abbrev cX5_branchesOf : ByteArray := prog_7_method_7_code
def yX5_branchesOf : MethodName := ⟨RX5, "branchesOf", "(LBundlesOfBids$Sale;)I"⟩
abbrev cX5_look : ByteArray := prog_7_method_8_code
def yX5_look : MethodName := ⟨RX5, "look", "(LBundlesOfBids$Search;LBundlesOfBids$Sale;II)V"⟩
abbrev cX5_find : ByteArray := prog_7_method_9_code
def yX5_find : MethodName := ⟨RX5, "find", "(LBundlesOfBids$Sale;I)V"⟩
abbrev cX5_bound : ByteArray := prog_7_method_10_code
def yX5_bound : MethodName := ⟨RX5, "bound", "(LBundlesOfBids$Sale;II)I"⟩
abbrev cX5_mostFor : ByteArray := prog_7_method_11_code
def yX5_mostFor : MethodName := ⟨RX5, "mostFor", "(LBundlesOfBids$Sale;II)I"⟩
def RX6 : String := "BundlesOfBids"
def TX6 : u_T := fun k => match k with
  | 0 => ("BundlesOfBids", "sale", "LBundlesOfBids$Sale;", true)
  | 1 => ("BundlesOfBids", "pictured", "LBundlesOfBids$Sale;", true)
  | 2 => ("BundlesOfBids", "trial", "LBundlesOfBids$Sale;", true)
  | 3 => ("BundlesOfBids", "outcomes", "LBundlesOfBids$Outcomes;", true)
  | 4 => ("BundlesOfBids", "bill", "LBundlesOfBids$Bill;", true)
  | 5 => ("BundlesOfBids", "search", "LBundlesOfBids$Search;", true)
  | 6 => ("BundlesOfBids", "script", "LBundlesOfBids$Script;", true)
  | 7 => ("BundlesOfBids", "print", "LBundlesOfBids$Print;", true)
  | 8 => ("BundlesOfBids", "told", "[I", true)
  | 9 => ("BundlesOfBids", "refusals", "[I", true)
  | 10 => ("BundlesOfBids", "toldCount", "I", false)
  | _ => ("BundlesOfBids", "hasPicture", "Z", false)
def tyX6 : Nat → FieldType := fun k => match k with
  | 0 => .object "BundlesOfBids$Sale"
  | 1 => .object "BundlesOfBids$Sale"
  | 2 => .object "BundlesOfBids$Sale"
  | 3 => .object "BundlesOfBids$Outcomes"
  | 4 => .object "BundlesOfBids$Bill"
  | 5 => .object "BundlesOfBids$Search"
  | 6 => .object "BundlesOfBids$Script"
  | 7 => .object "BundlesOfBids$Print"
  | 8 => .array .int
  | 9 => .array .int
  | 10 => .int
  | _ => .boolean
abbrev wsX60 : List Cond := u_ws RX6 TX6 12
theorem nmX6 : ∀ a, a < 12 → ∀ b, b < 12 → a ≠ b → (TX6 a).2.1 ≠ (TX6 b).2.1 := by decide +kernel
theorem tyX6_ok : ∀ k, k < 12 → parseFieldDescriptor (TX6 k).2.2.1 = some (tyX6 k) := by decide +kernel
abbrev cX6_init : ByteArray := prog_1_method_1_code
def yX6_init : MethodName := ⟨RX6, "<init>", "()V"⟩
abbrev cX6_letter : ByteArray := prog_1_method_2_code
def yX6_letter : MethodName := ⟨RX6, "letter", "(I)I"⟩
abbrev cX6_auction : ByteArray := prog_1_method_3_code
def yX6_auction : MethodName := ⟨RX6, "auction", "()I"⟩
abbrev cX6_bids : ByteArray := prog_1_method_4_code
def yX6_bids : MethodName := ⟨RX6, "bids", "(III)I"⟩
abbrev cX6_turns : ByteArray := prog_1_method_5_code
def yX6_turns : MethodName := ⟨RX6, "turns", "(I)I"⟩
abbrev cX6_price : ByteArray := prog_1_method_6_code
def yX6_price : MethodName := ⟨RX6, "price", "(II)I"⟩
abbrev cX6_kind : ByteArray := prog_1_method_7_code
def yX6_kind : MethodName := ⟨RX6, "kind", "(III)I"⟩
abbrev cX6_keep : ByteArray := prog_1_method_8_code
def yX6_keep : MethodName := ⟨RX6, "keep", "(II)I"⟩
abbrev cX6_bid : ByteArray := prog_1_method_9_code
def yX6_bid : MethodName := ⟨RX6, "bid", "(II)I"⟩
abbrev cX6_bidder : ByteArray := prog_1_method_10_code
def yX6_bidder : MethodName := ⟨RX6, "bidder", "(II)I"⟩
abbrev cX6_may : ByteArray := prog_1_method_11_code
def yX6_may : MethodName := ⟨RX6, "may", "(I)I"⟩
abbrev cX6_winners : ByteArray := prog_1_method_12_code
def yX6_winners : MethodName := ⟨RX6, "winners", "(I)I"⟩
abbrev cX6_rank : ByteArray := prog_1_method_13_code
def yX6_rank : MethodName := ⟨RX6, "rank", "(II)I"⟩
abbrev cX6_item : ByteArray := prog_1_method_14_code
def yX6_item : MethodName := ⟨RX6, "item", "(II)I"⟩
abbrev cX6_rival : ByteArray := prog_1_method_15_code
def yX6_rival : MethodName := ⟨RX6, "rival", "(II)I"⟩
abbrev cX6_of : ByteArray := prog_1_method_16_code
def yX6_of : MethodName := ⟨RX6, "of", "(II)I"⟩
abbrev cX6_pays : ByteArray := prog_1_method_17_code
def yX6_pays : MethodName := ⟨RX6, "pays", "(II)I"⟩
abbrev cX6_blocks : ByteArray := prog_1_method_18_code
def yX6_blocks : MethodName := ⟨RX6, "blocks", "(II)I"⟩
abbrev cX6_lifts : ByteArray := prog_1_method_19_code
def yX6_lifts : MethodName := ⟨RX6, "lifts", "()I"⟩
abbrev cX6_group : ByteArray := prog_1_method_20_code
def yX6_group : MethodName := ⟨RX6, "group", "(II)I"⟩
abbrev cX6_envy : ByteArray := prog_1_method_21_code
def yX6_envy : MethodName := ⟨RX6, "envy", "(II)I"⟩
abbrev cX6_gain : ByteArray := prog_1_method_22_code
def yX6_gain : MethodName := ⟨RX6, "gain", "(I)I"⟩
abbrev cX6_without : ByteArray := prog_1_method_23_code
def yX6_without : MethodName := ⟨RX6, "without", "(I)I"⟩
abbrev cX6_least : ByteArray := prog_1_method_24_code
def yX6_least : MethodName := ⟨RX6, "least", "(I)I"⟩
abbrev cX6_tight : ByteArray := prog_1_method_25_code
def yX6_tight : MethodName := ⟨RX6, "tight", "()I"⟩
abbrev cX6_missing : ByteArray := prog_1_method_26_code
def yX6_missing : MethodName := ⟨RX6, "missing", "(III)J"⟩
abbrev cX6_mean : ByteArray := prog_1_method_27_code
def yX6_mean : MethodName := ⟨RX6, "mean", "(II)J"⟩
abbrev cX6_printed : ByteArray := prog_1_method_28_code
def yX6_printed : MethodName := ⟨RX6, "printed", "(I)I"⟩
abbrev cX6_whatIs : ByteArray := prog_1_method_29_code
def yX6_whatIs : MethodName := ⟨RX6, "whatIs", "(II)I"⟩
abbrev cX6_row : ByteArray := prog_1_method_30_code
def yX6_row : MethodName := ⟨RX6, "row", "(I)I"⟩
abbrev cX6_judge : ByteArray := prog_1_method_31_code
def yX6_judge : MethodName := ⟨RX6, "judge", "(I)I"⟩
abbrev cX6_clear : ByteArray := prog_1_method_32_code
def yX6_clear : MethodName := ⟨RX6, "clear", "()I"⟩
abbrev cX6_lots : ByteArray := prog_1_method_33_code
def yX6_lots : MethodName := ⟨RX6, "lots", "(III)I"⟩
abbrev cX6_image : ByteArray := prog_1_method_34_code
def yX6_image : MethodName := ⟨RX6, "image", "()I"⟩
abbrev cX6_on : ByteArray := prog_1_method_35_code
def yX6_on : MethodName := ⟨RX6, "on", "()I"⟩
abbrev cX6_count : ByteArray := prog_1_method_36_code
def yX6_count : MethodName := ⟨RX6, "count", "(I)I"⟩
abbrev cX6_refuse : ByteArray := prog_1_method_37_code
def yX6_refuse : MethodName := ⟨RX6, "refuse", "(I)I"⟩
abbrev cX6_refuseLong : ByteArray := prog_1_method_38_code
def yX6_refuseLong : MethodName := ⟨RX6, "refuseLong", "(I)J"⟩
abbrev cX6_isBidder : ByteArray := prog_1_method_39_code
def yX6_isBidder : MethodName := ⟨RX6, "isBidder", "(I)Z"⟩
abbrev cX6_isItem : ByteArray := prog_1_method_40_code
def yX6_isItem : MethodName := ⟨RX6, "isItem", "(I)Z"⟩
abbrev cX6_isHow : ByteArray := prog_1_method_41_code
def yX6_isHow : MethodName := ⟨RX6, "isHow", "(I)Z"⟩
abbrev cX6_isEither : ByteArray := prog_1_method_42_code
def yX6_isEither : MethodName := ⟨RX6, "isEither", "(I)Z"⟩
abbrev cX6_areBids : ByteArray := prog_1_method_43_code
def yX6_areBids : MethodName := ⟨RX6, "areBids", "(I)Z"⟩
abbrev cX6_bitAt : ByteArray := prog_1_method_44_code
def yX6_bitAt : MethodName := ⟨RX6, "bitAt", "(II)I"⟩
abbrev cX6_firstBid : ByteArray := prog_1_method_45_code
def yX6_firstBid : MethodName := ⟨RX6, "firstBid", "(I)I"⟩
abbrev cX6_bidsOrWorth : ByteArray := prog_1_method_46_code
def yX6_bidsOrWorth : MethodName := ⟨RX6, "bidsOrWorth", "(II)I"⟩
abbrev cX6_winnersOf : ByteArray := prog_1_method_47_code
def yX6_winnersOf : MethodName := ⟨RX6, "winnersOf", "(LBundlesOfBids$Sale;)I"⟩
abbrev cX6_worthOf : ByteArray := prog_1_method_48_code
def yX6_worthOf : MethodName := ⟨RX6, "worthOf", "(LBundlesOfBids$Sale;)I"⟩
abbrev cX6_charge : ByteArray := prog_1_method_49_code
def yX6_charge : MethodName := ⟨RX6, "charge", "(LBundlesOfBids$Sale;)V"⟩
abbrev cX6_chargeAndLift : ByteArray := prog_1_method_50_code
def yX6_chargeAndLift : MethodName := ⟨RX6, "chargeAndLift", "()V"⟩
abbrev cX6_obeyScript : ByteArray := prog_1_method_51_code
def yX6_obeyScript : MethodName := ⟨RX6, "obeyScript", "()I"⟩
abbrev cX6_scarcity : ByteArray := prog_1_method_52_code
def yX6_scarcity : MethodName := ⟨RX6, "scarcity", "(I)I"⟩
abbrev cX6_shillSurplus : ByteArray := prog_1_method_53_code
def yX6_shillSurplus : MethodName := ⟨RX6, "shillSurplus", "(I)I"⟩
abbrev cX6_firstWrongTold : ByteArray := prog_1_method_54_code
def yX6_firstWrongTold : MethodName := ⟨RX6, "firstWrongTold", "(I)I"⟩
abbrev cX6_nextSeed : ByteArray := prog_1_method_55_code
def yX6_nextSeed : MethodName := ⟨RX6, "nextSeed", "(I)I"⟩
abbrev cX6_drawn : ByteArray := prog_1_method_56_code
def yX6_drawn : MethodName := ⟨RX6, "drawn", "(II)I"⟩
abbrev cX6_power : ByteArray := prog_1_method_57_code
def yX6_power : MethodName := ⟨RX6, "power", "(JI)J"⟩
abbrev cX6_fraction : ByteArray := prog_1_method_58_code
def yX6_fraction : MethodName := ⟨RX6, "fraction", "(JJI)J"⟩
abbrev cX6_greatestDivisor : ByteArray := prog_1_method_59_code
def yX6_greatestDivisor : MethodName := ⟨RX6, "greatestDivisor", "(JJ)J"⟩
def RX7 : String := "BundlesOfBidsModel"
def TX7 : u_T := fun k => match k with
  | 0 => ("BundlesOfBidsModel", "reserve", "[I", true)
  | 1 => ("BundlesOfBidsModel", "kind", "[I", true)
  | 2 => ("BundlesOfBidsModel", "figure", "[I", true)
  | 3 => ("BundlesOfBidsModel", "bidder", "[I", true)
  | 4 => ("BundlesOfBidsModel", "set", "[I", true)
  | 5 => ("BundlesOfBidsModel", "price", "[I", true)
  | 6 => ("BundlesOfBidsModel", "many", "I", false)
  | 7 => ("BundlesOfBidsModel", "on", "I", false)
  | 8 => ("BundlesOfBidsModel", "refusals", "[I", true)
  | 9 => ("BundlesOfBidsModel", "worth", "[I", true)
  | 10 => ("BundlesOfBidsModel", "taken", "[I", true)
  | 11 => ("BundlesOfBidsModel", "ownOf", "[I", true)
  | 12 => ("BundlesOfBidsModel", "stale", "Z", false)
  | 13 => ("BundlesOfBidsModel", "shill", "I", false)
  | 14 => ("BundlesOfBidsModel", "letters", "[I", true)
  | 15 => ("BundlesOfBidsModel", "typed", "I", false)
  | 16 => ("BundlesOfBidsModel", "place", "I", false)
  | 17 => ("BundlesOfBidsModel", "words", "[Ljava/lang/String;", true)
  | 18 => ("BundlesOfBidsModel", "parts", "[Ljava/lang/String;", true)
  | 19 => ("BundlesOfBidsModel", "number", "I", false)
  | 20 => ("BundlesOfBidsModel", "isOdd", "Z", false)
  | 21 => ("BundlesOfBidsModel", "told", "[I", true)
  | 22 => ("BundlesOfBidsModel", "order", "[I", true)
  | 23 => ("BundlesOfBidsModel", "ordered", "I", false)
  | 24 => ("BundlesOfBidsModel", "won", "[I", true)
  | 25 => ("BundlesOfBidsModel", "paid", "[I", true)
  | 26 => ("BundlesOfBidsModel", "lifts", "I", false)
  | 27 => ("BundlesOfBidsModel", "row", "[I", true)
  | 28 => ("BundlesOfBidsModel", "rows", "I", false)
  | 29 => ("BundlesOfBidsModel", "draws", "I", false)
  | _ => ("BundlesOfBidsModel", "kept", "[I", false)
def tyX7 : Nat → FieldType := fun k => match k with
  | 0 => .array .int
  | 1 => .array .int
  | 2 => .array .int
  | 3 => .array .int
  | 4 => .array .int
  | 5 => .array .int
  | 6 => .int
  | 7 => .int
  | 8 => .array .int
  | 9 => .array .int
  | 10 => .array .int
  | 11 => .array .int
  | 12 => .boolean
  | 13 => .int
  | 14 => .array .int
  | 15 => .int
  | 16 => .int
  | 17 => .array (.object "java/lang/String")
  | 18 => .array (.object "java/lang/String")
  | 19 => .int
  | 20 => .boolean
  | 21 => .array .int
  | 22 => .array .int
  | 23 => .int
  | 24 => .array .int
  | 25 => .array .int
  | 26 => .int
  | 27 => .array .int
  | 28 => .int
  | 29 => .int
  | _ => .array .int
abbrev wsX70 : List Cond := u_ws RX7 TX7 31
theorem nmX7 : ∀ a, a < 31 → ∀ b, b < 31 → a ≠ b → (TX7 a).2.1 ≠ (TX7 b).2.1 := by decide +kernel
theorem tyX7_ok : ∀ k, k < 31 → parseFieldDescriptor (TX7 k).2.2.1 = some (tyX7 k) := by decide +kernel
abbrev cX7_init : ByteArray := prog_9_method_1_code
def yX7_init : MethodName := ⟨RX7, "<init>", "()V"⟩
abbrev cX7_refuses : ByteArray := prog_9_method_2_code
def yX7_refuses : MethodName := ⟨RX7, "refuses", "(I)I"⟩
abbrev cX7_isIn : ByteArray := prog_9_method_3_code
def yX7_isIn : MethodName := ⟨RX7, "isIn", "(III)Z"⟩
abbrev cX7_isBid : ByteArray := prog_9_method_4_code
def yX7_isBid : MethodName := ⟨RX7, "isBid", "(I)Z"⟩
abbrev cX7_size : ByteArray := prog_9_method_5_code
def yX7_size : MethodName := ⟨RX7, "size", "(I)I"⟩
abbrev cX7_has : ByteArray := prog_9_method_6_code
def yX7_has : MethodName := ⟨RX7, "has", "(II)Z"⟩
abbrev cX7_mayWin : ByteArray := prog_9_method_7_code
def yX7_mayWin : MethodName := ⟨RX7, "mayWin", "(II)Z"⟩
abbrev cX7_findOwn : ByteArray := prog_9_method_8_code
def yX7_findOwn : MethodName := ⟨RX7, "findOwn", "()V"⟩
abbrev cX7_itemsOf : ByteArray := prog_9_method_9_code
def yX7_itemsOf : MethodName := ⟨RX7, "itemsOf", "(I)I"⟩
abbrev cX7_worthOf : ByteArray := prog_9_method_10_code
def yX7_worthOf : MethodName := ⟨RX7, "worthOf", "(II)I"⟩
abbrev cX7_tabulates : ByteArray := prog_9_method_11_code
def yX7_tabulates : MethodName := ⟨RX7, "tabulates", "()V"⟩
abbrev cX7_table : ByteArray := prog_9_method_12_code
def yX7_table : MethodName := ⟨RX7, "table", "()V"⟩
abbrev cX7_isAhead : ByteArray := prog_9_method_13_code
def yX7_isAhead : MethodName := ⟨RX7, "isAhead", "(II)Z"⟩
abbrev cX7_winnersOf : ByteArray := prog_9_method_14_code
def yX7_winnersOf : MethodName := ⟨RX7, "winnersOf", "(I)I"⟩
abbrev cX7_winnersNow : ByteArray := prog_9_method_15_code
def yX7_winnersNow : MethodName := ⟨RX7, "winnersNow", "()I"⟩
abbrev cX7_bestOf : ByteArray := prog_9_method_16_code
def yX7_bestOf : MethodName := ⟨RX7, "bestOf", "(I)I"⟩
abbrev cX7_letter : ByteArray := prog_9_method_17_code
def yX7_letter : MethodName := ⟨RX7, "letter", "(I)I"⟩
abbrev cX7_isLetter : ByteArray := prog_9_method_18_code
def yX7_isLetter : MethodName := ⟨RX7, "isLetter", "()Z"⟩
abbrev cX7_isDigit : ByteArray := prog_9_method_19_code
def yX7_isDigit : MethodName := ⟨RX7, "isDigit", "()Z"⟩
abbrev cX7_isNext : ByteArray := prog_9_method_20_code
def yX7_isNext : MethodName := ⟨RX7, "isNext", "(I)Z"⟩
abbrev cX7_isWord : ByteArray := prog_9_method_21_code
def yX7_isWord : MethodName := ⟨RX7, "isWord", "(Ljava/lang/String;II)Z"⟩
abbrev cX7_word : ByteArray := prog_9_method_22_code
def yX7_word : MethodName := ⟨RX7, "word", "()I"⟩
abbrev cX7_part : ByteArray := prog_9_method_23_code
def yX7_part : MethodName := ⟨RX7, "part", "(I)Z"⟩
abbrev cX7_statement : ByteArray := prog_9_method_24_code
def yX7_statement : MethodName := ⟨RX7, "statement", "()I"⟩
abbrev cX7_fits : ByteArray := prog_9_method_25_code
def yX7_fits : MethodName := ⟨RX7, "fits", "(I)Z"⟩
abbrev cX7_comes : ByteArray := prog_9_method_26_code
def yX7_comes : MethodName := ⟨RX7, "comes", "(I)V"⟩
abbrev cX7_auction : ByteArray := prog_9_method_27_code
def yX7_auction : MethodName := ⟨RX7, "auction", "()I"⟩
abbrev cX7_faults : ByteArray := prog_9_method_28_code
def yX7_faults : MethodName := ⟨RX7, "faults", "(I[I)I"⟩
abbrev cX7_rowNow : ByteArray := prog_9_method_29_code
def yX7_rowNow : MethodName := ⟨RX7, "rowNow", "()[I"⟩
abbrev cX7_layBack : ByteArray := prog_9_method_30_code
def yX7_layBack : MethodName := ⟨RX7, "layBack", "([I)V"⟩
abbrev cX7_bids : ByteArray := prog_9_method_31_code
def yX7_bids : MethodName := ⟨RX7, "bids", "(III)I"⟩
abbrev cX7_turns : ByteArray := prog_9_method_32_code
def yX7_turns : MethodName := ⟨RX7, "turns", "(I)I"⟩
abbrev cX7_price : ByteArray := prog_9_method_33_code
def yX7_price : MethodName := ⟨RX7, "price", "(II)I"⟩
abbrev cX7_kind : ByteArray := prog_9_method_34_code
def yX7_kind : MethodName := ⟨RX7, "kind", "(III)I"⟩
abbrev cX7_keep : ByteArray := prog_9_method_35_code
def yX7_keep : MethodName := ⟨RX7, "keep", "(II)I"⟩
abbrev cX7_findOrder : ByteArray := prog_9_method_36_code
def yX7_findOrder : MethodName := ⟨RX7, "findOrder", "()V"⟩
abbrev cX7_placeOf : ByteArray := prog_9_method_37_code
def yX7_placeOf : MethodName := ⟨RX7, "placeOf", "(I)I"⟩
abbrev cX7_boundOf : ByteArray := prog_9_method_38_code
def yX7_boundOf : MethodName := ⟨RX7, "boundOf", "(II)I"⟩
abbrev cX7_looked : ByteArray := prog_9_method_39_code
def yX7_looked : MethodName := ⟨RX7, "looked", "()I"⟩
abbrev cX7_bid : ByteArray := prog_9_method_40_code
def yX7_bid : MethodName := ⟨RX7, "bid", "(II)I"⟩
abbrev cX7_ownNow : ByteArray := prog_9_method_41_code
def yX7_ownNow : MethodName := ⟨RX7, "ownNow", "(I)I"⟩
abbrev cX7_pricesOf : ByteArray := prog_9_method_42_code
def yX7_pricesOf : MethodName := ⟨RX7, "pricesOf", "(I)I"⟩
abbrev cX7_harmOf : ByteArray := prog_9_method_43_code
def yX7_harmOf : MethodName := ⟨RX7, "harmOf", "(I)I"⟩
abbrev cX7_bidder : ByteArray := prog_9_method_44_code
def yX7_bidder : MethodName := ⟨RX7, "bidder", "(II)I"⟩
abbrev cX7_may : ByteArray := prog_9_method_45_code
def yX7_may : MethodName := ⟨RX7, "may", "(I)I"⟩
abbrev cX7_winners : ByteArray := prog_9_method_46_code
def yX7_winners : MethodName := ⟨RX7, "winners", "(I)I"⟩
abbrev cX7_isOutcome : ByteArray := prog_9_method_47_code
def yX7_isOutcome : MethodName := ⟨RX7, "isOutcome", "(I)Z"⟩
abbrev cX7_rank : ByteArray := prog_9_method_48_code
def yX7_rank : MethodName := ⟨RX7, "rank", "(II)I"⟩
abbrev cX7_worthLess : ByteArray := prog_9_method_49_code
def yX7_worthLess : MethodName := ⟨RX7, "worthLess", "(I)I"⟩
abbrev cX7_item : ByteArray := prog_9_method_50_code
def yX7_item : MethodName := ⟨RX7, "item", "(II)I"⟩
abbrev cX7_rival : ByteArray := prog_9_method_51_code
def yX7_rival : MethodName := ⟨RX7, "rival", "(II)I"⟩
abbrev cX7_of : ByteArray := prog_9_method_52_code
def yX7_of : MethodName := ⟨RX7, "of", "(II)I"⟩
abbrev cX7_together : ByteArray := prog_9_method_53_code
def yX7_together : MethodName := ⟨RX7, "together", "([I)I"⟩
abbrev cX7_findHarm : ByteArray := prog_9_method_54_code
def yX7_findHarm : MethodName := ⟨RX7, "findHarm", "()V"⟩
abbrev cX7_ofGroup : ByteArray := prog_9_method_55_code
def yX7_ofGroup : MethodName := ⟨RX7, "ofGroup", "(I)I"⟩
abbrev cX7_blocksBy : ByteArray := prog_9_method_56_code
def yX7_blocksBy : MethodName := ⟨RX7, "blocksBy", "(I)I"⟩
abbrev cX7_blocker : ByteArray := prog_9_method_57_code
def yX7_blocker : MethodName := ⟨RX7, "blocker", "()I"⟩
abbrev cX7_findLifted : ByteArray := prog_9_method_58_code
def yX7_findLifted : MethodName := ⟨RX7, "findLifted", "()V"⟩
abbrev cX7_finds : ByteArray := prog_9_method_59_code
def yX7_finds : MethodName := ⟨RX7, "finds", "(I)V"⟩
abbrev cX7_pays : ByteArray := prog_9_method_60_code
def yX7_pays : MethodName := ⟨RX7, "pays", "(II)I"⟩
abbrev cX7_blocks : ByteArray := prog_9_method_61_code
def yX7_blocks : MethodName := ⟨RX7, "blocks", "(II)I"⟩
abbrev cX7_lifts : ByteArray := prog_9_method_62_code
def yX7_lifts : MethodName := ⟨RX7, "lifts", "()I"⟩
abbrev cX7_group : ByteArray := prog_9_method_63_code
def yX7_group : MethodName := ⟨RX7, "group", "(II)I"⟩
abbrev cX7_envy : ByteArray := prog_9_method_64_code
def yX7_envy : MethodName := ⟨RX7, "envy", "(II)I"⟩
abbrev cX7_gain : ByteArray := prog_9_method_65_code
def yX7_gain : MethodName := ⟨RX7, "gain", "(I)I"⟩
abbrev cX7_without : ByteArray := prog_9_method_66_code
def yX7_without : MethodName := ⟨RX7, "without", "(I)I"⟩
abbrev cX7_winsBy : ByteArray := prog_9_method_67_code
def yX7_winsBy : MethodName := ⟨RX7, "winsBy", "(II)Z"⟩
abbrev cX7_least : ByteArray := prog_9_method_68_code
def yX7_least : MethodName := ⟨RX7, "least", "(I)I"⟩
abbrev cX7_tight : ByteArray := prog_9_method_69_code
def yX7_tight : MethodName := ⟨RX7, "tight", "()I"⟩
abbrev cX7_common : ByteArray := prog_9_method_70_code
def yX7_common : MethodName := ⟨RX7, "common", "(JJ)J"⟩
abbrev cX7_partOf : ByteArray := prog_9_method_71_code
def yX7_partOf : MethodName := ⟨RX7, "partOf", "(JJI)J"⟩
abbrev cX7_missing : ByteArray := prog_9_method_72_code
def yX7_missing : MethodName := ⟨RX7, "missing", "(III)J"⟩
abbrev cX7_mean : ByteArray := prog_9_method_73_code
def yX7_mean : MethodName := ⟨RX7, "mean", "(II)J"⟩
abbrev cX7_printed : ByteArray := prog_9_method_74_code
def yX7_printed : MethodName := ⟨RX7, "printed", "(I)I"⟩
abbrev cX7_otherwise : ByteArray := prog_9_method_75_code
def yX7_otherwise : MethodName := ⟨RX7, "otherwise", "()I"⟩
abbrev cX7_whatIs : ByteArray := prog_9_method_76_code
def yX7_whatIs : MethodName := ⟨RX7, "whatIs", "(II)I"⟩
abbrev cX7_row : ByteArray := prog_9_method_77_code
def yX7_row : MethodName := ⟨RX7, "row", "(I)I"⟩
abbrev cX7_judge : ByteArray := prog_9_method_78_code
def yX7_judge : MethodName := ⟨RX7, "judge", "(I)I"⟩
abbrev cX7_clear : ByteArray := prog_9_method_79_code
def yX7_clear : MethodName := ⟨RX7, "clear", "()I"⟩
abbrev cX7_draw : ByteArray := prog_9_method_80_code
def yX7_draw : MethodName := ⟨RX7, "draw", "(I)I"⟩
abbrev cX7_lots : ByteArray := prog_9_method_81_code
def yX7_lots : MethodName := ⟨RX7, "lots", "(III)I"⟩
abbrev cX7_image : ByteArray := prog_9_method_82_code
def yX7_image : MethodName := ⟨RX7, "image", "()I"⟩
abbrev cX7_on : ByteArray := prog_9_method_83_code
def yX7_on : MethodName := ⟨RX7, "on", "()I"⟩
abbrev cX7_count : ByteArray := prog_9_method_84_code
def yX7_count : MethodName := ⟨RX7, "count", "(I)I"⟩
def RJ5 : String := "java/lang/AbstractStringBuilder"
def TJ5 : u_T := fun k => match k with
  | _ => ("", "", "", false)
def tyJ5 : Nat → FieldType := fun k => match k with
  | _ => .int
abbrev wsJ50 : List Cond := u_ws RJ5 TJ5 0
theorem nmJ5 : ∀ a, a < 0 → ∀ b, b < 0 → a ≠ b → (TJ5 a).2.1 ≠ (TJ5 b).2.1 := by decide +kernel
theorem tyJ5_ok : ∀ k, k < 0 → parseFieldDescriptor (TJ5 k).2.2.1 = some (tyJ5 k) := by decide +kernel
abbrev cJ5_init_d00df : ByteArray := prog_10_method_2_code
def yJ5_init_d00df : MethodName := ⟨RJ5, "<init>", "(I)V"⟩
abbrev cJ5_length_8abf5 : ByteArray := prog_10_method_6_code
def yJ5_length_8abf5 : MethodName := ⟨RJ5, "length", "()I"⟩
abbrev cJ5_ensureCapacityInternal_d00df : ByteArray := prog_10_method_9_code
def yJ5_ensureCapacityInternal_d00df : MethodName := ⟨RJ5, "ensureCapacityInternal", "(I)V"⟩
abbrev cJ5_newCapacity_0f7a4 : ByteArray := prog_10_method_10_code
def yJ5_newCapacity_0f7a4 : MethodName := ⟨RJ5, "newCapacity", "(I)I"⟩
abbrev cJ5_inflate_da8c8 : ByteArray := prog_10_method_11_code
def yJ5_inflate_da8c8 : MethodName := ⟨RJ5, "inflate", "()V"⟩
abbrev cJ5_charAt_5068e : ByteArray := prog_10_method_14_code
def yJ5_charAt_5068e : MethodName := ⟨RJ5, "charAt", "(I)C"⟩
abbrev cJ5_append_3fe6f : ByteArray := prog_10_method_31_code
def yJ5_append_3fe6f : MethodName := ⟨RJ5, "append", "(C)Ljava/lang/AbstractStringBuilder;"⟩
abbrev cJ5_append_c97b9 : ByteArray := prog_10_method_32_code
def yJ5_append_c97b9 : MethodName := ⟨RJ5, "append", "(I)Ljava/lang/AbstractStringBuilder;"⟩
abbrev cJ5_isLatin1_aae02 : ByteArray := prog_10_method_68_code
def yJ5_isLatin1_aae02 : MethodName := ⟨RJ5, "isLatin1", "()Z"⟩
def RJx8e188 : String := "java/lang/Cloneable"
def TJx8e188 : u_T := fun k => match k with
  | _ => ("", "", "", false)
def tyJx8e188 : Nat → FieldType := fun k => match k with
  | _ => .int
abbrev wsJx8e1880 : List Cond := u_ws RJx8e188 TJx8e188 0
theorem nmJx8e188 : ∀ a, a < 0 → ∀ b, b < 0 → a ≠ b → (TJx8e188 a).2.1 ≠ (TJx8e188 b).2.1 := by decide +kernel
theorem tyJx8e188_ok : ∀ k, k < 0 → parseFieldDescriptor (TJx8e188 k).2.2.1 = some (tyJx8e188 k) := by decide +kernel
def RJ6 : String := "java/lang/Integer"
def TJ6 : u_T := fun k => match k with
  | _ => ("", "", "", false)
def tyJ6 : Nat → FieldType := fun k => match k with
  | _ => .int
abbrev wsJ60 : List Cond := u_ws RJ6 TJ6 0
theorem nmJ6 : ∀ a, a < 0 → ∀ b, b < 0 → a ≠ b → (TJ6 a).2.1 ≠ (TJ6 b).2.1 := by decide +kernel
theorem tyJ6_ok : ∀ k, k < 0 → parseFieldDescriptor (TJ6 k).2.2.1 = some (tyJ6 k) := by decide +kernel
abbrev cJ6_getChars_ba4f3 : ByteArray := prog_12_method_12_code
def yJ6_getChars_ba4f3 : MethodName := ⟨RJ6, "getChars", "(II[B)I"⟩
abbrev cJ6_stringSize_0f7a4 : ByteArray := prog_12_method_13_code
def yJ6_stringSize_0f7a4 : MethodName := ⟨RJ6, "stringSize", "(I)I"⟩
abbrev cJ6_bitCount_0f7a4 : ByteArray := prog_12_method_49_code
def yJ6_bitCount_0f7a4 : MethodName := ⟨RJ6, "bitCount", "(I)I"⟩
def RJ9 : String := "java/lang/Math"
def TJ9 : u_T := fun k => match k with
  | _ => ("", "", "", false)
def tyJ9 : Nat → FieldType := fun k => match k with
  | _ => .int
abbrev wsJ90 : List Cond := u_ws RJ9 TJ9 0
theorem nmJ9 : ∀ a, a < 0 → ∀ b, b < 0 → a ≠ b → (TJ9 a).2.1 ≠ (TJ9 b).2.1 := by decide +kernel
theorem tyJ9_ok : ∀ k, k < 0 → parseFieldDescriptor (TJ9 k).2.2.1 = some (tyJ9 k) := by decide +kernel
abbrev cJ9_max_7cf53 : ByteArray := prog_13_method_65_code
def yJ9_max_7cf53 : MethodName := ⟨RJ9, "max", "(II)I"⟩
abbrev cJ9_min_7cf53 : ByteArray := prog_13_method_69_code
def yJ9_min_7cf53 : MethodName := ⟨RJ9, "min", "(II)I"⟩
def RJ0 : String := "java/lang/String"
def TJ0 : u_T := fun k => match k with
  | _ => ("", "", "", false)
def tyJ0 : Nat → FieldType := fun k => match k with
  | _ => .int
abbrev wsJ00 : List Cond := u_ws RJ0 TJ0 0
theorem nmJ0 : ∀ a, a < 0 → ∀ b, b < 0 → a ≠ b → (TJ0 a).2.1 ≠ (TJ0 b).2.1 := by decide +kernel
theorem tyJ0_ok : ∀ k, k < 0 → parseFieldDescriptor (TJ0 k).2.2.1 = some (tyJ0 k) := by decide +kernel
abbrev cJ0_length_8abf5 : ByteArray := prog_14_method_54_code
def yJ0_length_8abf5 : MethodName := ⟨RJ0, "length", "()I"⟩
abbrev cJ0_charAt_5068e : ByteArray := prog_14_method_56_code
def yJ0_charAt_5068e : MethodName := ⟨RJ0, "charAt", "(I)C"⟩
abbrev cJ0_coder_7d493 : ByteArray := prog_14_method_152_code
def yJ0_coder_7d493 : MethodName := ⟨RJ0, "coder", "()B"⟩
abbrev cJ0_isLatin1_aae02 : ByteArray := prog_14_method_154_code
def yJ0_isLatin1_aae02 : MethodName := ⟨RJ0, "isLatin1", "()Z"⟩
abbrev cJ0_checkIndex_df160 : ByteArray := prog_14_method_155_code
def yJ0_checkIndex_df160 : MethodName := ⟨RJ0, "checkIndex", "(II)V"⟩
abbrev cJ0_checkBoundsOffCount_cabcc : ByteArray := prog_14_method_157_code
def yJ0_checkBoundsOffCount_cabcc : MethodName := ⟨RJ0, "checkBoundsOffCount", "(III)I"⟩
abbrev cJ0_checkBoundsBeginEnd_23922 : ByteArray := prog_14_method_158_code
def yJ0_checkBoundsBeginEnd_23922 : MethodName := ⟨RJ0, "checkBoundsBeginEnd", "(III)V"⟩
def RJ4 : String := "java/lang/StringBuilder"
def TJ4 : u_T := fun k => match k with
  | 0 => ("java/lang/AbstractStringBuilder", "value", "[B", false)
  | 1 => ("java/lang/AbstractStringBuilder", "coder", "B", false)
  | 2 => ("java/lang/AbstractStringBuilder", "maybeLatin1", "Z", false)
  | _ => ("java/lang/AbstractStringBuilder", "count", "I", false)
def tyJ4 : Nat → FieldType := fun k => match k with
  | 0 => .array .byte
  | 1 => .byte
  | 2 => .boolean
  | _ => .int
abbrev wsJ40 : List Cond := u_ws RJ4 TJ4 4
theorem nmJ4 : ∀ a, a < 4 → ∀ b, b < 4 → a ≠ b → (TJ4 a).2.1 ≠ (TJ4 b).2.1 := by decide +kernel
theorem tyJ4_ok : ∀ k, k < 4 → parseFieldDescriptor (TJ4 k).2.2.1 = some (tyJ4 k) := by decide +kernel
abbrev cJ4_init_da8c8 : ByteArray := prog_15_method_1_code
def yJ4_init_da8c8 : MethodName := ⟨RJ4, "<init>", "()V"⟩
abbrev cJ4_append_cf468 : ByteArray := prog_15_method_14_code
def yJ4_append_cf468 : MethodName := ⟨RJ4, "append", "(C)Ljava/lang/StringBuilder;"⟩
abbrev cJ4_append_bf812 : ByteArray := prog_15_method_15_code
def yJ4_append_bf812 : MethodName := ⟨RJ4, "append", "(I)Ljava/lang/StringBuilder;"⟩
abbrev cJ4_charAt_5068e : ByteArray := prog_15_method_88_code
def yJ4_charAt_5068e : MethodName := ⟨RJ4, "charAt", "(I)C"⟩
abbrev cJ4_length_8abf5 : ByteArray := prog_15_method_93_code
def yJ4_length_8abf5 : MethodName := ⟨RJ4, "length", "()I"⟩
def RJ1 : String := "java/lang/StringLatin1"
def TJ1 : u_T := fun k => match k with
  | _ => ("", "", "", false)
def tyJ1 : Nat → FieldType := fun k => match k with
  | _ => .int
abbrev wsJ10 : List Cond := u_ws RJ1 TJ1 0
theorem nmJ1 : ∀ a, a < 0 → ∀ b, b < 0 → a ≠ b → (TJ1 a).2.1 ≠ (TJ1 b).2.1 := by decide +kernel
theorem tyJ1_ok : ∀ k, k < 0 → parseFieldDescriptor (TJ1 k).2.2.1 = some (tyJ1 k) := by decide +kernel
abbrev cJ1_charAt_3b067 : ByteArray := prog_16_method_2_code
def yJ1_charAt_3b067 : MethodName := ⟨RJ1, "charAt", "([BI)C"⟩
abbrev cJ1_canEncode_fc78d : ByteArray := prog_16_method_3_code
def yJ1_canEncode_fc78d : MethodName := ⟨RJ1, "canEncode", "(C)Z"⟩
abbrev cJ1_inflate_0e8fd : ByteArray := prog_16_method_50_code
def yJ1_inflate_0e8fd : MethodName := ⟨RJ1, "inflate", "([BI[BII)V"⟩
def RJ2 : String := "java/lang/StringUTF16"
def TJ2 : u_T := fun k => match k with
  | _ => ("", "", "", false)
def tyJ2 : Nat → FieldType := fun k => match k with
  | _ => .int
abbrev wsJ20 : List Cond := u_ws RJ2 TJ2 0
theorem nmJ2 : ∀ a, a < 0 → ∀ b, b < 0 → a ≠ b → (TJ2 a).2.1 ≠ (TJ2 b).2.1 := by decide +kernel
theorem tyJ2_ok : ∀ k, k < 0 → parseFieldDescriptor (TJ2 k).2.2.1 = some (tyJ2 k) := by decide +kernel
abbrev cJ2_newBytesFor_77867 : ByteArray := prog_17_method_2_code
def yJ2_newBytesFor_77867 : MethodName := ⟨RJ2, "newBytesFor", "(I)[B"⟩
abbrev cJ2_newBytesLength_0f7a4 : ByteArray := prog_17_method_3_code
def yJ2_newBytesLength_0f7a4 : MethodName := ⟨RJ2, "newBytesLength", "(I)I"⟩
abbrev cJ2_putChar_b72d1 : ByteArray := prog_17_method_4_code
def yJ2_putChar_b72d1 : MethodName := ⟨RJ2, "putChar", "([BII)V"⟩
abbrev cJ2_getChar_3b067 : ByteArray := prog_17_method_5_code
def yJ2_getChar_3b067 : MethodName := ⟨RJ2, "getChar", "([BI)C"⟩
abbrev cJ2_length_9d52b : ByteArray := prog_17_method_6_code
def yJ2_length_9d52b : MethodName := ⟨RJ2, "length", "([B)I"⟩
abbrev cJ2_putCharSB_b72d1 : ByteArray := prog_17_method_71_code
def yJ2_putCharSB_b72d1 : MethodName := ⟨RJ2, "putCharSB", "([BII)V"⟩
abbrev cJ2_getChars_46870 : ByteArray := prog_17_method_77_code
def yJ2_getChars_46870 : MethodName := ⟨RJ2, "getChars", "(III[B)I"⟩
abbrev cJ2_charAt_3b067 : ByteArray := prog_17_method_83_code
def yJ2_charAt_3b067 : MethodName := ⟨RJ2, "charAt", "([BI)C"⟩
abbrev cJ2_inflate_0e8fd : ByteArray := prog_17_method_86_code
def yJ2_inflate_0e8fd : MethodName := ⟨RJ2, "inflate", "([BI[BII)V"⟩
abbrev cJ2_getChars_ba4f3 : ByteArray := prog_17_method_89_code
def yJ2_getChars_ba4f3 : MethodName := ⟨RJ2, "getChars", "(II[B)I"⟩
abbrev cJ2_checkIndex_2214a : ByteArray := prog_17_method_91_code
def yJ2_checkIndex_2214a : MethodName := ⟨RJ2, "checkIndex", "(I[B)V"⟩
abbrev cJ2_checkBoundsBeginEnd_d044e : ByteArray := prog_17_method_93_code
def yJ2_checkBoundsBeginEnd_d044e : MethodName := ⟨RJ2, "checkBoundsBeginEnd", "(II[B)V"⟩
abbrev cJ2_checkBoundsOffCount_d044e : ByteArray := prog_17_method_94_code
def yJ2_checkBoundsOffCount_d044e : MethodName := ⟨RJ2, "checkBoundsOffCount", "(II[B)V"⟩
def RJ10 : String := "java/lang/System"
def TJ10 : u_T := fun k => match k with
  | _ => ("", "", "", false)
def tyJ10 : Nat → FieldType := fun k => match k with
  | _ => .int
abbrev wsJ100 : List Cond := u_ws RJ10 TJ10 0
theorem nmJ10 : ∀ a, a < 0 → ∀ b, b < 0 → a ≠ b → (TJ10 a).2.1 ≠ (TJ10 b).2.1 := by decide +kernel
theorem tyJ10_ok : ∀ k, k < 0 → parseFieldDescriptor (TJ10 k).2.2.1 = some (tyJ10 k) := by decide +kernel
def RJ7 : String := "java/util/Arrays"
def TJ7 : u_T := fun k => match k with
  | _ => ("", "", "", false)
def tyJ7 : Nat → FieldType := fun k => match k with
  | _ => .int
abbrev wsJ70 : List Cond := u_ws RJ7 TJ7 0
theorem nmJ7 : ∀ a, a < 0 → ∀ b, b < 0 → a ≠ b → (TJ7 a).2.1 ≠ (TJ7 b).2.1 := by decide +kernel
theorem tyJ7_ok : ∀ k, k < 0 → parseFieldDescriptor (TJ7 k).2.2.1 = some (tyJ7 k) := by decide +kernel
abbrev cJ7_copyOf_9075b : ByteArray := prog_19_method_121_code
def yJ7_copyOf_9075b : MethodName := ⟨RJ7, "copyOf", "([BI)[B"⟩
def RJ8 : String := "jdk/internal/util/ArraysSupport"
def TJ8 : u_T := fun k => match k with
  | _ => ("", "", "", false)
def tyJ8 : Nat → FieldType := fun k => match k with
  | _ => .int
abbrev wsJ80 : List Cond := u_ws RJ8 TJ8 0
theorem nmJ8 : ∀ a, a < 0 → ∀ b, b < 0 → a ≠ b → (TJ8 a).2.1 ≠ (TJ8 b).2.1 := by decide +kernel
theorem tyJ8_ok : ∀ k, k < 0 → parseFieldDescriptor (TJ8 k).2.2.1 = some (tyJ8 k) := by decide +kernel
abbrev cJ8_newLength_cabcc : ByteArray := prog_20_method_27_code
def yJ8_newLength_cabcc : MethodName := ⟨RJ8, "newLength", "(III)I"⟩
abbrev cJ8_hugeLength_7cf53 : ByteArray := prog_20_method_28_code
def yJ8_hugeLength_7cf53 : MethodName := ⟨RJ8, "hugeLength", "(II)I"⟩
def RJ3 : String := "jdk/internal/util/Preconditions"
def TJ3 : u_T := fun k => match k with
  | _ => ("", "", "", false)
def tyJ3 : Nat → FieldType := fun k => match k with
  | _ => .int
abbrev wsJ30 : List Cond := u_ws RJ3 TJ3 0
theorem nmJ3 : ∀ a, a < 0 → ∀ b, b < 0 → a ≠ b → (TJ3 a).2.1 ≠ (TJ3 b).2.1 := by decide +kernel
theorem tyJ3_ok : ∀ k, k < 0 → parseFieldDescriptor (TJ3 k).2.2.1 = some (tyJ3 k) := by decide +kernel
abbrev cJ3_checkIndex_8e157 : ByteArray := prog_21_method_11_code
def yJ3_checkIndex_8e157 : MethodName := ⟨RJ3, "checkIndex", "(IILjava/util/function/BiFunction;)I"⟩
abbrev cJ3_checkFromToIndex_8c36e : ByteArray := prog_21_method_12_code
def yJ3_checkFromToIndex_8c36e : MethodName := ⟨RJ3, "checkFromToIndex", "(IIILjava/util/function/BiFunction;)I"⟩
abbrev cJ3_checkFromIndexSize_8c36e : ByteArray := prog_21_method_13_code
def yJ3_checkFromIndexSize_8c36e : MethodName := ⟨RJ3, "checkFromIndexSize", "(IIILjava/util/function/BiFunction;)I"⟩
def RL : String := "BundlesOfBidsLaw"
abbrev cL_law : ByteArray := code
abbrev vwCl : List vw_C := [(RJ4, TJ4, 4), (RX0, TX0, 8), (RX1, TX1, 6), (RX2, TX2, 2), (RX3, TX3, 9), (RX4, TX4, 10), (RX5, TX5, 5), (RX6, TX6, 12), (RX7, TX7, 31)]
