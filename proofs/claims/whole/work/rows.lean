section
-- ===== PART A: goes FIRST, ahead of the names: the tables' words, and 'selects' of the private methods out of them =====
/-- a private method of a class that the tables say can be made, by its rows of tables_1 -/
def lw_okq (q : MethodName × Nat) : Prop := (q.1.cls ≠ "java/lang/invoke/MethodHandle" ∧ q.1.cls ≠ "java/lang/invoke/VarHandle") ∧ Cond.instantiable q.1.cls q.2 ∈ tables_1 ∧ Cond.privateMethod q.1 ∈ tables_1 ∧ Cond.instanceMethod q.1 ∈ tables_1
theorem lw_p0 : lw_okq (⟨"SlotSeries", "putOnTape", "(I)V"⟩, 11) := ⟨⟨by decide +kernel, by decide +kernel⟩, List.mem_of_getElem? (i := 17) (by decide +kernel), List.mem_of_getElem? (i := 381) (by decide +kernel), List.mem_of_getElem? (i := 382) (by decide +kernel)⟩
theorem lw_p1 : lw_okq (⟨"SlotSeries$Reader", "advance", "()V"⟩, 18) := ⟨⟨by decide +kernel, by decide +kernel⟩, List.mem_of_getElem? (i := 231) (by decide +kernel), List.mem_of_getElem? (i := 404) (by decide +kernel), List.mem_of_getElem? (i := 405) (by decide +kernel)⟩
theorem lw_p2 : lw_okq (⟨"SlotSeries$Reader", "wordTold", "()I"⟩, 18) := ⟨⟨by decide +kernel, by decide +kernel⟩, List.mem_of_getElem? (i := 231) (by decide +kernel), List.mem_of_getElem? (i := 411) (by decide +kernel), List.mem_of_getElem? (i := 412) (by decide +kernel)⟩
theorem lw_p3 : lw_okq (⟨"SlotSeries$Reader", "readWeeks", "()Z"⟩, 18) := ⟨⟨by decide +kernel, by decide +kernel⟩, List.mem_of_getElem? (i := 231) (by decide +kernel), List.mem_of_getElem? (i := 468) (by decide +kernel), List.mem_of_getElem? (i := 469) (by decide +kernel)⟩
theorem lw_p4 : lw_okq (⟨"SlotSeries$Reader", "takeWord", "(I)Z"⟩, 18) := ⟨⟨by decide +kernel, by decide +kernel⟩, List.mem_of_getElem? (i := 231) (by decide +kernel), List.mem_of_getElem? (i := 472) (by decide +kernel), List.mem_of_getElem? (i := 473) (by decide +kernel)⟩
theorem lw_p5 : lw_okq (⟨"SlotSeries$Reader", "isWord", "(I)Z"⟩, 18) := ⟨⟨by decide +kernel, by decide +kernel⟩, List.mem_of_getElem? (i := 231) (by decide +kernel), List.mem_of_getElem? (i := 476) (by decide +kernel), List.mem_of_getElem? (i := 477) (by decide +kernel)⟩
theorem lw_p6 : lw_okq (⟨"SlotSeries$Reader", "fail", "(I)Z"⟩, 18) := ⟨⟨by decide +kernel, by decide +kernel⟩, List.mem_of_getElem? (i := 231) (by decide +kernel), List.mem_of_getElem? (i := 480) (by decide +kernel), List.mem_of_getElem? (i := 481) (by decide +kernel)⟩
theorem lw_p7 : lw_okq (⟨"SlotSeries$Reader", "isNumber", "(II)Z"⟩, 18) := ⟨⟨by decide +kernel, by decide +kernel⟩, List.mem_of_getElem? (i := 231) (by decide +kernel), List.mem_of_getElem? (i := 484) (by decide +kernel), List.mem_of_getElem? (i := 485) (by decide +kernel)⟩
theorem lw_p8 : lw_okq (⟨"SlotSeries$Reader", "takeSign", "(C)Z"⟩, 18) := ⟨⟨by decide +kernel, by decide +kernel⟩, List.mem_of_getElem? (i := 231) (by decide +kernel), List.mem_of_getElem? (i := 491) (by decide +kernel), List.mem_of_getElem? (i := 492) (by decide +kernel)⟩
theorem lw_p9 : lw_okq (⟨"SlotSeries$Reader", "isSign", "(C)Z"⟩, 18) := ⟨⟨by decide +kernel, by decide +kernel⟩, List.mem_of_getElem? (i := 231) (by decide +kernel), List.mem_of_getElem? (i := 495) (by decide +kernel), List.mem_of_getElem? (i := 496) (by decide +kernel)⟩
theorem lw_p10 : lw_okq (⟨"SlotSeries$Reader", "readLine", "()Z"⟩, 18) := ⟨⟨by decide +kernel, by decide +kernel⟩, List.mem_of_getElem? (i := 231) (by decide +kernel), List.mem_of_getElem? (i := 499) (by decide +kernel), List.mem_of_getElem? (i := 500) (by decide +kernel)⟩
theorem lw_p11 : lw_okq (⟨"SlotSeries$Reader", "readLimit", "()Z"⟩, 18) := ⟨⟨by decide +kernel, by decide +kernel⟩, List.mem_of_getElem? (i := 231) (by decide +kernel), List.mem_of_getElem? (i := 503) (by decide +kernel), List.mem_of_getElem? (i := 504) (by decide +kernel)⟩
theorem lw_p12 : lw_okq (⟨"SlotSeries$Reader", "readCarrier", "()Z"⟩, 18) := ⟨⟨by decide +kernel, by decide +kernel⟩, List.mem_of_getElem? (i := 231) (by decide +kernel), List.mem_of_getElem? (i := 510) (by decide +kernel), List.mem_of_getElem? (i := 511) (by decide +kernel)⟩
theorem lw_p13 : lw_okq (⟨"SlotSeries$Reader", "isName", "()Z"⟩, 18) := ⟨⟨by decide +kernel, by decide +kernel⟩, List.mem_of_getElem? (i := 231) (by decide +kernel), List.mem_of_getElem? (i := 514) (by decide +kernel), List.mem_of_getElem? (i := 515) (by decide +kernel)⟩
theorem lw_p14 : lw_okq (⟨"SlotSeries$Names", "isNamed", "(I[BII)Z"⟩, 2) := ⟨⟨by decide +kernel, by decide +kernel⟩, List.mem_of_getElem? (i := 214) (by decide +kernel), List.mem_of_getElem? (i := 522) (by decide +kernel), List.mem_of_getElem? (i := 523) (by decide +kernel)⟩
theorem lw_p15 : lw_okq (⟨"SlotSeries$Reader", "readSeries", "()Z"⟩, 18) := ⟨⟨by decide +kernel, by decide +kernel⟩, List.mem_of_getElem? (i := 231) (by decide +kernel), List.mem_of_getElem? (i := 531) (by decide +kernel), List.mem_of_getElem? (i := 532) (by decide +kernel)⟩
def lw_privs_1 : List (MethodName × Nat) := [(⟨"SlotSeries", "putOnTape", "(I)V"⟩, 11), (⟨"SlotSeries$Reader", "advance", "()V"⟩, 18), (⟨"SlotSeries$Reader", "wordTold", "()I"⟩, 18), (⟨"SlotSeries$Reader", "readWeeks", "()Z"⟩, 18), (⟨"SlotSeries$Reader", "takeWord", "(I)Z"⟩, 18), (⟨"SlotSeries$Reader", "isWord", "(I)Z"⟩, 18), (⟨"SlotSeries$Reader", "fail", "(I)Z"⟩, 18), (⟨"SlotSeries$Reader", "isNumber", "(II)Z"⟩, 18), (⟨"SlotSeries$Reader", "takeSign", "(C)Z"⟩, 18), (⟨"SlotSeries$Reader", "isSign", "(C)Z"⟩, 18), (⟨"SlotSeries$Reader", "readLine", "()Z"⟩, 18), (⟨"SlotSeries$Reader", "readLimit", "()Z"⟩, 18), (⟨"SlotSeries$Reader", "readCarrier", "()Z"⟩, 18), (⟨"SlotSeries$Reader", "isName", "()Z"⟩, 18), (⟨"SlotSeries$Names", "isNamed", "(I[BII)Z"⟩, 2), (⟨"SlotSeries$Reader", "readSeries", "()Z"⟩, 18)]
theorem lw_r1 : ∀ q ∈ lw_privs_1, lw_okq q := List.forall_mem_cons.mpr ⟨lw_p0, List.forall_mem_cons.mpr ⟨lw_p1, List.forall_mem_cons.mpr ⟨lw_p2, List.forall_mem_cons.mpr ⟨lw_p3, List.forall_mem_cons.mpr ⟨lw_p4, List.forall_mem_cons.mpr ⟨lw_p5, List.forall_mem_cons.mpr ⟨lw_p6, List.forall_mem_cons.mpr ⟨lw_p7, List.forall_mem_cons.mpr ⟨lw_p8, List.forall_mem_cons.mpr ⟨lw_p9, List.forall_mem_cons.mpr ⟨lw_p10, List.forall_mem_cons.mpr ⟨lw_p11, List.forall_mem_cons.mpr ⟨lw_p12, List.forall_mem_cons.mpr ⟨lw_p13, List.forall_mem_cons.mpr ⟨lw_p14, List.forall_mem_cons.mpr ⟨lw_p15, fun _ h => absurd h List.not_mem_nil⟩⟩⟩⟩⟩⟩⟩⟩⟩⟩⟩⟩⟩⟩⟩⟩
theorem lw_p16 : lw_okq (⟨"SlotSeries$Reader", "readPlace", "()Z"⟩, 18) := ⟨⟨by decide +kernel, by decide +kernel⟩, List.mem_of_getElem? (i := 231) (by decide +kernel), List.mem_of_getElem? (i := 535) (by decide +kernel), List.mem_of_getElem? (i := 536) (by decide +kernel)⟩
theorem lw_p17 : lw_okq (⟨"SlotSeries$Reader", "readSpan", "()Z"⟩, 18) := ⟨⟨by decide +kernel, by decide +kernel⟩, List.mem_of_getElem? (i := 231) (by decide +kernel), List.mem_of_getElem? (i := 539) (by decide +kernel), List.mem_of_getElem? (i := 540) (by decide +kernel)⟩
theorem lw_p18 : lw_okq (⟨"SlotSeries$Reader", "readAsk", "()Z"⟩, 18) := ⟨⟨by decide +kernel, by decide +kernel⟩, List.mem_of_getElem? (i := 231) (by decide +kernel), List.mem_of_getElem? (i := 580) (by decide +kernel), List.mem_of_getElem? (i := 581) (by decide +kernel)⟩
theorem lw_p19 : lw_okq (⟨"SlotSeries", "isCarrier", "(I)Z"⟩, 11) := ⟨⟨by decide +kernel, by decide +kernel⟩, List.mem_of_getElem? (i := 17) (by decide +kernel), List.mem_of_getElem? (i := 626) (by decide +kernel), List.mem_of_getElem? (i := 627) (by decide +kernel)⟩
theorem lw_p20 : lw_okq (⟨"SlotSeries", "hasText", "()Z"⟩, 11) := ⟨⟨by decide +kernel, by decide +kernel⟩, List.mem_of_getElem? (i := 17) (by decide +kernel), List.mem_of_getElem? (i := 639) (by decide +kernel), List.mem_of_getElem? (i := 640) (by decide +kernel)⟩
theorem lw_p21 : lw_okq (⟨"SlotSeries", "isSeries", "(I)Z"⟩, 11) := ⟨⟨by decide +kernel, by decide +kernel⟩, List.mem_of_getElem? (i := 17) (by decide +kernel), List.mem_of_getElem? (i := 649) (by decide +kernel), List.mem_of_getElem? (i := 650) (by decide +kernel)⟩
theorem lw_p22 : lw_okq (⟨"SlotSeries", "isWeek", "(I)Z"⟩, 11) := ⟨⟨by decide +kernel, by decide +kernel⟩, List.mem_of_getElem? (i := 17) (by decide +kernel), List.mem_of_getElem? (i := 672) (by decide +kernel), List.mem_of_getElem? (i := 673) (by decide +kernel)⟩
theorem lw_p23 : lw_okq (⟨"SlotSeries", "isAsk", "(I)Z"⟩, 11) := ⟨⟨by decide +kernel, by decide +kernel⟩, List.mem_of_getElem? (i := 17) (by decide +kernel), List.mem_of_getElem? (i := 686) (by decide +kernel), List.mem_of_getElem? (i := 687) (by decide +kernel)⟩
theorem lw_p24 : lw_okq (⟨"SlotSeries", "isHour", "(I)Z"⟩, 11) := ⟨⟨by decide +kernel, by decide +kernel⟩, List.mem_of_getElem? (i := 17) (by decide +kernel), List.mem_of_getElem? (i := 694) (by decide +kernel), List.mem_of_getElem? (i := 695) (by decide +kernel)⟩
theorem lw_p25 : lw_okq (⟨"SlotSeries", "isCell", "(III)Z"⟩, 11) := ⟨⟨by decide +kernel, by decide +kernel⟩, List.mem_of_getElem? (i := 17) (by decide +kernel), List.mem_of_getElem? (i := 702) (by decide +kernel), List.mem_of_getElem? (i := 703) (by decide +kernel)⟩
theorem lw_p26 : lw_okq (⟨"SlotSeries", "isDay", "(I)Z"⟩, 11) := ⟨⟨by decide +kernel, by decide +kernel⟩, List.mem_of_getElem? (i := 17) (by decide +kernel), List.mem_of_getElem? (i := 706) (by decide +kernel), List.mem_of_getElem? (i := 707) (by decide +kernel)⟩
theorem lw_p27 : lw_okq (⟨"SlotSeries$Series", "isKeptWith", "(I)Z"⟩, 12) := ⟨⟨by decide +kernel, by decide +kernel⟩, List.mem_of_getElem? (i := 34) (by decide +kernel), List.mem_of_getElem? (i := 770) (by decide +kernel), List.mem_of_getElem? (i := 771) (by decide +kernel)⟩
theorem lw_p28 : lw_okq (⟨"SlotSeries", "usesMore", "(II)Z"⟩, 11) := ⟨⟨by decide +kernel, by decide +kernel⟩, List.mem_of_getElem? (i := 17) (by decide +kernel), List.mem_of_getElem? (i := 815) (by decide +kernel), List.mem_of_getElem? (i := 816) (by decide +kernel)⟩
theorem lw_p29 : lw_okq (⟨"SlotSeries", "departuresBehind", "(LSlotSeries$Series;I)I"⟩, 11) := ⟨⟨by decide +kernel, by decide +kernel⟩, List.mem_of_getElem? (i := 17) (by decide +kernel), List.mem_of_getElem? (i := 855) (by decide +kernel), List.mem_of_getElem? (i := 856) (by decide +kernel)⟩
theorem lw_p30 : lw_okq (⟨"SlotSeries$Pool", "countSlots", "()V"⟩, 5) := ⟨⟨by decide +kernel, by decide +kernel⟩, List.mem_of_getElem? (i := 301) (by decide +kernel), List.mem_of_getElem? (i := 929) (by decide +kernel), List.mem_of_getElem? (i := 930) (by decide +kernel)⟩
theorem lw_p31 : lw_okq (⟨"SlotSeries$Pool", "allAsks", "()I"⟩, 5) := ⟨⟨by decide +kernel, by decide +kernel⟩, List.mem_of_getElem? (i := 301) (by decide +kernel), List.mem_of_getElem? (i := 933) (by decide +kernel), List.mem_of_getElem? (i := 934) (by decide +kernel)⟩
def lw_privs_2 : List (MethodName × Nat) := [(⟨"SlotSeries$Reader", "readPlace", "()Z"⟩, 18), (⟨"SlotSeries$Reader", "readSpan", "()Z"⟩, 18), (⟨"SlotSeries$Reader", "readAsk", "()Z"⟩, 18), (⟨"SlotSeries", "isCarrier", "(I)Z"⟩, 11), (⟨"SlotSeries", "hasText", "()Z"⟩, 11), (⟨"SlotSeries", "isSeries", "(I)Z"⟩, 11), (⟨"SlotSeries", "isWeek", "(I)Z"⟩, 11), (⟨"SlotSeries", "isAsk", "(I)Z"⟩, 11), (⟨"SlotSeries", "isHour", "(I)Z"⟩, 11), (⟨"SlotSeries", "isCell", "(III)Z"⟩, 11), (⟨"SlotSeries", "isDay", "(I)Z"⟩, 11), (⟨"SlotSeries$Series", "isKeptWith", "(I)Z"⟩, 12), (⟨"SlotSeries", "usesMore", "(II)Z"⟩, 11), (⟨"SlotSeries", "departuresBehind", "(LSlotSeries$Series;I)I"⟩, 11), (⟨"SlotSeries$Pool", "countSlots", "()V"⟩, 5), (⟨"SlotSeries$Pool", "allAsks", "()I"⟩, 5)]
theorem lw_r2 : ∀ q ∈ lw_privs_2, lw_okq q := List.forall_mem_cons.mpr ⟨lw_p16, List.forall_mem_cons.mpr ⟨lw_p17, List.forall_mem_cons.mpr ⟨lw_p18, List.forall_mem_cons.mpr ⟨lw_p19, List.forall_mem_cons.mpr ⟨lw_p20, List.forall_mem_cons.mpr ⟨lw_p21, List.forall_mem_cons.mpr ⟨lw_p22, List.forall_mem_cons.mpr ⟨lw_p23, List.forall_mem_cons.mpr ⟨lw_p24, List.forall_mem_cons.mpr ⟨lw_p25, List.forall_mem_cons.mpr ⟨lw_p26, List.forall_mem_cons.mpr ⟨lw_p27, List.forall_mem_cons.mpr ⟨lw_p28, List.forall_mem_cons.mpr ⟨lw_p29, List.forall_mem_cons.mpr ⟨lw_p30, List.forall_mem_cons.mpr ⟨lw_p31, fun _ h => absurd h List.not_mem_nil⟩⟩⟩⟩⟩⟩⟩⟩⟩⟩⟩⟩⟩⟩⟩⟩
theorem lw_p32 : lw_okq (⟨"SlotSeries$Pool", "chosen", "(IZ)I"⟩, 5) := ⟨⟨by decide +kernel, by decide +kernel⟩, List.mem_of_getElem? (i := 301) (by decide +kernel), List.mem_of_getElem? (i := 937) (by decide +kernel), List.mem_of_getElem? (i := 938) (by decide +kernel)⟩
theorem lw_p33 : lw_okq (⟨"SlotSeries$Pool", "longestOf", "(IZ)I"⟩, 5) := ⟨⟨by decide +kernel, by decide +kernel⟩, List.mem_of_getElem? (i := 301) (by decide +kernel), List.mem_of_getElem? (i := 941) (by decide +kernel), List.mem_of_getElem? (i := 942) (by decide +kernel)⟩
theorem lw_p34 : lw_okq (⟨"SlotSeries$Pool", "isEntrants", "(LSlotSeries$Ask;)Z"⟩, 5) := ⟨⟨by decide +kernel, by decide +kernel⟩, List.mem_of_getElem? (i := 301) (by decide +kernel), List.mem_of_getElem? (i := 946) (by decide +kernel), List.mem_of_getElem? (i := 947) (by decide +kernel)⟩
theorem lw_p35 : lw_okq (⟨"SlotSeries$Pool", "lookAt", "(I)V"⟩, 5) := ⟨⟨by decide +kernel, by decide +kernel⟩, List.mem_of_getElem? (i := 301) (by decide +kernel), List.mem_of_getElem? (i := 958) (by decide +kernel), List.mem_of_getElem? (i := 959) (by decide +kernel)⟩
theorem lw_p36 : lw_okq (⟨"SlotSeries", "canRetime", "(II)Z"⟩, 11) := ⟨⟨by decide +kernel, by decide +kernel⟩, List.mem_of_getElem? (i := 17) (by decide +kernel), List.mem_of_getElem? (i := 987) (by decide +kernel), List.mem_of_getElem? (i := 988) (by decide +kernel)⟩
theorem lw_p37 : lw_okq (⟨"SlotSeries", "whySwapFails", "(II)I"⟩, 11) := ⟨⟨by decide +kernel, by decide +kernel⟩, List.mem_of_getElem? (i := 17) (by decide +kernel), List.mem_of_getElem? (i := 995) (by decide +kernel), List.mem_of_getElem? (i := 996) (by decide +kernel)⟩
theorem lw_p38 : lw_okq (⟨"SlotSeries", "remember", "()V"⟩, 11) := ⟨⟨by decide +kernel, by decide +kernel⟩, List.mem_of_getElem? (i := 17) (by decide +kernel), List.mem_of_getElem? (i := 1007) (by decide +kernel), List.mem_of_getElem? (i := 1008) (by decide +kernel)⟩
theorem lw_p39 : lw_okq (⟨"SlotSeries$Teller", "putWord", "(Ljava/lang/String;)V"⟩, 2) := ⟨⟨by decide +kernel, by decide +kernel⟩, List.mem_of_getElem? (i := 328) (by decide +kernel), List.mem_of_getElem? (i := 1101) (by decide +kernel), List.mem_of_getElem? (i := 1102) (by decide +kernel)⟩
theorem lw_p40 : lw_okq (⟨"SlotSeries$Teller", "putBlank", "()V"⟩, 2) := ⟨⟨by decide +kernel, by decide +kernel⟩, List.mem_of_getElem? (i := 328) (by decide +kernel), List.mem_of_getElem? (i := 1105) (by decide +kernel), List.mem_of_getElem? (i := 1106) (by decide +kernel)⟩
theorem lw_p41 : lw_okq (⟨"SlotSeries$Teller", "putSign", "(C)V"⟩, 2) := ⟨⟨by decide +kernel, by decide +kernel⟩, List.mem_of_getElem? (i := 328) (by decide +kernel), List.mem_of_getElem? (i := 1111) (by decide +kernel), List.mem_of_getElem? (i := 1112) (by decide +kernel)⟩
theorem lw_p42 : lw_okq (⟨"SlotSeries$Teller", "putNumber", "(I)V"⟩, 2) := ⟨⟨by decide +kernel, by decide +kernel⟩, List.mem_of_getElem? (i := 328) (by decide +kernel), List.mem_of_getElem? (i := 1117) (by decide +kernel), List.mem_of_getElem? (i := 1118) (by decide +kernel)⟩
theorem lw_p43 : lw_okq (⟨"SlotSeries$Teller", "putLimit", "(III)V"⟩, 2) := ⟨⟨by decide +kernel, by decide +kernel⟩, List.mem_of_getElem? (i := 328) (by decide +kernel), List.mem_of_getElem? (i := 1121) (by decide +kernel), List.mem_of_getElem? (i := 1122) (by decide +kernel)⟩
theorem lw_p44 : lw_okq (⟨"SlotSeries$Teller", "putName", "(LSlotSeries$Names;I)V"⟩, 2) := ⟨⟨by decide +kernel, by decide +kernel⟩, List.mem_of_getElem? (i := 328) (by decide +kernel), List.mem_of_getElem? (i := 1128) (by decide +kernel), List.mem_of_getElem? (i := 1129) (by decide +kernel)⟩
theorem lw_p45 : lw_okq (⟨"SlotSeries$Teller", "putSeries", "(LSlotSeries$Series;LSlotSeries$Names;)V"⟩, 2) := ⟨⟨by decide +kernel, by decide +kernel⟩, List.mem_of_getElem? (i := 328) (by decide +kernel), List.mem_of_getElem? (i := 1133) (by decide +kernel), List.mem_of_getElem? (i := 1134) (by decide +kernel)⟩
theorem lw_p46 : lw_okq (⟨"SlotSeries$Teller", "putPlace", "(III)V"⟩, 2) := ⟨⟨by decide +kernel, by decide +kernel⟩, List.mem_of_getElem? (i := 328) (by decide +kernel), List.mem_of_getElem? (i := 1138) (by decide +kernel), List.mem_of_getElem? (i := 1139) (by decide +kernel)⟩
theorem lw_p47 : lw_okq (⟨"SlotSeries$Teller", "putSpan", "(II)V"⟩, 2) := ⟨⟨by decide +kernel, by decide +kernel⟩, List.mem_of_getElem? (i := 328) (by decide +kernel), List.mem_of_getElem? (i := 1144) (by decide +kernel), List.mem_of_getElem? (i := 1145) (by decide +kernel)⟩
def lw_privs_3 : List (MethodName × Nat) := [(⟨"SlotSeries$Pool", "chosen", "(IZ)I"⟩, 5), (⟨"SlotSeries$Pool", "longestOf", "(IZ)I"⟩, 5), (⟨"SlotSeries$Pool", "isEntrants", "(LSlotSeries$Ask;)Z"⟩, 5), (⟨"SlotSeries$Pool", "lookAt", "(I)V"⟩, 5), (⟨"SlotSeries", "canRetime", "(II)Z"⟩, 11), (⟨"SlotSeries", "whySwapFails", "(II)I"⟩, 11), (⟨"SlotSeries", "remember", "()V"⟩, 11), (⟨"SlotSeries$Teller", "putWord", "(Ljava/lang/String;)V"⟩, 2), (⟨"SlotSeries$Teller", "putBlank", "()V"⟩, 2), (⟨"SlotSeries$Teller", "putSign", "(C)V"⟩, 2), (⟨"SlotSeries$Teller", "putNumber", "(I)V"⟩, 2), (⟨"SlotSeries$Teller", "putLimit", "(III)V"⟩, 2), (⟨"SlotSeries$Teller", "putName", "(LSlotSeries$Names;I)V"⟩, 2), (⟨"SlotSeries$Teller", "putSeries", "(LSlotSeries$Series;LSlotSeries$Names;)V"⟩, 2), (⟨"SlotSeries$Teller", "putPlace", "(III)V"⟩, 2), (⟨"SlotSeries$Teller", "putSpan", "(II)V"⟩, 2)]
theorem lw_r3 : ∀ q ∈ lw_privs_3, lw_okq q := List.forall_mem_cons.mpr ⟨lw_p32, List.forall_mem_cons.mpr ⟨lw_p33, List.forall_mem_cons.mpr ⟨lw_p34, List.forall_mem_cons.mpr ⟨lw_p35, List.forall_mem_cons.mpr ⟨lw_p36, List.forall_mem_cons.mpr ⟨lw_p37, List.forall_mem_cons.mpr ⟨lw_p38, List.forall_mem_cons.mpr ⟨lw_p39, List.forall_mem_cons.mpr ⟨lw_p40, List.forall_mem_cons.mpr ⟨lw_p41, List.forall_mem_cons.mpr ⟨lw_p42, List.forall_mem_cons.mpr ⟨lw_p43, List.forall_mem_cons.mpr ⟨lw_p44, List.forall_mem_cons.mpr ⟨lw_p45, List.forall_mem_cons.mpr ⟨lw_p46, List.forall_mem_cons.mpr ⟨lw_p47, fun _ h => absurd h List.not_mem_nil⟩⟩⟩⟩⟩⟩⟩⟩⟩⟩⟩⟩⟩⟩⟩⟩
theorem lw_p48 : lw_okq (⟨"SlotSeries$Teller", "putAsk", "(LSlotSeries$Ask;LSlotSeries$Names;)V"⟩, 2) := ⟨⟨by decide +kernel, by decide +kernel⟩, List.mem_of_getElem? (i := 328) (by decide +kernel), List.mem_of_getElem? (i := 1149) (by decide +kernel), List.mem_of_getElem? (i := 1150) (by decide +kernel)⟩
theorem lw_p49 : lw_okq (⟨"SlotSeriesModel", "puts4", "(I)V"⟩, 23) := ⟨⟨by decide +kernel, by decide +kernel⟩, List.mem_of_getElem? (i := 1159) (by decide +kernel), List.mem_of_getElem? (i := 1238) (by decide +kernel), List.mem_of_getElem? (i := 1239) (by decide +kernel)⟩
theorem lw_p50 : lw_okq (⟨"SlotSeriesModel", "readAll", "()I"⟩, 23) := ⟨⟨by decide +kernel, by decide +kernel⟩, List.mem_of_getElem? (i := 1159) (by decide +kernel), List.mem_of_getElem? (i := 1253) (by decide +kernel), List.mem_of_getElem? (i := 1254) (by decide +kernel)⟩
theorem lw_p51 : lw_okq (⟨"SlotSeriesModel", "advance", "()V"⟩, 23) := ⟨⟨by decide +kernel, by decide +kernel⟩, List.mem_of_getElem? (i := 1159) (by decide +kernel), List.mem_of_getElem? (i := 1257) (by decide +kernel), List.mem_of_getElem? (i := 1258) (by decide +kernel)⟩
theorem lw_p52 : lw_okq (⟨"SlotSeriesModel", "see", "(I)I"⟩, 23) := ⟨⟨by decide +kernel, by decide +kernel⟩, List.mem_of_getElem? (i := 1159) (by decide +kernel), List.mem_of_getElem? (i := 1261) (by decide +kernel), List.mem_of_getElem? (i := 1262) (by decide +kernel)⟩
theorem lw_p53 : lw_okq (⟨"SlotSeriesModel", "passes", "(Ljava/lang/String;)V"⟩, 23) := ⟨⟨by decide +kernel, by decide +kernel⟩, List.mem_of_getElem? (i := 1159) (by decide +kernel), List.mem_of_getElem? (i := 1271) (by decide +kernel), List.mem_of_getElem? (i := 1272) (by decide +kernel)⟩
theorem lw_p54 : lw_okq (⟨"SlotSeriesModel", "eats", "(Ljava/lang/String;)Z"⟩, 23) := ⟨⟨by decide +kernel, by decide +kernel⟩, List.mem_of_getElem? (i := 1159) (by decide +kernel), List.mem_of_getElem? (i := 1275) (by decide +kernel), List.mem_of_getElem? (i := 1276) (by decide +kernel)⟩
theorem lw_p55 : lw_okq (⟨"SlotSeriesModel", "isWord", "(Ljava/lang/String;)Z"⟩, 23) := ⟨⟨by decide +kernel, by decide +kernel⟩, List.mem_of_getElem? (i := 1159) (by decide +kernel), List.mem_of_getElem? (i := 1279) (by decide +kernel), List.mem_of_getElem? (i := 1280) (by decide +kernel)⟩
theorem lw_p56 : lw_okq (⟨"SlotSeriesModel", "good", "()Z"⟩, 23) := ⟨⟨by decide +kernel, by decide +kernel⟩, List.mem_of_getElem? (i := 1159) (by decide +kernel), List.mem_of_getElem? (i := 1283) (by decide +kernel), List.mem_of_getElem? (i := 1284) (by decide +kernel)⟩
theorem lw_p57 : lw_okq (⟨"SlotSeriesModel", "errs", "(II)V"⟩, 23) := ⟨⟨by decide +kernel, by decide +kernel⟩, List.mem_of_getElem? (i := 1159) (by decide +kernel), List.mem_of_getElem? (i := 1289) (by decide +kernel), List.mem_of_getElem? (i := 1290) (by decide +kernel)⟩
theorem lw_p58 : lw_okq (⟨"SlotSeriesModel", "number", "(II)I"⟩, 23) := ⟨⟨by decide +kernel, by decide +kernel⟩, List.mem_of_getElem? (i := 1159) (by decide +kernel), List.mem_of_getElem? (i := 1293) (by decide +kernel), List.mem_of_getElem? (i := 1294) (by decide +kernel)⟩
theorem lw_p59 : lw_okq (⟨"SlotSeriesModel", "passesByte", "(I)V"⟩, 23) := ⟨⟨by decide +kernel, by decide +kernel⟩, List.mem_of_getElem? (i := 1159) (by decide +kernel), List.mem_of_getElem? (i := 1297) (by decide +kernel), List.mem_of_getElem? (i := 1298) (by decide +kernel)⟩
theorem lw_p60 : lw_okq (⟨"SlotSeriesModel", "isByte", "(I)Z"⟩, 23) := ⟨⟨by decide +kernel, by decide +kernel⟩, List.mem_of_getElem? (i := 1159) (by decide +kernel), List.mem_of_getElem? (i := 1301) (by decide +kernel), List.mem_of_getElem? (i := 1302) (by decide +kernel)⟩
theorem lw_p61 : lw_okq (⟨"SlotSeriesModel", "readLine", "()V"⟩, 23) := ⟨⟨by decide +kernel, by decide +kernel⟩, List.mem_of_getElem? (i := 1159) (by decide +kernel), List.mem_of_getElem? (i := 1305) (by decide +kernel), List.mem_of_getElem? (i := 1306) (by decide +kernel)⟩
theorem lw_p62 : lw_okq (⟨"SlotSeriesModel", "readLimit", "()V"⟩, 23) := ⟨⟨by decide +kernel, by decide +kernel⟩, List.mem_of_getElem? (i := 1159) (by decide +kernel), List.mem_of_getElem? (i := 1310) (by decide +kernel), List.mem_of_getElem? (i := 1311) (by decide +kernel)⟩
theorem lw_p63 : lw_okq (⟨"SlotSeriesModel", "readCarrier", "()V"⟩, 23) := ⟨⟨by decide +kernel, by decide +kernel⟩, List.mem_of_getElem? (i := 1159) (by decide +kernel), List.mem_of_getElem? (i := 1320) (by decide +kernel), List.mem_of_getElem? (i := 1321) (by decide +kernel)⟩
def lw_privs_4 : List (MethodName × Nat) := [(⟨"SlotSeries$Teller", "putAsk", "(LSlotSeries$Ask;LSlotSeries$Names;)V"⟩, 2), (⟨"SlotSeriesModel", "puts4", "(I)V"⟩, 23), (⟨"SlotSeriesModel", "readAll", "()I"⟩, 23), (⟨"SlotSeriesModel", "advance", "()V"⟩, 23), (⟨"SlotSeriesModel", "see", "(I)I"⟩, 23), (⟨"SlotSeriesModel", "passes", "(Ljava/lang/String;)V"⟩, 23), (⟨"SlotSeriesModel", "eats", "(Ljava/lang/String;)Z"⟩, 23), (⟨"SlotSeriesModel", "isWord", "(Ljava/lang/String;)Z"⟩, 23), (⟨"SlotSeriesModel", "good", "()Z"⟩, 23), (⟨"SlotSeriesModel", "errs", "(II)V"⟩, 23), (⟨"SlotSeriesModel", "number", "(II)I"⟩, 23), (⟨"SlotSeriesModel", "passesByte", "(I)V"⟩, 23), (⟨"SlotSeriesModel", "isByte", "(I)Z"⟩, 23), (⟨"SlotSeriesModel", "readLine", "()V"⟩, 23), (⟨"SlotSeriesModel", "readLimit", "()V"⟩, 23), (⟨"SlotSeriesModel", "readCarrier", "()V"⟩, 23)]
theorem lw_r4 : ∀ q ∈ lw_privs_4, lw_okq q := List.forall_mem_cons.mpr ⟨lw_p48, List.forall_mem_cons.mpr ⟨lw_p49, List.forall_mem_cons.mpr ⟨lw_p50, List.forall_mem_cons.mpr ⟨lw_p51, List.forall_mem_cons.mpr ⟨lw_p52, List.forall_mem_cons.mpr ⟨lw_p53, List.forall_mem_cons.mpr ⟨lw_p54, List.forall_mem_cons.mpr ⟨lw_p55, List.forall_mem_cons.mpr ⟨lw_p56, List.forall_mem_cons.mpr ⟨lw_p57, List.forall_mem_cons.mpr ⟨lw_p58, List.forall_mem_cons.mpr ⟨lw_p59, List.forall_mem_cons.mpr ⟨lw_p60, List.forall_mem_cons.mpr ⟨lw_p61, List.forall_mem_cons.mpr ⟨lw_p62, List.forall_mem_cons.mpr ⟨lw_p63, fun _ h => absurd h List.not_mem_nil⟩⟩⟩⟩⟩⟩⟩⟩⟩⟩⟩⟩⟩⟩⟩⟩
theorem lw_p64 : lw_okq (⟨"SlotSeriesModel", "nameHere", "()I"⟩, 23) := ⟨⟨by decide +kernel, by decide +kernel⟩, List.mem_of_getElem? (i := 1159) (by decide +kernel), List.mem_of_getElem? (i := 1324) (by decide +kernel), List.mem_of_getElem? (i := 1325) (by decide +kernel)⟩
theorem lw_p65 : lw_okq (⟨"SlotSeriesModel", "isOwn", "()Z"⟩, 23) := ⟨⟨by decide +kernel, by decide +kernel⟩, List.mem_of_getElem? (i := 1159) (by decide +kernel), List.mem_of_getElem? (i := 1328) (by decide +kernel), List.mem_of_getElem? (i := 1329) (by decide +kernel)⟩
theorem lw_p66 : lw_okq (⟨"SlotSeriesModel", "dayHere", "()I"⟩, 23) := ⟨⟨by decide +kernel, by decide +kernel⟩, List.mem_of_getElem? (i := 1159) (by decide +kernel), List.mem_of_getElem? (i := 1332) (by decide +kernel), List.mem_of_getElem? (i := 1333) (by decide +kernel)⟩
theorem lw_p67 : lw_okq (⟨"SlotSeriesModel", "packed", "(II)I"⟩, 23) := ⟨⟨by decide +kernel, by decide +kernel⟩, List.mem_of_getElem? (i := 1159) (by decide +kernel), List.mem_of_getElem? (i := 1351) (by decide +kernel), List.mem_of_getElem? (i := 1352) (by decide +kernel)⟩
theorem lw_p68 : lw_okq (⟨"SlotSeriesModel", "findName", "(I)I"⟩, 23) := ⟨⟨by decide +kernel, by decide +kernel⟩, List.mem_of_getElem? (i := 1159) (by decide +kernel), List.mem_of_getElem? (i := 1355) (by decide +kernel), List.mem_of_getElem? (i := 1356) (by decide +kernel)⟩
theorem lw_p69 : lw_okq (⟨"SlotSeriesModel", "readSeries", "()V"⟩, 23) := ⟨⟨by decide +kernel, by decide +kernel⟩, List.mem_of_getElem? (i := 1159) (by decide +kernel), List.mem_of_getElem? (i := 1359) (by decide +kernel), List.mem_of_getElem? (i := 1360) (by decide +kernel)⟩
theorem lw_p70 : lw_okq (⟨"SlotSeriesModel", "readCommon", "()V"⟩, 23) := ⟨⟨by decide +kernel, by decide +kernel⟩, List.mem_of_getElem? (i := 1159) (by decide +kernel), List.mem_of_getElem? (i := 1363) (by decide +kernel), List.mem_of_getElem? (i := 1364) (by decide +kernel)⟩
theorem lw_p71 : lw_okq (⟨"SlotSeriesModel", "canBe", "(IIIII)Z"⟩, 23) := ⟨⟨by decide +kernel, by decide +kernel⟩, List.mem_of_getElem? (i := 1159) (by decide +kernel), List.mem_of_getElem? (i := 1370) (by decide +kernel), List.mem_of_getElem? (i := 1371) (by decide +kernel)⟩
theorem lw_p72 : lw_okq (⟨"SlotSeriesModel", "fromNow", "()I"⟩, 23) := ⟨⟨by decide +kernel, by decide +kernel⟩, List.mem_of_getElem? (i := 1159) (by decide +kernel), List.mem_of_getElem? (i := 1374) (by decide +kernel), List.mem_of_getElem? (i := 1375) (by decide +kernel)⟩
theorem lw_p73 : lw_okq (⟨"SlotSeriesModel", "loadBut", "(IIIII)I"⟩, 23) := ⟨⟨by decide +kernel, by decide +kernel⟩, List.mem_of_getElem? (i := 1159) (by decide +kernel), List.mem_of_getElem? (i := 1378) (by decide +kernel), List.mem_of_getElem? (i := 1379) (by decide +kernel)⟩
theorem lw_p74 : lw_okq (⟨"SlotSeriesModel", "one", "(II)I"⟩, 23) := ⟨⟨by decide +kernel, by decide +kernel⟩, List.mem_of_getElem? (i := 1159) (by decide +kernel), List.mem_of_getElem? (i := 1382) (by decide +kernel), List.mem_of_getElem? (i := 1383) (by decide +kernel)⟩
theorem lw_p75 : lw_okq (⟨"SlotSeriesModel", "basisOf", "(I)I"⟩, 23) := ⟨⟨by decide +kernel, by decide +kernel⟩, List.mem_of_getElem? (i := 1159) (by decide +kernel), List.mem_of_getElem? (i := 1386) (by decide +kernel), List.mem_of_getElem? (i := 1387) (by decide +kernel)⟩
theorem lw_p76 : lw_okq (⟨"SlotSeriesModel", "addsSeries", "(IIIZ)V"⟩, 23) := ⟨⟨by decide +kernel, by decide +kernel⟩, List.mem_of_getElem? (i := 1159) (by decide +kernel), List.mem_of_getElem? (i := 1390) (by decide +kernel), List.mem_of_getElem? (i := 1391) (by decide +kernel)⟩
theorem lw_p77 : lw_okq (⟨"SlotSeriesModel", "lays", "(III)V"⟩, 23) := ⟨⟨by decide +kernel, by decide +kernel⟩, List.mem_of_getElem? (i := 1159) (by decide +kernel), List.mem_of_getElem? (i := 1394) (by decide +kernel), List.mem_of_getElem? (i := 1395) (by decide +kernel)⟩
theorem lw_p78 : lw_okq (⟨"SlotSeriesModel", "readAsk", "()V"⟩, 23) := ⟨⟨by decide +kernel, by decide +kernel⟩, List.mem_of_getElem? (i := 1159) (by decide +kernel), List.mem_of_getElem? (i := 1398) (by decide +kernel), List.mem_of_getElem? (i := 1399) (by decide +kernel)⟩
theorem lw_p79 : lw_okq (⟨"SlotSeriesModel", "addsAsk", "()V"⟩, 23) := ⟨⟨by decide +kernel, by decide +kernel⟩, List.mem_of_getElem? (i := 1159) (by decide +kernel), List.mem_of_getElem? (i := 1402) (by decide +kernel), List.mem_of_getElem? (i := 1403) (by decide +kernel)⟩
def lw_privs_5 : List (MethodName × Nat) := [(⟨"SlotSeriesModel", "nameHere", "()I"⟩, 23), (⟨"SlotSeriesModel", "isOwn", "()Z"⟩, 23), (⟨"SlotSeriesModel", "dayHere", "()I"⟩, 23), (⟨"SlotSeriesModel", "packed", "(II)I"⟩, 23), (⟨"SlotSeriesModel", "findName", "(I)I"⟩, 23), (⟨"SlotSeriesModel", "readSeries", "()V"⟩, 23), (⟨"SlotSeriesModel", "readCommon", "()V"⟩, 23), (⟨"SlotSeriesModel", "canBe", "(IIIII)Z"⟩, 23), (⟨"SlotSeriesModel", "fromNow", "()I"⟩, 23), (⟨"SlotSeriesModel", "loadBut", "(IIIII)I"⟩, 23), (⟨"SlotSeriesModel", "one", "(II)I"⟩, 23), (⟨"SlotSeriesModel", "basisOf", "(I)I"⟩, 23), (⟨"SlotSeriesModel", "addsSeries", "(IIIZ)V"⟩, 23), (⟨"SlotSeriesModel", "lays", "(III)V"⟩, 23), (⟨"SlotSeriesModel", "readAsk", "()V"⟩, 23), (⟨"SlotSeriesModel", "addsAsk", "()V"⟩, 23)]
theorem lw_r5 : ∀ q ∈ lw_privs_5, lw_okq q := List.forall_mem_cons.mpr ⟨lw_p64, List.forall_mem_cons.mpr ⟨lw_p65, List.forall_mem_cons.mpr ⟨lw_p66, List.forall_mem_cons.mpr ⟨lw_p67, List.forall_mem_cons.mpr ⟨lw_p68, List.forall_mem_cons.mpr ⟨lw_p69, List.forall_mem_cons.mpr ⟨lw_p70, List.forall_mem_cons.mpr ⟨lw_p71, List.forall_mem_cons.mpr ⟨lw_p72, List.forall_mem_cons.mpr ⟨lw_p73, List.forall_mem_cons.mpr ⟨lw_p74, List.forall_mem_cons.mpr ⟨lw_p75, List.forall_mem_cons.mpr ⟨lw_p76, List.forall_mem_cons.mpr ⟨lw_p77, List.forall_mem_cons.mpr ⟨lw_p78, List.forall_mem_cons.mpr ⟨lw_p79, fun _ h => absurd h List.not_mem_nil⟩⟩⟩⟩⟩⟩⟩⟩⟩⟩⟩⟩⟩⟩⟩⟩
theorem lw_p80 : lw_okq (⟨"SlotSeriesModel", "isCarrier", "(I)Z"⟩, 23) := ⟨⟨by decide +kernel, by decide +kernel⟩, List.mem_of_getElem? (i := 1159) (by decide +kernel), List.mem_of_getElem? (i := 1418) (by decide +kernel), List.mem_of_getElem? (i := 1419) (by decide +kernel)⟩
theorem lw_p81 : lw_okq (⟨"SlotSeriesModel", "isThere", "()Z"⟩, 23) := ⟨⟨by decide +kernel, by decide +kernel⟩, List.mem_of_getElem? (i := 1159) (by decide +kernel), List.mem_of_getElem? (i := 1430) (by decide +kernel), List.mem_of_getElem? (i := 1431) (by decide +kernel)⟩
theorem lw_p82 : lw_okq (⟨"SlotSeriesModel", "isSeries", "(I)Z"⟩, 23) := ⟨⟨by decide +kernel, by decide +kernel⟩, List.mem_of_getElem? (i := 1159) (by decide +kernel), List.mem_of_getElem? (i := 1439) (by decide +kernel), List.mem_of_getElem? (i := 1440) (by decide +kernel)⟩
theorem lw_p83 : lw_okq (⟨"SlotSeriesModel", "isWeek", "(I)Z"⟩, 23) := ⟨⟨by decide +kernel, by decide +kernel⟩, List.mem_of_getElem? (i := 1159) (by decide +kernel), List.mem_of_getElem? (i := 1452) (by decide +kernel), List.mem_of_getElem? (i := 1453) (by decide +kernel)⟩
theorem lw_p84 : lw_okq (⟨"SlotSeriesModel", "stateOf", "(II)I"⟩, 23) := ⟨⟨by decide +kernel, by decide +kernel⟩, List.mem_of_getElem? (i := 1159) (by decide +kernel), List.mem_of_getElem? (i := 1456) (by decide +kernel), List.mem_of_getElem? (i := 1457) (by decide +kernel)⟩
theorem lw_p85 : lw_okq (⟨"SlotSeriesModel", "isAsk", "(I)Z"⟩, 23) := ⟨⟨by decide +kernel, by decide +kernel⟩, List.mem_of_getElem? (i := 1159) (by decide +kernel), List.mem_of_getElem? (i := 1464) (by decide +kernel), List.mem_of_getElem? (i := 1465) (by decide +kernel)⟩
theorem lw_p86 : lw_okq (⟨"SlotSeriesModel", "ask0", "(II)I"⟩, 23) := ⟨⟨by decide +kernel, by decide +kernel⟩, List.mem_of_getElem? (i := 1159) (by decide +kernel), List.mem_of_getElem? (i := 1468) (by decide +kernel), List.mem_of_getElem? (i := 1469) (by decide +kernel)⟩
theorem lw_p87 : lw_okq (⟨"SlotSeriesModel", "isHour", "(I)Z"⟩, 23) := ⟨⟨by decide +kernel, by decide +kernel⟩, List.mem_of_getElem? (i := 1159) (by decide +kernel), List.mem_of_getElem? (i := 1476) (by decide +kernel), List.mem_of_getElem? (i := 1477) (by decide +kernel)⟩
theorem lw_p88 : lw_okq (⟨"SlotSeriesModel", "isPlace", "(III)Z"⟩, 23) := ⟨⟨by decide +kernel, by decide +kernel⟩, List.mem_of_getElem? (i := 1159) (by decide +kernel), List.mem_of_getElem? (i := 1484) (by decide +kernel), List.mem_of_getElem? (i := 1485) (by decide +kernel)⟩
theorem lw_p89 : lw_okq (⟨"SlotSeriesModel", "isDay", "(I)Z"⟩, 23) := ⟨⟨by decide +kernel, by decide +kernel⟩, List.mem_of_getElem? (i := 1159) (by decide +kernel), List.mem_of_getElem? (i := 1488) (by decide +kernel), List.mem_of_getElem? (i := 1489) (by decide +kernel)⟩
theorem lw_p90 : lw_okq (⟨"SlotSeriesModel", "goodOf", "(I)I"⟩, 23) := ⟨⟨by decide +kernel, by decide +kernel⟩, List.mem_of_getElem? (i := 1159) (by decide +kernel), List.mem_of_getElem? (i := 1509) (by decide +kernel), List.mem_of_getElem? (i := 1510) (by decide +kernel)⟩
theorem lw_p91 : lw_okq (⟨"SlotSeriesModel", "standsOf", "(I)I"⟩, 23) := ⟨⟨by decide +kernel, by decide +kernel⟩, List.mem_of_getElem? (i := 1159) (by decide +kernel), List.mem_of_getElem? (i := 1517) (by decide +kernel), List.mem_of_getElem? (i := 1518) (by decide +kernel)⟩
theorem lw_p92 : lw_okq (⟨"SlotSeriesModel", "isKept", "(II)Z"⟩, 23) := ⟨⟨by decide +kernel, by decide +kernel⟩, List.mem_of_getElem? (i := 1159) (by decide +kernel), List.mem_of_getElem? (i := 1521) (by decide +kernel), List.mem_of_getElem? (i := 1522) (by decide +kernel)⟩
theorem lw_p93 : lw_okq (⟨"SlotSeriesModel", "spareOf", "(I)I"⟩, 23) := ⟨⟨by decide +kernel, by decide +kernel⟩, List.mem_of_getElem? (i := 1159) (by decide +kernel), List.mem_of_getElem? (i := 1529) (by decide +kernel), List.mem_of_getElem? (i := 1530) (by decide +kernel)⟩
theorem lw_p94 : lw_okq (⟨"SlotSeriesModel", "isEntrant", "(II)Z"⟩, 23) := ⟨⟨by decide +kernel, by decide +kernel⟩, List.mem_of_getElem? (i := 1159) (by decide +kernel), List.mem_of_getElem? (i := 1550) (by decide +kernel), List.mem_of_getElem? (i := 1551) (by decide +kernel)⟩
theorem lw_p95 : lw_okq (⟨"SlotSeriesModel", "isBetter", "(II)Z"⟩, 23) := ⟨⟨by decide +kernel, by decide +kernel⟩, List.mem_of_getElem? (i := 1159) (by decide +kernel), List.mem_of_getElem? (i := 1562) (by decide +kernel), List.mem_of_getElem? (i := 1563) (by decide +kernel)⟩
def lw_privs_6 : List (MethodName × Nat) := [(⟨"SlotSeriesModel", "isCarrier", "(I)Z"⟩, 23), (⟨"SlotSeriesModel", "isThere", "()Z"⟩, 23), (⟨"SlotSeriesModel", "isSeries", "(I)Z"⟩, 23), (⟨"SlotSeriesModel", "isWeek", "(I)Z"⟩, 23), (⟨"SlotSeriesModel", "stateOf", "(II)I"⟩, 23), (⟨"SlotSeriesModel", "isAsk", "(I)Z"⟩, 23), (⟨"SlotSeriesModel", "ask0", "(II)I"⟩, 23), (⟨"SlotSeriesModel", "isHour", "(I)Z"⟩, 23), (⟨"SlotSeriesModel", "isPlace", "(III)Z"⟩, 23), (⟨"SlotSeriesModel", "isDay", "(I)Z"⟩, 23), (⟨"SlotSeriesModel", "goodOf", "(I)I"⟩, 23), (⟨"SlotSeriesModel", "standsOf", "(I)I"⟩, 23), (⟨"SlotSeriesModel", "isKept", "(II)Z"⟩, 23), (⟨"SlotSeriesModel", "spareOf", "(I)I"⟩, 23), (⟨"SlotSeriesModel", "isEntrant", "(II)Z"⟩, 23), (⟨"SlotSeriesModel", "isBetter", "(II)Z"⟩, 23)]
theorem lw_r6 : ∀ q ∈ lw_privs_6, lw_okq q := List.forall_mem_cons.mpr ⟨lw_p80, List.forall_mem_cons.mpr ⟨lw_p81, List.forall_mem_cons.mpr ⟨lw_p82, List.forall_mem_cons.mpr ⟨lw_p83, List.forall_mem_cons.mpr ⟨lw_p84, List.forall_mem_cons.mpr ⟨lw_p85, List.forall_mem_cons.mpr ⟨lw_p86, List.forall_mem_cons.mpr ⟨lw_p87, List.forall_mem_cons.mpr ⟨lw_p88, List.forall_mem_cons.mpr ⟨lw_p89, List.forall_mem_cons.mpr ⟨lw_p90, List.forall_mem_cons.mpr ⟨lw_p91, List.forall_mem_cons.mpr ⟨lw_p92, List.forall_mem_cons.mpr ⟨lw_p93, List.forall_mem_cons.mpr ⟨lw_p94, List.forall_mem_cons.mpr ⟨lw_p95, fun _ h => absurd h List.not_mem_nil⟩⟩⟩⟩⟩⟩⟩⟩⟩⟩⟩⟩⟩⟩⟩⟩
theorem lw_p96 : lw_okq (⟨"SlotSeriesModel", "allOf", "(IZ)I"⟩, 23) := ⟨⟨by decide +kernel, by decide +kernel⟩, List.mem_of_getElem? (i := 1159) (by decide +kernel), List.mem_of_getElem? (i := 1566) (by decide +kernel), List.mem_of_getElem? (i := 1567) (by decide +kernel)⟩
theorem lw_p97 : lw_okq (⟨"SlotSeriesModel", "basisOn", "(II)I"⟩, 23) := ⟨⟨by decide +kernel, by decide +kernel⟩, List.mem_of_getElem? (i := 1159) (by decide +kernel), List.mem_of_getElem? (i := 1574) (by decide +kernel), List.mem_of_getElem? (i := 1575) (by decide +kernel)⟩
theorem lw_p98 : lw_okq (⟨"SlotSeriesModel", "weeksOf", "(I)I"⟩, 23) := ⟨⟨by decide +kernel, by decide +kernel⟩, List.mem_of_getElem? (i := 1159) (by decide +kernel), List.mem_of_getElem? (i := 1598) (by decide +kernel), List.mem_of_getElem? (i := 1599) (by decide +kernel)⟩
theorem lw_p99 : lw_okq (⟨"SlotSeriesModel", "canAsk", "(III)Z"⟩, 23) := ⟨⟨by decide +kernel, by decide +kernel⟩, List.mem_of_getElem? (i := 1159) (by decide +kernel), List.mem_of_getElem? (i := 1602) (by decide +kernel), List.mem_of_getElem? (i := 1603) (by decide +kernel)⟩
theorem lw_p100 : lw_okq (⟨"SlotSeriesModel", "hourFor", "(I)I"⟩, 23) := ⟨⟨by decide +kernel, by decide +kernel⟩, List.mem_of_getElem? (i := 1159) (by decide +kernel), List.mem_of_getElem? (i := 1610) (by decide +kernel), List.mem_of_getElem? (i := 1611) (by decide +kernel)⟩
theorem lw_p101 : lw_okq (⟨"SlotSeriesModel", "begins", "()V"⟩, 23) := ⟨⟨by decide +kernel, by decide +kernel⟩, List.mem_of_getElem? (i := 1159) (by decide +kernel), List.mem_of_getElem? (i := 1638) (by decide +kernel), List.mem_of_getElem? (i := 1639) (by decide +kernel)⟩
theorem lw_p102 : lw_okq (⟨"SlotSeriesModel", "chosen", "(Z)I"⟩, 23) := ⟨⟨by decide +kernel, by decide +kernel⟩, List.mem_of_getElem? (i := 1159) (by decide +kernel), List.mem_of_getElem? (i := 1642) (by decide +kernel), List.mem_of_getElem? (i := 1643) (by decide +kernel)⟩
theorem lw_p103 : lw_okq (⟨"SlotSeriesModel", "playsAside", "(I)I"⟩, 23) := ⟨⟨by decide +kernel, by decide +kernel⟩, List.mem_of_getElem? (i := 1159) (by decide +kernel), List.mem_of_getElem? (i := 1650) (by decide +kernel), List.mem_of_getElem? (i := 1651) (by decide +kernel)⟩
theorem lw_p104 : lw_okq (⟨"SlotSeriesModel", "copies", "()V"⟩, 23) := ⟨⟨by decide +kernel, by decide +kernel⟩, List.mem_of_getElem? (i := 1159) (by decide +kernel), List.mem_of_getElem? (i := 1654) (by decide +kernel), List.mem_of_getElem? (i := 1655) (by decide +kernel)⟩
theorem lw_p105 : lw_okq (⟨"SlotSeriesModel", "plays", "()I"⟩, 23) := ⟨⟨by decide +kernel, by decide +kernel⟩, List.mem_of_getElem? (i := 1159) (by decide +kernel), List.mem_of_getElem? (i := 1658) (by decide +kernel), List.mem_of_getElem? (i := 1659) (by decide +kernel)⟩
theorem lw_p106 : lw_okq (⟨"SlotSeriesModel", "grants", "(II)V"⟩, 23) := ⟨⟨by decide +kernel, by decide +kernel⟩, List.mem_of_getElem? (i := 1159) (by decide +kernel), List.mem_of_getElem? (i := 1662) (by decide +kernel), List.mem_of_getElem? (i := 1663) (by decide +kernel)⟩
theorem lw_p107 : lw_okq (⟨"SlotSeriesModel", "canRetime", "(II)Z"⟩, 23) := ⟨⟨by decide +kernel, by decide +kernel⟩, List.mem_of_getElem? (i := 1159) (by decide +kernel), List.mem_of_getElem? (i := 1682) (by decide +kernel), List.mem_of_getElem? (i := 1683) (by decide +kernel)⟩
theorem lw_p108 : lw_okq (⟨"SlotSeriesModel", "canBeAt", "(II)Z"⟩, 23) := ⟨⟨by decide +kernel, by decide +kernel⟩, List.mem_of_getElem? (i := 1159) (by decide +kernel), List.mem_of_getElem? (i := 1686) (by decide +kernel), List.mem_of_getElem? (i := 1687) (by decide +kernel)⟩
theorem lw_p109 : lw_okq (⟨"SlotSeriesModel", "isComing", "(I)Z"⟩, 23) := ⟨⟨by decide +kernel, by decide +kernel⟩, List.mem_of_getElem? (i := 1159) (by decide +kernel), List.mem_of_getElem? (i := 1698) (by decide +kernel), List.mem_of_getElem? (i := 1699) (by decide +kernel)⟩
theorem lw_p110 : lw_okq (⟨"SlotSeriesModel", "keeps", "()V"⟩, 23) := ⟨⟨by decide +kernel, by decide +kernel⟩, List.mem_of_getElem? (i := 1159) (by decide +kernel), List.mem_of_getElem? (i := 1702) (by decide +kernel), List.mem_of_getElem? (i := 1703) (by decide +kernel)⟩
theorem lw_p111 : lw_okq (⟨"SlotSeriesModel", "goes", "(IIII)V"⟩, 23) := ⟨⟨by decide +kernel, by decide +kernel⟩, List.mem_of_getElem? (i := 1159) (by decide +kernel), List.mem_of_getElem? (i := 1706) (by decide +kernel), List.mem_of_getElem? (i := 1707) (by decide +kernel)⟩
def lw_privs_7 : List (MethodName × Nat) := [(⟨"SlotSeriesModel", "allOf", "(IZ)I"⟩, 23), (⟨"SlotSeriesModel", "basisOn", "(II)I"⟩, 23), (⟨"SlotSeriesModel", "weeksOf", "(I)I"⟩, 23), (⟨"SlotSeriesModel", "canAsk", "(III)Z"⟩, 23), (⟨"SlotSeriesModel", "hourFor", "(I)I"⟩, 23), (⟨"SlotSeriesModel", "begins", "()V"⟩, 23), (⟨"SlotSeriesModel", "chosen", "(Z)I"⟩, 23), (⟨"SlotSeriesModel", "playsAside", "(I)I"⟩, 23), (⟨"SlotSeriesModel", "copies", "()V"⟩, 23), (⟨"SlotSeriesModel", "plays", "()I"⟩, 23), (⟨"SlotSeriesModel", "grants", "(II)V"⟩, 23), (⟨"SlotSeriesModel", "canRetime", "(II)Z"⟩, 23), (⟨"SlotSeriesModel", "canBeAt", "(II)Z"⟩, 23), (⟨"SlotSeriesModel", "isComing", "(I)Z"⟩, 23), (⟨"SlotSeriesModel", "keeps", "()V"⟩, 23), (⟨"SlotSeriesModel", "goes", "(IIII)V"⟩, 23)]
theorem lw_r7 : ∀ q ∈ lw_privs_7, lw_okq q := List.forall_mem_cons.mpr ⟨lw_p96, List.forall_mem_cons.mpr ⟨lw_p97, List.forall_mem_cons.mpr ⟨lw_p98, List.forall_mem_cons.mpr ⟨lw_p99, List.forall_mem_cons.mpr ⟨lw_p100, List.forall_mem_cons.mpr ⟨lw_p101, List.forall_mem_cons.mpr ⟨lw_p102, List.forall_mem_cons.mpr ⟨lw_p103, List.forall_mem_cons.mpr ⟨lw_p104, List.forall_mem_cons.mpr ⟨lw_p105, List.forall_mem_cons.mpr ⟨lw_p106, List.forall_mem_cons.mpr ⟨lw_p107, List.forall_mem_cons.mpr ⟨lw_p108, List.forall_mem_cons.mpr ⟨lw_p109, List.forall_mem_cons.mpr ⟨lw_p110, List.forall_mem_cons.mpr ⟨lw_p111, fun _ h => absurd h List.not_mem_nil⟩⟩⟩⟩⟩⟩⟩⟩⟩⟩⟩⟩⟩⟩⟩⟩
theorem lw_p112 : lw_okq (⟨"SlotSeriesModel", "openFrom", "(II)I"⟩, 23) := ⟨⟨by decide +kernel, by decide +kernel⟩, List.mem_of_getElem? (i := 1159) (by decide +kernel), List.mem_of_getElem? (i := 1722) (by decide +kernel), List.mem_of_getElem? (i := 1723) (by decide +kernel)⟩
theorem lw_p113 : lw_okq (⟨"SlotSeriesModel", "dropsAsk", "(I)V"⟩, 23) := ⟨⟨by decide +kernel, by decide +kernel⟩, List.mem_of_getElem? (i := 1159) (by decide +kernel), List.mem_of_getElem? (i := 1738) (by decide +kernel), List.mem_of_getElem? (i := 1739) (by decide +kernel)⟩
theorem lw_p114 : lw_okq (⟨"SlotSeriesModel", "isNew", "(I)Z"⟩, 23) := ⟨⟨by decide +kernel, by decide +kernel⟩, List.mem_of_getElem? (i := 1159) (by decide +kernel), List.mem_of_getElem? (i := 1750) (by decide +kernel), List.mem_of_getElem? (i := 1751) (by decide +kernel)⟩
theorem lw_p115 : lw_okq (⟨"SlotSeriesModel", "canSwap", "(II)Z"⟩, 23) := ⟨⟨by decide +kernel, by decide +kernel⟩, List.mem_of_getElem? (i := 1159) (by decide +kernel), List.mem_of_getElem? (i := 1754) (by decide +kernel), List.mem_of_getElem? (i := 1755) (by decide +kernel)⟩
theorem lw_p116 : lw_okq (⟨"SlotSeriesModel", "changesOver", "(II)V"⟩, 23) := ⟨⟨by decide +kernel, by decide +kernel⟩, List.mem_of_getElem? (i := 1159) (by decide +kernel), List.mem_of_getElem? (i := 1758) (by decide +kernel), List.mem_of_getElem? (i := 1759) (by decide +kernel)⟩
theorem lw_p117 : lw_okq (⟨"SlotSeriesModel", "isAbove", "(III)Z"⟩, 23) := ⟨⟨by decide +kernel, by decide +kernel⟩, List.mem_of_getElem? (i := 1159) (by decide +kernel), List.mem_of_getElem? (i := 1775) (by decide +kernel), List.mem_of_getElem? (i := 1776) (by decide +kernel)⟩
theorem lw_p118 : lw_okq (⟨"SlotSeriesModel", "stays", "(II)V"⟩, 23) := ⟨⟨by decide +kernel, by decide +kernel⟩, List.mem_of_getElem? (i := 1159) (by decide +kernel), List.mem_of_getElem? (i := 1792) (by decide +kernel), List.mem_of_getElem? (i := 1793) (by decide +kernel)⟩
theorem lw_p119 : lw_okq (⟨"SlotSeriesModel", "saysText", "(Ljava/lang/String;)V"⟩, 23) := ⟨⟨by decide +kernel, by decide +kernel⟩, List.mem_of_getElem? (i := 1159) (by decide +kernel), List.mem_of_getElem? (i := 1801) (by decide +kernel), List.mem_of_getElem? (i := 1802) (by decide +kernel)⟩
theorem lw_p120 : lw_okq (⟨"SlotSeriesModel", "says", "(I)V"⟩, 23) := ⟨⟨by decide +kernel, by decide +kernel⟩, List.mem_of_getElem? (i := 1159) (by decide +kernel), List.mem_of_getElem? (i := 1805) (by decide +kernel), List.mem_of_getElem? (i := 1806) (by decide +kernel)⟩
theorem lw_p121 : lw_okq (⟨"SlotSeriesModel", "saysNumber", "(I)V"⟩, 23) := ⟨⟨by decide +kernel, by decide +kernel⟩, List.mem_of_getElem? (i := 1159) (by decide +kernel), List.mem_of_getElem? (i := 1809) (by decide +kernel), List.mem_of_getElem? (i := 1810) (by decide +kernel)⟩
theorem lw_p122 : lw_okq (⟨"SlotSeriesModel", "saysName", "(I)V"⟩, 23) := ⟨⟨by decide +kernel, by decide +kernel⟩, List.mem_of_getElem? (i := 1159) (by decide +kernel), List.mem_of_getElem? (i := 1816) (by decide +kernel), List.mem_of_getElem? (i := 1817) (by decide +kernel)⟩
theorem lw_p123 : lw_okq (⟨"SlotSeriesModel", "saysCommon", "(Ljava/lang/String;II)V"⟩, 23) := ⟨⟨by decide +kernel, by decide +kernel⟩, List.mem_of_getElem? (i := 1159) (by decide +kernel), List.mem_of_getElem? (i := 1821) (by decide +kernel), List.mem_of_getElem? (i := 1822) (by decide +kernel)⟩
def lw_privs_8 : List (MethodName × Nat) := [(⟨"SlotSeriesModel", "openFrom", "(II)I"⟩, 23), (⟨"SlotSeriesModel", "dropsAsk", "(I)V"⟩, 23), (⟨"SlotSeriesModel", "isNew", "(I)Z"⟩, 23), (⟨"SlotSeriesModel", "canSwap", "(II)Z"⟩, 23), (⟨"SlotSeriesModel", "changesOver", "(II)V"⟩, 23), (⟨"SlotSeriesModel", "isAbove", "(III)Z"⟩, 23), (⟨"SlotSeriesModel", "stays", "(II)V"⟩, 23), (⟨"SlotSeriesModel", "saysText", "(Ljava/lang/String;)V"⟩, 23), (⟨"SlotSeriesModel", "says", "(I)V"⟩, 23), (⟨"SlotSeriesModel", "saysNumber", "(I)V"⟩, 23), (⟨"SlotSeriesModel", "saysName", "(I)V"⟩, 23), (⟨"SlotSeriesModel", "saysCommon", "(Ljava/lang/String;II)V"⟩, 23)]
theorem lw_r8 : ∀ q ∈ lw_privs_8, lw_okq q := List.forall_mem_cons.mpr ⟨lw_p112, List.forall_mem_cons.mpr ⟨lw_p113, List.forall_mem_cons.mpr ⟨lw_p114, List.forall_mem_cons.mpr ⟨lw_p115, List.forall_mem_cons.mpr ⟨lw_p116, List.forall_mem_cons.mpr ⟨lw_p117, List.forall_mem_cons.mpr ⟨lw_p118, List.forall_mem_cons.mpr ⟨lw_p119, List.forall_mem_cons.mpr ⟨lw_p120, List.forall_mem_cons.mpr ⟨lw_p121, List.forall_mem_cons.mpr ⟨lw_p122, List.forall_mem_cons.mpr ⟨lw_p123, fun _ h => absurd h List.not_mem_nil⟩⟩⟩⟩⟩⟩⟩⟩⟩⟩⟩⟩
def lw_privs : List (MethodName × Nat) := lw_privs_1 ++ (lw_privs_2 ++ (lw_privs_3 ++ (lw_privs_4 ++ (lw_privs_5 ++ (lw_privs_6 ++ (lw_privs_7 ++ (lw_privs_8)))))))
def lw_tbl : List Cond := k2_sels lw_privs ++ tables_1
theorem lw_privs_ok : ∀ q ∈ lw_privs, lw_okq q := by
  show ∀ q ∈ lw_privs_1 ++ (lw_privs_2 ++ (lw_privs_3 ++ (lw_privs_4 ++ (lw_privs_5 ++ (lw_privs_6 ++ (lw_privs_7 ++ (lw_privs_8))))))), lw_okq q
  exact List.forall_mem_append.mpr ⟨lw_r1, List.forall_mem_append.mpr ⟨lw_r2, List.forall_mem_append.mpr ⟨lw_r3, List.forall_mem_append.mpr ⟨lw_r4, List.forall_mem_append.mpr ⟨lw_r5, List.forall_mem_append.mpr ⟨lw_r6, List.forall_mem_append.mpr ⟨lw_r7, lw_r8⟩⟩⟩⟩⟩⟩⟩
-- ===== end of PART A; then your names; then what follows =====
end
section
def RX0 : String := "SlotSeries$Ask"
def TX0 : u_T := fun k => match k with
  | 0 => ("SlotSeries$Ask", "carrier", "I", false)
  | 1 => ("SlotSeries$Ask", "day", "I", false)
  | 2 => ("SlotSeries$Ask", "hour", "I", false)
  | 3 => ("SlotSeries$Ask", "way", "I", false)
  | 4 => ("SlotSeries$Ask", "from", "I", false)
  | 5 => ("SlotSeries$Ask", "to", "I", false)
  | _ => ("SlotSeries$Ask", "by", "I", false)
def tyX0 : Nat → FieldType := fun k => match k with
  | 0 => .int
  | 1 => .int
  | 2 => .int
  | 3 => .int
  | 4 => .int
  | 5 => .int
  | _ => .int
theorem nmX0 : ∀ a, a < 7 → ∀ b, b < 7 → a ≠ b → (TX0 a).2.1 ≠ (TX0 b).2.1 := by decide +kernel
theorem tyX0_ok : ∀ k, k < 7 → parseFieldDescriptor (TX0 k).2.2.1 = some (tyX0 k) := by decide +kernel
abbrev cX0_init : ByteArray := prog_2_method_1_code
def yX0_init : MethodName := ⟨RX0, "<init>", "()V"⟩
abbrev cX0_copyFrom : ByteArray := prog_2_method_2_code
def yX0_copyFrom : MethodName := ⟨RX0, "copyFrom", "(LSlotSeries$Ask;)V"⟩
abbrev cX0_placeAt : ByteArray := prog_2_method_3_code
def yX0_placeAt : MethodName := ⟨RX0, "placeAt", "(IIII)V"⟩
abbrev cX0_span : ByteArray := prog_2_method_4_code
def yX0_span : MethodName := ⟨RX0, "span", "(III)V"⟩
abbrev cX0_wantedBits : ByteArray := prog_2_method_5_code
def yX0_wantedBits : MethodName := ⟨RX0, "wantedBits", "()I"⟩
def RX1 : String := "SlotSeries$Names"
def TX1 : u_T := fun k => match k with
  | 0 => ("SlotSeries$Names", "size", "I", false)
  | _ => ("SlotSeries$Names", "letters", "[I", true)
def tyX1 : Nat → FieldType := fun k => match k with
  | 0 => .int
  | _ => .array .int
theorem nmX1 : ∀ a, a < 2 → ∀ b, b < 2 → a ≠ b → (TX1 a).2.1 ≠ (TX1 b).2.1 := by decide +kernel
theorem tyX1_ok : ∀ k, k < 2 → parseFieldDescriptor (TX1 k).2.2.1 = some (tyX1 k) := by decide +kernel
abbrev cX1_init : ByteArray := prog_3_method_1_code
def yX1_init : MethodName := ⟨RX1, "<init>", "()V"⟩
abbrev cX1_copyFrom : ByteArray := prog_3_method_2_code
def yX1_copyFrom : MethodName := ⟨RX1, "copyFrom", "(LSlotSeries$Names;)V"⟩
abbrev cX1_letterOf : ByteArray := prog_3_method_3_code
def yX1_letterOf : MethodName := ⟨RX1, "letterOf", "(II)I"⟩
abbrev cX1_carrierNamed : ByteArray := prog_3_method_4_code
def yX1_carrierNamed : MethodName := ⟨RX1, "carrierNamed", "([BII)I"⟩
abbrev cX1_isNamed : ByteArray := prog_3_method_5_code
def yX1_isNamed : MethodName := ⟨RX1, "isNamed", "(I[BII)Z"⟩
abbrev cX1_add : ByteArray := prog_3_method_6_code
def yX1_add : MethodName := ⟨RX1, "add", "([BII)V"⟩
def RX2 : String := "SlotSeries$Pool"
def TX2 : u_T := fun k => match k with
  | 0 => ("SlotSeries$Pool", "trial", "LSlotSeries$Season;", true)
  | 1 => ("SlotSeries$Pool", "slotsHeld", "[I", true)
  | 2 => ("SlotSeries$Pool", "turnOf", "[I", true)
  | 3 => ("SlotSeries$Pool", "hourOf", "[I", true)
  | _ => ("SlotSeries$Pool", "grants", "I", false)
def tyX2 : Nat → FieldType := fun k => match k with
  | 0 => .object "SlotSeries$Season"
  | 1 => .array .int
  | 2 => .array .int
  | 3 => .array .int
  | _ => .int
theorem nmX2 : ∀ a, a < 5 → ∀ b, b < 5 → a ≠ b → (TX2 a).2.1 ≠ (TX2 b).2.1 := by decide +kernel
theorem tyX2_ok : ∀ k, k < 5 → parseFieldDescriptor (TX2 k).2.2.1 = some (tyX2 k) := by decide +kernel
abbrev cX2_init : ByteArray := prog_4_method_1_code
def yX2_init : MethodName := ⟨RX2, "<init>", "()V"⟩
abbrev cX2_firstOf : ByteArray := prog_4_method_2_code
def yX2_firstOf : MethodName := ⟨RX2, "firstOf", "(LSlotSeries$Season;)I"⟩
abbrev cX2_serve : ByteArray := prog_4_method_3_code
def yX2_serve : MethodName := ⟨RX2, "serve", "(LSlotSeries$Season;I)V"⟩
abbrev cX2_carryOver : ByteArray := prog_4_method_4_code
def yX2_carryOver : MethodName := ⟨RX2, "carryOver", "(LSlotSeries$Season;)V"⟩
abbrev cX2_allAsks : ByteArray := prog_4_method_5_code
def yX2_allAsks : MethodName := ⟨RX2, "allAsks", "()I"⟩
abbrev cX2_countSlots : ByteArray := prog_4_method_6_code
def yX2_countSlots : MethodName := ⟨RX2, "countSlots", "()V"⟩
abbrev cX2_isEntrants : ByteArray := prog_4_method_7_code
def yX2_isEntrants : MethodName := ⟨RX2, "isEntrants", "(LSlotSeries$Ask;)Z"⟩
abbrev cX2_chosen : ByteArray := prog_4_method_8_code
def yX2_chosen : MethodName := ⟨RX2, "chosen", "(IZ)I"⟩
abbrev cX2_longestOf : ByteArray := prog_4_method_9_code
def yX2_longestOf : MethodName := ⟨RX2, "longestOf", "(IZ)I"⟩
abbrev cX2_lookAt : ByteArray := prog_4_method_10_code
def yX2_lookAt : MethodName := ⟨RX2, "lookAt", "(I)V"⟩
def RX3 : String := "SlotSeries$Reader"
def TX3 : u_T := fun k => match k with
  | 0 => ("SlotSeries$Reader", "season", "LSlotSeries$Season;", true)
  | 1 => ("SlotSeries$Reader", "names", "LSlotSeries$Names;", true)
  | 2 => ("SlotSeries$Reader", "lines", "I", false)
  | 3 => ("SlotSeries$Reader", "fault", "I", false)
  | 4 => ("SlotSeries$Reader", "faultPlace", "I", false)
  | 5 => ("SlotSeries$Reader", "bytes", "[B", false)
  | 6 => ("SlotSeries$Reader", "length", "I", false)
  | 7 => ("SlotSeries$Reader", "start", "I", false)
  | 8 => ("SlotSeries$Reader", "stop", "I", false)
  | 9 => ("SlotSeries$Reader", "kind", "I", false)
  | 10 => ("SlotSeries$Reader", "value", "I", false)
  | 11 => ("SlotSeries$Reader", "hoursLimited", "I", false)
  | 12 => ("SlotSeries$Reader", "carrier", "I", false)
  | 13 => ("SlotSeries$Reader", "day", "I", false)
  | 14 => ("SlotSeries$Reader", "hour", "I", false)
  | 15 => ("SlotSeries$Reader", "way", "I", false)
  | 16 => ("SlotSeries$Reader", "from", "I", false)
  | _ => ("SlotSeries$Reader", "to", "I", false)
def tyX3 : Nat → FieldType := fun k => match k with
  | 0 => .object "SlotSeries$Season"
  | 1 => .object "SlotSeries$Names"
  | 2 => .int
  | 3 => .int
  | 4 => .int
  | 5 => .array .byte
  | 6 => .int
  | 7 => .int
  | 8 => .int
  | 9 => .int
  | 10 => .int
  | 11 => .int
  | 12 => .int
  | 13 => .int
  | 14 => .int
  | 15 => .int
  | 16 => .int
  | _ => .int
theorem nmX3 : ∀ a, a < 18 → ∀ b, b < 18 → a ≠ b → (TX3 a).2.1 ≠ (TX3 b).2.1 := by decide +kernel
theorem tyX3_ok : ∀ k, k < 18 → parseFieldDescriptor (TX3 k).2.2.1 = some (tyX3 k) := by decide +kernel
abbrev cX3_init : ByteArray := prog_5_method_1_code
def yX3_init : MethodName := ⟨RX3, "<init>", "()V"⟩
abbrev cX3_readText : ByteArray := prog_5_method_2_code
def yX3_readText : MethodName := ⟨RX3, "readText", "([BI)Z"⟩
abbrev cX3_readWeeks : ByteArray := prog_5_method_3_code
def yX3_readWeeks : MethodName := ⟨RX3, "readWeeks", "()Z"⟩
abbrev cX3_readLine : ByteArray := prog_5_method_4_code
def yX3_readLine : MethodName := ⟨RX3, "readLine", "()Z"⟩
abbrev cX3_readLimit : ByteArray := prog_5_method_5_code
def yX3_readLimit : MethodName := ⟨RX3, "readLimit", "()Z"⟩
abbrev cX3_readCarrier : ByteArray := prog_5_method_6_code
def yX3_readCarrier : MethodName := ⟨RX3, "readCarrier", "()Z"⟩
abbrev cX3_readSeries : ByteArray := prog_5_method_7_code
def yX3_readSeries : MethodName := ⟨RX3, "readSeries", "()Z"⟩
abbrev cX3_readAsk : ByteArray := prog_5_method_8_code
def yX3_readAsk : MethodName := ⟨RX3, "readAsk", "()Z"⟩
abbrev cX3_readPlace : ByteArray := prog_5_method_9_code
def yX3_readPlace : MethodName := ⟨RX3, "readPlace", "()Z"⟩
abbrev cX3_readSpan : ByteArray := prog_5_method_10_code
def yX3_readSpan : MethodName := ⟨RX3, "readSpan", "()Z"⟩
abbrev cX3_takeWord : ByteArray := prog_5_method_11_code
def yX3_takeWord : MethodName := ⟨RX3, "takeWord", "(I)Z"⟩
abbrev cX3_takeSign : ByteArray := prog_5_method_12_code
def yX3_takeSign : MethodName := ⟨RX3, "takeSign", "(C)Z"⟩
abbrev cX3_isNumber : ByteArray := prog_5_method_13_code
def yX3_isNumber : MethodName := ⟨RX3, "isNumber", "(II)Z"⟩
abbrev cX3_isSign : ByteArray := prog_5_method_14_code
def yX3_isSign : MethodName := ⟨RX3, "isSign", "(C)Z"⟩
abbrev cX3_isWord : ByteArray := prog_5_method_15_code
def yX3_isWord : MethodName := ⟨RX3, "isWord", "(I)Z"⟩
abbrev cX3_isName : ByteArray := prog_5_method_16_code
def yX3_isName : MethodName := ⟨RX3, "isName", "()Z"⟩
abbrev cX3_fail : ByteArray := prog_5_method_17_code
def yX3_fail : MethodName := ⟨RX3, "fail", "(I)Z"⟩
abbrev cX3_advance : ByteArray := prog_5_method_18_code
def yX3_advance : MethodName := ⟨RX3, "advance", "()V"⟩
abbrev cX3_wordTold : ByteArray := prog_5_method_19_code
def yX3_wordTold : MethodName := ⟨RX3, "wordTold", "()I"⟩
def RX4 : String := "SlotSeries$Season"
def TX4 : u_T := fun k => match k with
  | 0 => ("SlotSeries$Season", "length", "I", false)
  | 1 => ("SlotSeries$Season", "now", "I", false)
  | 2 => ("SlotSeries$Season", "ended", "I", false)
  | 3 => ("SlotSeries$Season", "seriesCount", "I", false)
  | 4 => ("SlotSeries$Season", "askCount", "I", false)
  | 5 => ("SlotSeries$Season", "limitAll", "[I", true)
  | 6 => ("SlotSeries$Season", "limitIn", "[I", true)
  | 7 => ("SlotSeries$Season", "slots", "[LSlotSeries$Series;", true)
  | 8 => ("SlotSeries$Season", "asks", "[LSlotSeries$Ask;", true)
  | _ => ("SlotSeries$Season", "loaded", "[I", true)
def tyX4 : Nat → FieldType := fun k => match k with
  | 0 => .int
  | 1 => .int
  | 2 => .int
  | 3 => .int
  | 4 => .int
  | 5 => .array .int
  | 6 => .array .int
  | 7 => .array (.object "SlotSeries$Series")
  | 8 => .array (.object "SlotSeries$Ask")
  | _ => .array .int
theorem nmX4 : ∀ a, a < 10 → ∀ b, b < 10 → a ≠ b → (TX4 a).2.1 ≠ (TX4 b).2.1 := by decide +kernel
theorem tyX4_ok : ∀ k, k < 10 → parseFieldDescriptor (TX4 k).2.2.1 = some (tyX4 k) := by decide +kernel
abbrev cX4_init : ByteArray := prog_6_method_1_code
def yX4_init : MethodName := ⟨RX4, "<init>", "()V"⟩
abbrev cX4_copyFrom : ByteArray := prog_6_method_2_code
def yX4_copyFrom : MethodName := ⟨RX4, "copyFrom", "(LSlotSeries$Season;)V"⟩
abbrev cX4_clear : ByteArray := prog_6_method_3_code
def yX4_clear : MethodName := ⟨RX4, "clear", "()V"⟩
abbrev cX4_addSeries : ByteArray := prog_6_method_4_code
def yX4_addSeries : MethodName := ⟨RX4, "addSeries", "()LSlotSeries$Series;"⟩
abbrev cX4_addAsk : ByteArray := prog_6_method_5_code
def yX4_addAsk : MethodName := ⟨RX4, "addAsk", "()LSlotSeries$Ask;"⟩
abbrev cX4_removeAsk : ByteArray := prog_6_method_6_code
def yX4_removeAsk : MethodName := ⟨RX4, "removeAsk", "(I)V"⟩
abbrev cX4_isOver : ByteArray := prog_6_method_7_code
def yX4_isOver : MethodName := ⟨RX4, "isOver", "()Z"⟩
abbrev cX4_weeksToCome : ByteArray := prog_6_method_8_code
def yX4_weeksToCome : MethodName := ⟨RX4, "weeksToCome", "()I"⟩
abbrev cX4_loadOf : ByteArray := prog_6_method_9_code
def yX4_loadOf : MethodName := ⟨RX4, "loadOf", "(III)I"⟩
abbrev cX4_loadIn : ByteArray := prog_6_method_10_code
def yX4_loadIn : MethodName := ⟨RX4, "loadIn", "(III)I"⟩
abbrev cX4_weeksLoaded : ByteArray := prog_6_method_11_code
def yX4_weeksLoaded : MethodName := ⟨RX4, "weeksLoaded", "(IIIZI)I"⟩
abbrev cX4_hasPlace : ByteArray := prog_6_method_12_code
def yX4_hasPlace : MethodName := ⟨RX4, "hasPlace", "(IIIII)Z"⟩
abbrev cX4_hasPlaceFor : ByteArray := prog_6_method_13_code
def yX4_hasPlaceFor : MethodName := ⟨RX4, "hasPlaceFor", "(LSlotSeries$Ask;II)Z"⟩
abbrev cX4_hourFor : ByteArray := prog_6_method_14_code
def yX4_hourFor : MethodName := ⟨RX4, "hourFor", "(LSlotSeries$Ask;)I"⟩
abbrev cX4_grant : ByteArray := prog_6_method_15_code
def yX4_grant : MethodName := ⟨RX4, "grant", "(LSlotSeries$Ask;I)V"⟩
abbrev cX4_holdsMore : ByteArray := prog_6_method_16_code
def yX4_holdsMore : MethodName := ⟨RX4, "holdsMore", "(III)Z"⟩
abbrev cX4_seriesOf : ByteArray := prog_6_method_17_code
def yX4_seriesOf : MethodName := ⟨RX4, "seriesOf", "(II)I"⟩
abbrev cX4_basisOf : ByteArray := prog_6_method_18_code
def yX4_basisOf : MethodName := ⟨RX4, "basisOf", "(II)I"⟩
abbrev cX4_goodOf : ByteArray := prog_6_method_19_code
def yX4_goodOf : MethodName := ⟨RX4, "goodOf", "(I)I"⟩
abbrev cX4_startAnew : ByteArray := prog_6_method_20_code
def yX4_startAnew : MethodName := ⟨RX4, "startAnew", "()V"⟩
def RX5 : String := "SlotSeries$Series"
def TX5 : u_T := fun k => match k with
  | 0 => ("SlotSeries$Series", "carrier", "I", false)
  | 1 => ("SlotSeries$Series", "day", "I", false)
  | 2 => ("SlotSeries$Series", "hour", "I", false)
  | 3 => ("SlotSeries$Series", "way", "I", false)
  | 4 => ("SlotSeries$Series", "fresh", "Z", false)
  | 5 => ("SlotSeries$Series", "from", "I", false)
  | 6 => ("SlotSeries$Series", "to", "I", false)
  | 7 => ("SlotSeries$Series", "all", "I", false)
  | 8 => ("SlotSeries$Series", "flown", "I", false)
  | 9 => ("SlotSeries$Series", "missed", "I", false)
  | 10 => ("SlotSeries$Series", "excused", "I", false)
  | _ => ("SlotSeries$Series", "given", "I", false)
def tyX5 : Nat → FieldType := fun k => match k with
  | 0 => .int
  | 1 => .int
  | 2 => .int
  | 3 => .int
  | 4 => .boolean
  | 5 => .int
  | 6 => .int
  | 7 => .int
  | 8 => .int
  | 9 => .int
  | 10 => .int
  | _ => .int
theorem nmX5 : ∀ a, a < 12 → ∀ b, b < 12 → a ≠ b → (TX5 a).2.1 ≠ (TX5 b).2.1 := by decide +kernel
theorem tyX5_ok : ∀ k, k < 12 → parseFieldDescriptor (TX5 k).2.2.1 = some (tyX5 k) := by decide +kernel
abbrev cX5_init : ByteArray := prog_7_method_1_code
def yX5_init : MethodName := ⟨RX5, "<init>", "()V"⟩
abbrev cX5_copyFrom : ByteArray := prog_7_method_2_code
def yX5_copyFrom : MethodName := ⟨RX5, "copyFrom", "(LSlotSeries$Series;)V"⟩
abbrev cX5_placeAt : ByteArray := prog_7_method_3_code
def yX5_placeAt : MethodName := ⟨RX5, "placeAt", "(IIII)V"⟩
abbrev cX5_comeWith : ByteArray := prog_7_method_4_code
def yX5_comeWith : MethodName := ⟨RX5, "comeWith", "(II)V"⟩
abbrev cX5_openIn : ByteArray := prog_7_method_5_code
def yX5_openIn : MethodName := ⟨RX5, "openIn", "(I)V"⟩
abbrev cX5_changeOver : ByteArray := prog_7_method_6_code
def yX5_changeOver : MethodName := ⟨RX5, "changeOver", "(LSlotSeries$Series;)V"⟩
abbrev cX5_openBits : ByteArray := prog_7_method_7_code
def yX5_openBits : MethodName := ⟨RX5, "openBits", "()I"⟩
abbrev cX5_heldBits : ByteArray := prog_7_method_8_code
def yX5_heldBits : MethodName := ⟨RX5, "heldBits", "()I"⟩
abbrev cX5_bitsThatAre : ByteArray := prog_7_method_9_code
def yX5_bitsThatAre : MethodName := ⟨RX5, "bitsThatAre", "(I)I"⟩
abbrev cX5_stateOf : ByteArray := prog_7_method_10_code
def yX5_stateOf : MethodName := ⟨RX5, "stateOf", "(I)I"⟩
abbrev cX5_holds : ByteArray := prog_7_method_11_code
def yX5_holds : MethodName := ⟨RX5, "holds", "(I)Z"⟩
abbrev cX5_fills : ByteArray := prog_7_method_12_code
def yX5_fills : MethodName := ⟨RX5, "fills", "(III)Z"⟩
abbrev cX5_isOf : ByteArray := prog_7_method_13_code
def yX5_isOf : MethodName := ⟨RX5, "isOf", "(II)Z"⟩
abbrev cX5_basis : ByteArray := prog_7_method_14_code
def yX5_basis : MethodName := ⟨RX5, "basis", "()I"⟩
abbrev cX5_good : ByteArray := prog_7_method_15_code
def yX5_good : MethodName := ⟨RX5, "good", "()I"⟩
abbrev cX5_isKeptWith : ByteArray := prog_7_method_16_code
def yX5_isKeptWith : MethodName := ⟨RX5, "isKeptWith", "(I)Z"⟩
abbrev cX5_isSafe : ByteArray := prog_7_method_17_code
def yX5_isSafe : MethodName := ⟨RX5, "isSafe", "()Z"⟩
abbrev cX5_isLost : ByteArray := prog_7_method_18_code
def yX5_isLost : MethodName := ⟨RX5, "isLost", "()Z"⟩
abbrev cX5_missesLeft : ByteArray := prog_7_method_19_code
def yX5_missesLeft : MethodName := ⟨RX5, "missesLeft", "()I"⟩
def RX6 : String := "SlotSeries$Teller"
def TX6 : u_T := fun k => match k with
  | 0 => ("SlotSeries$Teller", "out", "[B", true)
  | _ => ("SlotSeries$Teller", "length", "I", false)
def tyX6 : Nat → FieldType := fun k => match k with
  | 0 => .array .byte
  | _ => .int
theorem nmX6 : ∀ a, a < 2 → ∀ b, b < 2 → a ≠ b → (TX6 a).2.1 ≠ (TX6 b).2.1 := by decide +kernel
theorem tyX6_ok : ∀ k, k < 2 → parseFieldDescriptor (TX6 k).2.2.1 = some (tyX6 k) := by decide +kernel
abbrev cX6_init : ByteArray := prog_8_method_1_code
def yX6_init : MethodName := ⟨RX6, "<init>", "()V"⟩
abbrev cX6_write : ByteArray := prog_8_method_2_code
def yX6_write : MethodName := ⟨RX6, "write", "(LSlotSeries$Season;LSlotSeries$Names;)I"⟩
abbrev cX6_putLimit : ByteArray := prog_8_method_3_code
def yX6_putLimit : MethodName := ⟨RX6, "putLimit", "(III)V"⟩
abbrev cX6_putSeries : ByteArray := prog_8_method_4_code
def yX6_putSeries : MethodName := ⟨RX6, "putSeries", "(LSlotSeries$Series;LSlotSeries$Names;)V"⟩
abbrev cX6_putAsk : ByteArray := prog_8_method_5_code
def yX6_putAsk : MethodName := ⟨RX6, "putAsk", "(LSlotSeries$Ask;LSlotSeries$Names;)V"⟩
abbrev cX6_putPlace : ByteArray := prog_8_method_6_code
def yX6_putPlace : MethodName := ⟨RX6, "putPlace", "(III)V"⟩
abbrev cX6_putSpan : ByteArray := prog_8_method_7_code
def yX6_putSpan : MethodName := ⟨RX6, "putSpan", "(II)V"⟩
abbrev cX6_putName : ByteArray := prog_8_method_8_code
def yX6_putName : MethodName := ⟨RX6, "putName", "(LSlotSeries$Names;I)V"⟩
abbrev cX6_putWord : ByteArray := prog_8_method_9_code
def yX6_putWord : MethodName := ⟨RX6, "putWord", "(Ljava/lang/String;)V"⟩
abbrev cX6_putNumber : ByteArray := prog_8_method_10_code
def yX6_putNumber : MethodName := ⟨RX6, "putNumber", "(I)V"⟩
abbrev cX6_putBlank : ByteArray := prog_8_method_11_code
def yX6_putBlank : MethodName := ⟨RX6, "putBlank", "()V"⟩
abbrev cX6_putSign : ByteArray := prog_8_method_12_code
def yX6_putSign : MethodName := ⟨RX6, "putSign", "(C)V"⟩
def RX7 : String := "SlotSeries"
def TX7 : u_T := fun k => match k with
  | 0 => ("SlotSeries", "tape", "[B", true)
  | 1 => ("SlotSeries", "tapeLength", "I", false)
  | 2 => ("SlotSeries", "season", "LSlotSeries$Season;", true)
  | 3 => ("SlotSeries", "names", "LSlotSeries$Names;", true)
  | 4 => ("SlotSeries", "past", "[LSlotSeries$Season;", true)
  | 5 => ("SlotSeries", "pastCount", "I", false)
  | 6 => ("SlotSeries", "reader", "LSlotSeries$Reader;", true)
  | 7 => ("SlotSeries", "latestFault", "I", false)
  | 8 => ("SlotSeries", "latestPlace", "I", false)
  | 9 => ("SlotSeries", "drawn", "LSlotSeries$Pool;", true)
  | _ => ("SlotSeries", "teller", "LSlotSeries$Teller;", true)
def tyX7 : Nat → FieldType := fun k => match k with
  | 0 => .array .byte
  | 1 => .int
  | 2 => .object "SlotSeries$Season"
  | 3 => .object "SlotSeries$Names"
  | 4 => .array (.object "SlotSeries$Season")
  | 5 => .int
  | 6 => .object "SlotSeries$Reader"
  | 7 => .int
  | 8 => .int
  | 9 => .object "SlotSeries$Pool"
  | _ => .object "SlotSeries$Teller"
theorem nmX7 : ∀ a, a < 11 → ∀ b, b < 11 → a ≠ b → (TX7 a).2.1 ≠ (TX7 b).2.1 := by decide +kernel
theorem tyX7_ok : ∀ k, k < 11 → parseFieldDescriptor (TX7 k).2.2.1 = some (tyX7 k) := by decide +kernel
abbrev cX7_init : ByteArray := prog_1_method_1_code
def yX7_init : MethodName := ⟨RX7, "<init>", "()V"⟩
abbrev cX7_feed : ByteArray := prog_1_method_2_code
def yX7_feed : MethodName := ⟨RX7, "feed", "(IIIII)I"⟩
abbrev cX7_end : ByteArray := prog_1_method_3_code
def yX7_end : MethodName := ⟨RX7, "end", "(I)I"⟩
abbrev cX7_text : ByteArray := prog_1_method_4_code
def yX7_text : MethodName := ⟨RX7, "text", "()I"⟩
abbrev cX7_fault : ByteArray := prog_1_method_5_code
def yX7_fault : MethodName := ⟨RX7, "fault", "(I)I"⟩
abbrev cX7_count : ByteArray := prog_1_method_6_code
def yX7_count : MethodName := ⟨RX7, "count", "(I)I"⟩
abbrev cX7_letter : ByteArray := prog_1_method_7_code
def yX7_letter : MethodName := ⟨RX7, "letter", "(II)I"⟩
abbrev cX7_find : ByteArray := prog_1_method_8_code
def yX7_find : MethodName := ⟨RX7, "find", "()I"⟩
abbrev cX7_series : ByteArray := prog_1_method_9_code
def yX7_series : MethodName := ⟨RX7, "series", "(II)I"⟩
abbrev cX7_weeks : ByteArray := prog_1_method_10_code
def yX7_weeks : MethodName := ⟨RX7, "weeks", "(II)I"⟩
abbrev cX7_week : ByteArray := prog_1_method_11_code
def yX7_week : MethodName := ⟨RX7, "week", "(II)I"⟩
abbrev cX7_asked : ByteArray := prog_1_method_12_code
def yX7_asked : MethodName := ⟨RX7, "asked", "(II)I"⟩
abbrev cX7_limitOf : ByteArray := prog_1_method_13_code
def yX7_limitOf : MethodName := ⟨RX7, "limitOf", "(II)I"⟩
abbrev cX7_load : ByteArray := prog_1_method_14_code
def yX7_load : MethodName := ⟨RX7, "load", "(IIII)I"⟩
abbrev cX7_at : ByteArray := prog_1_method_15_code
def yX7_at : MethodName := ⟨RX7, "at", "(IIII)I"⟩
abbrev cX7_room : ByteArray := prog_1_method_16_code
def yX7_room : MethodName := ⟨RX7, "room", "(IIII)I"⟩
abbrev cX7_use : ByteArray := prog_1_method_17_code
def yX7_use : MethodName := ⟨RX7, "use", "(II)I"⟩
abbrev cX7_stands : ByteArray := prog_1_method_18_code
def yX7_stands : MethodName := ⟨RX7, "stands", "(I)I"⟩
abbrev cX7_spare : ByteArray := prog_1_method_19_code
def yX7_spare : MethodName := ⟨RX7, "spare", "(I)I"⟩
abbrev cX7_of : ByteArray := prog_1_method_20_code
def yX7_of : MethodName := ⟨RX7, "of", "(II)I"⟩
abbrev cX7_entrant : ByteArray := prog_1_method_21_code
def yX7_entrant : MethodName := ⟨RX7, "entrant", "(II)I"⟩
abbrev cX7_sum : ByteArray := prog_1_method_22_code
def yX7_sum : MethodName := ⟨RX7, "sum", "(II)I"⟩
abbrev cX7_best : ByteArray := prog_1_method_23_code
def yX7_best : MethodName := ⟨RX7, "best", "(I)I"⟩
abbrev cX7_most : ByteArray := prog_1_method_24_code
def yX7_most : MethodName := ⟨RX7, "most", "(II)I"⟩
abbrev cX7_rate : ByteArray := prog_1_method_25_code
def yX7_rate : MethodName := ⟨RX7, "rate", "(I)I"⟩
abbrev cX7_longest : ByteArray := prog_1_method_26_code
def yX7_longest : MethodName := ⟨RX7, "longest", "(I)I"⟩
abbrev cX7_kept : ByteArray := prog_1_method_27_code
def yX7_kept : MethodName := ⟨RX7, "kept", "(I)I"⟩
abbrev cX7_common : ByteArray := prog_1_method_28_code
def yX7_common : MethodName := ⟨RX7, "common", "(II)I"⟩
abbrev cX7_pairs : ByteArray := prog_1_method_29_code
def yX7_pairs : MethodName := ⟨RX7, "pairs", "(III)I"⟩
abbrev cX7_peak : ByteArray := prog_1_method_30_code
def yX7_peak : MethodName := ⟨RX7, "peak", "(I)I"⟩
abbrev cX7_full : ByteArray := prog_1_method_31_code
def yX7_full : MethodName := ⟨RX7, "full", "(I)I"⟩
abbrev cX7_idle : ByteArray := prog_1_method_32_code
def yX7_idle : MethodName := ⟨RX7, "idle", "(I)I"⟩
abbrev cX7_fitting : ByteArray := prog_1_method_33_code
def yX7_fitting : MethodName := ⟨RX7, "fitting", "(IIII)I"⟩
abbrev cX7_fits : ByteArray := prog_1_method_34_code
def yX7_fits : MethodName := ⟨RX7, "fits", "(I)I"⟩
abbrev cX7_where : ByteArray := prog_1_method_35_code
def yX7_where : MethodName := ⟨RX7, "where", "(I)I"⟩
abbrev cX7_blocked : ByteArray := prog_1_method_36_code
def yX7_blocked : MethodName := ⟨RX7, "blocked", "(I)I"⟩
abbrev cX7_clash : ByteArray := prog_1_method_37_code
def yX7_clash : MethodName := ⟨RX7, "clash", "(II)I"⟩
abbrev cX7_first : ByteArray := prog_1_method_38_code
def yX7_first : MethodName := ⟨RX7, "first", "()I"⟩
abbrev cX7_would : ByteArray := prog_1_method_39_code
def yX7_would : MethodName := ⟨RX7, "would", "()I"⟩
abbrev cX7_helps : ByteArray := prog_1_method_40_code
def yX7_helps : MethodName := ⟨RX7, "helps", "(I)I"⟩
abbrev cX7_turn : ByteArray := prog_1_method_41_code
def yX7_turn : MethodName := ⟨RX7, "turn", "(I)I"⟩
abbrev cX7_granted : ByteArray := prog_1_method_42_code
def yX7_granted : MethodName := ⟨RX7, "granted", "(I)I"⟩
abbrev cX7_movable : ByteArray := prog_1_method_43_code
def yX7_movable : MethodName := ⟨RX7, "movable", "(I)I"⟩
abbrev cX7_partners : ByteArray := prog_1_method_44_code
def yX7_partners : MethodName := ⟨RX7, "partners", "(I)I"⟩
abbrev cX7_miss : ByteArray := prog_1_method_45_code
def yX7_miss : MethodName := ⟨RX7, "miss", "(II)I"⟩
abbrev cX7_excuse : ByteArray := prog_1_method_46_code
def yX7_excuse : MethodName := ⟨RX7, "excuse", "(II)I"⟩
abbrev cX7_fly : ByteArray := prog_1_method_47_code
def yX7_fly : MethodName := ⟨RX7, "fly", "(II)I"⟩
abbrev cX7_back : ByteArray := prog_1_method_48_code
def yX7_back : MethodName := ⟨RX7, "back", "(II)I"⟩
abbrev cX7_gives : ByteArray := prog_1_method_49_code
def yX7_gives : MethodName := ⟨RX7, "gives", "(II)I"⟩
abbrev cX7_tick : ByteArray := prog_1_method_50_code
def yX7_tick : MethodName := ⟨RX7, "tick", "()I"⟩
abbrev cX7_pool : ByteArray := prog_1_method_51_code
def yX7_pool : MethodName := ⟨RX7, "pool", "()I"⟩
abbrev cX7_retime : ByteArray := prog_1_method_52_code
def yX7_retime : MethodName := ⟨RX7, "retime", "(II)I"⟩
abbrev cX7_swap : ByteArray := prog_1_method_53_code
def yX7_swap : MethodName := ⟨RX7, "swap", "(II)I"⟩
abbrev cX7_hand : ByteArray := prog_1_method_54_code
def yX7_hand : MethodName := ⟨RX7, "hand", "(II)I"⟩
abbrev cX7_limit : ByteArray := prog_1_method_55_code
def yX7_limit : MethodName := ⟨RX7, "limit", "(III)I"⟩
abbrev cX7_ask : ByteArray := prog_1_method_56_code
def yX7_ask : MethodName := ⟨RX7, "ask", "(IIIII)I"⟩
abbrev cX7_drop : ByteArray := prog_1_method_57_code
def yX7_drop : MethodName := ⟨RX7, "drop", "(I)I"⟩
abbrev cX7_ends : ByteArray := prog_1_method_58_code
def yX7_ends : MethodName := ⟨RX7, "ends", "()I"⟩
abbrev cX7_undo : ByteArray := prog_1_method_59_code
def yX7_undo : MethodName := ⟨RX7, "undo", "()I"⟩
abbrev cX7_tell : ByteArray := prog_1_method_60_code
def yX7_tell : MethodName := ⟨RX7, "tell", "()I"⟩
abbrev cX7_octet : ByteArray := prog_1_method_61_code
def yX7_octet : MethodName := ⟨RX7, "octet", "(I)I"⟩
abbrev cX7_putOnTape : ByteArray := prog_1_method_62_code
def yX7_putOnTape : MethodName := ⟨RX7, "putOnTape", "(I)V"⟩
abbrev cX7_hasText : ByteArray := prog_1_method_63_code
def yX7_hasText : MethodName := ⟨RX7, "hasText", "()Z"⟩
abbrev cX7_isSeries : ByteArray := prog_1_method_64_code
def yX7_isSeries : MethodName := ⟨RX7, "isSeries", "(I)Z"⟩
abbrev cX7_isAsk : ByteArray := prog_1_method_65_code
def yX7_isAsk : MethodName := ⟨RX7, "isAsk", "(I)Z"⟩
abbrev cX7_isCarrier : ByteArray := prog_1_method_66_code
def yX7_isCarrier : MethodName := ⟨RX7, "isCarrier", "(I)Z"⟩
abbrev cX7_isWeek : ByteArray := prog_1_method_67_code
def yX7_isWeek : MethodName := ⟨RX7, "isWeek", "(I)Z"⟩
abbrev cX7_isDay : ByteArray := prog_1_method_68_code
def yX7_isDay : MethodName := ⟨RX7, "isDay", "(I)Z"⟩
abbrev cX7_isHour : ByteArray := prog_1_method_69_code
def yX7_isHour : MethodName := ⟨RX7, "isHour", "(I)Z"⟩
abbrev cX7_isCell : ByteArray := prog_1_method_70_code
def yX7_isCell : MethodName := ⟨RX7, "isCell", "(III)Z"⟩
abbrev cX7_remember : ByteArray := prog_1_method_71_code
def yX7_remember : MethodName := ⟨RX7, "remember", "()V"⟩
abbrev cX7_usesMore : ByteArray := prog_1_method_72_code
def yX7_usesMore : MethodName := ⟨RX7, "usesMore", "(II)Z"⟩
abbrev cX7_departuresBehind : ByteArray := prog_1_method_73_code
def yX7_departuresBehind : MethodName := ⟨RX7, "departuresBehind", "(LSlotSeries$Series;I)I"⟩
abbrev cX7_canRetime : ByteArray := prog_1_method_74_code
def yX7_canRetime : MethodName := ⟨RX7, "canRetime", "(II)Z"⟩
abbrev cX7_whySwapFails : ByteArray := prog_1_method_75_code
def yX7_whySwapFails : MethodName := ⟨RX7, "whySwapFails", "(II)I"⟩
abbrev cX7_isWithin : ByteArray := prog_1_method_76_code
def yX7_isWithin : MethodName := ⟨RX7, "isWithin", "(III)Z"⟩
abbrev cX7_isWay : ByteArray := prog_1_method_77_code
def yX7_isWay : MethodName := ⟨RX7, "isWay", "(I)Z"⟩
abbrev cX7_isState : ByteArray := prog_1_method_78_code
def yX7_isState : MethodName := ⟨RX7, "isState", "(I)Z"⟩
abbrev cX7_isLetter : ByteArray := prog_1_method_79_code
def yX7_isLetter : MethodName := ⟨RX7, "isLetter", "(I)Z"⟩
abbrev cX7_isDigit : ByteArray := prog_1_method_80_code
def yX7_isDigit : MethodName := ⟨RX7, "isDigit", "(I)Z"⟩
abbrev cX7_hasBit : ByteArray := prog_1_method_81_code
def yX7_hasBit : MethodName := ⟨RX7, "hasBit", "(II)Z"⟩
abbrev cX7_spanBits : ByteArray := prog_1_method_82_code
def yX7_spanBits : MethodName := ⟨RX7, "spanBits", "(II)I"⟩
abbrev cX7_bitsFrom : ByteArray := prog_1_method_83_code
def yX7_bitsFrom : MethodName := ⟨RX7, "bitsFrom", "(I)I"⟩
def RX8 : String := "SlotSeriesModel"
def TX8 : u_T := fun k => match k with
  | 0 => ("SlotSeriesModel", "thrown", "I", false)
  | 1 => ("SlotSeriesModel", "told", "[I", true)
  | 2 => ("SlotSeriesModel", "played", "[I", true)
  | 3 => ("SlotSeriesModel", "now", "[I", false)
  | 4 => ("SlotSeriesModel", "tape", "[B", true)
  | 5 => ("SlotSeriesModel", "taped", "I", false)
  | 6 => ("SlotSeriesModel", "size", "I", false)
  | 7 => ("SlotSeriesModel", "at", "I", false)
  | 8 => ("SlotSeriesModel", "from", "I", false)
  | 9 => ("SlotSeriesModel", "token", "I", false)
  | 10 => ("SlotSeriesModel", "value", "I", false)
  | 11 => ("SlotSeriesModel", "faultKind", "I", false)
  | 12 => ("SlotSeriesModel", "faultPlace", "I", false)
  | 13 => ("SlotSeriesModel", "limitsTold", "I", false)
  | 14 => ("SlotSeriesModel", "wasSeries", "Z", false)
  | 15 => ("SlotSeriesModel", "readOne", "[I", true)
  | 16 => ("SlotSeriesModel", "turnOf", "[I", true)
  | 17 => ("SlotSeriesModel", "hourOf", "[I", true)
  | 18 => ("SlotSeriesModel", "looks", "I", false)
  | 19 => ("SlotSeriesModel", "acts", "I", false)
  | 20 => ("SlotSeriesModel", "were", "[I", true)
  | 21 => ("SlotSeriesModel", "out", "[B", true)
  | _ => ("SlotSeriesModel", "outMany", "I", false)
def tyX8 : Nat → FieldType := fun k => match k with
  | 0 => .int
  | 1 => .array .int
  | 2 => .array .int
  | 3 => .array .int
  | 4 => .array .byte
  | 5 => .int
  | 6 => .int
  | 7 => .int
  | 8 => .int
  | 9 => .int
  | 10 => .int
  | 11 => .int
  | 12 => .int
  | 13 => .int
  | 14 => .boolean
  | 15 => .array .int
  | 16 => .array .int
  | 17 => .array .int
  | 18 => .int
  | 19 => .int
  | 20 => .array .int
  | 21 => .array .byte
  | _ => .int
theorem nmX8 : ∀ a, a < 23 → ∀ b, b < 23 → a ≠ b → (TX8 a).2.1 ≠ (TX8 b).2.1 := by decide +kernel
theorem tyX8_ok : ∀ k, k < 23 → parseFieldDescriptor (TX8 k).2.2.1 = some (tyX8 k) := by decide +kernel
abbrev cX8_init : ByteArray := prog_10_method_1_code
def yX8_init : MethodName := ⟨RX8, "<init>", "()V"⟩
abbrev cX8_in : ByteArray := prog_10_method_3_code
def yX8_in : MethodName := ⟨RX8, "in", "(JJJ)Z"⟩
abbrev cX8_has : ByteArray := prog_10_method_4_code
def yX8_has : MethodName := ⟨RX8, "has", "(II)Z"⟩
abbrev cX8_bits : ByteArray := prog_10_method_5_code
def yX8_bits : MethodName := ⟨RX8, "bits", "(I)I"⟩
abbrev cX8_isThere : ByteArray := prog_10_method_6_code
def yX8_isThere : MethodName := ⟨RX8, "isThere", "()Z"⟩
abbrev cX8_one : ByteArray := prog_10_method_7_code
def yX8_one : MethodName := ⟨RX8, "one", "(II)I"⟩
abbrev cX8_lays : ByteArray := prog_10_method_8_code
def yX8_lays : MethodName := ⟨RX8, "lays", "(III)V"⟩
abbrev cX8_ask0 : ByteArray := prog_10_method_9_code
def yX8_ask0 : MethodName := ⟨RX8, "ask0", "(II)I"⟩
abbrev cX8_isSeries : ByteArray := prog_10_method_10_code
def yX8_isSeries : MethodName := ⟨RX8, "isSeries", "(I)Z"⟩
abbrev cX8_isAsk : ByteArray := prog_10_method_11_code
def yX8_isAsk : MethodName := ⟨RX8, "isAsk", "(I)Z"⟩
abbrev cX8_isCarrier : ByteArray := prog_10_method_12_code
def yX8_isCarrier : MethodName := ⟨RX8, "isCarrier", "(I)Z"⟩
abbrev cX8_isWeek : ByteArray := prog_10_method_13_code
def yX8_isWeek : MethodName := ⟨RX8, "isWeek", "(I)Z"⟩
abbrev cX8_isDay : ByteArray := prog_10_method_14_code
def yX8_isDay : MethodName := ⟨RX8, "isDay", "(I)Z"⟩
abbrev cX8_isHour : ByteArray := prog_10_method_15_code
def yX8_isHour : MethodName := ⟨RX8, "isHour", "(I)Z"⟩
abbrev cX8_isPlace : ByteArray := prog_10_method_16_code
def yX8_isPlace : MethodName := ⟨RX8, "isPlace", "(III)Z"⟩
abbrev cX8_basisOf : ByteArray := prog_10_method_17_code
def yX8_basisOf : MethodName := ⟨RX8, "basisOf", "(I)I"⟩
abbrev cX8_loadBut : ByteArray := prog_10_method_18_code
def yX8_loadBut : MethodName := ⟨RX8, "loadBut", "(IIIII)I"⟩
abbrev cX8_span : ByteArray := prog_10_method_19_code
def yX8_span : MethodName := ⟨RX8, "span", "(II)I"⟩
abbrev cX8_fromNow : ByteArray := prog_10_method_20_code
def yX8_fromNow : MethodName := ⟨RX8, "fromNow", "()I"⟩
abbrev cX8_canBe : ByteArray := prog_10_method_21_code
def yX8_canBe : MethodName := ⟨RX8, "canBe", "(IIIII)Z"⟩
abbrev cX8_canBeAt : ByteArray := prog_10_method_22_code
def yX8_canBeAt : MethodName := ⟨RX8, "canBeAt", "(II)Z"⟩
abbrev cX8_puts4 : ByteArray := prog_10_method_23_code
def yX8_puts4 : MethodName := ⟨RX8, "puts4", "(I)V"⟩
abbrev cX8_feed : ByteArray := prog_10_method_24_code
def yX8_feed : MethodName := ⟨RX8, "feed", "(IIIII)I"⟩
abbrev cX8_end : ByteArray := prog_10_method_25_code
def yX8_end : MethodName := ⟨RX8, "end", "(I)I"⟩
abbrev cX8_good : ByteArray := prog_10_method_26_code
def yX8_good : MethodName := ⟨RX8, "good", "()Z"⟩
abbrev cX8_errs : ByteArray := prog_10_method_27_code
def yX8_errs : MethodName := ⟨RX8, "errs", "(II)V"⟩
abbrev cX8_see : ByteArray := prog_10_method_28_code
def yX8_see : MethodName := ⟨RX8, "see", "(I)I"⟩
abbrev cX8_advance : ByteArray := prog_10_method_29_code
def yX8_advance : MethodName := ⟨RX8, "advance", "()V"⟩
abbrev cX8_isWord : ByteArray := prog_10_method_30_code
def yX8_isWord : MethodName := ⟨RX8, "isWord", "(Ljava/lang/String;)Z"⟩
abbrev cX8_eats : ByteArray := prog_10_method_31_code
def yX8_eats : MethodName := ⟨RX8, "eats", "(Ljava/lang/String;)Z"⟩
abbrev cX8_passes : ByteArray := prog_10_method_32_code
def yX8_passes : MethodName := ⟨RX8, "passes", "(Ljava/lang/String;)V"⟩
abbrev cX8_isByte : ByteArray := prog_10_method_33_code
def yX8_isByte : MethodName := ⟨RX8, "isByte", "(I)Z"⟩
abbrev cX8_passesByte : ByteArray := prog_10_method_34_code
def yX8_passesByte : MethodName := ⟨RX8, "passesByte", "(I)V"⟩
abbrev cX8_number : ByteArray := prog_10_method_35_code
def yX8_number : MethodName := ⟨RX8, "number", "(II)I"⟩
abbrev cX8_dayOf : ByteArray := prog_10_method_36_code
def yX8_dayOf : MethodName := ⟨RX8, "dayOf", "(I)Ljava/lang/String;"⟩
abbrev cX8_dayHere : ByteArray := prog_10_method_37_code
def yX8_dayHere : MethodName := ⟨RX8, "dayHere", "()I"⟩
abbrev cX8_isOwn : ByteArray := prog_10_method_38_code
def yX8_isOwn : MethodName := ⟨RX8, "isOwn", "()Z"⟩
abbrev cX8_packed : ByteArray := prog_10_method_39_code
def yX8_packed : MethodName := ⟨RX8, "packed", "(II)I"⟩
abbrev cX8_nameHere : ByteArray := prog_10_method_40_code
def yX8_nameHere : MethodName := ⟨RX8, "nameHere", "()I"⟩
abbrev cX8_findName : ByteArray := prog_10_method_41_code
def yX8_findName : MethodName := ⟨RX8, "findName", "(I)I"⟩
abbrev cX8_readLimit : ByteArray := prog_10_method_42_code
def yX8_readLimit : MethodName := ⟨RX8, "readLimit", "()V"⟩
abbrev cX8_readCarrier : ByteArray := prog_10_method_43_code
def yX8_readCarrier : MethodName := ⟨RX8, "readCarrier", "()V"⟩
abbrev cX8_readCommon : ByteArray := prog_10_method_44_code
def yX8_readCommon : MethodName := ⟨RX8, "readCommon", "()V"⟩
abbrev cX8_addsSeries : ByteArray := prog_10_method_45_code
def yX8_addsSeries : MethodName := ⟨RX8, "addsSeries", "(IIIZ)V"⟩
abbrev cX8_readSeries : ByteArray := prog_10_method_46_code
def yX8_readSeries : MethodName := ⟨RX8, "readSeries", "()V"⟩
abbrev cX8_addsAsk : ByteArray := prog_10_method_47_code
def yX8_addsAsk : MethodName := ⟨RX8, "addsAsk", "()V"⟩
abbrev cX8_readAsk : ByteArray := prog_10_method_48_code
def yX8_readAsk : MethodName := ⟨RX8, "readAsk", "()V"⟩
abbrev cX8_readLine : ByteArray := prog_10_method_49_code
def yX8_readLine : MethodName := ⟨RX8, "readLine", "()V"⟩
abbrev cX8_readAll : ByteArray := prog_10_method_50_code
def yX8_readAll : MethodName := ⟨RX8, "readAll", "()I"⟩
abbrev cX8_text : ByteArray := prog_10_method_51_code
def yX8_text : MethodName := ⟨RX8, "text", "()I"⟩
abbrev cX8_fault : ByteArray := prog_10_method_52_code
def yX8_fault : MethodName := ⟨RX8, "fault", "(I)I"⟩
abbrev cX8_count : ByteArray := prog_10_method_53_code
def yX8_count : MethodName := ⟨RX8, "count", "(I)I"⟩
abbrev cX8_letterOf : ByteArray := prog_10_method_54_code
def yX8_letterOf : MethodName := ⟨RX8, "letterOf", "(II)I"⟩
abbrev cX8_letter : ByteArray := prog_10_method_55_code
def yX8_letter : MethodName := ⟨RX8, "letter", "(II)I"⟩
abbrev cX8_find : ByteArray := prog_10_method_56_code
def yX8_find : MethodName := ⟨RX8, "find", "()I"⟩
abbrev cX8_series : ByteArray := prog_10_method_57_code
def yX8_series : MethodName := ⟨RX8, "series", "(II)I"⟩
abbrev cX8_weeks : ByteArray := prog_10_method_58_code
def yX8_weeks : MethodName := ⟨RX8, "weeks", "(II)I"⟩
abbrev cX8_stateOf : ByteArray := prog_10_method_59_code
def yX8_stateOf : MethodName := ⟨RX8, "stateOf", "(II)I"⟩
abbrev cX8_week : ByteArray := prog_10_method_60_code
def yX8_week : MethodName := ⟨RX8, "week", "(II)I"⟩
abbrev cX8_asked : ByteArray := prog_10_method_61_code
def yX8_asked : MethodName := ⟨RX8, "asked", "(II)I"⟩
abbrev cX8_limitOf : ByteArray := prog_10_method_62_code
def yX8_limitOf : MethodName := ⟨RX8, "limitOf", "(II)I"⟩
abbrev cX8_load : ByteArray := prog_10_method_63_code
def yX8_load : MethodName := ⟨RX8, "load", "(IIII)I"⟩
abbrev cX8_at : ByteArray := prog_10_method_64_code
def yX8_at : MethodName := ⟨RX8, "at", "(IIII)I"⟩
abbrev cX8_room : ByteArray := prog_10_method_65_code
def yX8_room : MethodName := ⟨RX8, "room", "(IIII)I"⟩
abbrev cX8_goodOf : ByteArray := prog_10_method_66_code
def yX8_goodOf : MethodName := ⟨RX8, "goodOf", "(I)I"⟩
abbrev cX8_use : ByteArray := prog_10_method_67_code
def yX8_use : MethodName := ⟨RX8, "use", "(II)I"⟩
abbrev cX8_isKept : ByteArray := prog_10_method_68_code
def yX8_isKept : MethodName := ⟨RX8, "isKept", "(II)Z"⟩
abbrev cX8_standsOf : ByteArray := prog_10_method_69_code
def yX8_standsOf : MethodName := ⟨RX8, "standsOf", "(I)I"⟩
abbrev cX8_stands : ByteArray := prog_10_method_70_code
def yX8_stands : MethodName := ⟨RX8, "stands", "(I)I"⟩
abbrev cX8_spareOf : ByteArray := prog_10_method_71_code
def yX8_spareOf : MethodName := ⟨RX8, "spareOf", "(I)I"⟩
abbrev cX8_spare : ByteArray := prog_10_method_72_code
def yX8_spare : MethodName := ⟨RX8, "spare", "(I)I"⟩
abbrev cX8_rate : ByteArray := prog_10_method_73_code
def yX8_rate : MethodName := ⟨RX8, "rate", "(I)I"⟩
abbrev cX8_longest : ByteArray := prog_10_method_74_code
def yX8_longest : MethodName := ⟨RX8, "longest", "(I)I"⟩
abbrev cX8_of : ByteArray := prog_10_method_75_code
def yX8_of : MethodName := ⟨RX8, "of", "(II)I"⟩
abbrev cX8_isEntrant : ByteArray := prog_10_method_76_code
def yX8_isEntrant : MethodName := ⟨RX8, "isEntrant", "(II)Z"⟩
abbrev cX8_entrant : ByteArray := prog_10_method_77_code
def yX8_entrant : MethodName := ⟨RX8, "entrant", "(II)I"⟩
abbrev cX8_sum : ByteArray := prog_10_method_78_code
def yX8_sum : MethodName := ⟨RX8, "sum", "(II)I"⟩
abbrev cX8_allOf : ByteArray := prog_10_method_79_code
def yX8_allOf : MethodName := ⟨RX8, "allOf", "(IZ)I"⟩
abbrev cX8_isBetter : ByteArray := prog_10_method_80_code
def yX8_isBetter : MethodName := ⟨RX8, "isBetter", "(II)Z"⟩
abbrev cX8_best : ByteArray := prog_10_method_81_code
def yX8_best : MethodName := ⟨RX8, "best", "(I)I"⟩
abbrev cX8_basisOn : ByteArray := prog_10_method_82_code
def yX8_basisOn : MethodName := ⟨RX8, "basisOn", "(II)I"⟩
abbrev cX8_most : ByteArray := prog_10_method_83_code
def yX8_most : MethodName := ⟨RX8, "most", "(II)I"⟩
abbrev cX8_peak : ByteArray := prog_10_method_84_code
def yX8_peak : MethodName := ⟨RX8, "peak", "(I)I"⟩
abbrev cX8_full : ByteArray := prog_10_method_85_code
def yX8_full : MethodName := ⟨RX8, "full", "(I)I"⟩
abbrev cX8_idle : ByteArray := prog_10_method_86_code
def yX8_idle : MethodName := ⟨RX8, "idle", "(I)I"⟩
abbrev cX8_fitting : ByteArray := prog_10_method_87_code
def yX8_fitting : MethodName := ⟨RX8, "fitting", "(IIII)I"⟩
abbrev cX8_weeksOf : ByteArray := prog_10_method_88_code
def yX8_weeksOf : MethodName := ⟨RX8, "weeksOf", "(I)I"⟩
abbrev cX8_canAsk : ByteArray := prog_10_method_89_code
def yX8_canAsk : MethodName := ⟨RX8, "canAsk", "(III)Z"⟩
abbrev cX8_fits : ByteArray := prog_10_method_90_code
def yX8_fits : MethodName := ⟨RX8, "fits", "(I)I"⟩
abbrev cX8_hourFor : ByteArray := prog_10_method_91_code
def yX8_hourFor : MethodName := ⟨RX8, "hourFor", "(I)I"⟩
abbrev cX8_where : ByteArray := prog_10_method_92_code
def yX8_where : MethodName := ⟨RX8, "where", "(I)I"⟩
abbrev cX8_blocked : ByteArray := prog_10_method_93_code
def yX8_blocked : MethodName := ⟨RX8, "blocked", "(I)I"⟩
abbrev cX8_clash : ByteArray := prog_10_method_94_code
def yX8_clash : MethodName := ⟨RX8, "clash", "(II)I"⟩
abbrev cX8_common : ByteArray := prog_10_method_95_code
def yX8_common : MethodName := ⟨RX8, "common", "(II)I"⟩
abbrev cX8_pairs : ByteArray := prog_10_method_96_code
def yX8_pairs : MethodName := ⟨RX8, "pairs", "(III)I"⟩
abbrev cX8_kept : ByteArray := prog_10_method_97_code
def yX8_kept : MethodName := ⟨RX8, "kept", "(I)I"⟩
abbrev cX8_chosen : ByteArray := prog_10_method_98_code
def yX8_chosen : MethodName := ⟨RX8, "chosen", "(Z)I"⟩
abbrev cX8_begins : ByteArray := prog_10_method_99_code
def yX8_begins : MethodName := ⟨RX8, "begins", "()V"⟩
abbrev cX8_grants : ByteArray := prog_10_method_100_code
def yX8_grants : MethodName := ⟨RX8, "grants", "(II)V"⟩
abbrev cX8_plays : ByteArray := prog_10_method_101_code
def yX8_plays : MethodName := ⟨RX8, "plays", "()I"⟩
abbrev cX8_copies : ByteArray := prog_10_method_102_code
def yX8_copies : MethodName := ⟨RX8, "copies", "()V"⟩
abbrev cX8_playsAside : ByteArray := prog_10_method_103_code
def yX8_playsAside : MethodName := ⟨RX8, "playsAside", "(I)I"⟩
abbrev cX8_first : ByteArray := prog_10_method_104_code
def yX8_first : MethodName := ⟨RX8, "first", "()I"⟩
abbrev cX8_would : ByteArray := prog_10_method_105_code
def yX8_would : MethodName := ⟨RX8, "would", "()I"⟩
abbrev cX8_helps : ByteArray := prog_10_method_106_code
def yX8_helps : MethodName := ⟨RX8, "helps", "(I)I"⟩
abbrev cX8_turn : ByteArray := prog_10_method_107_code
def yX8_turn : MethodName := ⟨RX8, "turn", "(I)I"⟩
abbrev cX8_granted : ByteArray := prog_10_method_108_code
def yX8_granted : MethodName := ⟨RX8, "granted", "(I)I"⟩
abbrev cX8_movable : ByteArray := prog_10_method_109_code
def yX8_movable : MethodName := ⟨RX8, "movable", "(I)I"⟩
abbrev cX8_canRetime : ByteArray := prog_10_method_110_code
def yX8_canRetime : MethodName := ⟨RX8, "canRetime", "(II)Z"⟩
abbrev cX8_keeps : ByteArray := prog_10_method_111_code
def yX8_keeps : MethodName := ⟨RX8, "keeps", "()V"⟩
abbrev cX8_undo : ByteArray := prog_10_method_112_code
def yX8_undo : MethodName := ⟨RX8, "undo", "()I"⟩
abbrev cX8_goes : ByteArray := prog_10_method_113_code
def yX8_goes : MethodName := ⟨RX8, "goes", "(IIII)V"⟩
abbrev cX8_isComing : ByteArray := prog_10_method_114_code
def yX8_isComing : MethodName := ⟨RX8, "isComing", "(I)Z"⟩
abbrev cX8_miss : ByteArray := prog_10_method_115_code
def yX8_miss : MethodName := ⟨RX8, "miss", "(II)I"⟩
abbrev cX8_excuse : ByteArray := prog_10_method_116_code
def yX8_excuse : MethodName := ⟨RX8, "excuse", "(II)I"⟩
abbrev cX8_fly : ByteArray := prog_10_method_117_code
def yX8_fly : MethodName := ⟨RX8, "fly", "(II)I"⟩
abbrev cX8_openFrom : ByteArray := prog_10_method_118_code
def yX8_openFrom : MethodName := ⟨RX8, "openFrom", "(II)I"⟩
abbrev cX8_back : ByteArray := prog_10_method_119_code
def yX8_back : MethodName := ⟨RX8, "back", "(II)I"⟩
abbrev cX8_gives : ByteArray := prog_10_method_120_code
def yX8_gives : MethodName := ⟨RX8, "gives", "(II)I"⟩
abbrev cX8_tick : ByteArray := prog_10_method_121_code
def yX8_tick : MethodName := ⟨RX8, "tick", "()I"⟩
abbrev cX8_pool : ByteArray := prog_10_method_122_code
def yX8_pool : MethodName := ⟨RX8, "pool", "()I"⟩
abbrev cX8_dropsAsk : ByteArray := prog_10_method_123_code
def yX8_dropsAsk : MethodName := ⟨RX8, "dropsAsk", "(I)V"⟩
abbrev cX8_retime : ByteArray := prog_10_method_124_code
def yX8_retime : MethodName := ⟨RX8, "retime", "(II)I"⟩
abbrev cX8_isNew : ByteArray := prog_10_method_125_code
def yX8_isNew : MethodName := ⟨RX8, "isNew", "(I)Z"⟩
abbrev cX8_changesOver : ByteArray := prog_10_method_126_code
def yX8_changesOver : MethodName := ⟨RX8, "changesOver", "(II)V"⟩
abbrev cX8_canSwap : ByteArray := prog_10_method_127_code
def yX8_canSwap : MethodName := ⟨RX8, "canSwap", "(II)Z"⟩
abbrev cX8_swap : ByteArray := prog_10_method_128_code
def yX8_swap : MethodName := ⟨RX8, "swap", "(II)I"⟩
abbrev cX8_partners : ByteArray := prog_10_method_129_code
def yX8_partners : MethodName := ⟨RX8, "partners", "(I)I"⟩
abbrev cX8_hand : ByteArray := prog_10_method_130_code
def yX8_hand : MethodName := ⟨RX8, "hand", "(II)I"⟩
abbrev cX8_isAbove : ByteArray := prog_10_method_131_code
def yX8_isAbove : MethodName := ⟨RX8, "isAbove", "(III)Z"⟩
abbrev cX8_limit : ByteArray := prog_10_method_132_code
def yX8_limit : MethodName := ⟨RX8, "limit", "(III)I"⟩
abbrev cX8_ask : ByteArray := prog_10_method_133_code
def yX8_ask : MethodName := ⟨RX8, "ask", "(IIIII)I"⟩
abbrev cX8_drop : ByteArray := prog_10_method_134_code
def yX8_drop : MethodName := ⟨RX8, "drop", "(I)I"⟩
abbrev cX8_stays : ByteArray := prog_10_method_135_code
def yX8_stays : MethodName := ⟨RX8, "stays", "(II)V"⟩
abbrev cX8_ends : ByteArray := prog_10_method_136_code
def yX8_ends : MethodName := ⟨RX8, "ends", "()I"⟩
abbrev cX8_says : ByteArray := prog_10_method_137_code
def yX8_says : MethodName := ⟨RX8, "says", "(I)V"⟩
abbrev cX8_saysText : ByteArray := prog_10_method_138_code
def yX8_saysText : MethodName := ⟨RX8, "saysText", "(Ljava/lang/String;)V"⟩
abbrev cX8_saysNumber : ByteArray := prog_10_method_139_code
def yX8_saysNumber : MethodName := ⟨RX8, "saysNumber", "(I)V"⟩
abbrev cX8_saysName : ByteArray := prog_10_method_140_code
def yX8_saysName : MethodName := ⟨RX8, "saysName", "(I)V"⟩
abbrev cX8_saysCommon : ByteArray := prog_10_method_141_code
def yX8_saysCommon : MethodName := ⟨RX8, "saysCommon", "(Ljava/lang/String;II)V"⟩
abbrev cX8_tell : ByteArray := prog_10_method_142_code
def yX8_tell : MethodName := ⟨RX8, "tell", "()I"⟩
abbrev cX8_octet : ByteArray := prog_10_method_143_code
def yX8_octet : MethodName := ⟨RX8, "octet", "(I)I"⟩
def RJ6 : String := "java/lang/Integer"
abbrev cJ6_bitCount_0f7a4 : ByteArray := prog_11_method_49_code
def yJ6_bitCount_0f7a4 : MethodName := ⟨RJ6, "bitCount", "(I)I"⟩
def RJ9 : String := "java/lang/Math"
abbrev cJ9_max_7cf53 : ByteArray := prog_12_method_65_code
def yJ9_max_7cf53 : MethodName := ⟨RJ9, "max", "(II)I"⟩
abbrev cJ9_min_7cf53 : ByteArray := prog_12_method_69_code
def yJ9_min_7cf53 : MethodName := ⟨RJ9, "min", "(II)I"⟩
def RJ0 : String := "java/lang/String"
abbrev cJ0_length_8abf5 : ByteArray := prog_13_method_54_code
def yJ0_length_8abf5 : MethodName := ⟨RJ0, "length", "()I"⟩
abbrev cJ0_charAt_5068e : ByteArray := prog_13_method_56_code
def yJ0_charAt_5068e : MethodName := ⟨RJ0, "charAt", "(I)C"⟩
abbrev cJ0_coder_7d493 : ByteArray := prog_13_method_152_code
def yJ0_coder_7d493 : MethodName := ⟨RJ0, "coder", "()B"⟩
abbrev cJ0_isLatin1_aae02 : ByteArray := prog_13_method_154_code
def yJ0_isLatin1_aae02 : MethodName := ⟨RJ0, "isLatin1", "()Z"⟩
abbrev cJ0_checkIndex_df160 : ByteArray := prog_13_method_155_code
def yJ0_checkIndex_df160 : MethodName := ⟨RJ0, "checkIndex", "(II)V"⟩
def RJ1 : String := "java/lang/StringLatin1"
abbrev cJ1_charAt_3b067 : ByteArray := prog_14_method_2_code
def yJ1_charAt_3b067 : MethodName := ⟨RJ1, "charAt", "([BI)C"⟩
def RJ2 : String := "java/lang/StringUTF16"
abbrev cJ2_getChar_3b067 : ByteArray := prog_15_method_5_code
def yJ2_getChar_3b067 : MethodName := ⟨RJ2, "getChar", "([BI)C"⟩
abbrev cJ2_length_9d52b : ByteArray := prog_15_method_6_code
def yJ2_length_9d52b : MethodName := ⟨RJ2, "length", "([B)I"⟩
abbrev cJ2_charAt_3b067 : ByteArray := prog_15_method_83_code
def yJ2_charAt_3b067 : MethodName := ⟨RJ2, "charAt", "([BI)C"⟩
abbrev cJ2_checkIndex_2214a : ByteArray := prog_15_method_91_code
def yJ2_checkIndex_2214a : MethodName := ⟨RJ2, "checkIndex", "(I[B)V"⟩
def RJ3 : String := "jdk/internal/util/Preconditions"
abbrev cJ3_checkIndex_8e157 : ByteArray := prog_16_method_11_code
def yJ3_checkIndex_8e157 : MethodName := ⟨RJ3, "checkIndex", "(IILjava/util/function/BiFunction;)I"⟩
def RL : String := "SlotSeriesLaw"
abbrev cL_law : ByteArray := code
def yL_law : MethodName := ⟨RL, "law", "([I)Z"⟩
abbrev vwCl : List vw_C := [(RX0, TX0, 7), (RX1, TX1, 2), (RX2, TX2, 5), (RX3, TX3, 18), (RX4, TX4, 10), (RX5, TX5, 12), (RX6, TX6, 2), (RX7, TX7, 11), (RX8, TX8, 23)]
end
section
/-! the pictured heap: n cells, the kind of each (number, length), whole numbers and references by cell and place -/
abbrev HP : Type := Nat × (Nat → Nat × Nat) × (Nat → Nat → Int32) × (Nat → Nat → Option Nat)
def kd (h : HP) (a : Nat) : Option (Nat × Nat) := if a < h.1 then some (h.2.1 a) else none
def rI (h : HP) (a k : Nat) : Int32 := h.2.2.1 a k
def rR (h : HP) (a k : Nat) : Option Nat := h.2.2.2 a k
def wI (h : HP) (a k : Nat) (v : Int32) : HP := (h.1, h.2.1, fun b j => if b = a ∧ j = k then v else h.2.2.1 b j, h.2.2.2)
def wR (h : HP) (a k : Nat) (v : Option Nat) : HP := (h.1, h.2.1, h.2.2.1, fun b j => if b = a ∧ j = k then v else h.2.2.2 b j)
theorem kd_wI (h : HP) (a k : Nat) (v : Int32) (b : Nat) : kd (wI h a k v) b = kd h b := rfl
theorem kd_wR (h : HP) (a k : Nat) (v : Option Nat) (b : Nat) : kd (wR h a k v) b = kd h b := rfl
theorem rI_wI (h : HP) (a k : Nat) (v : Int32) (b j : Nat) : rI (wI h a k v) b j = if b = a ∧ j = k then v else rI h b j := rfl
theorem rR_wI (h : HP) (a k : Nat) (v : Int32) (b j : Nat) : rR (wI h a k v) b j = rR h b j := rfl
theorem rI_wR (h : HP) (a k : Nat) (v : Option Nat) (b j : Nat) : rI (wR h a k v) b j = rI h b j := rfl
theorem rR_wR (h : HP) (a k : Nat) (v : Option Nat) (b j : Nat) : rR (wR h a k v) b j = if b = a ∧ j = k then v else rR h b j := rfl
theorem kd_lt {h : HP} {a : Nat} {q : Nat × Nat} (e : kd h a = some q) : a < h.1 ∧ h.2.1 a = q := by
  unfold kd at e
  by_cases hl : a < h.1
  · rw [if_pos hl] at e
    exact ⟨hl, Option.some.inj e⟩
  · rw [if_neg hl] at e
    cases e
/-! kinds: 0 .. 8 the kinds of objects by vwCl, 20 int rows, 21 byte rows, 22 .. 24 rows of references -/
def mNF (ci : Nat) : Nat := match ci with
  | 0 => 7
  | 1 => 2
  | 2 => 5
  | 3 => 18
  | 4 => 10
  | 5 => 12
  | 6 => 2
  | 7 => 11
  | _ => 23
def mTy (ci : Nat) : Nat → FieldType := match ci with
  | 0 => tyX0
  | 1 => tyX1
  | 2 => tyX2
  | 3 => tyX3
  | 4 => tyX4
  | 5 => tyX5
  | 6 => tyX6
  | 7 => tyX7
  | _ => tyX8
def mIs (t : FieldType) : Bool := match t with
  | .object _ => false
  | .array _ => false
  | _ => true
def mAty (k : Nat) : FieldType := match k with
  | 20 => .int
  | 21 => .byte
  | 22 => .object RX4
  | 23 => .object RX5
  | _ => .object RX0
def mfv (ad : Nat → Nat) (h : HP) (ci a k : Nat) : Value := if mIs (mTy ci k) = true then .int (rI h a k) else va_rf ((rR h a k).map ad)
def mEnt (ad : Nat → Nat) (ca : Nat → ClassId) (h : HP) (a : Nat) : va_E :=
  if (h.2.1 a).1 < 9 then .inr ((h.2.1 a).1, (List.range (mNF (h.2.1 a).1)).map (mfv ad h (h.2.1 a).1 a))
  else if (h.2.1 a).1 < 22 then .inl (ca a, (h.2.1 a).2, .inl (rI h a))
  else .inl (ca a, (h.2.1 a).2, .inr (.inr (.inr (.inr (fun k => (rR h a k).map ad)))))
def mWl (ad : Nat → Nat) (ca : Nat → ClassId) (h : HP) : va_W := (List.range h.1).map (fun a => (ad a, mEnt ad ca h a))
theorem mWl_at {ad : Nat → Nat} {ca : Nat → ClassId} {h : HP} {a : Nat} (hl : a < h.1) : (mWl ad ca h)[a]? = some (ad a, mEnt ad ca h a) := by
  simp [mWl, hl]
theorem mWl_len {ad : Nat → Nat} {ca : Nat → ClassId} {h : HP} : (mWl ad ca h).length = h.1 := by simp [mWl]
theorem mWl_of {ad : Nat → Nat} {ca : Nat → ClassId} {h : HP} {k : Nat} {q : Nat × va_E} (hk : (mWl ad ca h)[k]? = some q) : k < h.1 ∧ q = (ad k, mEnt ad ca h k) := by
  have hl : k < h.1 := by
    have := (List.getElem?_eq_some_iff.mp hk).1
    rwa [mWl_len] at this
  exact ⟨hl, Option.some.inj (hk.symm.trans (mWl_at hl))⟩
theorem mEnt_obj {ad : Nat → Nat} {ca : Nat → ClassId} {h : HP} {a ci n : Nat} (e : kd h a = some (ci, n)) (hc : ci < 9) : mEnt ad ca h a = .inr (ci, (List.range (mNF ci)).map (mfv ad h ci a)) := by
  obtain ⟨-, e2⟩ := kd_lt e
  unfold mEnt
  rw [e2, if_pos hc]
theorem mEnt_int {ad : Nat → Nat} {ca : Nat → ClassId} {h : HP} {a ci n : Nat} (e : kd h a = some (ci, n)) (h1 : ¬ ci < 9) (h2 : ci < 22) : mEnt ad ca h a = .inl (ca a, n, .inl (rI h a)) := by
  obtain ⟨-, e2⟩ := kd_lt e
  unfold mEnt
  rw [e2, if_neg h1, if_pos h2]
theorem mEnt_ref {ad : Nat → Nat} {ca : Nat → ClassId} {h : HP} {a ci n : Nat} (e : kd h a = some (ci, n)) (h1 : ¬ ci < 22) : mEnt ad ca h a = .inl (ca a, n, .inr (.inr (.inr (.inr (fun k => (rR h a k).map ad))))) := by
  obtain ⟨-, e2⟩ := kd_lt e
  unfold mEnt
  rw [e2, if_neg (show ¬ ci < 9 by omega), if_neg h1]
theorem mEnt_wI {ad : Nat → Nat} {ca : Nat → ClassId} {h : HP} {a b k : Nat} {v : Int32} (hb : b ≠ a) : mEnt ad ca (wI h a k v) b = mEnt ad ca h b := by
  have e1 : rI (wI h a k v) b = rI h b := by funext j; rw [rI_wI, if_neg (fun q => hb q.1)]
  have e2 : rR (wI h a k v) b = rR h b := rfl
  have e3 : ∀ ci, mfv ad (wI h a k v) ci b = mfv ad h ci b := fun ci => by funext j; unfold mfv; rw [e1, e2]
  unfold mEnt
  rw [e1, e3]
  rfl
theorem mEnt_wR {ad : Nat → Nat} {ca : Nat → ClassId} {h : HP} {a b k : Nat} {v : Option Nat} (hb : b ≠ a) : mEnt ad ca (wR h a k v) b = mEnt ad ca h b := by
  have e1 : rI (wR h a k v) b = rI h b := rfl
  have e2 : rR (wR h a k v) b = rR h b := by funext j; rw [rR_wR, if_neg (fun q => hb q.1)]
  have e3 : ∀ ci, mfv ad (wR h a k v) ci b = mfv ad h ci b := fun ci => by funext j; unfold mfv; rw [e1, e2]
  unfold mEnt
  rw [e2, e3]
  rfl
theorem mWl_set {ad : Nat → Nat} {ca : Nat → ClassId} {h h' : HP} {a : Nat} {e : va_E} (hn : h'.1 = h.1) (hl : a < h.1) (h1 : mEnt ad ca h' a = e) (h2 : ∀ b, b ≠ a → mEnt ad ca h' b = mEnt ad ca h b) : mWl ad ca h' = (mWl ad ca h).set a (ad a, e) := by
  apply List.ext_getElem?
  intro j
  by_cases hj : j = a
  · subst hj
    rw [mWl_at (by rw [hn]; exact hl), h1, List.getElem?_set_self (by rw [mWl_len]; exact hl)]
  · rw [List.getElem?_set_ne (fun q => hj q.symm)]
    by_cases hlj : j < h.1
    · rw [mWl_at (by rw [hn]; exact hlj), mWl_at hlj, h2 j hj]
    · rw [List.getElem?_eq_none (by rw [mWl_len, hn]; omega), List.getElem?_eq_none (by rw [mWl_len]; omega)]
theorem mWl_obj {ad : Nat → Nat} {ca : Nat → ClassId} {h : HP} {a ci n k : Nat} {v : Int32} (e : kd h a = some (ci, n)) (hc : ci < 9) (hk : k < mNF ci) (hi : mIs (mTy ci k) = true) : mWl ad ca (wI h a k v) = (mWl ad ca h).set a (ad a, .inr (ci, ((List.range (mNF ci)).map (mfv ad h ci a)).set k (.int v))) := by
  refine mWl_set rfl (kd_lt e).1 ?_ (fun b hb => mEnt_wI hb)
  rw [mEnt_obj ((kd_wI h a k v a).trans e) hc]
  congr 2
  apply List.ext_getElem?
  intro j
  by_cases hj : j = k
  · subst hj
    rw [List.getElem?_set_self (by simpa using hk)]
    simp [hk, mfv, hi, rI_wI]
  · rw [List.getElem?_set_ne (fun q => hj q.symm)]
    by_cases hlj : j < mNF ci
    · simp [hlj, mfv, rI_wI, rR_wI, hj]
    · simp [hlj]
theorem mWl_objR {ad : Nat → Nat} {ca : Nat → ClassId} {h : HP} {a ci n k : Nat} {v : Option Nat} (e : kd h a = some (ci, n)) (hc : ci < 9) (hk : k < mNF ci) (hi : mIs (mTy ci k) = false) : mWl ad ca (wR h a k v) = (mWl ad ca h).set a (ad a, .inr (ci, ((List.range (mNF ci)).map (mfv ad h ci a)).set k (va_rf (v.map ad)))) := by
  refine mWl_set rfl (kd_lt e).1 ?_ (fun b hb => mEnt_wR hb)
  rw [mEnt_obj ((kd_wR h a k v a).trans e) hc]
  congr 2
  apply List.ext_getElem?
  intro j
  by_cases hj : j = k
  · subst hj
    rw [List.getElem?_set_self (by simpa using hk)]
    simp [hk, mfv, hi, rR_wR]
  · rw [List.getElem?_set_ne (fun q => hj q.symm)]
    by_cases hlj : j < mNF ci
    · simp [hlj, mfv, rI_wR, rR_wR, hj]
    · simp [hlj]
theorem mWl_arr {ad : Nat → Nat} {ca : Nat → ClassId} {h : HP} {a ci n k : Nat} {v : Int32} (e : kd h a = some (ci, n)) (h1 : ¬ ci < 9) (h2 : ci < 22) : mWl ad ca (wI h a k v) = (mWl ad ca h).set a (ad a, .inl (ca a, n, .inl (upd (rI h a) k v))) := by
  refine mWl_set rfl (kd_lt e).1 ?_ (fun b hb => mEnt_wI hb)
  rw [mEnt_int ((kd_wI h a k v a).trans e) h1 h2]
  congr 4
  funext j
  simp [rI_wI, upd]
theorem mWl_arrR {ad : Nat → Nat} {ca : Nat → ClassId} {h : HP} {a ci n k v : Nat} (e : kd h a = some (ci, n)) (h1 : ¬ ci < 22) : mWl ad ca (wR h a k (some v)) = (mWl ad ca h).set a (ad a, .inl (ca a, n, .inr (.inr (.inr (.inr (va_up (fun k => (rR h a k).map ad) k (some (ad v)))))))) := by
  refine mWl_set rfl (kd_lt e).1 ?_ (fun b hb => mEnt_wR hb)
  rw [mEnt_ref ((kd_wR h a k (some v) a).trans e) h1]
  congr 7
  funext j
  by_cases hj : j = k
  · simp [rR_wR, va_up, hj]
  · simp [rR_wR, va_up, hj]
/-! the picture of a machine's heap -/
def mRep (D : va_G) (A : Nat → Prop) (s : State) (ad : Nat → Nat) (h : HP) (H : Heap) : Prop := ∃ ca : Nat → ClassId, va_P D vwCl (mWl ad ca h) H ∧ va_D A (mWl ad ca h) ∧ ∀ a, a < h.1 → 9 ≤ (h.2.1 a).1 → ArrOfT s (ca a) (mAty (h.2.1 a).1) ∧ va_RA s (ca a) (mAty (h.2.1 a).1)
theorem mRep.moved {D : va_G} {A : Nat → Prop} {u U : State} {ad : Nat → Nat} {h : HP} {H : Heap} (hvm : u.vm.Alike U.vm) (r : mRep D A u ad h H) : mRep D A U ad h H := by
  obtain ⟨ca, h1, h2, h3⟩ := r
  exact ⟨ca, h1, h2, fun a q1 q2 => ⟨arrOfT_moved hvm (h3 a q1 q2).1, (h3 a q1 q2).2.moved hvm⟩⟩
theorem mRep.weaken {D : va_G} {A B : Nat → Prop} {s : State} {ad : Nat → Nat} {h : HP} {H : Heap} (r : mRep D A s ad h H) (hAB : ∀ q, A q → B q) : mRep D B s ad h H := by
  obtain ⟨ca, h1, h2, h3⟩ := r
  exact ⟨ca, h1, h2.weaken (fun _ _ _ q => hAB _ q), h3⟩
def mAH (ad : Nat → Nat) (h : HP) (sz : Nat) : Nat → Prop := fun q => (∃ a, a < h.1 ∧ q = ad a) ∨ sz ≤ q
theorem mRep.self {D : va_G} {A : Nat → Prop} {s : State} {ad : Nat → Nat} {h : HP} {H : Heap} (r : mRep D A s ad h H) (sz : Nat) : mRep D (mAH ad h sz) s ad h H := by
  obtain ⟨ca, h1, h2, h3⟩ := r
  refine ⟨ca, h1, ⟨h2.1, fun k q hk => ?_⟩, h3⟩
  obtain ⟨hl, rfl⟩ := mWl_of hk
  exact Or.inl ⟨k, hl, rfl⟩
theorem mRep.free {D : va_G} {A : Nat → Prop} {s : State} {ad : Nat → Nat} {h : HP} {H H0 : Heap} {locs : List Loc} (r : mRep D A s ad h H) (hS : va_S A H0 H locs) (hA : ∀ q, H0.size ≤ q → A q) : ∀ q, mAH ad h H.size q → A q := by
  obtain ⟨ca, h1, h2, h3⟩ := r
  rintro q (⟨a, hl, rfl⟩ | hq)
  · exact h2.2 a _ (mWl_at hl)
  · exact hA q (Nat.le_trans hS.1 hq)
end
section
/-! String constants by their places, links between nest mates -/
def mSB : Nat := 1000000
def mS : List (String × Nat × String × List Int32) := [("SlotSeries$Reader", 215, "mon tue wed thu fri sat sun weeks limit carrier series ask in out new by ", [109, 111, 110, 32, 116, 117, 101, 32, 119, 101, 100, 32, 116, 104, 117, 32, 102, 114, 105, 32, 115, 97, 116, 32, 115, 117, 110, 32, 119, 101, 101, 107, 115, 32, 108, 105, 109, 105, 116, 32, 99, 97, 114, 114, 105, 101, 114, 32, 115, 101, 114, 105, 101, 115, 32, 97, 115, 107, 32, 105, 110, 32, 111, 117, 116, 32, 110, 101, 119, 32, 98, 121, 32]), ("SlotSeries$Teller", 19, "weeks", [119, 101, 101, 107, 115]), ("SlotSeries$Teller", 80, "limit", [108, 105, 109, 105, 116]), ("SlotSeries$Teller", 82, "in", [105, 110]), ("SlotSeries$Teller", 52, "carrier", [99, 97, 114, 114, 105, 101, 114]), ("SlotSeries$Teller", 84, "series", [115, 101, 114, 105, 101, 115]), ("SlotSeries$Teller", 135, "mon tue wed thu fri sat sun weeks limit carrier series ask in out new by ", [109, 111, 110, 32, 116, 117, 101, 32, 119, 101, 100, 32, 116, 104, 117, 32, 102, 114, 105, 32, 115, 97, 116, 32, 115, 117, 110, 32, 119, 101, 101, 107, 115, 32, 108, 105, 109, 105, 116, 32, 99, 97, 114, 114, 105, 101, 114, 32, 115, 101, 114, 105, 101, 115, 32, 97, 115, 107, 32, 105, 110, 32, 111, 117, 116, 32, 110, 101, 119, 32, 98, 121, 32]), ("SlotSeries$Teller", 143, "out", [111, 117, 116]), ("SlotSeries$Teller", 116, "new", [110, 101, 119]), ("SlotSeries$Teller", 118, "ask", [97, 115, 107]), ("SlotSeries$Teller", 131, "by", [98, 121]), ("SlotSeriesModel", 185, "weeks", [119, 101, 101, 107, 115]), ("SlotSeriesModel", 187, "limit", [108, 105, 109, 105, 116]), ("SlotSeriesModel", 195, "in", [105, 110]), ("SlotSeriesModel", 189, "carrier", [99, 97, 114, 114, 105, 101, 114]), ("SlotSeriesModel", 164, "mon", [109, 111, 110]), ("SlotSeriesModel", 166, "tue", [116, 117, 101]), ("SlotSeriesModel", 168, "wed", [119, 101, 100]), ("SlotSeriesModel", 170, "thu", [116, 104, 117]), ("SlotSeriesModel", 172, "fri", [102, 114, 105]), ("SlotSeriesModel", 174, "sat", [115, 97, 116]), ("SlotSeriesModel", 176, "sun", [115, 117, 110]), ("SlotSeriesModel", 191, "series", [115, 101, 114, 105, 101, 115]), ("SlotSeriesModel", 193, "ask", [97, 115, 107]), ("SlotSeriesModel", 196, "out", [111, 117, 116]), ("SlotSeriesModel", 197, "new", [110, 101, 119]), ("SlotSeriesModel", 199, "by", [98, 121]), ("SlotSeriesModel", 417, "weeks ", [119, 101, 101, 107, 115, 32]), ("SlotSeriesModel", 419, "limit ", [108, 105, 109, 105, 116, 32]), ("SlotSeriesModel", 413, " in ", [32, 105, 110, 32]), ("SlotSeriesModel", 421, "carrier ", [99, 97, 114, 114, 105, 101, 114, 32]), ("SlotSeriesModel", 423, "series ", [115, 101, 114, 105, 101, 115, 32]), ("SlotSeriesModel", 415, " out ", [32, 111, 117, 116, 32]), ("SlotSeriesModel", 429, " new;", [32, 110, 101, 119, 59]), ("SlotSeriesModel", 431, ";", [59]), ("SlotSeriesModel", 433, "ask ", [97, 115, 107, 32]), ("SlotSeriesModel", 435, " by ", [32, 98, 121, 32])]
def mNS : Nat := 37
def mNst : List (String × Nat × MethodName × String) := [("SlotSeries$Season", 49, ⟨"SlotSeries$Series", "<init>", "()V"⟩, "SlotSeries"), ("SlotSeries$Season", 50, ⟨"SlotSeries$Ask", "<init>", "()V"⟩, "SlotSeries"), ("SlotSeries", 26, ⟨"SlotSeries$Names", "<init>", "()V"⟩, "SlotSeries"), ("SlotSeries", 40, ⟨"SlotSeries$Reader", "<init>", "()V"⟩, "SlotSeries"), ("SlotSeries$Reader", 20, ⟨"SlotSeries$Names", "<init>", "()V"⟩, "SlotSeries"), ("SlotSeries", 53, ⟨"SlotSeries$Pool", "<init>", "()V"⟩, "SlotSeries"), ("SlotSeries", 60, ⟨"SlotSeries$Teller", "<init>", "()V"⟩, "SlotSeries"), ("SlotSeries$Reader", 204, ⟨"SlotSeries", "isLetter", "(I)Z"⟩, "SlotSeries"), ("SlotSeries$Reader", 211, ⟨"SlotSeries", "isDigit", "(I)Z"⟩, "SlotSeries"), ("SlotSeries$Reader", 200, ⟨"SlotSeries", "isWithin", "(III)Z"⟩, "SlotSeries"), ("SlotSeries$Reader", 131, ⟨"SlotSeries", "hasBit", "(II)Z"⟩, "SlotSeries"), ("SlotSeries$Reader", 161, ⟨"SlotSeries", "spanBits", "(II)I"⟩, "SlotSeries"), ("SlotSeries$Season", 92, ⟨"SlotSeries", "bitsFrom", "(I)I"⟩, "SlotSeries"), ("SlotSeries$Season", 84, ⟨"SlotSeries", "hasBit", "(II)Z"⟩, "SlotSeries"), ("SlotSeries$Series", 49, ⟨"SlotSeries", "spanBits", "(II)I"⟩, "SlotSeries"), ("SlotSeries$Series", 65, ⟨"SlotSeries", "hasBit", "(II)Z"⟩, "SlotSeries"), ("SlotSeries$Season", 68, ⟨"SlotSeries", "spanBits", "(II)I"⟩, "SlotSeries"), ("SlotSeries$Ask", 39, ⟨"SlotSeries", "spanBits", "(II)I"⟩, "SlotSeries"), ("SlotSeries$Pool", 95, ⟨"SlotSeries", "hasBit", "(II)Z"⟩, "SlotSeries"), ("SlotSeries$Teller", 151, ⟨"SlotSeries", "isLetter", "(I)Z"⟩, "SlotSeries"), ("SlotSeries$Teller", 155, ⟨"SlotSeries", "isDigit", "(I)Z"⟩, "SlotSeries")]

def mSK (ad : Nat → Nat) (A : Nat → Prop) (U : State) : Prop := va_Z "java/lang/String" "COMPACT_STRINGS" "Z" (.int 1) A U U.heap ∧ (∀ q ∈ mNst, va_Nw (.methodLinkNest q.1 q.2.1 q.2.2.1 q.2.2.2) U) ∧ ∀ (i : Nat) (q : String × Nat × String × List Int32), mS[i]? = some q → vk_R q.1 q.2.1 q.2.2.1 (ad (mSB + i)) U ∧ va_O "java/lang/String" (ad (mSB + i)) A U U.heap ∧ va_OF "java/lang/String" "coder" "B" (.int 0) (ad (mSB + i)) A U U.heap ∧ ∃ v : Nat, va_OF "java/lang/String" "value" "[B" (.ref v) (ad (mSB + i)) A U U.heap ∧ va_T .byte v q.2.2.2.length (fun j => .int (q.2.2.2.getD j 0)) A U U.heap
theorem mSK.go {ad : Nat → Nat} {A A' : Nat → Prop} {s U : State} {H : Heap} {locs : List Loc} (h : mSK ad A s) (hS : va_S A s.heap H locs) (hA : ∀ q, A' q → A q) (hH : U.heap = H) (hW : s.WarmedH U.vm) : mSK ad A' U := by
  obtain ⟨h1, h2, h3⟩ := h
  refine ⟨?_, fun q hq => (h2 q hq).warmM hW, fun i q hq => ?_⟩
  · rw [hH]
    exact ((h1.kept hS.2.1).narrow hA).moved hW.alike
  · obtain ⟨g1, g2, g3, v, g4, g5⟩ := h3 i q hq
    rw [hH]
    exact ⟨g1.warm hW, ((g2.kept hS.2.1).narrow hA).moved hW.alike, ((g3.kept hS.2.1).narrow hA).moved hW.alike, v, ((g4.kept hS.2.1).narrow hA).moved hW.alike, ((g5.kept hS.2.1).narrow hA).moved hW.alike⟩
theorem mSK.same {ad : Nat → Nat} {A : Nat → Prop} {u U : State} (h : mSK ad A u) (hv : U.vm = u.vm) (hh : U.heap = u.heap) : mSK ad A U := by
  have hal : u.vm.Alike U.vm := by rw [hv]; exact Vm.Alike.refl _
  obtain ⟨h1, h2, h3⟩ := h
  refine ⟨?_, fun q hq => (h2 q hq).same rfl hv.symm, fun i q hq => ?_⟩
  · rw [hh]
    exact h1.moved hal
  · obtain ⟨g1, g2, g3, v, g4, g5⟩ := h3 i q hq
    rw [hh]
    exact ⟨g1.same hv, g2.moved hal, g3.moved hal, v, g4.moved hal, g5.moved hal⟩
/-! the words of the tables that stay -/
def mTb : List Cond := lw_tbl.filter goodWord
theorem mTb_at {w : Cond} (i : Nat) (h : lw_tbl[i]? = some w) (g : goodWord w = true) : w ∈ mTb := List.mem_filter.mpr ⟨List.mem_of_getElem? h, g⟩
theorem mTb_good {ws : List Cond} (h : ∀ w ∈ ws, w ∈ mTb) : GoodIn mTb ws := fun w hw => ⟨h w hw, good_of_word (List.mem_filter.mp (h w hw)).2⟩
/-! a method: its name, code, locals, answer's type, frames and words that it needs -/
abbrev MR : Type := MethodName × ByteArray × Nat × Option FieldType × Nat × Nat
abbrev MP : Type := Option Value → HP → Prop
def mWs (M : MR) : List Cond := Cond.code M.1 M.2.1 M.2.2.1 M.2.2.2.1 :: mTb
def mcv (ad : Nat → Nat) : Value → Value := fun v => match v with
  | .ref a => .ref (ad a)
  | v => v
theorem mcv_cat (ad : Nat → Nat) (v : Value) : (mcv ad v).category = v.category := by cases v <;> rfl
def mAsc (ad : Nat → Nat) (L : List (Option Value)) : List (Nat × Value) := (List.range L.length).filterMap (fun i => (L[i]?).join.map (fun v => (i, mcv ad v)))
def mLoc (ad : Nat → Nat) (nL : Nat) (L : List (Option Value)) (ls : Array Slot) : Prop := lv_has ls nL (mAsc ad L) ∧ ∀ v : Value, some v ∈ L → v.category = 1
theorem mAsc_in {ad : Nat → Nat} {L : List (Option Value)} {i : Nat} {v : Value} (h : L[i]? = some (some v)) : (i, mcv ad v) ∈ mAsc ad L := by
  refine List.mem_filterMap.mpr ⟨i, List.mem_range.mpr (List.getElem?_eq_some_iff.mp h).1, ?_⟩
  rw [h]
  rfl
theorem mAsc_of {ad : Nat → Nat} {L : List (Option Value)} {q : Nat × Value} (h : q ∈ mAsc ad L) : ∃ v : Value, L[q.1]? = some (some v) ∧ q.2 = mcv ad v := by
  obtain ⟨i, -, hi⟩ := List.mem_filterMap.mp h
  cases hL : L[i]? with
  | none => rw [hL] at hi; cases hi
  | some o =>
    cases o with
    | none => rw [hL] at hi; cases hi
    | some v =>
      rw [hL] at hi
      cases hi
      exact ⟨v, hL, rfl⟩
theorem mLoc.at {ad : Nat → Nat} {nL : Nat} {L : List (Option Value)} {ls : Array Slot} (h : mLoc ad nL L ls) {i : Nat} {v : Value} (hi : L[i]? = some (some v)) : ls[i]? = some (.val (mcv ad v)) := h.1.2.2 _ (mAsc_in hi)
/-- a stored value: what the locals hold behind it -/
theorem mLoc.store {ad : Nat → Nat} {nL : Nat} {L : List (Option Value)} {ls ls' : Array Slot} {i : Nat} {v : Value} (h : mLoc ad nL L ls) (hv : v.category = 1) (h' : lv_has ls' nL ((i, mcv ad v) :: (mAsc ad L).filter (fun q => !(q.1 == i) && !(q.1 + 1 == i && q.2.category == 2)))) : mLoc ad nL (L.set i (some v)) ls' := by
  refine ⟨⟨h'.1, h'.2.1, fun q hq => ?_⟩, fun w hw => ?_⟩
  · obtain ⟨w, hw, e⟩ := mAsc_of hq
    obtain ⟨j, qv⟩ := q
    subst e
    by_cases hj : j = i
    · subst hj
      have hl : j < L.length := by
        have := (List.getElem?_eq_some_iff.mp hw).1
        simpa using this
      rw [List.getElem?_set_self hl] at hw
      cases hw
      exact h'.2.2 _ List.mem_cons_self
    · rw [List.getElem?_set_ne (fun e => hj e.symm)] at hw
      refine h'.2.2 _ (List.mem_cons_of_mem _ (List.mem_filter.mpr ⟨mAsc_in hw, ?_⟩))
      have hc := h.2 w (List.mem_of_getElem? hw)
      have hc2 : (mcv ad w).category = 1 := by rw [mcv_cat]; exact hc
      simp [hj, hc2]
  · rcases List.mem_or_eq_of_mem_set hw with q | q
    · exact h.2 w q
    · cases q
      exact hv
/-! a run of a method's body -/
abbrev BT : Type := Program × Launch × Env × Room × State × MethodId × Array Value × List Frame × Method × Code × (State → Prop) × va_G × (Nat → Prop)
/-- the return that fits an answer -/
def mRI (M : MR) (v : Option Value) (pc : Nat) : Prop := match v with
  | none => M.2.2.2.1 = none ∧ decode M.2.1 pc = .ok (.return_, 1)
  | some (.int x) => (∃ ty : FieldType, M.2.2.2.1 = some ty ∧ narrow ty (.int x) = .int x) ∧ decode M.2.1 pc = .ok (.ireturn, 1)
  | some (.ref _) => (∃ nm : String, M.2.2.2.1 = some (.object nm)) ∧ decode M.2.1 pc = .ok (.areturn, 1)
  | some _ => False
def mG (B : BT) (c : Nat × Nat) (ad : Nat → Nat) (nL pc : Nat) (L : List (Option Value)) (st : List Value) (h : HP) : Prop := match B with
  | (p, l, e, R, s, m, args, below, meth, cd, Q, D, A) => ∀ (H : Heap) (locs : List Loc) (ls : Array Slot), mRep D A s ad h H → va_S A s.heap H locs → mLoc ad nL L ls → W p l e R s m args below meth cd H locs c.1 c.2 Q (F0 m pc ls (st.map (mcv ad)))
/-- where a body of M stands, and what its end must give -/
def mCx (B : BT) (c : Nat × Nat) (ad : Nat → Nat) (M : MR) (P : MP) : Prop := match B with
  | (p, l, e, R, s, m, args, below, meth, cd, Q, D, A) => p.tables.exec = Jvm.exec ∧ cd.code = M.2.1 ∧ cd.maxLocals = M.2.2.1 ∧ s.vm.findClass M.1.cls = some m.cls ∧ (∀ w ∈ mTb, w.before args s = true) ∧ va_K D vwCl [] s ∧ (∀ q, s.heap.size ≤ q → A q) ∧ (M.2.2.2.2.1 ≤ R.frames ∧ M.2.2.2.2.2 ≤ R.locals ∧ c.1 ≤ R.cells ∧ c.2 ≤ R.slots) ∧ mSK ad A s ∧ meth.name = M.1.name ∧
    ∀ (v : Option Value) (h : HP) (H : Heap) (locs : List Loc) (ls : Array Slot) (pc : Nat), P v h → mRep D A s ad h H → va_S A s.heap H locs → mRI M v pc → W p l e R s m args below meth cd H locs c.1 c.2 Q (F0 m pc ls ((v.map (mcv ad)).toList))
/-- from here on the body of M ends with P -/
def mGM (M : MR) (pc : Nat) (L : List (Option Value)) (st : List Value) (h : HP) (P : MP) : Prop := ∀ (B : BT) (c : Nat × Nat) (ad : Nat → Nat), mCx B c ad M P → mG B c ad M.2.2.1 pc L st h
/-! a whole method -/
def mPH (D : va_G) (ad : Nat → Nat) (h : HP) (sz : Nat) : State → Prop := fun U => U.heap.size = sz ∧ mRep D (fun _ => True) U ad h U.heap ∧ va_K D vwCl [] U ∧ mSK ad (mAH ad h sz) U
def mQH (D : va_G) (ad : Nat → Nat) (h : HP) (sz : Nat) (P : MP) : Array Value → State → Outcome → State → Prop := fun _ st o t => (∃ (v : Option Value) (h' : HP), o = .returned (v.map (mcv ad)) ∧ P v h' ∧ mRep D (mAH ad h sz) t ad h' t.heap) ∧ va_F (mAH ad h sz) st t
def mSp (M : MR) (a : List Value) (h : HP) (P : MP) : Prop := ∀ (l : Launch) (D : va_G) (ad : Nat → Nat) (sz : Nat), Met l M.1 (mWs M) ({ frames := M.2.2.2.2.1, cells := 0, slots := 0, locals := M.2.2.2.2.2 }) (va_Pc (a.map (mcv ad)) (mPH D ad h sz)) (mQH D ad h sz P) 0 0 (mAH ad h sz)
def mEnL (a : List Value) (nL : Nat) : List (Option Value) := a.map some ++ List.replicate (nL - a.length) none
theorem mLoc_entry {ad : Nat → Nat} {a : List Value} {nL : Nat} (hc : ∀ v ∈ a, v.category = 1) (hn : a.length ≤ nL) : mLoc ad nL (mEnL a nL) ((lg_sl (a.map (mcv ad)) ++ List.replicate (nL - (lg_sl (a.map (mcv ad))).length) Slot.unset).toArray) := by
  have hsl : ∀ a : List Value, (∀ v ∈ a, v.category = 1) → lg_sl (a.map (mcv ad)) = a.map (fun v => Slot.val (mcv ad v)) := by
    intro a
    induction a with
    | nil => intro _; rfl
    | cons v a ih =>
      intro h
      have h1 : (mcv ad v).category = 1 := by rw [mcv_cat]; exact h v List.mem_cons_self
      have h2 := ih (fun w hw => h w (List.mem_cons_of_mem _ hw))
      simp only [lg_sl, List.map_cons, List.flatMap_cons] at h2 ⊢
      rw [h2, if_neg (by omega)]
      rfl
  have hlen : (lg_sl (a.map (mcv ad))).length = a.length := by rw [hsl a hc]; simp
  have h0 := lv_entry (a.map (mcv ad)) (n := nL) (by omega)
  refine ⟨⟨h0.1, h0.2.1, fun q hq => ?_⟩, fun v hv => ?_⟩
  · obtain ⟨v, hv, e⟩ := mAsc_of hq
    obtain ⟨i, qv⟩ := q
    subst e
    simp only [mEnL] at hv
    have hi : i < a.length := by
      rcases Nat.lt_or_ge i a.length with q | q
      · exact q
      · rw [List.getElem?_append_right (by simpa using q)] at hv
        have := List.eq_of_mem_replicate (List.mem_of_getElem? hv)
        cases this
    rw [List.getElem?_append_left (by simpa using hi)] at hv
    simp only [List.getElem?_map] at hv
    rw [hsl a hc]
    simp only [List.getElem?_toArray]
    rw [List.getElem?_append_left (by simpa using hi)]
    simp only [List.getElem?_map]
    cases hx : a[i]? with
    | none => rw [hx] at hv; cases hv
    | some w =>
      rw [hx] at hv
      simp only [Option.map_some] at hv ⊢
      have : w = v := by injection hv with z; injection z
      rw [this]
  · simp only [mEnL, List.mem_append, List.mem_map] at hv
    rcases hv with ⟨w, h1, h2⟩ | h1
    · cases h2
      exact hc _ h1
    · have := List.eq_of_mem_replicate h1
      cases this
/-- a body's end gives a method's contract -/
theorem mSp_of {M : MR} {a : List Value} {h : HP} {P : MP} (hp : plainName M.1.cls = true) (hc : ∀ v ∈ a, v.category = 1) (hn : a.length ≤ M.2.2.1) (k : mGM M 0 (mEnL a M.2.2.1) [] h P) : mSp M a h P := by
  intro l D ad sz
  obtain ⟨y, cc, nL, ret, fr, lo⟩ := M
  refine Met.ofW (cc := cc) (maxL := nL) (ret := ret) hp rfl ?_
  intro p e s m args below meth c s₁ B hml hv
  obtain ⟨rfl, hsz, hR, hK, hS⟩ := hv
  have hlocks := B.notSynchronized
  subst hsz
  have hts := atoms_spec (ws := mWs (y, cc, nL, ret, fr, lo)) B.pre
  rw [lg_entry_eq]
  refine k (p, l, e, (headSpec (mWs (y, cc, nL, ret, fr, lo)) ({ frames := fr, cells := 0, slots := 0, locals := lo })).room, s, m, (a.map (mcv ad)).toArray, below, meth, c, MQ below (mQH D ad h s.heap.size P) (a.map (mcv ad)).toArray s 0 0 (mAH ad h s.heap.size), D, mAH ad h s.heap.size) (0, 0) ad
    ⟨B.exec, B.bytes, hml, findClass_of_methodNamed B.named, fun w hw => hts w (List.mem_cons_of_mem _ hw), hK, fun q hq => Or.inr hq, ⟨Nat.le_refl _, Nat.le_refl _, Nat.zero_le _, Nat.zero_le _⟩, hS, (name_of_methodNamed B.named B.method).1, ?_⟩ s.heap [] _ (hR.self _) va_S.rf (mLoc_entry hc hn)
  intro v h' H locs ls pc hP hR' hS' hri
  cases v with
  | none =>
    exact W.vret B.exec B.bytes (B.returns.trans hri.1) (fun t ht hW => ⟨⟨none, h', rfl, hP, by rw [ht]; exact hR'.moved hW.alike⟩, hS'.F ht⟩) hS'.2.2 hri.2
  | some v =>
    cases v with
    | int x =>
      obtain ⟨⟨ty, h1, h2⟩, h3⟩ := hri
      exact W.zret B.exec B.bytes (B.returns.trans h1) h2 (fun t ht hW => ⟨⟨some (.int x), h', rfl, hP, by rw [ht]; exact hR'.moved hW.alike⟩, hS'.F ht⟩) hS'.2.2 h3
    | ref x =>
      obtain ⟨⟨nm, h1⟩, h3⟩ := hri
      exact W.aret B.exec B.bytes (B.returns.trans h1) (Or.inl ⟨nm, rfl⟩) (Or.inr ⟨_, rfl⟩) (fun t ht hW => ⟨⟨some (.ref x), h', rfl, hP, by rw [ht]; exact hR'.moved hW.alike⟩, hS'.F ht⟩) hS'.2.2 h3
    | _ => exact absurd hri (fun z => z)
theorem mSp_mono {M : MR} {a : List Value} {h : HP} {P P' : MP} (k : mSp M a h P) (hP : ∀ v h', P v h' → P' v h') : mSp M a h P' := by
  intro l D ad sz p e ha hc hk s m args below hf happ hpre hz
  obtain ⟨k2, o, h1, h2, h3, ⟨⟨v, h', e1, e2, e3⟩, e4⟩, e5⟩ := k l D ad sz p e ha hc hk s m args below hf happ hpre hz
  exact ⟨k2, o, h1, h2, h3, ⟨⟨v, h', e1, hP v h' e2, e3⟩, e4⟩, e5⟩
end
section
theorem g_iconst {B : BT} {c : Nat × Nat} {ad : Nat → Nat} {M : MR} {P : MP} {pc : Nat} {L : List (Option Value)} {st : List Value} {h : HP} {n : Int} {v : Int32} (X : mCx B c ad M P) (d : decode M.2.1 pc = .ok (.iconst n, 1)) (hv : Int32.ofInt n = v) (k : mG B c ad M.2.2.1 (pc + 1) L (.int v :: st) h) : mG B c ad M.2.2.1 pc L (st) h := by
  obtain ⟨p, l, e, R, s, m, args, below, meth, cd, Q, D, A⟩ := B
  exact fun H locs ls h1 h2 h3 => lv_iconst X.1 X.2.1 d hv (k H locs ls h1 h2 h3)
theorem r_iconst {M : MR} {P : MP} {pc : Nat} {L : List (Option Value)} {st : List Value} {h : HP} {n : Int} {v : Int32} (d : decode M.2.1 pc = .ok (.iconst n, 1)) (hv : Int32.ofInt n = v) (k : mGM M (pc + 1) L (.int v :: st) h P) : mGM M pc L (st) h P := fun B c ad X => g_iconst X d hv (k B c ad X)
theorem g_bipush {B : BT} {c : Nat × Nat} {ad : Nat → Nat} {M : MR} {P : MP} {pc : Nat} {L : List (Option Value)} {st : List Value} {h : HP} {n : Int} {v : Int32} (X : mCx B c ad M P) (d : decode M.2.1 pc = .ok (.bipush n, 2)) (hv : (Int8.ofInt n).toInt32 = v) (k : mG B c ad M.2.2.1 (pc + 2) L (.int v :: st) h) : mG B c ad M.2.2.1 pc L (st) h := by
  obtain ⟨p, l, e, R, s, m, args, below, meth, cd, Q, D, A⟩ := B
  exact fun H locs ls h1 h2 h3 => lv_bipush X.1 X.2.1 d hv (k H locs ls h1 h2 h3)
theorem r_bipush {M : MR} {P : MP} {pc : Nat} {L : List (Option Value)} {st : List Value} {h : HP} {n : Int} {v : Int32} (d : decode M.2.1 pc = .ok (.bipush n, 2)) (hv : (Int8.ofInt n).toInt32 = v) (k : mGM M (pc + 2) L (.int v :: st) h P) : mGM M pc L (st) h P := fun B c ad X => g_bipush X d hv (k B c ad X)
theorem g_sipush {B : BT} {c : Nat × Nat} {ad : Nat → Nat} {M : MR} {P : MP} {pc : Nat} {L : List (Option Value)} {st : List Value} {h : HP} {n : Int} {v : Int32} (X : mCx B c ad M P) (d : decode M.2.1 pc = .ok (.sipush n, 3)) (hv : (Int16.ofInt n).toInt32 = v) (k : mG B c ad M.2.2.1 (pc + 3) L (.int v :: st) h) : mG B c ad M.2.2.1 pc L (st) h := by
  obtain ⟨p, l, e, R, s, m, args, below, meth, cd, Q, D, A⟩ := B
  exact fun H locs ls h1 h2 h3 => lv_sipush X.1 X.2.1 d hv (k H locs ls h1 h2 h3)
theorem r_sipush {M : MR} {P : MP} {pc : Nat} {L : List (Option Value)} {st : List Value} {h : HP} {n : Int} {v : Int32} (d : decode M.2.1 pc = .ok (.sipush n, 3)) (hv : (Int16.ofInt n).toInt32 = v) (k : mGM M (pc + 3) L (.int v :: st) h P) : mGM M pc L (st) h P := fun B c ad X => g_sipush X d hv (k B c ad X)
theorem g_lconst {B : BT} {c : Nat × Nat} {ad : Nat → Nat} {M : MR} {P : MP} {pc : Nat} {L : List (Option Value)} {st : List Value} {h : HP} {n : Fin 2} {v : Int64} (X : mCx B c ad M P) (d : decode M.2.1 pc = .ok (.lconst n, 1)) (hv : Int64.ofNat (n : Nat) = v) (k : mG B c ad M.2.2.1 (pc + 1) L (.long v :: st) h) : mG B c ad M.2.2.1 pc L (st) h := by
  obtain ⟨p, l, e, R, s, m, args, below, meth, cd, Q, D, A⟩ := B
  exact fun H locs ls h1 h2 h3 => lv_lconst X.1 X.2.1 d hv (k H locs ls h1 h2 h3)
theorem r_lconst {M : MR} {P : MP} {pc : Nat} {L : List (Option Value)} {st : List Value} {h : HP} {n : Fin 2} {v : Int64} (d : decode M.2.1 pc = .ok (.lconst n, 1)) (hv : Int64.ofNat (n : Nat) = v) (k : mGM M (pc + 1) L (.long v :: st) h P) : mGM M pc L (st) h P := fun B c ad X => g_lconst X d hv (k B c ad X)
theorem g_ldc {B : BT} {c : Nat × Nat} {ad : Nat → Nat} {M : MR} {P : MP} {pc : Nat} {L : List (Option Value)} {st : List Value} {h : HP} {i : Nat} {v : Int32} (X : mCx B c ad M P) (d : decode M.2.1 pc = .ok (.ldc i, 2)) (hv : Cond.constant M.1.cls i v ∈ mTb) (k : mG B c ad M.2.2.1 (pc + 2) L (.int v :: st) h) : mG B c ad M.2.2.1 pc L (st) h := by
  obtain ⟨p, l, e, R, s, m, args, below, meth, cd, Q, D, A⟩ := B
  exact fun H locs ls h1 h2 h3 => lv_ldc X.1 X.2.1 X.2.2.2.1 (X.2.2.2.2.1 _ hv) d (k H locs ls h1 h2 h3)
theorem r_ldc {M : MR} {P : MP} {pc : Nat} {L : List (Option Value)} {st : List Value} {h : HP} {i : Nat} {v : Int32} (d : decode M.2.1 pc = .ok (.ldc i, 2)) (hv : Cond.constant M.1.cls i v ∈ mTb) (k : mGM M (pc + 2) L (.int v :: st) h P) : mGM M pc L (st) h P := fun B c ad X => g_ldc X d hv (k B c ad X)
theorem g_ldcw {B : BT} {c : Nat × Nat} {ad : Nat → Nat} {M : MR} {P : MP} {pc : Nat} {L : List (Option Value)} {st : List Value} {h : HP} {i : Nat} {v : Int32} (X : mCx B c ad M P) (d : decode M.2.1 pc = .ok (.ldc_w i, 3)) (hv : Cond.constant M.1.cls i v ∈ mTb) (k : mG B c ad M.2.2.1 (pc + 3) L (.int v :: st) h) : mG B c ad M.2.2.1 pc L (st) h := by
  obtain ⟨p, l, e, R, s, m, args, below, meth, cd, Q, D, A⟩ := B
  exact fun H locs ls h1 h2 h3 => lv_ldcw X.1 X.2.1 X.2.2.2.1 (X.2.2.2.2.1 _ hv) d (k H locs ls h1 h2 h3)
theorem r_ldcw {M : MR} {P : MP} {pc : Nat} {L : List (Option Value)} {st : List Value} {h : HP} {i : Nat} {v : Int32} (d : decode M.2.1 pc = .ok (.ldc_w i, 3)) (hv : Cond.constant M.1.cls i v ∈ mTb) (k : mGM M (pc + 3) L (.int v :: st) h P) : mGM M pc L (st) h P := fun B c ad X => g_ldcw X d hv (k B c ad X)
theorem g_ldc2 {B : BT} {c : Nat × Nat} {ad : Nat → Nat} {M : MR} {P : MP} {pc : Nat} {L : List (Option Value)} {st : List Value} {h : HP} {i : Nat} {v : Int64} (X : mCx B c ad M P) (d : decode M.2.1 pc = .ok (.ldc2_w i, 3)) (hv : Cond.constantLong M.1.cls i v ∈ mTb) (k : mG B c ad M.2.2.1 (pc + 3) L (.long v :: st) h) : mG B c ad M.2.2.1 pc L (st) h := by
  obtain ⟨p, l, e, R, s, m, args, below, meth, cd, Q, D, A⟩ := B
  exact fun H locs ls h1 h2 h3 => lv_ldc2 X.1 X.2.1 X.2.2.2.1 (X.2.2.2.2.1 _ hv) d (k H locs ls h1 h2 h3)
theorem r_ldc2 {M : MR} {P : MP} {pc : Nat} {L : List (Option Value)} {st : List Value} {h : HP} {i : Nat} {v : Int64} (d : decode M.2.1 pc = .ok (.ldc2_w i, 3)) (hv : Cond.constantLong M.1.cls i v ∈ mTb) (k : mGM M (pc + 3) L (.long v :: st) h P) : mGM M pc L (st) h P := fun B c ad X => g_ldc2 X d hv (k B c ad X)
theorem g_ldcS {B : BT} {c : Nat × Nat} {ad : Nat → Nat} {M : MR} {P : MP} {pc : Nat} {L : List (Option Value)} {st : List Value} {h : HP} {j i : Nat} {tx : String} {by9 : List Int32} (X : mCx B c ad M P) (d : decode M.2.1 pc = .ok (.ldc i, 2)) (hv : mS[j]? = some (M.1.cls, i, tx, by9)) (k : mG B c ad M.2.2.1 (pc + 2) L (.ref (mSB + j) :: st) h) : mG B c ad M.2.2.1 pc L (st) h := by
  obtain ⟨p, l, e, R, s, m, args, below, meth, cd, Q, D, A⟩ := B
  exact fun H locs ls h1 h2 h3 => va_ldcS X.1 X.2.1 X.2.2.2.1 (X.2.2.2.2.2.2.2.2.1.2.2 j _ hv).1 d (k H locs ls h1 h2 h3)
theorem r_ldcS {M : MR} {P : MP} {pc : Nat} {L : List (Option Value)} {st : List Value} {h : HP} {j i : Nat} {tx : String} {by9 : List Int32} (d : decode M.2.1 pc = .ok (.ldc i, 2)) (hv : mS[j]? = some (M.1.cls, i, tx, by9)) (k : mGM M (pc + 2) L (.ref (mSB + j) :: st) h P) : mGM M pc L (st) h P := fun B c ad X => g_ldcS X d hv (k B c ad X)
theorem g_iload_n {B : BT} {c : Nat × Nat} {ad : Nat → Nat} {M : MR} {P : MP} {pc : Nat} {L : List (Option Value)} {st : List Value} {h : HP} {q : Fin 4} {x : Int32} (X : mCx B c ad M P) (d : decode M.2.1 pc = .ok (.iload_n q, 1)) (hl : L[(q : Nat)]? = some (some (.int x))) (k : mG B c ad M.2.2.1 (pc + 1) L (.int x :: st) h) : mG B c ad M.2.2.1 pc L (st) h := by
  obtain ⟨p, l, e, R, s, m, args, below, meth, cd, Q, D, A⟩ := B
  exact fun H locs ls h1 h2 h3 => lv_iload_n X.1 X.2.1 d rfl (h3.at hl) (k H locs ls h1 h2 h3)
theorem r_iload_n {M : MR} {P : MP} {pc : Nat} {L : List (Option Value)} {st : List Value} {h : HP} {q : Fin 4} {x : Int32} (d : decode M.2.1 pc = .ok (.iload_n q, 1)) (hl : L[(q : Nat)]? = some (some (.int x))) (k : mGM M (pc + 1) L (.int x :: st) h P) : mGM M pc L (st) h P := fun B c ad X => g_iload_n X d hl (k B c ad X)
theorem g_iload {B : BT} {c : Nat × Nat} {ad : Nat → Nat} {M : MR} {P : MP} {pc : Nat} {L : List (Option Value)} {st : List Value} {h : HP} {i : Nat} {x : Int32} (X : mCx B c ad M P) (d : decode M.2.1 pc = .ok (.iload i, 2)) (hl : L[i]? = some (some (.int x))) (k : mG B c ad M.2.2.1 (pc + 2) L (.int x :: st) h) : mG B c ad M.2.2.1 pc L (st) h := by
  obtain ⟨p, l, e, R, s, m, args, below, meth, cd, Q, D, A⟩ := B
  exact fun H locs ls h1 h2 h3 => lv_iload X.1 X.2.1 d (h3.at hl) (k H locs ls h1 h2 h3)
theorem r_iload {M : MR} {P : MP} {pc : Nat} {L : List (Option Value)} {st : List Value} {h : HP} {i : Nat} {x : Int32} (d : decode M.2.1 pc = .ok (.iload i, 2)) (hl : L[i]? = some (some (.int x))) (k : mGM M (pc + 2) L (.int x :: st) h P) : mGM M pc L (st) h P := fun B c ad X => g_iload X d hl (k B c ad X)
theorem g_aload_n {B : BT} {c : Nat × Nat} {ad : Nat → Nat} {M : MR} {P : MP} {pc : Nat} {L : List (Option Value)} {st : List Value} {h : HP} {q : Fin 4} {x : Nat} (X : mCx B c ad M P) (d : decode M.2.1 pc = .ok (.aload_n q, 1)) (hl : L[(q : Nat)]? = some (some (.ref x))) (k : mG B c ad M.2.2.1 (pc + 1) L (.ref x :: st) h) : mG B c ad M.2.2.1 pc L (st) h := by
  obtain ⟨p, l, e, R, s, m, args, below, meth, cd, Q, D, A⟩ := B
  exact fun H locs ls h1 h2 h3 => lv_aload_n X.1 X.2.1 d rfl (h3.at hl) (k H locs ls h1 h2 h3)
theorem r_aload_n {M : MR} {P : MP} {pc : Nat} {L : List (Option Value)} {st : List Value} {h : HP} {q : Fin 4} {x : Nat} (d : decode M.2.1 pc = .ok (.aload_n q, 1)) (hl : L[(q : Nat)]? = some (some (.ref x))) (k : mGM M (pc + 1) L (.ref x :: st) h P) : mGM M pc L (st) h P := fun B c ad X => g_aload_n X d hl (k B c ad X)
theorem g_aload {B : BT} {c : Nat × Nat} {ad : Nat → Nat} {M : MR} {P : MP} {pc : Nat} {L : List (Option Value)} {st : List Value} {h : HP} {i : Nat} {x : Nat} (X : mCx B c ad M P) (d : decode M.2.1 pc = .ok (.aload i, 2)) (hl : L[i]? = some (some (.ref x))) (k : mG B c ad M.2.2.1 (pc + 2) L (.ref x :: st) h) : mG B c ad M.2.2.1 pc L (st) h := by
  obtain ⟨p, l, e, R, s, m, args, below, meth, cd, Q, D, A⟩ := B
  exact fun H locs ls h1 h2 h3 => lv_aload X.1 X.2.1 d (h3.at hl) (k H locs ls h1 h2 h3)
theorem r_aload {M : MR} {P : MP} {pc : Nat} {L : List (Option Value)} {st : List Value} {h : HP} {i : Nat} {x : Nat} (d : decode M.2.1 pc = .ok (.aload i, 2)) (hl : L[i]? = some (some (.ref x))) (k : mGM M (pc + 2) L (.ref x :: st) h P) : mGM M pc L (st) h P := fun B c ad X => g_aload X d hl (k B c ad X)
theorem g_istore_n {B : BT} {c : Nat × Nat} {ad : Nat → Nat} {M : MR} {P : MP} {pc : Nat} {L : List (Option Value)} {st : List Value} {h : HP} {q : Fin 4} {x : Int32} (X : mCx B c ad M P) (d : decode M.2.1 pc = .ok (.istore_n q, 1)) (hn : (q : Nat) < M.2.2.1) (k : mG B c ad M.2.2.1 (pc + 1) (L.set (q : Nat) (some (.int x))) (st) h) : mG B c ad M.2.2.1 pc L (.int x :: st) h := by
  obtain ⟨p, l, e, R, s, m, args, below, meth, cd, Q, D, A⟩ := B
  exact fun H locs ls h1 h2 h3 => lv_istore_n X.1 X.2.1 d rfl h3.1 hn rfl (fun ls2 hl2 => k H locs ls2 h1 h2 (h3.store rfl hl2))
theorem r_istore_n {M : MR} {P : MP} {pc : Nat} {L : List (Option Value)} {st : List Value} {h : HP} {q : Fin 4} {x : Int32} (d : decode M.2.1 pc = .ok (.istore_n q, 1)) (hn : (q : Nat) < M.2.2.1) (k : mGM M (pc + 1) (L.set (q : Nat) (some (.int x))) (st) h P) : mGM M pc L (.int x :: st) h P := fun B c ad X => g_istore_n X d hn (k B c ad X)
theorem g_istore {B : BT} {c : Nat × Nat} {ad : Nat → Nat} {M : MR} {P : MP} {pc : Nat} {L : List (Option Value)} {st : List Value} {h : HP} {i : Nat} {x : Int32} (X : mCx B c ad M P) (d : decode M.2.1 pc = .ok (.istore i, 2)) (hn : i < M.2.2.1) (k : mG B c ad M.2.2.1 (pc + 2) (L.set i (some (.int x))) (st) h) : mG B c ad M.2.2.1 pc L (.int x :: st) h := by
  obtain ⟨p, l, e, R, s, m, args, below, meth, cd, Q, D, A⟩ := B
  exact fun H locs ls h1 h2 h3 => lv_istore X.1 X.2.1 d h3.1 hn rfl (fun ls2 hl2 => k H locs ls2 h1 h2 (h3.store rfl hl2))
theorem r_istore {M : MR} {P : MP} {pc : Nat} {L : List (Option Value)} {st : List Value} {h : HP} {i : Nat} {x : Int32} (d : decode M.2.1 pc = .ok (.istore i, 2)) (hn : i < M.2.2.1) (k : mGM M (pc + 2) (L.set i (some (.int x))) (st) h P) : mGM M pc L (.int x :: st) h P := fun B c ad X => g_istore X d hn (k B c ad X)
theorem g_astore_n {B : BT} {c : Nat × Nat} {ad : Nat → Nat} {M : MR} {P : MP} {pc : Nat} {L : List (Option Value)} {st : List Value} {h : HP} {q : Fin 4} {x : Nat} (X : mCx B c ad M P) (d : decode M.2.1 pc = .ok (.astore_n q, 1)) (hn : (q : Nat) < M.2.2.1) (k : mG B c ad M.2.2.1 (pc + 1) (L.set (q : Nat) (some (.ref x))) (st) h) : mG B c ad M.2.2.1 pc L (.ref x :: st) h := by
  obtain ⟨p, l, e, R, s, m, args, below, meth, cd, Q, D, A⟩ := B
  exact fun H locs ls h1 h2 h3 => lv_astore_n X.1 X.2.1 d rfl h3.1 hn rfl (fun ls2 hl2 => k H locs ls2 h1 h2 (h3.store rfl hl2))
theorem r_astore_n {M : MR} {P : MP} {pc : Nat} {L : List (Option Value)} {st : List Value} {h : HP} {q : Fin 4} {x : Nat} (d : decode M.2.1 pc = .ok (.astore_n q, 1)) (hn : (q : Nat) < M.2.2.1) (k : mGM M (pc + 1) (L.set (q : Nat) (some (.ref x))) (st) h P) : mGM M pc L (.ref x :: st) h P := fun B c ad X => g_astore_n X d hn (k B c ad X)
theorem g_astore {B : BT} {c : Nat × Nat} {ad : Nat → Nat} {M : MR} {P : MP} {pc : Nat} {L : List (Option Value)} {st : List Value} {h : HP} {i : Nat} {x : Nat} (X : mCx B c ad M P) (d : decode M.2.1 pc = .ok (.astore i, 2)) (hn : i < M.2.2.1) (k : mG B c ad M.2.2.1 (pc + 2) (L.set i (some (.ref x))) (st) h) : mG B c ad M.2.2.1 pc L (.ref x :: st) h := by
  obtain ⟨p, l, e, R, s, m, args, below, meth, cd, Q, D, A⟩ := B
  exact fun H locs ls h1 h2 h3 => lv_astore X.1 X.2.1 d h3.1 hn rfl (fun ls2 hl2 => k H locs ls2 h1 h2 (h3.store rfl hl2))
theorem r_astore {M : MR} {P : MP} {pc : Nat} {L : List (Option Value)} {st : List Value} {h : HP} {i : Nat} {x : Nat} (d : decode M.2.1 pc = .ok (.astore i, 2)) (hn : i < M.2.2.1) (k : mGM M (pc + 2) (L.set i (some (.ref x))) (st) h P) : mGM M pc L (.ref x :: st) h P := fun B c ad X => g_astore X d hn (k B c ad X)
theorem g_iinc {B : BT} {c : Nat × Nat} {ad : Nat → Nat} {M : MR} {P : MP} {pc : Nat} {L : List (Option Value)} {st : List Value} {h : HP} {i : Nat} {n : Int} {x v : Int32} (X : mCx B c ad M P) (d : decode M.2.1 pc = .ok (.iinc i n, 3)) (hl : L[i]? = some (some (.int x))) (hv : x + Int32.ofInt n = v) (hn : i < M.2.2.1) (k : mG B c ad M.2.2.1 (pc + 3) (L.set i (some (.int v))) st h) : mG B c ad M.2.2.1 pc L st h := by
  obtain ⟨p, l, e, R, s, m, args, below, meth, cd, Q, D, A⟩ := B
  intro H locs ls h1 h2 h3
  obtain ⟨j, hj⟩ := List.getElem?_of_mem (mAsc_in (ad := ad) hl)
  exact lv_iinc X.1 X.2.1 d h3.1 hj hv hn rfl (fun ls2 hl2 => k H locs ls2 h1 h2 (h3.store rfl hl2))
theorem r_iinc {M : MR} {P : MP} {pc : Nat} {L : List (Option Value)} {st : List Value} {h : HP} {i : Nat} {n : Int} {x v : Int32} (d : decode M.2.1 pc = .ok (.iinc i n, 3)) (hl : L[i]? = some (some (.int x))) (hv : x + Int32.ofInt n = v) (hn : i < M.2.2.1) (k : mGM M (pc + 3) (L.set i (some (.int v))) st h P) : mGM M pc L st h P := fun B c ad X => g_iinc X d hl hv hn (k B c ad X)
theorem g_iadd {B : BT} {c : Nat × Nat} {ad : Nat → Nat} {M : MR} {P : MP} {pc : Nat} {L : List (Option Value)} {st : List Value} {h : HP} {x y : Int32} (X : mCx B c ad M P) (d : decode M.2.1 pc = .ok (.iadd, 1)) (k : mG B c ad M.2.2.1 (pc + 1) L (.int (x + y) :: st) h) : mG B c ad M.2.2.1 pc L (.int y :: .int x :: st) h := by
  obtain ⟨p, l, e, R, s, m, args, below, meth, cd, Q, D, A⟩ := B
  exact fun H locs ls h1 h2 h3 => lv_iadd X.1 X.2.1 d (k H locs ls h1 h2 h3)
theorem r_iadd {M : MR} {P : MP} {pc : Nat} {L : List (Option Value)} {st : List Value} {h : HP} {x y : Int32} (d : decode M.2.1 pc = .ok (.iadd, 1)) (k : mGM M (pc + 1) L (.int (x + y) :: st) h P) : mGM M pc L (.int y :: .int x :: st) h P := fun B c ad X => g_iadd X d  (k B c ad X)
theorem g_isub {B : BT} {c : Nat × Nat} {ad : Nat → Nat} {M : MR} {P : MP} {pc : Nat} {L : List (Option Value)} {st : List Value} {h : HP} {x y : Int32} (X : mCx B c ad M P) (d : decode M.2.1 pc = .ok (.isub, 1)) (k : mG B c ad M.2.2.1 (pc + 1) L (.int (x - y) :: st) h) : mG B c ad M.2.2.1 pc L (.int y :: .int x :: st) h := by
  obtain ⟨p, l, e, R, s, m, args, below, meth, cd, Q, D, A⟩ := B
  exact fun H locs ls h1 h2 h3 => lv_isub X.1 X.2.1 d (k H locs ls h1 h2 h3)
theorem r_isub {M : MR} {P : MP} {pc : Nat} {L : List (Option Value)} {st : List Value} {h : HP} {x y : Int32} (d : decode M.2.1 pc = .ok (.isub, 1)) (k : mGM M (pc + 1) L (.int (x - y) :: st) h P) : mGM M pc L (.int y :: .int x :: st) h P := fun B c ad X => g_isub X d  (k B c ad X)
theorem g_imul {B : BT} {c : Nat × Nat} {ad : Nat → Nat} {M : MR} {P : MP} {pc : Nat} {L : List (Option Value)} {st : List Value} {h : HP} {x y : Int32} (X : mCx B c ad M P) (d : decode M.2.1 pc = .ok (.imul, 1)) (k : mG B c ad M.2.2.1 (pc + 1) L (.int (x * y) :: st) h) : mG B c ad M.2.2.1 pc L (.int y :: .int x :: st) h := by
  obtain ⟨p, l, e, R, s, m, args, below, meth, cd, Q, D, A⟩ := B
  exact fun H locs ls h1 h2 h3 => lv_imul X.1 X.2.1 d (k H locs ls h1 h2 h3)
theorem r_imul {M : MR} {P : MP} {pc : Nat} {L : List (Option Value)} {st : List Value} {h : HP} {x y : Int32} (d : decode M.2.1 pc = .ok (.imul, 1)) (k : mGM M (pc + 1) L (.int (x * y) :: st) h P) : mGM M pc L (.int y :: .int x :: st) h P := fun B c ad X => g_imul X d  (k B c ad X)
theorem g_iand {B : BT} {c : Nat × Nat} {ad : Nat → Nat} {M : MR} {P : MP} {pc : Nat} {L : List (Option Value)} {st : List Value} {h : HP} {x y : Int32} (X : mCx B c ad M P) (d : decode M.2.1 pc = .ok (.iand, 1)) (k : mG B c ad M.2.2.1 (pc + 1) L (.int (x &&& y) :: st) h) : mG B c ad M.2.2.1 pc L (.int y :: .int x :: st) h := by
  obtain ⟨p, l, e, R, s, m, args, below, meth, cd, Q, D, A⟩ := B
  exact fun H locs ls h1 h2 h3 => lv_iand X.1 X.2.1 d (k H locs ls h1 h2 h3)
theorem r_iand {M : MR} {P : MP} {pc : Nat} {L : List (Option Value)} {st : List Value} {h : HP} {x y : Int32} (d : decode M.2.1 pc = .ok (.iand, 1)) (k : mGM M (pc + 1) L (.int (x &&& y) :: st) h P) : mGM M pc L (.int y :: .int x :: st) h P := fun B c ad X => g_iand X d  (k B c ad X)
theorem g_ior {B : BT} {c : Nat × Nat} {ad : Nat → Nat} {M : MR} {P : MP} {pc : Nat} {L : List (Option Value)} {st : List Value} {h : HP} {x y : Int32} (X : mCx B c ad M P) (d : decode M.2.1 pc = .ok (.ior, 1)) (k : mG B c ad M.2.2.1 (pc + 1) L (.int (x ||| y) :: st) h) : mG B c ad M.2.2.1 pc L (.int y :: .int x :: st) h := by
  obtain ⟨p, l, e, R, s, m, args, below, meth, cd, Q, D, A⟩ := B
  exact fun H locs ls h1 h2 h3 => lv_ior X.1 X.2.1 d (k H locs ls h1 h2 h3)
theorem r_ior {M : MR} {P : MP} {pc : Nat} {L : List (Option Value)} {st : List Value} {h : HP} {x y : Int32} (d : decode M.2.1 pc = .ok (.ior, 1)) (k : mGM M (pc + 1) L (.int (x ||| y) :: st) h P) : mGM M pc L (.int y :: .int x :: st) h P := fun B c ad X => g_ior X d  (k B c ad X)
theorem g_ixor {B : BT} {c : Nat × Nat} {ad : Nat → Nat} {M : MR} {P : MP} {pc : Nat} {L : List (Option Value)} {st : List Value} {h : HP} {x y : Int32} (X : mCx B c ad M P) (d : decode M.2.1 pc = .ok (.ixor, 1)) (k : mG B c ad M.2.2.1 (pc + 1) L (.int (x ^^^ y) :: st) h) : mG B c ad M.2.2.1 pc L (.int y :: .int x :: st) h := by
  obtain ⟨p, l, e, R, s, m, args, below, meth, cd, Q, D, A⟩ := B
  exact fun H locs ls h1 h2 h3 => lv_ixor X.1 X.2.1 d (k H locs ls h1 h2 h3)
theorem r_ixor {M : MR} {P : MP} {pc : Nat} {L : List (Option Value)} {st : List Value} {h : HP} {x y : Int32} (d : decode M.2.1 pc = .ok (.ixor, 1)) (k : mGM M (pc + 1) L (.int (x ^^^ y) :: st) h P) : mGM M pc L (.int y :: .int x :: st) h P := fun B c ad X => g_ixor X d  (k B c ad X)
theorem g_ishl {B : BT} {c : Nat × Nat} {ad : Nat → Nat} {M : MR} {P : MP} {pc : Nat} {L : List (Option Value)} {st : List Value} {h : HP} {x y : Int32} (X : mCx B c ad M P) (d : decode M.2.1 pc = .ok (.ishl, 1)) (k : mG B c ad M.2.2.1 (pc + 1) L (.int (x <<< (y &&& 31)) :: st) h) : mG B c ad M.2.2.1 pc L (.int y :: .int x :: st) h := by
  obtain ⟨p, l, e, R, s, m, args, below, meth, cd, Q, D, A⟩ := B
  exact fun H locs ls h1 h2 h3 => lv_ishl X.1 X.2.1 d (k H locs ls h1 h2 h3)
theorem r_ishl {M : MR} {P : MP} {pc : Nat} {L : List (Option Value)} {st : List Value} {h : HP} {x y : Int32} (d : decode M.2.1 pc = .ok (.ishl, 1)) (k : mGM M (pc + 1) L (.int (x <<< (y &&& 31)) :: st) h P) : mGM M pc L (.int y :: .int x :: st) h P := fun B c ad X => g_ishl X d  (k B c ad X)
theorem g_ishr {B : BT} {c : Nat × Nat} {ad : Nat → Nat} {M : MR} {P : MP} {pc : Nat} {L : List (Option Value)} {st : List Value} {h : HP} {x y : Int32} (X : mCx B c ad M P) (d : decode M.2.1 pc = .ok (.ishr, 1)) (k : mG B c ad M.2.2.1 (pc + 1) L (.int (x >>> (y &&& 31)) :: st) h) : mG B c ad M.2.2.1 pc L (.int y :: .int x :: st) h := by
  obtain ⟨p, l, e, R, s, m, args, below, meth, cd, Q, D, A⟩ := B
  exact fun H locs ls h1 h2 h3 => lv_ishr X.1 X.2.1 d (k H locs ls h1 h2 h3)
theorem r_ishr {M : MR} {P : MP} {pc : Nat} {L : List (Option Value)} {st : List Value} {h : HP} {x y : Int32} (d : decode M.2.1 pc = .ok (.ishr, 1)) (k : mGM M (pc + 1) L (.int (x >>> (y &&& 31)) :: st) h P) : mGM M pc L (.int y :: .int x :: st) h P := fun B c ad X => g_ishr X d  (k B c ad X)
theorem g_iushr {B : BT} {c : Nat × Nat} {ad : Nat → Nat} {M : MR} {P : MP} {pc : Nat} {L : List (Option Value)} {st : List Value} {h : HP} {x y : Int32} (X : mCx B c ad M P) (d : decode M.2.1 pc = .ok (.iushr, 1)) (k : mG B c ad M.2.2.1 (pc + 1) L (.int (x.toUInt32 >>> (y.toUInt32 &&& Int32.toUInt32 31)).toInt32 :: st) h) : mG B c ad M.2.2.1 pc L (.int y :: .int x :: st) h := by
  obtain ⟨p, l, e, R, s, m, args, below, meth, cd, Q, D, A⟩ := B
  exact fun H locs ls h1 h2 h3 => lv_iushr X.1 X.2.1 d rfl (k H locs ls h1 h2 h3)
theorem r_iushr {M : MR} {P : MP} {pc : Nat} {L : List (Option Value)} {st : List Value} {h : HP} {x y : Int32} (d : decode M.2.1 pc = .ok (.iushr, 1)) (k : mGM M (pc + 1) L (.int (x.toUInt32 >>> (y.toUInt32 &&& Int32.toUInt32 31)).toInt32 :: st) h P) : mGM M pc L (.int y :: .int x :: st) h P := fun B c ad X => g_iushr X d  (k B c ad X)
theorem g_idiv {B : BT} {c : Nat × Nat} {ad : Nat → Nat} {M : MR} {P : MP} {pc : Nat} {L : List (Option Value)} {st : List Value} {h : HP} {x y : Int32} (X : mCx B c ad M P) (d : decode M.2.1 pc = .ok (.idiv, 1)) (hne : ¬ y = 0) (k : mG B c ad M.2.2.1 (pc + 1) L (.int (x / y) :: st) h) : mG B c ad M.2.2.1 pc L (.int y :: .int x :: st) h := by
  obtain ⟨p, l, e, R, s, m, args, below, meth, cd, Q, D, A⟩ := B
  exact fun H locs ls h1 h2 h3 => lv_idiv X.1 X.2.1 d hne (k H locs ls h1 h2 h3)
theorem r_idiv {M : MR} {P : MP} {pc : Nat} {L : List (Option Value)} {st : List Value} {h : HP} {x y : Int32} (d : decode M.2.1 pc = .ok (.idiv, 1)) (hne : ¬ y = 0) (k : mGM M (pc + 1) L (.int (x / y) :: st) h P) : mGM M pc L (.int y :: .int x :: st) h P := fun B c ad X => g_idiv X d hne (k B c ad X)
theorem g_irem {B : BT} {c : Nat × Nat} {ad : Nat → Nat} {M : MR} {P : MP} {pc : Nat} {L : List (Option Value)} {st : List Value} {h : HP} {x y : Int32} (X : mCx B c ad M P) (d : decode M.2.1 pc = .ok (.irem, 1)) (hne : ¬ y = 0) (k : mG B c ad M.2.2.1 (pc + 1) L (.int (x - x / y * y) :: st) h) : mG B c ad M.2.2.1 pc L (.int y :: .int x :: st) h := by
  obtain ⟨p, l, e, R, s, m, args, below, meth, cd, Q, D, A⟩ := B
  exact fun H locs ls h1 h2 h3 => lv_irem X.1 X.2.1 d hne (k H locs ls h1 h2 h3)
theorem r_irem {M : MR} {P : MP} {pc : Nat} {L : List (Option Value)} {st : List Value} {h : HP} {x y : Int32} (d : decode M.2.1 pc = .ok (.irem, 1)) (hne : ¬ y = 0) (k : mGM M (pc + 1) L (.int (x - x / y * y) :: st) h P) : mGM M pc L (.int y :: .int x :: st) h P := fun B c ad X => g_irem X d hne (k B c ad X)
theorem g_lsub {B : BT} {c : Nat × Nat} {ad : Nat → Nat} {M : MR} {P : MP} {pc : Nat} {L : List (Option Value)} {st : List Value} {h : HP} {x y : Int64} (X : mCx B c ad M P) (d : decode M.2.1 pc = .ok (.lsub, 1)) (k : mG B c ad M.2.2.1 (pc + 1) L (.long (x - y) :: st) h) : mG B c ad M.2.2.1 pc L (.long y :: .long x :: st) h := by
  obtain ⟨p, l, e, R, s, m, args, below, meth, cd, Q, D, A⟩ := B
  exact fun H locs ls h1 h2 h3 => lv_lsub X.1 X.2.1 d (k H locs ls h1 h2 h3)
theorem r_lsub {M : MR} {P : MP} {pc : Nat} {L : List (Option Value)} {st : List Value} {h : HP} {x y : Int64} (d : decode M.2.1 pc = .ok (.lsub, 1)) (k : mGM M (pc + 1) L (.long (x - y) :: st) h P) : mGM M pc L (.long y :: .long x :: st) h P := fun B c ad X => g_lsub X d  (k B c ad X)
theorem g_lshl {B : BT} {c : Nat × Nat} {ad : Nat → Nat} {M : MR} {P : MP} {pc : Nat} {L : List (Option Value)} {st : List Value} {h : HP} {x : Int64} {y : Int32} (X : mCx B c ad M P) (d : decode M.2.1 pc = .ok (.lshl, 1)) (k : mG B c ad M.2.2.1 (pc + 1) L (.long (x <<< (y.toInt64 &&& 63)) :: st) h) : mG B c ad M.2.2.1 pc L (.int y :: .long x :: st) h := by
  obtain ⟨p, l, e, R, s, m, args, below, meth, cd, Q, D, A⟩ := B
  exact fun H locs ls h1 h2 h3 => lv_lshl X.1 X.2.1 d rfl (k H locs ls h1 h2 h3)
theorem r_lshl {M : MR} {P : MP} {pc : Nat} {L : List (Option Value)} {st : List Value} {h : HP} {x : Int64} {y : Int32} (d : decode M.2.1 pc = .ok (.lshl, 1)) (k : mGM M (pc + 1) L (.long (x <<< (y.toInt64 &&& 63)) :: st) h P) : mGM M pc L (.int y :: .long x :: st) h P := fun B c ad X => g_lshl X d  (k B c ad X)
theorem g_i2l {B : BT} {c : Nat × Nat} {ad : Nat → Nat} {M : MR} {P : MP} {pc : Nat} {L : List (Option Value)} {st : List Value} {h : HP} {x : Int32} (X : mCx B c ad M P) (d : decode M.2.1 pc = .ok (.i2l, 1)) (k : mG B c ad M.2.2.1 (pc + 1) L (.long x.toInt64 :: st) h) : mG B c ad M.2.2.1 pc L (.int x :: st) h := by
  obtain ⟨p, l, e, R, s, m, args, below, meth, cd, Q, D, A⟩ := B
  exact fun H locs ls h1 h2 h3 => lv_i2l X.1 X.2.1 d rfl (k H locs ls h1 h2 h3)
theorem r_i2l {M : MR} {P : MP} {pc : Nat} {L : List (Option Value)} {st : List Value} {h : HP} {x : Int32} (d : decode M.2.1 pc = .ok (.i2l, 1)) (k : mGM M (pc + 1) L (.long x.toInt64 :: st) h P) : mGM M pc L (.int x :: st) h P := fun B c ad X => g_i2l X d  (k B c ad X)
theorem g_l2i {B : BT} {c : Nat × Nat} {ad : Nat → Nat} {M : MR} {P : MP} {pc : Nat} {L : List (Option Value)} {st : List Value} {h : HP} {x : Int64} (X : mCx B c ad M P) (d : decode M.2.1 pc = .ok (.l2i, 1)) (k : mG B c ad M.2.2.1 (pc + 1) L (.int x.toInt32 :: st) h) : mG B c ad M.2.2.1 pc L (.long x :: st) h := by
  obtain ⟨p, l, e, R, s, m, args, below, meth, cd, Q, D, A⟩ := B
  exact fun H locs ls h1 h2 h3 => lv_l2i X.1 X.2.1 d rfl (k H locs ls h1 h2 h3)
theorem r_l2i {M : MR} {P : MP} {pc : Nat} {L : List (Option Value)} {st : List Value} {h : HP} {x : Int64} (d : decode M.2.1 pc = .ok (.l2i, 1)) (k : mGM M (pc + 1) L (.int x.toInt32 :: st) h P) : mGM M pc L (.long x :: st) h P := fun B c ad X => g_l2i X d  (k B c ad X)
theorem g_i2b {B : BT} {c : Nat × Nat} {ad : Nat → Nat} {M : MR} {P : MP} {pc : Nat} {L : List (Option Value)} {st : List Value} {h : HP} {x : Int32} (X : mCx B c ad M P) (d : decode M.2.1 pc = .ok (.i2b, 1)) (k : mG B c ad M.2.2.1 (pc + 1) L (.int x.toInt8.toInt32 :: st) h) : mG B c ad M.2.2.1 pc L (.int x :: st) h := by
  obtain ⟨p, l, e, R, s, m, args, below, meth, cd, Q, D, A⟩ := B
  exact fun H locs ls h1 h2 h3 => lv_i2b X.1 X.2.1 d rfl (k H locs ls h1 h2 h3)
theorem r_i2b {M : MR} {P : MP} {pc : Nat} {L : List (Option Value)} {st : List Value} {h : HP} {x : Int32} (d : decode M.2.1 pc = .ok (.i2b, 1)) (k : mGM M (pc + 1) L (.int x.toInt8.toInt32 :: st) h P) : mGM M pc L (.int x :: st) h P := fun B c ad X => g_i2b X d  (k B c ad X)
theorem g_i2c {B : BT} {c : Nat × Nat} {ad : Nat → Nat} {M : MR} {P : MP} {pc : Nat} {L : List (Option Value)} {st : List Value} {h : HP} {x : Int32} (X : mCx B c ad M P) (d : decode M.2.1 pc = .ok (.i2c, 1)) (k : mG B c ad M.2.2.1 (pc + 1) L (.int (x.toUInt32 % 65536).toInt32 :: st) h) : mG B c ad M.2.2.1 pc L (.int x :: st) h := by
  obtain ⟨p, l, e, R, s, m, args, below, meth, cd, Q, D, A⟩ := B
  exact fun H locs ls h1 h2 h3 => lv_i2c X.1 X.2.1 d rfl (k H locs ls h1 h2 h3)
theorem r_i2c {M : MR} {P : MP} {pc : Nat} {L : List (Option Value)} {st : List Value} {h : HP} {x : Int32} (d : decode M.2.1 pc = .ok (.i2c, 1)) (k : mGM M (pc + 1) L (.int (x.toUInt32 % 65536).toInt32 :: st) h P) : mGM M pc L (.int x :: st) h P := fun B c ad X => g_i2c X d  (k B c ad X)
theorem g_dup {B : BT} {c : Nat × Nat} {ad : Nat → Nat} {M : MR} {P : MP} {pc : Nat} {L : List (Option Value)} {st : List Value} {h : HP} {v : Value} (X : mCx B c ad M P) (d : decode M.2.1 pc = .ok (.dup, 1)) (hv : v.category = 1) (k : mG B c ad M.2.2.1 (pc + 1) L (v :: v :: st) h) : mG B c ad M.2.2.1 pc L (v :: st) h := by
  obtain ⟨p, l, e, R, s, m, args, below, meth, cd, Q, D, A⟩ := B
  exact fun H locs ls h1 h2 h3 => lv_dup X.1 X.2.1 d ((mcv_cat ad v).trans hv) (k H locs ls h1 h2 h3)
theorem r_dup {M : MR} {P : MP} {pc : Nat} {L : List (Option Value)} {st : List Value} {h : HP} {v : Value} (d : decode M.2.1 pc = .ok (.dup, 1)) (hv : v.category = 1) (k : mGM M (pc + 1) L (v :: v :: st) h P) : mGM M pc L (v :: st) h P := fun B c ad X => g_dup X d hv (k B c ad X)
theorem g_dup2 {B : BT} {c : Nat × Nat} {ad : Nat → Nat} {M : MR} {P : MP} {pc : Nat} {L : List (Option Value)} {st : List Value} {h : HP} {v w : Value} (X : mCx B c ad M P) (d : decode M.2.1 pc = .ok (.dup2, 1)) (hv : v.category = 1) (hw : w.category = 1) (k : mG B c ad M.2.2.1 (pc + 1) L (v :: w :: v :: w :: st) h) : mG B c ad M.2.2.1 pc L (v :: w :: st) h := by
  obtain ⟨p, l, e, R, s, m, args, below, meth, cd, Q, D, A⟩ := B
  exact fun H locs ls h1 h2 h3 => lv_dup2_11 X.1 X.2.1 d ((mcv_cat ad v).trans hv) ((mcv_cat ad w).trans hw) (k H locs ls h1 h2 h3)
theorem r_dup2 {M : MR} {P : MP} {pc : Nat} {L : List (Option Value)} {st : List Value} {h : HP} {v w : Value} (d : decode M.2.1 pc = .ok (.dup2, 1)) (hv : v.category = 1) (hw : w.category = 1) (k : mGM M (pc + 1) L (v :: w :: v :: w :: st) h P) : mGM M pc L (v :: w :: st) h P := fun B c ad X => g_dup2 X d hv hw (k B c ad X)
theorem g_if_eq {B : BT} {c : Nat × Nat} {ad : Nat → Nat} {M : MR} {P : MP} {pc : Nat} {L : List (Option Value)} {st : List Value} {h : HP} {x : Int32} {off : Int} {tgt : Nat} (X : mCx B c ad M P) (d : decode M.2.1 pc = .ok (.ifCond .eq off, 3)) (ht : (pc : Int) + off = (tgt : Int)) (kt : x = 0 → mG B c ad M.2.2.1 tgt L st h) (kf : ¬ x = 0 → mG B c ad M.2.2.1 (pc + 3) L st h) : mG B c ad M.2.2.1 pc L (.int x :: st) h := by
  obtain ⟨p, l, e, R, s, m, args, below, meth, cd, Q, D, A⟩ := B
  exact fun H locs ls h1 h2 h3 => lv_if_eq X.1 X.2.1 d ht (fun q => kt q H locs ls h1 h2 h3) (fun q => kf q H locs ls h1 h2 h3)
theorem r_if_eq {M : MR} {P : MP} {pc : Nat} {L : List (Option Value)} {st : List Value} {h : HP} {x : Int32} {off : Int} {tgt : Nat} (d : decode M.2.1 pc = .ok (.ifCond .eq off, 3)) (ht : (pc : Int) + off = (tgt : Int)) (kt : x = 0 → mGM M tgt L st h P) (kf : ¬ x = 0 → mGM M (pc + 3) L st h P) : mGM M pc L (.int x :: st) h P := fun B c ad X => g_if_eq X d ht (fun q => kt q B c ad X) (fun q => kf q B c ad X)
theorem g_icmp_eq {B : BT} {c : Nat × Nat} {ad : Nat → Nat} {M : MR} {P : MP} {pc : Nat} {L : List (Option Value)} {st : List Value} {h : HP} {x y : Int32} {off : Int} {tgt : Nat} (X : mCx B c ad M P) (d : decode M.2.1 pc = .ok (.if_icmp .eq off, 3)) (ht : (pc : Int) + off = (tgt : Int)) (kt : x = y → mG B c ad M.2.2.1 tgt L st h) (kf : ¬ x = y → mG B c ad M.2.2.1 (pc + 3) L st h) : mG B c ad M.2.2.1 pc L (.int y :: .int x :: st) h := by
  obtain ⟨p, l, e, R, s, m, args, below, meth, cd, Q, D, A⟩ := B
  exact fun H locs ls h1 h2 h3 => lv_icmp_eq X.1 X.2.1 d ht (fun q => kt q H locs ls h1 h2 h3) (fun q => kf q H locs ls h1 h2 h3)
theorem r_icmp_eq {M : MR} {P : MP} {pc : Nat} {L : List (Option Value)} {st : List Value} {h : HP} {x y : Int32} {off : Int} {tgt : Nat} (d : decode M.2.1 pc = .ok (.if_icmp .eq off, 3)) (ht : (pc : Int) + off = (tgt : Int)) (kt : x = y → mGM M tgt L st h P) (kf : ¬ x = y → mGM M (pc + 3) L st h P) : mGM M pc L (.int y :: .int x :: st) h P := fun B c ad X => g_icmp_eq X d ht (fun q => kt q B c ad X) (fun q => kf q B c ad X)
theorem g_if_ne {B : BT} {c : Nat × Nat} {ad : Nat → Nat} {M : MR} {P : MP} {pc : Nat} {L : List (Option Value)} {st : List Value} {h : HP} {x : Int32} {off : Int} {tgt : Nat} (X : mCx B c ad M P) (d : decode M.2.1 pc = .ok (.ifCond .ne off, 3)) (ht : (pc : Int) + off = (tgt : Int)) (kt : ¬ x = 0 → mG B c ad M.2.2.1 tgt L st h) (kf : x = 0 → mG B c ad M.2.2.1 (pc + 3) L st h) : mG B c ad M.2.2.1 pc L (.int x :: st) h := by
  obtain ⟨p, l, e, R, s, m, args, below, meth, cd, Q, D, A⟩ := B
  exact fun H locs ls h1 h2 h3 => lv_if_ne X.1 X.2.1 d ht (fun q => kt q H locs ls h1 h2 h3) (fun q => kf q H locs ls h1 h2 h3)
theorem r_if_ne {M : MR} {P : MP} {pc : Nat} {L : List (Option Value)} {st : List Value} {h : HP} {x : Int32} {off : Int} {tgt : Nat} (d : decode M.2.1 pc = .ok (.ifCond .ne off, 3)) (ht : (pc : Int) + off = (tgt : Int)) (kt : ¬ x = 0 → mGM M tgt L st h P) (kf : x = 0 → mGM M (pc + 3) L st h P) : mGM M pc L (.int x :: st) h P := fun B c ad X => g_if_ne X d ht (fun q => kt q B c ad X) (fun q => kf q B c ad X)
theorem g_icmp_ne {B : BT} {c : Nat × Nat} {ad : Nat → Nat} {M : MR} {P : MP} {pc : Nat} {L : List (Option Value)} {st : List Value} {h : HP} {x y : Int32} {off : Int} {tgt : Nat} (X : mCx B c ad M P) (d : decode M.2.1 pc = .ok (.if_icmp .ne off, 3)) (ht : (pc : Int) + off = (tgt : Int)) (kt : ¬ x = y → mG B c ad M.2.2.1 tgt L st h) (kf : x = y → mG B c ad M.2.2.1 (pc + 3) L st h) : mG B c ad M.2.2.1 pc L (.int y :: .int x :: st) h := by
  obtain ⟨p, l, e, R, s, m, args, below, meth, cd, Q, D, A⟩ := B
  exact fun H locs ls h1 h2 h3 => lv_icmp_ne X.1 X.2.1 d ht (fun q => kt q H locs ls h1 h2 h3) (fun q => kf q H locs ls h1 h2 h3)
theorem r_icmp_ne {M : MR} {P : MP} {pc : Nat} {L : List (Option Value)} {st : List Value} {h : HP} {x y : Int32} {off : Int} {tgt : Nat} (d : decode M.2.1 pc = .ok (.if_icmp .ne off, 3)) (ht : (pc : Int) + off = (tgt : Int)) (kt : ¬ x = y → mGM M tgt L st h P) (kf : x = y → mGM M (pc + 3) L st h P) : mGM M pc L (.int y :: .int x :: st) h P := fun B c ad X => g_icmp_ne X d ht (fun q => kt q B c ad X) (fun q => kf q B c ad X)
theorem g_if_lt {B : BT} {c : Nat × Nat} {ad : Nat → Nat} {M : MR} {P : MP} {pc : Nat} {L : List (Option Value)} {st : List Value} {h : HP} {x : Int32} {off : Int} {tgt : Nat} (X : mCx B c ad M P) (d : decode M.2.1 pc = .ok (.ifCond .lt off, 3)) (ht : (pc : Int) + off = (tgt : Int)) (kt : x < 0 → mG B c ad M.2.2.1 tgt L st h) (kf : ¬ x < 0 → mG B c ad M.2.2.1 (pc + 3) L st h) : mG B c ad M.2.2.1 pc L (.int x :: st) h := by
  obtain ⟨p, l, e, R, s, m, args, below, meth, cd, Q, D, A⟩ := B
  exact fun H locs ls h1 h2 h3 => lv_if_lt X.1 X.2.1 d ht (fun q => kt q H locs ls h1 h2 h3) (fun q => kf q H locs ls h1 h2 h3)
theorem r_if_lt {M : MR} {P : MP} {pc : Nat} {L : List (Option Value)} {st : List Value} {h : HP} {x : Int32} {off : Int} {tgt : Nat} (d : decode M.2.1 pc = .ok (.ifCond .lt off, 3)) (ht : (pc : Int) + off = (tgt : Int)) (kt : x < 0 → mGM M tgt L st h P) (kf : ¬ x < 0 → mGM M (pc + 3) L st h P) : mGM M pc L (.int x :: st) h P := fun B c ad X => g_if_lt X d ht (fun q => kt q B c ad X) (fun q => kf q B c ad X)
theorem g_icmp_lt {B : BT} {c : Nat × Nat} {ad : Nat → Nat} {M : MR} {P : MP} {pc : Nat} {L : List (Option Value)} {st : List Value} {h : HP} {x y : Int32} {off : Int} {tgt : Nat} (X : mCx B c ad M P) (d : decode M.2.1 pc = .ok (.if_icmp .lt off, 3)) (ht : (pc : Int) + off = (tgt : Int)) (kt : x < y → mG B c ad M.2.2.1 tgt L st h) (kf : ¬ x < y → mG B c ad M.2.2.1 (pc + 3) L st h) : mG B c ad M.2.2.1 pc L (.int y :: .int x :: st) h := by
  obtain ⟨p, l, e, R, s, m, args, below, meth, cd, Q, D, A⟩ := B
  exact fun H locs ls h1 h2 h3 => lv_icmp_lt X.1 X.2.1 d ht (fun q => kt q H locs ls h1 h2 h3) (fun q => kf q H locs ls h1 h2 h3)
theorem r_icmp_lt {M : MR} {P : MP} {pc : Nat} {L : List (Option Value)} {st : List Value} {h : HP} {x y : Int32} {off : Int} {tgt : Nat} (d : decode M.2.1 pc = .ok (.if_icmp .lt off, 3)) (ht : (pc : Int) + off = (tgt : Int)) (kt : x < y → mGM M tgt L st h P) (kf : ¬ x < y → mGM M (pc + 3) L st h P) : mGM M pc L (.int y :: .int x :: st) h P := fun B c ad X => g_icmp_lt X d ht (fun q => kt q B c ad X) (fun q => kf q B c ad X)
theorem g_if_ge {B : BT} {c : Nat × Nat} {ad : Nat → Nat} {M : MR} {P : MP} {pc : Nat} {L : List (Option Value)} {st : List Value} {h : HP} {x : Int32} {off : Int} {tgt : Nat} (X : mCx B c ad M P) (d : decode M.2.1 pc = .ok (.ifCond .ge off, 3)) (ht : (pc : Int) + off = (tgt : Int)) (kt : 0 ≤ x → mG B c ad M.2.2.1 tgt L st h) (kf : ¬ 0 ≤ x → mG B c ad M.2.2.1 (pc + 3) L st h) : mG B c ad M.2.2.1 pc L (.int x :: st) h := by
  obtain ⟨p, l, e, R, s, m, args, below, meth, cd, Q, D, A⟩ := B
  exact fun H locs ls h1 h2 h3 => lv_if_ge X.1 X.2.1 d ht (fun q => kt q H locs ls h1 h2 h3) (fun q => kf q H locs ls h1 h2 h3)
theorem r_if_ge {M : MR} {P : MP} {pc : Nat} {L : List (Option Value)} {st : List Value} {h : HP} {x : Int32} {off : Int} {tgt : Nat} (d : decode M.2.1 pc = .ok (.ifCond .ge off, 3)) (ht : (pc : Int) + off = (tgt : Int)) (kt : 0 ≤ x → mGM M tgt L st h P) (kf : ¬ 0 ≤ x → mGM M (pc + 3) L st h P) : mGM M pc L (.int x :: st) h P := fun B c ad X => g_if_ge X d ht (fun q => kt q B c ad X) (fun q => kf q B c ad X)
theorem g_icmp_ge {B : BT} {c : Nat × Nat} {ad : Nat → Nat} {M : MR} {P : MP} {pc : Nat} {L : List (Option Value)} {st : List Value} {h : HP} {x y : Int32} {off : Int} {tgt : Nat} (X : mCx B c ad M P) (d : decode M.2.1 pc = .ok (.if_icmp .ge off, 3)) (ht : (pc : Int) + off = (tgt : Int)) (kt : y ≤ x → mG B c ad M.2.2.1 tgt L st h) (kf : ¬ y ≤ x → mG B c ad M.2.2.1 (pc + 3) L st h) : mG B c ad M.2.2.1 pc L (.int y :: .int x :: st) h := by
  obtain ⟨p, l, e, R, s, m, args, below, meth, cd, Q, D, A⟩ := B
  exact fun H locs ls h1 h2 h3 => lv_icmp_ge X.1 X.2.1 d ht (fun q => kt q H locs ls h1 h2 h3) (fun q => kf q H locs ls h1 h2 h3)
theorem r_icmp_ge {M : MR} {P : MP} {pc : Nat} {L : List (Option Value)} {st : List Value} {h : HP} {x y : Int32} {off : Int} {tgt : Nat} (d : decode M.2.1 pc = .ok (.if_icmp .ge off, 3)) (ht : (pc : Int) + off = (tgt : Int)) (kt : y ≤ x → mGM M tgt L st h P) (kf : ¬ y ≤ x → mGM M (pc + 3) L st h P) : mGM M pc L (.int y :: .int x :: st) h P := fun B c ad X => g_icmp_ge X d ht (fun q => kt q B c ad X) (fun q => kf q B c ad X)
theorem g_if_gt {B : BT} {c : Nat × Nat} {ad : Nat → Nat} {M : MR} {P : MP} {pc : Nat} {L : List (Option Value)} {st : List Value} {h : HP} {x : Int32} {off : Int} {tgt : Nat} (X : mCx B c ad M P) (d : decode M.2.1 pc = .ok (.ifCond .gt off, 3)) (ht : (pc : Int) + off = (tgt : Int)) (kt : 0 < x → mG B c ad M.2.2.1 tgt L st h) (kf : ¬ 0 < x → mG B c ad M.2.2.1 (pc + 3) L st h) : mG B c ad M.2.2.1 pc L (.int x :: st) h := by
  obtain ⟨p, l, e, R, s, m, args, below, meth, cd, Q, D, A⟩ := B
  exact fun H locs ls h1 h2 h3 => lv_if_gt X.1 X.2.1 d ht (fun q => kt q H locs ls h1 h2 h3) (fun q => kf q H locs ls h1 h2 h3)
theorem r_if_gt {M : MR} {P : MP} {pc : Nat} {L : List (Option Value)} {st : List Value} {h : HP} {x : Int32} {off : Int} {tgt : Nat} (d : decode M.2.1 pc = .ok (.ifCond .gt off, 3)) (ht : (pc : Int) + off = (tgt : Int)) (kt : 0 < x → mGM M tgt L st h P) (kf : ¬ 0 < x → mGM M (pc + 3) L st h P) : mGM M pc L (.int x :: st) h P := fun B c ad X => g_if_gt X d ht (fun q => kt q B c ad X) (fun q => kf q B c ad X)
theorem g_icmp_gt {B : BT} {c : Nat × Nat} {ad : Nat → Nat} {M : MR} {P : MP} {pc : Nat} {L : List (Option Value)} {st : List Value} {h : HP} {x y : Int32} {off : Int} {tgt : Nat} (X : mCx B c ad M P) (d : decode M.2.1 pc = .ok (.if_icmp .gt off, 3)) (ht : (pc : Int) + off = (tgt : Int)) (kt : y < x → mG B c ad M.2.2.1 tgt L st h) (kf : ¬ y < x → mG B c ad M.2.2.1 (pc + 3) L st h) : mG B c ad M.2.2.1 pc L (.int y :: .int x :: st) h := by
  obtain ⟨p, l, e, R, s, m, args, below, meth, cd, Q, D, A⟩ := B
  exact fun H locs ls h1 h2 h3 => lv_icmp_gt X.1 X.2.1 d ht (fun q => kt q H locs ls h1 h2 h3) (fun q => kf q H locs ls h1 h2 h3)
theorem r_icmp_gt {M : MR} {P : MP} {pc : Nat} {L : List (Option Value)} {st : List Value} {h : HP} {x y : Int32} {off : Int} {tgt : Nat} (d : decode M.2.1 pc = .ok (.if_icmp .gt off, 3)) (ht : (pc : Int) + off = (tgt : Int)) (kt : y < x → mGM M tgt L st h P) (kf : ¬ y < x → mGM M (pc + 3) L st h P) : mGM M pc L (.int y :: .int x :: st) h P := fun B c ad X => g_icmp_gt X d ht (fun q => kt q B c ad X) (fun q => kf q B c ad X)
theorem g_if_le {B : BT} {c : Nat × Nat} {ad : Nat → Nat} {M : MR} {P : MP} {pc : Nat} {L : List (Option Value)} {st : List Value} {h : HP} {x : Int32} {off : Int} {tgt : Nat} (X : mCx B c ad M P) (d : decode M.2.1 pc = .ok (.ifCond .le off, 3)) (ht : (pc : Int) + off = (tgt : Int)) (kt : x ≤ 0 → mG B c ad M.2.2.1 tgt L st h) (kf : ¬ x ≤ 0 → mG B c ad M.2.2.1 (pc + 3) L st h) : mG B c ad M.2.2.1 pc L (.int x :: st) h := by
  obtain ⟨p, l, e, R, s, m, args, below, meth, cd, Q, D, A⟩ := B
  exact fun H locs ls h1 h2 h3 => lv_if_le X.1 X.2.1 d ht (fun q => kt q H locs ls h1 h2 h3) (fun q => kf q H locs ls h1 h2 h3)
theorem r_if_le {M : MR} {P : MP} {pc : Nat} {L : List (Option Value)} {st : List Value} {h : HP} {x : Int32} {off : Int} {tgt : Nat} (d : decode M.2.1 pc = .ok (.ifCond .le off, 3)) (ht : (pc : Int) + off = (tgt : Int)) (kt : x ≤ 0 → mGM M tgt L st h P) (kf : ¬ x ≤ 0 → mGM M (pc + 3) L st h P) : mGM M pc L (.int x :: st) h P := fun B c ad X => g_if_le X d ht (fun q => kt q B c ad X) (fun q => kf q B c ad X)
theorem g_icmp_le {B : BT} {c : Nat × Nat} {ad : Nat → Nat} {M : MR} {P : MP} {pc : Nat} {L : List (Option Value)} {st : List Value} {h : HP} {x y : Int32} {off : Int} {tgt : Nat} (X : mCx B c ad M P) (d : decode M.2.1 pc = .ok (.if_icmp .le off, 3)) (ht : (pc : Int) + off = (tgt : Int)) (kt : x ≤ y → mG B c ad M.2.2.1 tgt L st h) (kf : ¬ x ≤ y → mG B c ad M.2.2.1 (pc + 3) L st h) : mG B c ad M.2.2.1 pc L (.int y :: .int x :: st) h := by
  obtain ⟨p, l, e, R, s, m, args, below, meth, cd, Q, D, A⟩ := B
  exact fun H locs ls h1 h2 h3 => lv_icmp_le X.1 X.2.1 d ht (fun q => kt q H locs ls h1 h2 h3) (fun q => kf q H locs ls h1 h2 h3)
theorem r_icmp_le {M : MR} {P : MP} {pc : Nat} {L : List (Option Value)} {st : List Value} {h : HP} {x y : Int32} {off : Int} {tgt : Nat} (d : decode M.2.1 pc = .ok (.if_icmp .le off, 3)) (ht : (pc : Int) + off = (tgt : Int)) (kt : x ≤ y → mGM M tgt L st h P) (kf : ¬ x ≤ y → mGM M (pc + 3) L st h P) : mGM M pc L (.int y :: .int x :: st) h P := fun B c ad X => g_icmp_le X d ht (fun q => kt q B c ad X) (fun q => kf q B c ad X)
theorem g_goto {B : BT} {c : Nat × Nat} {ad : Nat → Nat} {M : MR} {P : MP} {pc : Nat} {L : List (Option Value)} {st : List Value} {h : HP} {off : Int} {tgt : Nat} (X : mCx B c ad M P) (d : decode M.2.1 pc = .ok (.goto off, 3)) (ht : (pc : Int) + off = (tgt : Int)) (k : mG B c ad M.2.2.1 tgt L st h) : mG B c ad M.2.2.1 pc L st h := by
  obtain ⟨p, l, e, R, s, m, args, below, meth, cd, Q, D, A⟩ := B
  exact fun H locs ls h1 h2 h3 => lv_goto X.1 X.2.1 d ht (k H locs ls h1 h2 h3)
theorem r_goto {M : MR} {P : MP} {pc : Nat} {L : List (Option Value)} {st : List Value} {h : HP} {off : Int} {tgt : Nat} (d : decode M.2.1 pc = .ok (.goto off, 3)) (ht : (pc : Int) + off = (tgt : Int)) (k : mGM M tgt L st h P) : mGM M pc L st h P := fun B c ad X => g_goto X d ht (k B c ad X)
theorem g_tabIn {B : BT} {c : Nat × Nat} {ad : Nat → Nat} {M : MR} {P : MP} {pc : Nat} {L : List (Option Value)} {st : List Value} {h : HP} {dflt lo hi off : Int} {offs : Array Int} {len tgt : Nat} {x : Int32} (X : mCx B c ad M P) (d : decode M.2.1 pc = .ok (.tableswitch dflt lo hi offs, len)) (h1 : ¬ x.toInt < lo) (h2 : ¬ hi < x.toInt) (ho : offs[(x.toInt - lo).toNat]? = some off) (ht : (pc : Int) + off = (tgt : Int)) (k : mG B c ad M.2.2.1 tgt L st h) : mG B c ad M.2.2.1 pc L (.int x :: st) h := by
  obtain ⟨p, l, e, R, s, m, args, below, meth, cd, Q, D, A⟩ := B
  exact fun H locs ls q1 q2 q3 => lv_tableIn X.1 X.2.1 d h1 h2 ho ht (k H locs ls q1 q2 q3)
theorem r_tabIn {M : MR} {P : MP} {pc : Nat} {L : List (Option Value)} {st : List Value} {h : HP} {dflt lo hi off : Int} {offs : Array Int} {len tgt : Nat} {x : Int32} (d : decode M.2.1 pc = .ok (.tableswitch dflt lo hi offs, len)) (h1 : ¬ x.toInt < lo) (h2 : ¬ hi < x.toInt) (ho : offs[(x.toInt - lo).toNat]? = some off) (ht : (pc : Int) + off = (tgt : Int)) (k : mGM M tgt L st h P) : mGM M pc L (.int x :: st) h P := fun B c ad X => g_tabIn X d h1 h2 ho ht (k B c ad X)
theorem g_tabOut {B : BT} {c : Nat × Nat} {ad : Nat → Nat} {M : MR} {P : MP} {pc : Nat} {L : List (Option Value)} {st : List Value} {h : HP} {dflt lo hi : Int} {offs : Array Int} {len tgt : Nat} {x : Int32} (X : mCx B c ad M P) (d : decode M.2.1 pc = .ok (.tableswitch dflt lo hi offs, len)) (h1 : x.toInt < lo ∨ hi < x.toInt) (ht : (pc : Int) + dflt = (tgt : Int)) (k : mG B c ad M.2.2.1 tgt L st h) : mG B c ad M.2.2.1 pc L (.int x :: st) h := by
  obtain ⟨p, l, e, R, s, m, args, below, meth, cd, Q, D, A⟩ := B
  exact fun H locs ls q1 q2 q3 => lv_tableOut X.1 X.2.1 d h1 ht (k H locs ls q1 q2 q3)
theorem r_tabOut {M : MR} {P : MP} {pc : Nat} {L : List (Option Value)} {st : List Value} {h : HP} {dflt lo hi : Int} {offs : Array Int} {len tgt : Nat} {x : Int32} (d : decode M.2.1 pc = .ok (.tableswitch dflt lo hi offs, len)) (h1 : x.toInt < lo ∨ hi < x.toInt) (ht : (pc : Int) + dflt = (tgt : Int)) (k : mGM M tgt L st h P) : mGM M pc L (.int x :: st) h P := fun B c ad X => g_tabOut X d h1 ht (k B c ad X)
theorem g_ret {B : BT} {c : Nat × Nat} {ad : Nat → Nat} {M : MR} {P : MP} {pc : Nat} {L : List (Option Value)} {h : HP} (X : mCx B c ad M P) (hr : mRI M none pc) (k : P none h) : mG B c ad M.2.2.1 pc L [] h := by
  obtain ⟨p, l, e, R, s, m, args, below, meth, cd, Q, D, A⟩ := B
  exact fun H locs ls h1 h2 h3 => X.2.2.2.2.2.2.2.2.2.2 none h H locs ls pc k h1 h2 hr
theorem r_ret {M : MR} {P : MP} {pc : Nat} {L : List (Option Value)} {h : HP} (hr : mRI M none pc) (k : P none h) : mGM M pc L [] h P := fun B c ad X => g_ret X hr k
theorem g_iret {B : BT} {c : Nat × Nat} {ad : Nat → Nat} {M : MR} {P : MP} {pc : Nat} {L : List (Option Value)} {h : HP} {x : Int32} (X : mCx B c ad M P) (hr : mRI M (some (.int x)) pc) (k : P (some (.int x)) h) : mG B c ad M.2.2.1 pc L [.int x] h := by
  obtain ⟨p, l, e, R, s, m, args, below, meth, cd, Q, D, A⟩ := B
  exact fun H locs ls h1 h2 h3 => X.2.2.2.2.2.2.2.2.2.2 (some (.int x)) h H locs ls pc k h1 h2 hr
theorem r_iret {M : MR} {P : MP} {pc : Nat} {L : List (Option Value)} {h : HP} {x : Int32} (hr : mRI M (some (.int x)) pc) (k : P (some (.int x)) h) : mGM M pc L [.int x] h P := fun B c ad X => g_iret X hr k
theorem g_aret {B : BT} {c : Nat × Nat} {ad : Nat → Nat} {M : MR} {P : MP} {pc : Nat} {L : List (Option Value)} {h : HP} {x : Nat} (X : mCx B c ad M P) (hr : mRI M (some (.ref x)) pc) (k : P (some (.ref x)) h) : mG B c ad M.2.2.1 pc L [.ref x] h := by
  obtain ⟨p, l, e, R, s, m, args, below, meth, cd, Q, D, A⟩ := B
  exact fun H locs ls h1 h2 h3 => X.2.2.2.2.2.2.2.2.2.2 (some (.ref x)) h H locs ls pc k h1 h2 hr
theorem r_aret {M : MR} {P : MP} {pc : Nat} {L : List (Option Value)} {h : HP} {x : Nat} (hr : mRI M (some (.ref x)) pc) (k : P (some (.ref x)) h) : mGM M pc L [.ref x] h P := fun B c ad X => g_aret X hr k
end
section
/-! fields and rows -/
def mTt (ci : Nat) : u_T := match ci with
  | 0 => TX0
  | 1 => TX1
  | 2 => TX2
  | 3 => TX3
  | 4 => TX4
  | 5 => TX5
  | 6 => TX6
  | 7 => TX7
  | _ => TX8
def mCn (ci : Nat) : String := match ci with
  | 0 => RX0
  | 1 => RX1
  | 2 => RX2
  | 3 => RX3
  | 4 => RX4
  | 5 => RX5
  | 6 => RX6
  | 7 => RX7
  | _ => RX8
theorem mCl_at {ci : Nat} (h : ci < 9) : vwCl[ci]? = some (mCn ci, mTt ci, mNF ci) := by
  match ci, h with
  | 0, _ => rfl
  | 1, _ => rfl
  | 2, _ => rfl
  | 3, _ => rfl
  | 4, _ => rfl
  | 5, _ => rfl
  | 6, _ => rfl
  | 7, _ => rfl
  | 8, _ => rfl
theorem mIn_all {ws : List Cond} (h : ws.all (fun w => decide (w ∈ lw_tbl) && goodWord w) = true) : ∀ w ∈ ws, w ∈ mTb := fun w hw => by
  have h1 := List.all_eq_true.mp h w hw
  simp only [Bool.and_eq_true, decide_eq_true_eq] at h1
  exact List.mem_filter.mpr h1
theorem mIn0 : ∀ w ∈ u_ws RX0 TX0 7, w ∈ mTb := mIn_all (by decide +kernel)
theorem mIn1 : ∀ w ∈ u_ws RX1 TX1 2, w ∈ mTb := mIn_all (by decide +kernel)
theorem mIn2 : ∀ w ∈ u_ws RX2 TX2 5, w ∈ mTb := mIn_all (by decide +kernel)
theorem mIn3 : ∀ w ∈ u_ws RX3 TX3 18, w ∈ mTb := mIn_all (by decide +kernel)
theorem mIn4 : ∀ w ∈ u_ws RX4 TX4 10, w ∈ mTb := mIn_all (by decide +kernel)
theorem mIn5 : ∀ w ∈ u_ws RX5 TX5 12, w ∈ mTb := mIn_all (by decide +kernel)
theorem mIn6 : ∀ w ∈ u_ws RX6 TX6 2, w ∈ mTb := mIn_all (by decide +kernel)
theorem mIn7 : ∀ w ∈ u_ws RX7 TX7 11, w ∈ mTb := mIn_all (by decide +kernel)
theorem mIn8 : ∀ w ∈ u_ws RX8 TX8 23, w ∈ mTb := mIn_all (by decide +kernel)
theorem mIn {ci : Nat} (h : ci < 9) : ∀ w ∈ u_ws (mCn ci) (mTt ci) (mNF ci), w ∈ mTb := by
  match ci, h with
  | 0, _ => exact mIn0
  | 1, _ => exact mIn1
  | 2, _ => exact mIn2
  | 3, _ => exact mIn3
  | 4, _ => exact mIn4
  | 5, _ => exact mIn5
  | 6, _ => exact mIn6
  | 7, _ => exact mIn7
  | 8, _ => exact mIn8
theorem mTyOk {ci : Nat} (h : ci < 9) : ∀ k, k < mNF ci → parseFieldDescriptor (mTt ci k).2.2.1 = some (mTy ci k) := by
  match ci, h with
  | 0, _ => exact tyX0_ok
  | 1, _ => exact tyX1_ok
  | 2, _ => exact tyX2_ok
  | 3, _ => exact tyX3_ok
  | 4, _ => exact tyX4_ok
  | 5, _ => exact tyX5_ok
  | 6, _ => exact tyX6_ok
  | 7, _ => exact tyX7_ok
  | 8, _ => exact tyX8_ok
theorem mNm {ci : Nat} (h : ci < 9) : ∀ a, a < mNF ci → ∀ b, b < mNF ci → a ≠ b → (mTt ci a).2.1 ≠ (mTt ci b).2.1 := by
  match ci, h with
  | 0, _ => exact nmX0
  | 1, _ => exact nmX1
  | 2, _ => exact nmX2
  | 3, _ => exact nmX3
  | 4, _ => exact nmX4
  | 5, _ => exact nmX5
  | 6, _ => exact nmX6
  | 7, _ => exact nmX7
  | 8, _ => exact nmX8
/-- the link of a field: at place idx of own's pool stands field k of kind ci -/
def mFld (own : String) (idx ci k : Nat) : Prop := ci < 9 ∧ k < mNF ci ∧ Cond.fieldLink own idx (mTt ci k).1 (mTt ci k).2.1 (mTt ci k).2.2.1 ∈ mTb
theorem mfs_at {ad : Nat → Nat} {h : HP} {ci a k : Nat} (hk : k < mNF ci) : ((List.range (mNF ci)).map (mfv ad h ci a))[k]? = some (mfv ad h ci a k) := by simp [hk]
section MHR
variable {B : BT} {c : Nat × Nat} {ad : Nat → Nat} {M : MR} {P : MP} {pc : Nat} {L : List (Option Value)} {st : List Value} {h : HP}
theorem g_getI {a ci n i k : Nat} (X : mCx B c ad M P) (d : decode M.2.1 pc = .ok (.getfield i, 3)) (F : mFld M.1.cls i ci k) (hi : mIs (mTy ci k) = true) (e : kd h a = some (ci, n)) (kk : mG B c ad M.2.2.1 (pc + 3) L (.int (rI h a k) :: st) h) : mG B c ad M.2.2.1 pc L (.ref a :: st) h := by
  obtain ⟨p, l, e0, R, s, m, args, below, meth, cd, Q, D, A⟩ := B
  intro H locs ls h1 h2 h3
  obtain ⟨ca, hP, hD, hT⟩ := h1
  have he : (mWl ad ca h)[a]? = some (ad a, .inr (ci, (List.range (mNF ci)).map (mfv ad h ci a))) := by rw [mWl_at (kd_lt e).1, mEnt_obj e F.1]
  refine va_get (cl := vwCl) X.1 X.2.1 X.2.2.2.2.1 (mIn F.1) X.2.2.2.1 X.2.2.2.2.2.1 hP a he (mCl_at F.1) k F.2.1 (X.2.2.2.2.1 _ F.2.2) (fun _ q => q) (mfs_at F.2.1) d ?_
  have hv : mfv ad h ci a k = .int (rI h a k) := by unfold mfv; rw [if_pos hi]
  rw [hv]
  exact kk H locs ls ⟨ca, hP, hD, hT⟩ h2 h3
theorem g_getR {a ci n i k b : Nat} (X : mCx B c ad M P) (d : decode M.2.1 pc = .ok (.getfield i, 3)) (F : mFld M.1.cls i ci k) (hi : mIs (mTy ci k) = false) (e : kd h a = some (ci, n)) (hr : rR h a k = some b) (kk : mG B c ad M.2.2.1 (pc + 3) L (.ref b :: st) h) : mG B c ad M.2.2.1 pc L (.ref a :: st) h := by
  obtain ⟨p, l, e0, R, s, m, args, below, meth, cd, Q, D, A⟩ := B
  intro H locs ls h1 h2 h3
  obtain ⟨ca, hP, hD, hT⟩ := h1
  have he : (mWl ad ca h)[a]? = some (ad a, .inr (ci, (List.range (mNF ci)).map (mfv ad h ci a))) := by rw [mWl_at (kd_lt e).1, mEnt_obj e F.1]
  refine va_get (cl := vwCl) X.1 X.2.1 X.2.2.2.2.1 (mIn F.1) X.2.2.2.1 X.2.2.2.2.2.1 hP a he (mCl_at F.1) k F.2.1 (X.2.2.2.2.1 _ F.2.2) (fun _ q => q) (mfs_at F.2.1) d ?_
  have hv : mfv ad h ci a k = .ref (ad b) := by unfold mfv; rw [if_neg (by rw [hi]; decide), hr]; rfl
  rw [hv]
  exact kk H locs ls ⟨ca, hP, hD, hT⟩ h2 h3
theorem g_putI {a ci n i k : Nat} {v : Int32} (X : mCx B c ad M P) (d : decode M.2.1 pc = .ok (.putfield i, 3)) (F : mFld M.1.cls i ci k) (hi : mIs (mTy ci k) = true) (hf : (mTt ci k).2.2.2 = false) (e : kd h a = some (ci, n)) (hv : narrow (mTy ci k) (.int v) = .int v ∧ fits (mTy ci k) (.int v) = true) (kk : mG B c ad M.2.2.1 (pc + 3) L st (wI h a k v)) : mG B c ad M.2.2.1 pc L (.int v :: .ref a :: st) h := by
  obtain ⟨p, l, e0, R, s, m, args, below, meth, cd, Q, D, A⟩ := B
  intro H locs ls h1 h2 h3
  obtain ⟨ca, hP, hD, hT⟩ := h1
  have he : (mWl ad ca h)[a]? = some (ad a, .inr (ci, (List.range (mNF ci)).map (mfv ad h ci a))) := by rw [mWl_at (kd_lt e).1, mEnt_obj e F.1]
  refine va_put (cl := vwCl) (v := .int v) X.1 X.2.1 X.2.2.2.2.1 (mIn F.1) (mTy ci) (mTyOk F.1) (mNm F.1) X.2.2.2.1 X.2.2.2.2.2.1 hP hD h2 a he (mCl_at F.1) k F.2.1 (X.2.2.2.2.1 _ F.2.2) (fun _ q => q) hf (mTyOk F.1 k F.2.1) hv.1 hv.2 (by simpa using F.2.1) d (fun H1 locs1 q1 q2 q3 => ?_)
  rw [← mWl_obj e F.1 F.2.1 hi] at q1 q2
  exact kk H1 locs1 ls ⟨ca, q1, q2, hT⟩ q3 h3
theorem g_putR {a ci n i k b : Nat} (X : mCx B c ad M P) (d : decode M.2.1 pc = .ok (.putfield i, 3)) (F : mFld M.1.cls i ci k) (hi : mIs (mTy ci k) = false) (hf : (mTt ci k).2.2.2 = false) (e : kd h a = some (ci, n)) (kk : mG B c ad M.2.2.1 (pc + 3) L st (wR h a k (some b))) : mG B c ad M.2.2.1 pc L (.ref b :: .ref a :: st) h := by
  obtain ⟨p, l, e0, R, s, m, args, below, meth, cd, Q, D, A⟩ := B
  intro H locs ls h1 h2 h3
  obtain ⟨ca, hP, hD, hT⟩ := h1
  have he : (mWl ad ca h)[a]? = some (ad a, .inr (ci, (List.range (mNF ci)).map (mfv ad h ci a))) := by rw [mWl_at (kd_lt e).1, mEnt_obj e F.1]
  have hnf : narrow (mTy ci k) (.ref (ad b)) = .ref (ad b) ∧ fits (mTy ci k) (.ref (ad b)) = true := by
    cases ht : mTy ci k <;> first | exact ⟨rfl, rfl⟩ | (rw [ht] at hi; cases hi)
  refine va_put (cl := vwCl) (v := .ref (ad b)) X.1 X.2.1 X.2.2.2.2.1 (mIn F.1) (mTy ci) (mTyOk F.1) (mNm F.1) X.2.2.2.1 X.2.2.2.2.2.1 hP hD h2 a he (mCl_at F.1) k F.2.1 (X.2.2.2.2.1 _ F.2.2) (fun _ q => q) hf (mTyOk F.1 k F.2.1) hnf.1 hnf.2 (by simpa using F.2.1) d (fun H1 locs1 q1 q2 q3 => ?_)
  have hw := mWl_objR (ad := ad) (ca := ca) (v := some b) e F.1 F.2.1 hi
  rw [show va_rf ((some b).map ad) = .ref (ad b) from rfl] at hw
  rw [← hw] at q1 q2
  exact kk H1 locs1 ls ⟨ca, q1, q2, hT⟩ q3 h3
theorem g_putRF {a ci n i k b : Nat} (X : mCx B c ad M P) (d : decode M.2.1 pc = .ok (.putfield i, 3)) (F : mFld M.1.cls i ci k) (hi : mIs (mTy ci k) = false) (hf : (mTt ci k).2.2.2 = true) (hdc : (mTt ci k).1 = M.1.cls) (hin : M.1.name = "<init>") (e : kd h a = some (ci, n)) (kk : mG B c ad M.2.2.1 (pc + 3) L st (wR h a k (some b))) : mG B c ad M.2.2.1 pc L (.ref b :: .ref a :: st) h := by
  obtain ⟨p, l, e0, R, s, m, args, below, meth, cd, Q, D, A⟩ := B
  intro H locs ls h1 h2 h3
  obtain ⟨ca, hP, hD, hT⟩ := h1
  have he : (mWl ad ca h)[a]? = some (ad a, .inr (ci, (List.range (mNF ci)).map (mfv ad h ci a))) := by rw [mWl_at (kd_lt e).1, mEnt_obj e F.1]
  have hnf : narrow (mTy ci k) (.ref (ad b)) = .ref (ad b) ∧ fits (mTy ci k) (.ref (ad b)) = true := by
    cases ht : mTy ci k <;> first | exact ⟨rfl, rfl⟩ | (rw [ht] at hi; cases hi)
  refine va_putF (cl := vwCl) (v := .ref (ad b)) X.1 X.2.1 X.2.2.2.2.1 (mIn F.1) (mTy ci) (mTyOk F.1) (mNm F.1) X.2.2.2.1 X.2.2.2.2.2.1 hP hD h2 a he (mCl_at F.1) k F.2.1 (X.2.2.2.2.1 _ F.2.2) (fun _ q => q) hf (X.2.2.2.2.2.2.2.2.2.1.trans hin) hdc (mTyOk F.1 k F.2.1) hnf.1 hnf.2 (by simpa using F.2.1) d (fun H1 locs1 q1 q2 q3 => ?_)
  have hw := mWl_objR (ad := ad) (ca := ca) (v := some b) e F.1 F.2.1 hi
  rw [show va_rf ((some b).map ad) = .ref (ad b) from rfl] at hw
  rw [← hw] at q1 q2
  exact kk H1 locs1 ls ⟨ca, q1, q2, hT⟩ q3 h3
theorem mTyK {D : va_G} {s : State} {ca : Nat → ClassId} {a ci n : Nat} (hK : va_K D vwCl [] s) (e : kd h a = some (ci, n)) (h9 : 9 ≤ ci) (hT : ∀ a, a < h.1 → 9 ≤ (h.2.1 a).1 → ArrOfT s (ca a) (mAty (h.2.1 a).1) ∧ va_RA s (ca a) (mAty (h.2.1 a).1)) : va_K D vwCl [(ca a, mAty ci)] s := by
  refine ⟨hK.1, fun k q hk => ?_⟩
  have hz : k < 1 := (List.getElem?_eq_some_iff.mp hk).1
  rw [show k = 0 by omega] at hk
  cases hk
  obtain ⟨e1, e2⟩ := kd_lt e
  have := hT a e1 (by rw [e2]; exact h9)
  rw [e2] at this
  exact this
theorem g_iald {a n : Nat} {i : Int32} (X : mCx B c ad M P) (d : decode M.2.1 pc = .ok (.iaload, 1)) (e : kd h a = some (20, n)) (hin : vp_in i n) (kk : mG B c ad M.2.2.1 (pc + 1) L (.int (rI h a i.toNatClampNeg) :: st) h) : mG B c ad M.2.2.1 pc L (.int i :: .ref a :: st) h := by
  obtain ⟨p, l, e0, R, s, m, args, below, meth, cd, Q, D, A⟩ := B
  intro H locs ls h1 h2 h3
  obtain ⟨ca, hP, hD, hT⟩ := h1
  exact va_iald X.1 X.2.1 (mTyK X.2.2.2.2.2.1 e (by decide) hT) hP a 0 (by rw [mWl_at (kd_lt e).1, mEnt_int e (by decide) (by decide)]) rfl hin d (kk H locs ls ⟨ca, hP, hD, hT⟩ h2 h3)
theorem g_bald {a n : Nat} {i : Int32} (X : mCx B c ad M P) (d : decode M.2.1 pc = .ok (.baload, 1)) (e : kd h a = some (21, n)) (hin : vp_in i n) (kk : mG B c ad M.2.2.1 (pc + 1) L (.int (rI h a i.toNatClampNeg) :: st) h) : mG B c ad M.2.2.1 pc L (.int i :: .ref a :: st) h := by
  obtain ⟨p, l, e0, R, s, m, args, below, meth, cd, Q, D, A⟩ := B
  intro H locs ls h1 h2 h3
  obtain ⟨ca, hP, hD, hT⟩ := h1
  exact va_bald X.1 X.2.1 (mTyK X.2.2.2.2.2.1 e (by decide) hT) hP a 0 (by rw [mWl_at (kd_lt e).1, mEnt_int e (by decide) (by decide)]) rfl hin d (kk H locs ls ⟨ca, hP, hD, hT⟩ h2 h3)
theorem g_iast {a n : Nat} {i x : Int32} (X : mCx B c ad M P) (d : decode M.2.1 pc = .ok (.iastore, 1)) (e : kd h a = some (20, n)) (hin : vp_in i n) (kk : mG B c ad M.2.2.1 (pc + 1) L st (wI h a i.toNatClampNeg x)) : mG B c ad M.2.2.1 pc L (.int x :: .int i :: .ref a :: st) h := by
  obtain ⟨p, l, e0, R, s, m, args, below, meth, cd, Q, D, A⟩ := B
  intro H locs ls h1 h2 h3
  obtain ⟨ca, hP, hD, hT⟩ := h1
  refine va_iast X.1 X.2.1 (mTyK X.2.2.2.2.2.1 e (by decide) hT) hP hD h2 a 0 (by rw [mWl_at (kd_lt e).1, mEnt_int e (by decide) (by decide)]) rfl hin d (fun H1 locs1 q1 q2 q3 => ?_)
  rw [← mWl_arr e (by decide) (by decide)] at q1 q2
  exact kk H1 locs1 ls ⟨ca, q1, q2, hT⟩ q3 h3
theorem g_bast {a n : Nat} {i x : Int32} (X : mCx B c ad M P) (d : decode M.2.1 pc = .ok (.bastore, 1)) (e : kd h a = some (21, n)) (hin : vp_in i n) (kk : mG B c ad M.2.2.1 (pc + 1) L st (wI h a i.toNatClampNeg (vp_nar .byte x))) : mG B c ad M.2.2.1 pc L (.int x :: .int i :: .ref a :: st) h := by
  obtain ⟨p, l, e0, R, s, m, args, below, meth, cd, Q, D, A⟩ := B
  intro H locs ls h1 h2 h3
  obtain ⟨ca, hP, hD, hT⟩ := h1
  refine va_bast X.1 X.2.1 (mTyK X.2.2.2.2.2.1 e (by decide) hT) hP hD h2 a 0 (by rw [mWl_at (kd_lt e).1, mEnt_int e (by decide) (by decide)]) rfl hin d (fun H1 locs1 q1 q2 q3 => ?_)
  rw [← mWl_arr e (by decide) (by decide)] at q1 q2
  exact kk H1 locs1 ls ⟨ca, q1, q2, hT⟩ q3 h3
theorem g_alen {a ci n : Nat} {v : Int32} (X : mCx B c ad M P) (d : decode M.2.1 pc = .ok (.arraylength, 1)) (e : kd h a = some (ci, n)) (h9 : 9 ≤ ci) (hv : Int32.ofNat n = v) (kk : mG B c ad M.2.2.1 (pc + 1) L (.int v :: st) h) : mG B c ad M.2.2.1 pc L (.ref a :: st) h := by
  obtain ⟨p, l, e0, R, s, m, args, below, meth, cd, Q, D, A⟩ := B
  intro H locs ls h1 h2 h3
  obtain ⟨ca, hP, hD, hT⟩ := h1
  rcases Nat.lt_or_ge ci 22 with hc | hc
  · exact va_alen X.1 X.2.1 (mTyK X.2.2.2.2.2.1 e h9 hT) hP a 0 (by rw [mWl_at (kd_lt e).1, mEnt_int e (by omega) hc]) rfl hv d (kk H locs ls ⟨ca, hP, hD, hT⟩ h2 h3)
  · exact va_alen X.1 X.2.1 (mTyK X.2.2.2.2.2.1 e h9 hT) hP a 0 (by rw [mWl_at (kd_lt e).1, mEnt_ref e (by omega)]) rfl hv d (kk H locs ls ⟨ca, hP, hD, hT⟩ h2 h3)
theorem g_aald {a ci n b : Nat} {C : String} {i : Int32} (X : mCx B c ad M P) (d : decode M.2.1 pc = .ok (.aaload, 1)) (e : kd h a = some (ci, n)) (h22 : ¬ ci < 22) (hC : mAty ci = .object C) (hin : vp_in i n) (hb : rR h a i.toNatClampNeg = some b) (kk : mG B c ad M.2.2.1 (pc + 1) L (.ref b :: st) h) : mG B c ad M.2.2.1 pc L (.int i :: .ref a :: st) h := by
  obtain ⟨p, l, e0, R, s, m, args, below, meth, cd, Q, D, A⟩ := B
  intro H locs ls h1 h2 h3
  obtain ⟨ca, hP, hD, hT⟩ := h1
  refine va_aldq (C := C) X.1 X.2.1 (mTyK X.2.2.2.2.2.1 e (by omega) hT) hP a 0 (by rw [mWl_at (kd_lt e).1, mEnt_ref e h22]) (by rw [hC]; rfl) hin d ?_
  rw [hb]
  exact kk H locs ls ⟨ca, hP, hD, hT⟩ h2 h3
theorem g_aast {a ci n b cj nb : Nat} {i : Int32} (X : mCx B c ad M P) (d : decode M.2.1 pc = .ok (.aastore, 1)) (e : kd h a = some (ci, n)) (h22 : ¬ ci < 22) (hj : cj < 9) (hC : mAty ci = .object (mCn cj)) (e2 : kd h b = some (cj, nb)) (hin : vp_in i n) (kk : mG B c ad M.2.2.1 (pc + 1) L st (wR h a i.toNatClampNeg (some b))) : mG B c ad M.2.2.1 pc L (.ref b :: .int i :: .ref a :: st) h := by
  obtain ⟨p, l, e0, R, s, m, args, below, meth, cd, Q, D, A⟩ := B
  intro H locs ls h1 h2 h3
  obtain ⟨ca, hP, hD, hT⟩ := h1
  refine va_astq (r := (mCn cj, mTt cj, mNF cj)) (ci := cj) X.1 X.2.1 (mTyK X.2.2.2.2.2.1 e (by omega) hT) hP hD h2 a 0 b (by rw [mWl_at (kd_lt e).1, mEnt_ref e h22]) (by rw [hC]; rfl) (by rw [mWl_at (kd_lt e2).1, mEnt_obj e2 hj]) (mCl_at hj) hin d (fun H1 locs1 q1 q2 q3 => ?_)
  rw [← mWl_arrR e h22] at q1 q2
  exact kk H1 locs1 ls ⟨ca, q1, q2, hT⟩ q3 h3
theorem r_getI {a ci n i k : Nat} (d : decode M.2.1 pc = .ok (.getfield i, 3)) (F : mFld M.1.cls i ci k) (hi : mIs (mTy ci k) = true) (e : kd h a = some (ci, n)) (kk : mGM M (pc + 3) L (.int (rI h a k) :: st) h P) : mGM M pc L (.ref a :: st) h P := fun B c ad X => g_getI X d F hi e (kk B c ad X)
theorem r_getR {a ci n i k b : Nat} (d : decode M.2.1 pc = .ok (.getfield i, 3)) (F : mFld M.1.cls i ci k) (hi : mIs (mTy ci k) = false) (e : kd h a = some (ci, n)) (hr : rR h a k = some b) (kk : mGM M (pc + 3) L (.ref b :: st) h P) : mGM M pc L (.ref a :: st) h P := fun B c ad X => g_getR X d F hi e hr (kk B c ad X)
theorem r_putI {a ci n i k : Nat} {v : Int32} (d : decode M.2.1 pc = .ok (.putfield i, 3)) (F : mFld M.1.cls i ci k) (hi : mIs (mTy ci k) = true) (hf : (mTt ci k).2.2.2 = false) (e : kd h a = some (ci, n)) (hv : narrow (mTy ci k) (.int v) = .int v ∧ fits (mTy ci k) (.int v) = true) (kk : mGM M (pc + 3) L st (wI h a k v) P) : mGM M pc L (.int v :: .ref a :: st) h P := fun B c ad X => g_putI X d F hi hf e hv (kk B c ad X)
theorem r_putR {a ci n i k b : Nat} (d : decode M.2.1 pc = .ok (.putfield i, 3)) (F : mFld M.1.cls i ci k) (hi : mIs (mTy ci k) = false) (hf : (mTt ci k).2.2.2 = false) (e : kd h a = some (ci, n)) (kk : mGM M (pc + 3) L st (wR h a k (some b)) P) : mGM M pc L (.ref b :: .ref a :: st) h P := fun B c ad X => g_putR X d F hi hf e (kk B c ad X)
theorem r_iald {a n : Nat} {i : Int32} (d : decode M.2.1 pc = .ok (.iaload, 1)) (e : kd h a = some (20, n)) (hin : vp_in i n) (kk : mGM M (pc + 1) L (.int (rI h a i.toNatClampNeg) :: st) h P) : mGM M pc L (.int i :: .ref a :: st) h P := fun B c ad X => g_iald X d e hin (kk B c ad X)
theorem r_bald {a n : Nat} {i : Int32} (d : decode M.2.1 pc = .ok (.baload, 1)) (e : kd h a = some (21, n)) (hin : vp_in i n) (kk : mGM M (pc + 1) L (.int (rI h a i.toNatClampNeg) :: st) h P) : mGM M pc L (.int i :: .ref a :: st) h P := fun B c ad X => g_bald X d e hin (kk B c ad X)
theorem r_iast {a n : Nat} {i x : Int32} (d : decode M.2.1 pc = .ok (.iastore, 1)) (e : kd h a = some (20, n)) (hin : vp_in i n) (kk : mGM M (pc + 1) L st (wI h a i.toNatClampNeg x) P) : mGM M pc L (.int x :: .int i :: .ref a :: st) h P := fun B c ad X => g_iast X d e hin (kk B c ad X)
theorem r_bast {a n : Nat} {i x : Int32} (d : decode M.2.1 pc = .ok (.bastore, 1)) (e : kd h a = some (21, n)) (hin : vp_in i n) (kk : mGM M (pc + 1) L st (wI h a i.toNatClampNeg (vp_nar .byte x)) P) : mGM M pc L (.int x :: .int i :: .ref a :: st) h P := fun B c ad X => g_bast X d e hin (kk B c ad X)
theorem r_alen {a ci n : Nat} {v : Int32} (d : decode M.2.1 pc = .ok (.arraylength, 1)) (e : kd h a = some (ci, n)) (h9 : 9 ≤ ci) (hv : Int32.ofNat n = v) (kk : mGM M (pc + 1) L (.int v :: st) h P) : mGM M pc L (.ref a :: st) h P := fun B c ad X => g_alen X d e h9 hv (kk B c ad X)
theorem r_aald {a ci n b : Nat} {C : String} {i : Int32} (d : decode M.2.1 pc = .ok (.aaload, 1)) (e : kd h a = some (ci, n)) (h22 : ¬ ci < 22) (hC : mAty ci = .object C) (hin : vp_in i n) (hb : rR h a i.toNatClampNeg = some b) (kk : mGM M (pc + 1) L (.ref b :: st) h P) : mGM M pc L (.int i :: .ref a :: st) h P := fun B c ad X => g_aald X d e h22 hC hin hb (kk B c ad X)
theorem r_aast {a ci n b cj nb : Nat} {i : Int32} (d : decode M.2.1 pc = .ok (.aastore, 1)) (e : kd h a = some (ci, n)) (h22 : ¬ ci < 22) (hj : cj < 9) (hC : mAty ci = .object (mCn cj)) (e2 : kd h b = some (cj, nb)) (hin : vp_in i n) (kk : mGM M (pc + 1) L st (wR h a i.toNatClampNeg (some b)) P) : mGM M pc L (.ref b :: .int i :: .ref a :: st) h P := fun B c ad X => g_aast X d e h22 hj hC e2 hin (kk B c ad X)
end MHR
end
section
/-! calls -/
/-- what the tables say of a method that is called -/
def mMo (N : MR) (n : Nat) : Prop := Cond.initialized N.1.cls ∈ mTb ∧ Cond.code N.1 N.2.1 N.2.2.1 N.2.2.2.1 ∈ mTb ∧ (N.1.cls ≠ "java/lang/invoke/MethodHandle" ∧ N.1.cls ≠ "java/lang/invoke/VarHandle") ∧ (parseMethodDescriptor N.1.desc).map (fun d => d.parameters.length) = some n
def mRm (N : MR) : Room := { frames := N.2.2.2.2.1, cells := 0, slots := 0, locals := N.2.2.2.2.2 }
theorem mBlind {D : va_G} {ad : Nat → Nat} {h : HP} {sz : Nat} {av : List Value} : FrameBlind (va_Pc av (mPH D ad h sz)) := by
  intro a U g mk q
  obtain ⟨q0, q1, q2, q3, q4⟩ := q
  exact ⟨q0, q1, q2.moved (u := U) (U := U.calling g mk a) (Vm.Alike.refl U.vm), va_K.moved (u := U) (U := U.calling g mk a) (Vm.Alike.refl U.vm) q3, q4.same (u := U) (U := U.calling g mk a) rfl rfl⟩
theorem mGoodWs {N : MR} (hc : Cond.code N.1 N.2.1 N.2.2.1 N.2.2.2.1 ∈ mTb) : GoodIn mTb (mWs N) := mTb_good (fun w hw => by
  rcases List.mem_cons.mp hw with q | q
  · rw [q]
    exact hc
  · exact q)
section MCA
variable {p : Program} {l : Launch} {e : Env} {R : Room} {s : State} {m : MethodId} {args : Array Value} {below : List Frame} {meth : Method} {cd : Code} {H : Heap} {locs : List Loc} {cells slots : Nat} {Q : State → Prop}
theorem mCont {D : va_G} {A : Nat → Prop} {ad : Nat → Nat} {h : HP} {P' : MP} {av : Array Value} {pc : Nat} {ls : Array Slot} {st0 rest : List Value} (hr : va_Run p l e R s m args below meth cd H locs cells slots 0 0 (F0 m pc ls st0) rest (mQH D ad h H.size P' av) (mAH ad h H.size)) (hS : va_S A s.heap H locs) (hA : ∀ q, mAH ad h H.size q → A q)
    (kk : ∀ (v : Option Value) (h' : HP) (H1 : Heap) (locs1 : List Loc), P' v h' → mRep D A s ad h' H1 → va_S A s.heap H1 locs1 → W p l e R s m args below meth cd H1 locs1 cells slots Q (F0 m (pc + 3) ls ((v.map (mcv ad)).toList ++ rest))) : W p l e R s m args below meth cd H locs cells slots Q (F0 m pc ls st0) := by
  intro T hT X
  obtain ⟨v, st₀, t, T', L, h0, X', hL, e1, e2, ⟨⟨w, h', hv, hp, hb⟩, hz, hk⟩, st⟩ := hr T hT X
  cases hv
  rw [h0] at hz hk
  have hal : s.vm.Alike t.vm := by rw [← e2]; exact X'.warmed.alike
  obtain ⟨t2, a1, b1⟩ := kk w h' T'.heap (locs ++ L) hp (by rw [e1]; exact (hb.moved hal.symm).weaken hA)
    ⟨Nat.le_trans hS.1 (by rw [e1]; exact hz), fun q h1 h2 => by rw [e1, hk q (Nat.lt_of_lt_of_le h1 hS.1) (fun z => h2 (hA q z))]; exact hS.2.1 q h1 h2, fun q hq => by
      rcases List.mem_append.mp hq with h | h
      · exact hS.2.2 q h
      · exact hA _ (hL q h)⟩ T' rfl X'
  exact ⟨t2, st t2 a1, b1⟩
end MCA
theorem mStMap {ad : Nat → Nat} {v : Option Value} {st : List Value} : (v.toList ++ st).map (mcv ad) = (v.map (mcv ad)).toList ++ st.map (mcv ad) := by cases v <;> simp
theorem mCats {ad : Nat → Nat} {st : List Value} : ((st.map (mcv ad)).map fun v => v.category).sum = (st.map fun v => v.category).sum := by
  rw [List.map_map]
  congr 2
  funext v
  exact mcv_cat ad v
section MCB
variable {B : BT} {c : Nat × Nat} {ad : Nat → Nat} {M : MR} {P : MP} {pc : Nat} {L : List (Option Value)} {st : List Value} {h : HP}
theorem g_callV (N : MR) {a ci q idx : Nat} {As : List Value} (X : mCx B c ad M P) (d : decode M.2.1 pc = .ok (.invokevirtual idx, 3)) (hl : Cond.methodLink M.1.cls idx N.1 ∈ mTb) (hi : Cond.instanceMethod N.1 ∈ mTb ∧ Cond.selects N.1.cls N.1 N.1 ∈ mTb) (mo : mMo N As.length) (e : kd h a = some (ci, q)) (hci : ci < 9 ∧ mCn ci = N.1.cls) (hR : N.2.2.2.2.1 + 1 ≤ M.2.2.2.2.1 ∧ 8 + (N.2.2.1 + 11) + N.2.2.2.2.2 ≤ M.2.2.2.2.2) (hst : (st.map fun v => v.category).sum ≤ 8)
    (k : mSp N (.ref a :: As) h (fun v h' => mG B c ad M.2.2.1 (pc + 3) L (v.toList ++ st) h')) : mG B c ad M.2.2.1 pc L (As.reverse ++ .ref a :: st) h := by
  obtain ⟨p, l, e0, R, s, m, args, below, meth, cd, Q, D, A⟩ := B
  intro H locs ls h1 h2 h3
  obtain ⟨x1, x2, x3, x4, x5, x6, x7, ⟨x8, x9, x10, x11⟩, x12, x13, -⟩ := X
  have hA := h1.free h2 x7
  have hM := k l D ad H.size
  obtain ⟨ca, hP, hD, hT⟩ := id h1
  have cw : CallW R s args M.1.cls N.1.cls idx N.1 N.2.1 N.2.2.1 N.2.2.2.1 (mWs N) (mRm N) 0 0 As.length := ⟨callB_of As.length x5 (mGoodWs mo.2.1) rfl rfl rfl (x5 _ mo.1) (x5 _ hl) ⟨mo.2.2.1.1, mo.2.2.1.2, mo.2.2.2⟩ ⟨Nat.le_trans hR.1 x8, Nat.le_trans hR.2 x9⟩, x5 _ hi.1, x5 _ hi.2⟩
  have hrecv := va_recv x6 hP (mCl_at hci.1) (q0 := a) (a := ad a) (by rw [mWl_at (kd_lt e).1, mEnt_obj e hci.1])
  rw [show (mCn ci, mTt ci, mNF ci).1 = N.1.cls from hci.2] at hrecv
  refine mCont (rest := st.map (mcv ad)) (va_runV (As := As.map (mcv ad)) (rm := mRm N) ⟨x1, x2, x3, x4, x5⟩ hM cw ⟨mBlind, hrecv, fun U hU hW => ⟨rfl, by rw [hU], by rw [hU]; exact (h1.weaken (fun _ _ => trivial)).moved hW.alike, va_K.moved hW.alike x6, x12.go h2 hA hU hW⟩⟩ rfl (by simp) h3.1.1 (by show List.map _ _ = _; simp [mcv]) (lv_room (by rw [mCats]; exact hst)) d ⟨x10, x11⟩) h2 hA (fun v h' H1 locs1 q1 q2 q3 => ?_)
  have := q1 H1 locs1 ls q2 q3 h3
  rw [mStMap] at this
  exact this
theorem g_callS (N : MR) {idx : Nat} {As : List Value} (X : mCx B c ad M P) (d : decode M.2.1 pc = .ok (.invokestatic idx, 3)) (hl : Cond.methodLink M.1.cls idx N.1 ∈ mTb) (hi : Cond.static N.1 ∈ mTb) (mo : mMo N As.length) (hR : N.2.2.2.2.1 + 1 ≤ M.2.2.2.2.1 ∧ 8 + (N.2.2.1 + 11) + N.2.2.2.2.2 ≤ M.2.2.2.2.2) (hst : (st.map fun v => v.category).sum ≤ 8)
    (k : mSp N As h (fun v h' => mG B c ad M.2.2.1 (pc + 3) L (v.toList ++ st) h')) : mG B c ad M.2.2.1 pc L (As.reverse ++ st) h := by
  obtain ⟨p, l, e0, R, s, m, args, below, meth, cd, Q, D, A⟩ := B
  intro H locs ls h1 h2 h3
  obtain ⟨x1, x2, x3, x4, x5, x6, x7, ⟨x8, x9, x10, x11⟩, x12, x13, -⟩ := X
  have hA := h1.free h2 x7
  have hM := k l D ad H.size
  have cw : CallB R s args M.1.cls idx N.1 N.2.1 N.2.2.1 N.2.2.2.1 (mWs N) (mRm N) 0 0 As.length ∧ (Cond.static N.1).before args s = true := ⟨callB_of As.length x5 (mGoodWs mo.2.1) rfl rfl rfl (x5 _ mo.1) (x5 _ hl) ⟨mo.2.2.1.1, mo.2.2.1.2, mo.2.2.2⟩ ⟨Nat.le_trans hR.1 x8, Nat.le_trans hR.2 x9⟩, x5 _ hi⟩
  refine mCont (rest := st.map (mcv ad)) (va_runS (As := As.map (mcv ad)) (rm := mRm N) ⟨x1, x2, x3, x4, x5⟩ hM cw ⟨mBlind, fun U hU hW => ⟨rfl, by rw [hU], by rw [hU]; exact (h1.weaken (fun _ _ => trivial)).moved hW.alike, va_K.moved hW.alike x6, x12.go h2 hA hU hW⟩⟩ rfl (by simp) h3.1.1 (by show List.map _ _ = _; simp) (lv_room (by rw [mCats]; exact hst)) d ⟨x10, x11⟩) h2 hA (fun v h' H1 locs1 q1 q2 q3 => ?_)
  have := q1 H1 locs1 ls q2 q3 h3
  rw [mStMap] at this
  exact this
theorem g_callSN (N : MR) {idx : Nat} {host : String} {As : List Value} (X : mCx B c ad M P) (d : decode M.2.1 pc = .ok (.invokestatic idx, 3)) (hl : (M.1.cls, idx, N.1, host) ∈ mNst) (hi : Cond.static N.1 ∈ mTb) (mo : mMo N As.length) (hR : N.2.2.2.2.1 + 1 ≤ M.2.2.2.2.1 ∧ 8 + (N.2.2.1 + 11) + N.2.2.2.2.2 ≤ M.2.2.2.2.2) (hst : (st.map fun v => v.category).sum ≤ 8)
    (k : mSp N As h (fun v h' => mG B c ad M.2.2.1 (pc + 3) L (v.toList ++ st) h')) : mG B c ad M.2.2.1 pc L (As.reverse ++ st) h := by
  obtain ⟨p, l, e0, R, s, m, args, below, meth, cd, Q, D, A⟩ := B
  intro H locs ls h1 h2 h3
  obtain ⟨x1, x2, x3, x4, x5, x6, x7, ⟨x8, x9, x10, x11⟩, x12, x13, -⟩ := X
  have hA := h1.free h2 x7
  have hM := k l D ad H.size
  have cw : va_CN R s args M.1.cls idx N.1 host N.2.1 N.2.2.1 N.2.2.2.1 (mWs N) (mRm N) 0 0 As.length ∧ (Cond.static N.1).before args s = true ∧ True := ⟨va_cnB As.length x5 (mGoodWs mo.2.1) rfl rfl rfl (x12.2.1 _ hl) (x5 _ mo.1) ⟨mo.2.2.1.1, mo.2.2.1.2, mo.2.2.2⟩ ⟨Nat.le_trans hR.1 x8, Nat.le_trans hR.2 x9⟩, x5 _ hi, trivial⟩
  refine mCont (rest := st.map (mcv ad)) (va_runSN (As := As.map (mcv ad)) (rm := mRm N) ⟨x1, x2, x3, x4, x5⟩ hM cw ⟨mBlind, fun U hU hW => ⟨rfl, by rw [hU], by rw [hU]; exact (h1.weaken (fun _ _ => trivial)).moved hW.alike, va_K.moved hW.alike x6, x12.go h2 hA hU hW⟩⟩ rfl (by simp) h3.1.1 (by show List.map _ _ = _; simp) (lv_room (by rw [mCats]; exact hst)) d ⟨x10, x11⟩) h2 hA (fun v h' H1 locs1 q1 q2 q3 => ?_)
  have := q1 H1 locs1 ls q2 q3 h3
  rw [mStMap] at this
  exact this
theorem g_mmax {idx : Nat} {x y : Int32} (X : mCx B c ad M P) (d : decode M.2.1 pc = .ok (.invokestatic idx, 3)) (hl : Cond.methodLink M.1.cls idx Lib.Math.max.name ∈ mTb) (hw : Cond.static Lib.Math.max.name ∈ mTb ∧ Cond.initialized "java/lang/Math" ∈ mTb ∧ Cond.code Lib.Math.max.name Lib.Math.max.code 2 (some .int) ∈ mTb) (hR : 1 ≤ M.2.2.2.2.1 ∧ 21 ≤ M.2.2.2.2.2) (hst : (st.map fun v => v.category).sum ≤ 8) (k : mG B c ad M.2.2.1 (pc + 3) L (.int (if x < y then y else x) :: st) h) : mG B c ad M.2.2.1 pc L (.int y :: .int x :: st) h := by
  obtain ⟨p, l, e0, R, s, m, args, below, meth, cd, Q, D, A⟩ := B
  intro H locs ls h1 h2 h3
  obtain ⟨x1, x2, x3, x4, x5, x6, x7, ⟨x8, x9, x10, x11⟩, x12, x13, -⟩ := X
  exact va_mmax x1 x2 (x3.trans h3.1.1.symm) x4 (x5 _ hl) (x5 _ hw.1) (x5 _ hw.2.1) (x5 _ hw.2.2) (Nat.le_trans hR.1 x8) (by rw [mCats]; omega) x10 x11 d (k H locs ls h1 h2 h3)
theorem g_mmin {idx : Nat} {x y : Int32} (X : mCx B c ad M P) (d : decode M.2.1 pc = .ok (.invokestatic idx, 3)) (hl : Cond.methodLink M.1.cls idx Lib.Math.min.name ∈ mTb) (hw : Cond.static Lib.Math.min.name ∈ mTb ∧ Cond.initialized "java/lang/Math" ∈ mTb ∧ Cond.code Lib.Math.min.name Lib.Math.min.code 2 (some .int) ∈ mTb) (hR : 1 ≤ M.2.2.2.2.1 ∧ 21 ≤ M.2.2.2.2.2) (hst : (st.map fun v => v.category).sum ≤ 8) (k : mG B c ad M.2.2.1 (pc + 3) L (.int (if y < x then y else x) :: st) h) : mG B c ad M.2.2.1 pc L (.int y :: .int x :: st) h := by
  obtain ⟨p, l, e0, R, s, m, args, below, meth, cd, Q, D, A⟩ := B
  intro H locs ls h1 h2 h3
  obtain ⟨x1, x2, x3, x4, x5, x6, x7, ⟨x8, x9, x10, x11⟩, x12, x13, -⟩ := X
  exact va_mmin x1 x2 (x3.trans h3.1.1.symm) x4 (x5 _ hl) (x5 _ hw.1) (x5 _ hw.2.1) (x5 _ hw.2.2) (Nat.le_trans hR.1 x8) (by rw [mCats]; omega) x10 x11 d (k H locs ls h1 h2 h3)
theorem r_callV (N : MR) {a ci q idx : Nat} {As : List Value} (d : decode M.2.1 pc = .ok (.invokevirtual idx, 3)) (hl : Cond.methodLink M.1.cls idx N.1 ∈ mTb) (hi : Cond.instanceMethod N.1 ∈ mTb ∧ Cond.selects N.1.cls N.1 N.1 ∈ mTb) (mo : mMo N As.length) (e : kd h a = some (ci, q)) (hci : ci < 9 ∧ mCn ci = N.1.cls) (hR : N.2.2.2.2.1 + 1 ≤ M.2.2.2.2.1 ∧ 8 + (N.2.2.1 + 11) + N.2.2.2.2.2 ≤ M.2.2.2.2.2) (hst : (st.map fun v => v.category).sum ≤ 8)
    (k : mSp N (.ref a :: As) h (fun v h' => mGM M (pc + 3) L (v.toList ++ st) h' P)) : mGM M pc L (As.reverse ++ .ref a :: st) h P := fun B c ad X => g_callV N X d hl hi mo e hci hR hst (mSp_mono k (fun v h' q => q B c ad X))
theorem r_callS (N : MR) {idx : Nat} {As : List Value} (d : decode M.2.1 pc = .ok (.invokestatic idx, 3)) (hl : Cond.methodLink M.1.cls idx N.1 ∈ mTb) (hi : Cond.static N.1 ∈ mTb) (mo : mMo N As.length) (hR : N.2.2.2.2.1 + 1 ≤ M.2.2.2.2.1 ∧ 8 + (N.2.2.1 + 11) + N.2.2.2.2.2 ≤ M.2.2.2.2.2) (hst : (st.map fun v => v.category).sum ≤ 8)
    (k : mSp N As h (fun v h' => mGM M (pc + 3) L (v.toList ++ st) h' P)) : mGM M pc L (As.reverse ++ st) h P := fun B c ad X => g_callS N X d hl hi mo hR hst (mSp_mono k (fun v h' q => q B c ad X))
theorem r_callSN (N : MR) {idx : Nat} {host : String} {As : List Value} (d : decode M.2.1 pc = .ok (.invokestatic idx, 3)) (hl : (M.1.cls, idx, N.1, host) ∈ mNst) (hi : Cond.static N.1 ∈ mTb) (mo : mMo N As.length) (hR : N.2.2.2.2.1 + 1 ≤ M.2.2.2.2.1 ∧ 8 + (N.2.2.1 + 11) + N.2.2.2.2.2 ≤ M.2.2.2.2.2) (hst : (st.map fun v => v.category).sum ≤ 8)
    (k : mSp N As h (fun v h' => mGM M (pc + 3) L (v.toList ++ st) h' P)) : mGM M pc L (As.reverse ++ st) h P := fun B c ad X => g_callSN N X d hl hi mo hR hst (mSp_mono k (fun v h' q => q B c ad X))
theorem r_mmax {idx : Nat} {x y : Int32} (d : decode M.2.1 pc = .ok (.invokestatic idx, 3)) (hl : Cond.methodLink M.1.cls idx Lib.Math.max.name ∈ mTb) (hw : Cond.static Lib.Math.max.name ∈ mTb ∧ Cond.initialized "java/lang/Math" ∈ mTb ∧ Cond.code Lib.Math.max.name Lib.Math.max.code 2 (some .int) ∈ mTb) (hR : 1 ≤ M.2.2.2.2.1 ∧ 21 ≤ M.2.2.2.2.2) (hst : (st.map fun v => v.category).sum ≤ 8) (k : mGM M (pc + 3) L (.int (if x < y then y else x) :: st) h P) : mGM M pc L (.int y :: .int x :: st) h P := fun B c ad X => g_mmax X d hl hw hR hst (k B c ad X)
theorem r_mmin {idx : Nat} {x y : Int32} (d : decode M.2.1 pc = .ok (.invokestatic idx, 3)) (hl : Cond.methodLink M.1.cls idx Lib.Math.min.name ∈ mTb) (hw : Cond.static Lib.Math.min.name ∈ mTb ∧ Cond.initialized "java/lang/Math" ∈ mTb ∧ Cond.code Lib.Math.min.name Lib.Math.min.code 2 (some .int) ∈ mTb) (hR : 1 ≤ M.2.2.2.2.1 ∧ 21 ≤ M.2.2.2.2.2) (hst : (st.map fun v => v.category).sum ≤ 8) (k : mGM M (pc + 3) L (.int (if y < x then y else x) :: st) h P) : mGM M pc L (.int y :: .int x :: st) h P := fun B c ad X => g_mmin X d hl hw hR hst (k B c ad X)
end MCB
end
section
/-! the heap in two: a shape that stays (cells and kinds), what it holds -/
abbrev Sh : Type := Nat × (Nat → Nat × Nat)
abbrev Cn : Type := (Nat → Nat → Int32) × (Nat → Nat → Option Nat)
def hp (K : Sh) (x : Cn) : HP := (K.1, K.2, x.1, x.2)
def kk (K : Sh) (a : Nat) : Option (Nat × Nat) := if a < K.1 then some (K.2 a) else none
def gi (x : Cn) (a k : Nat) : Int32 := x.1 a k
def gr (x : Cn) (a k : Nat) : Option Nat := x.2 a k
def ui (x : Cn) (a k : Nat) (v : Int32) : Cn := (fun b j => if b = a ∧ j = k then v else x.1 b j, x.2)
def ur (x : Cn) (a k : Nat) (v : Option Nat) : Cn := (x.1, fun b j => if b = a ∧ j = k then v else x.2 b j)
theorem gi_ui (x : Cn) (a k : Nat) (v : Int32) (b j : Nat) : gi (ui x a k v) b j = if b = a ∧ j = k then v else gi x b j := rfl
theorem gr_ui (x : Cn) (a k : Nat) (v : Int32) (b j : Nat) : gr (ui x a k v) b j = gr x b j := rfl
theorem gi_ur (x : Cn) (a k : Nat) (v : Option Nat) (b j : Nat) : gi (ur x a k v) b j = gi x b j := rfl
theorem gr_ur (x : Cn) (a k : Nat) (v : Option Nat) (b j : Nat) : gr (ur x a k v) b j = if b = a ∧ j = k then v else gr x b j := rfl
def PI (K : Sh) (Q : Int32 → Cn → Prop) : MP := fun v h' => ∃ (r : Int32) (y : Cn), v = some (.int r) ∧ h' = hp K y ∧ Q r y
def PV (K : Sh) (Q : Cn → Prop) : MP := fun v h' => ∃ y : Cn, v = none ∧ h' = hp K y ∧ Q y
def PR (K : Sh) (Q : Nat → Cn → Prop) : MP := fun v h' => ∃ (r : Nat) (y : Cn), v = some (.ref r) ∧ h' = hp K y ∧ Q r y
def mSI (N : MR) (a : List Value) (K : Sh) (x : Cn) (Q : Int32 → Cn → Prop) : Prop := mSp N a (hp K x) (PI K Q)
def mSV (N : MR) (a : List Value) (K : Sh) (x : Cn) (Q : Cn → Prop) : Prop := mSp N a (hp K x) (PV K Q)
def mSR (N : MR) (a : List Value) (K : Sh) (x : Cn) (Q : Nat → Cn → Prop) : Prop := mSp N a (hp K x) (PR K Q)
def GI (M : MR) (pc : Nat) (L : List (Option Value)) (st : List Value) (K : Sh) (x : Cn) (Q : Int32 → Cn → Prop) : Prop := mGM M pc L st (hp K x) (PI K Q)
def GV (M : MR) (pc : Nat) (L : List (Option Value)) (st : List Value) (K : Sh) (x : Cn) (Q : Cn → Prop) : Prop := mGM M pc L st (hp K x) (PV K Q)
def GR (M : MR) (pc : Nat) (L : List (Option Value)) (st : List Value) (K : Sh) (x : Cn) (Q : Nat → Cn → Prop) : Prop := mGM M pc L st (hp K x) (PR K Q)
theorem mSI_mono {N : MR} {a : List Value} {K : Sh} {x : Cn} {Q Q' : Int32 → Cn → Prop} (k : mSI N a K x Q) (h : ∀ r y, Q r y → Q' r y) : mSI N a K x Q' := mSp_mono k (fun _ _ ⟨r, y, h1, h2, h3⟩ => ⟨r, y, h1, h2, h r y h3⟩)
theorem mSV_mono {N : MR} {a : List Value} {K : Sh} {x : Cn} {Q Q' : Cn → Prop} (k : mSV N a K x Q) (h : ∀ y, Q y → Q' y) : mSV N a K x Q' := mSp_mono k (fun _ _ ⟨y, h1, h2, h3⟩ => ⟨y, h1, h2, h y h3⟩)
theorem mSR_mono {N : MR} {a : List Value} {K : Sh} {x : Cn} {Q Q' : Nat → Cn → Prop} (k : mSR N a K x Q) (h : ∀ r y, Q r y → Q' r y) : mSR N a K x Q' := mSp_mono k (fun _ _ ⟨r, y, h1, h2, h3⟩ => ⟨r, y, h1, h2, h r y h3⟩)
/-- fewer locals known -/
def mLe : List (Option Value) → List (Option Value) → Prop
  | [], _ => True
  | none :: l, _ :: l' => mLe l l'
  | some v :: l, o :: l' => o = some v ∧ mLe l l'
  | none :: l, [] => mLe l []
  | some _ :: _, [] => False
theorem mLe_at : ∀ {L L' : List (Option Value)}, mLe L L' → ∀ (i : Nat) (v : Value), L[i]? = some (some v) → L'[i]? = some (some v) := by
  intro L
  induction L with
  | nil => intro L' _ i v h; simp at h
  | cons o l ih =>
    intro L' hL i v h
    cases o with
    | none =>
      cases i with
      | zero => simp at h
      | succ i =>
        simp only [List.getElem?_cons_succ] at h
        cases L' with
        | nil =>
          have := ih (L' := []) hL i v h
          simp at this
        | cons o' l' => exact ih (L' := l') hL i v h
    | some w =>
      cases L' with
      | nil => exact absurd hL (fun z => z)
      | cons o' l' =>
        cases i with
        | zero =>
          simp only [List.getElem?_cons_zero] at h ⊢
          rw [hL.1]
          exact h
        | succ i => exact ih (L' := l') hL.2 i v h
theorem mLe_mem : ∀ {L L' : List (Option Value)}, mLe L L' → ∀ v : Value, some v ∈ L → some v ∈ L' := by
  intro L L' h v hv
  obtain ⟨i, hi⟩ := List.getElem?_of_mem hv
  exact List.mem_of_getElem? (mLe_at h i v hi)
section MSH
variable {M : MR} {P : MP} {pc : Nat} {L : List (Option Value)} {st : List Value} {K : Sh} {x : Cn}
theorem r_le {h : HP} {L' : List (Option Value)} (hL : mLe L' L) (k : mGM M pc L' st h P) : mGM M pc L st h P := by
  intro B c ad X
  have k1 := k B c ad X
  obtain ⟨p, l, e0, R, s, m, args, below, meth, cd, Q, D, A⟩ := B
  intro H locs ls h1 h2 h3
  refine k1 H locs ls h1 h2 ⟨⟨h3.1.1, h3.1.2.1, fun q hq => ?_⟩, fun v hv => h3.2 v (mLe_mem hL v hv)⟩
  obtain ⟨v, hv, e⟩ := mAsc_of hq
  rw [show q = (q.1, q.2) from rfl, e]
  exact h3.at (mLe_at hL _ _ hv)
theorem s_getI {a ci i k : Nat} (d : decode M.2.1 pc = .ok (.getfield i, 3)) (F : mFld M.1.cls i ci k) (hi : mIs (mTy ci k) = true) (e : kk K a = some (ci, 0)) (q : mGM M (pc + 3) L (.int (gi x a k) :: st) (hp K x) P) : mGM M pc L (.ref a :: st) (hp K x) P := r_getI d F hi e q
theorem s_getR {a ci i k b : Nat} (d : decode M.2.1 pc = .ok (.getfield i, 3)) (F : mFld M.1.cls i ci k) (hi : mIs (mTy ci k) = false) (e : kk K a = some (ci, 0)) (hr : gr x a k = some b) (q : mGM M (pc + 3) L (.ref b :: st) (hp K x) P) : mGM M pc L (.ref a :: st) (hp K x) P := r_getR d F hi e hr q
theorem s_putI {a ci i k : Nat} {v : Int32} (d : decode M.2.1 pc = .ok (.putfield i, 3)) (F : mFld M.1.cls i ci k) (hi : mTy ci k = .int) (hf : (mTt ci k).2.2.2 = false) (e : kk K a = some (ci, 0)) (q : mGM M (pc + 3) L st (hp K (ui x a k v)) P) : mGM M pc L (.int v :: .ref a :: st) (hp K x) P := r_putI d F (by rw [hi]; rfl) hf e (by rw [hi]; exact ⟨rfl, rfl⟩) q
theorem s_putZ {a ci i k : Nat} {v : Int32} (d : decode M.2.1 pc = .ok (.putfield i, 3)) (F : mFld M.1.cls i ci k) (hi : mTy ci k = .boolean) (hf : (mTt ci k).2.2.2 = false) (e : kk K a = some (ci, 0)) (hv : v = 0 ∨ v = 1) (q : mGM M (pc + 3) L st (hp K (ui x a k v)) P) : mGM M pc L (.int v :: .ref a :: st) (hp K x) P := r_putI d F (by rw [hi]; rfl) hf e (by rw [hi]; rcases hv with rfl | rfl <;> exact ⟨rfl, rfl⟩) q
theorem s_putR {a ci i k b : Nat} (d : decode M.2.1 pc = .ok (.putfield i, 3)) (F : mFld M.1.cls i ci k) (hi : mIs (mTy ci k) = false) (hf : (mTt ci k).2.2.2 = false) (e : kk K a = some (ci, 0)) (q : mGM M (pc + 3) L st (hp K (ur x a k (some b))) P) : mGM M pc L (.ref b :: .ref a :: st) (hp K x) P := r_putR d F hi hf e q
theorem s_iald {a n : Nat} {i : Int32} (d : decode M.2.1 pc = .ok (.iaload, 1)) (e : kk K a = some (20, n)) (hin : vp_in i n) (q : mGM M (pc + 1) L (.int (gi x a i.toNatClampNeg) :: st) (hp K x) P) : mGM M pc L (.int i :: .ref a :: st) (hp K x) P := r_iald d e hin q
theorem s_bald {a n : Nat} {i : Int32} (d : decode M.2.1 pc = .ok (.baload, 1)) (e : kk K a = some (21, n)) (hin : vp_in i n) (q : mGM M (pc + 1) L (.int (gi x a i.toNatClampNeg) :: st) (hp K x) P) : mGM M pc L (.int i :: .ref a :: st) (hp K x) P := r_bald d e hin q
theorem s_iast {a n : Nat} {i v : Int32} (d : decode M.2.1 pc = .ok (.iastore, 1)) (e : kk K a = some (20, n)) (hin : vp_in i n) (q : mGM M (pc + 1) L st (hp K (ui x a i.toNatClampNeg v)) P) : mGM M pc L (.int v :: .int i :: .ref a :: st) (hp K x) P := r_iast d e hin q
theorem s_bast {a n : Nat} {i v : Int32} (d : decode M.2.1 pc = .ok (.bastore, 1)) (e : kk K a = some (21, n)) (hin : vp_in i n) (q : mGM M (pc + 1) L st (hp K (ui x a i.toNatClampNeg v.toInt8.toInt32)) P) : mGM M pc L (.int v :: .int i :: .ref a :: st) (hp K x) P := r_bast d e hin q
theorem s_alen {a ci n : Nat} (d : decode M.2.1 pc = .ok (.arraylength, 1)) (e : kk K a = some (ci, n)) (h9 : 9 ≤ ci) (q : mGM M (pc + 1) L (.int (Int32.ofNat n) :: st) (hp K x) P) : mGM M pc L (.ref a :: st) (hp K x) P := r_alen d e h9 rfl q
theorem s_aald {a ci n b : Nat} {C : String} {i : Int32} (d : decode M.2.1 pc = .ok (.aaload, 1)) (h22 : ¬ ci < 22) (hC : mAty ci = .object C) (e : kk K a = some (ci, n)) (hin : vp_in i n) (hb : gr x a i.toNatClampNeg = some b) (q : mGM M (pc + 1) L (.ref b :: st) (hp K x) P) : mGM M pc L (.int i :: .ref a :: st) (hp K x) P := r_aald d e h22 hC hin hb q
theorem s_aast {a ci n b cj : Nat} {i : Int32} (d : decode M.2.1 pc = .ok (.aastore, 1)) (h22 : ¬ ci < 22) (hj : cj < 9) (hC : mAty ci = .object (mCn cj)) (e : kk K a = some (ci, n)) (e2 : kk K b = some (cj, 0)) (hin : vp_in i n) (q : mGM M (pc + 1) L st (hp K (ur x a i.toNatClampNeg (some b))) P) : mGM M pc L (.ref b :: .int i :: .ref a :: st) (hp K x) P := r_aast d e h22 hj hC e2 hin q
theorem s_VI (N : MR) {a ci idx : Nat} {As : List Value} (d : decode M.2.1 pc = .ok (.invokevirtual idx, 3)) (hl : Cond.methodLink M.1.cls idx N.1 ∈ mTb) (hi : Cond.instanceMethod N.1 ∈ mTb ∧ Cond.selects N.1.cls N.1 N.1 ∈ mTb) (mo : mMo N As.length) (hci : ci < 9 ∧ mCn ci = N.1.cls) (hR : N.2.2.2.2.1 + 1 ≤ M.2.2.2.2.1 ∧ 8 + (N.2.2.1 + 11) + N.2.2.2.2.2 ≤ M.2.2.2.2.2) (hst : (st.map fun v => v.category).sum ≤ 8) (e : kk K a = some (ci, 0))
    (k : mSI N (.ref a :: As) K x (fun r y => mGM M (pc + 3) L (.int r :: st) (hp K y) P)) : mGM M pc L (As.reverse ++ .ref a :: st) (hp K x) P := r_callV N d hl hi mo e hci hR hst (mSp_mono k (by rintro _ _ ⟨r, y, rfl, rfl, q⟩; exact q))
theorem s_VV (N : MR) {a ci idx : Nat} {As : List Value} (d : decode M.2.1 pc = .ok (.invokevirtual idx, 3)) (hl : Cond.methodLink M.1.cls idx N.1 ∈ mTb) (hi : Cond.instanceMethod N.1 ∈ mTb ∧ Cond.selects N.1.cls N.1 N.1 ∈ mTb) (mo : mMo N As.length) (hci : ci < 9 ∧ mCn ci = N.1.cls) (hR : N.2.2.2.2.1 + 1 ≤ M.2.2.2.2.1 ∧ 8 + (N.2.2.1 + 11) + N.2.2.2.2.2 ≤ M.2.2.2.2.2) (hst : (st.map fun v => v.category).sum ≤ 8) (e : kk K a = some (ci, 0))
    (k : mSV N (.ref a :: As) K x (fun y => mGM M (pc + 3) L st (hp K y) P)) : mGM M pc L (As.reverse ++ .ref a :: st) (hp K x) P := r_callV N d hl hi mo e hci hR hst (mSp_mono k (by rintro _ _ ⟨y, rfl, rfl, q⟩; exact q))
theorem s_VR (N : MR) {a ci idx : Nat} {As : List Value} (d : decode M.2.1 pc = .ok (.invokevirtual idx, 3)) (hl : Cond.methodLink M.1.cls idx N.1 ∈ mTb) (hi : Cond.instanceMethod N.1 ∈ mTb ∧ Cond.selects N.1.cls N.1 N.1 ∈ mTb) (mo : mMo N As.length) (hci : ci < 9 ∧ mCn ci = N.1.cls) (hR : N.2.2.2.2.1 + 1 ≤ M.2.2.2.2.1 ∧ 8 + (N.2.2.1 + 11) + N.2.2.2.2.2 ≤ M.2.2.2.2.2) (hst : (st.map fun v => v.category).sum ≤ 8) (e : kk K a = some (ci, 0))
    (k : mSR N (.ref a :: As) K x (fun r y => mGM M (pc + 3) L (.ref r :: st) (hp K y) P)) : mGM M pc L (As.reverse ++ .ref a :: st) (hp K x) P := r_callV N d hl hi mo e hci hR hst (mSp_mono k (by rintro _ _ ⟨r, y, rfl, rfl, q⟩; exact q))
theorem s_SI (N : MR) {idx : Nat} {As : List Value} (d : decode M.2.1 pc = .ok (.invokestatic idx, 3)) (hl : Cond.methodLink M.1.cls idx N.1 ∈ mTb) (hi : Cond.static N.1 ∈ mTb) (mo : mMo N As.length) (hR : N.2.2.2.2.1 + 1 ≤ M.2.2.2.2.1 ∧ 8 + (N.2.2.1 + 11) + N.2.2.2.2.2 ≤ M.2.2.2.2.2) (hst : (st.map fun v => v.category).sum ≤ 8)
    (k : mSI N As K x (fun r y => mGM M (pc + 3) L (.int r :: st) (hp K y) P)) : mGM M pc L (As.reverse ++ st) (hp K x) P := r_callS N d hl hi mo hR hst (mSp_mono k (by rintro _ _ ⟨r, y, rfl, rfl, q⟩; exact q))
theorem s_SR (N : MR) {idx : Nat} {As : List Value} (d : decode M.2.1 pc = .ok (.invokestatic idx, 3)) (hl : Cond.methodLink M.1.cls idx N.1 ∈ mTb) (hi : Cond.static N.1 ∈ mTb) (mo : mMo N As.length) (hR : N.2.2.2.2.1 + 1 ≤ M.2.2.2.2.1 ∧ 8 + (N.2.2.1 + 11) + N.2.2.2.2.2 ≤ M.2.2.2.2.2) (hst : (st.map fun v => v.category).sum ≤ 8)
    (k : mSR N As K x (fun r y => mGM M (pc + 3) L (.ref r :: st) (hp K y) P)) : mGM M pc L (As.reverse ++ st) (hp K x) P := r_callS N d hl hi mo hR hst (mSp_mono k (by rintro _ _ ⟨r, y, rfl, rfl, q⟩; exact q))
theorem s_SNI (N : MR) {idx : Nat} {host : String} {As : List Value} (d : decode M.2.1 pc = .ok (.invokestatic idx, 3)) (hl : (M.1.cls, idx, N.1, host) ∈ mNst) (hi : Cond.static N.1 ∈ mTb) (mo : mMo N As.length) (hR : N.2.2.2.2.1 + 1 ≤ M.2.2.2.2.1 ∧ 8 + (N.2.2.1 + 11) + N.2.2.2.2.2 ≤ M.2.2.2.2.2) (hst : (st.map fun v => v.category).sum ≤ 8)
    (k : mSI N As K x (fun r y => mGM M (pc + 3) L (.int r :: st) (hp K y) P)) : mGM M pc L (As.reverse ++ st) (hp K x) P := r_callSN N d hl hi mo hR hst (mSp_mono k (by rintro _ _ ⟨r, y, rfl, rfl, q⟩; exact q))
theorem s_iret {Q : Int32 → Cn → Prop} {v : Int32} (hr : M.2.2.2.1 = some .int) (d : decode M.2.1 pc = .ok (.ireturn, 1)) (k : Q v x) : mGM M pc L [.int v] (hp K x) (PI K Q) := r_iret ⟨⟨.int, hr, rfl⟩, d⟩ ⟨v, x, rfl, rfl, k⟩
theorem s_zret {Q : Int32 → Cn → Prop} {v : Int32} (hr : M.2.2.2.1 = some .boolean) (hv : v = 0 ∨ v = 1) (d : decode M.2.1 pc = .ok (.ireturn, 1)) (k : Q v x) : mGM M pc L [.int v] (hp K x) (PI K Q) := r_iret ⟨⟨.boolean, hr, by rcases hv with rfl | rfl <;> rfl⟩, d⟩ ⟨v, x, rfl, rfl, k⟩
theorem s_nret {Q : Int32 → Cn → Prop} {ty : FieldType} {v : Int32} (hr : M.2.2.2.1 = some ty) (hv : narrow ty (.int v) = .int v) (d : decode M.2.1 pc = .ok (.ireturn, 1)) (k : Q v x) : mGM M pc L [.int v] (hp K x) (PI K Q) := r_iret ⟨⟨ty, hr, hv⟩, d⟩ ⟨v, x, rfl, rfl, k⟩
theorem s_ret {Q : Cn → Prop} (hr : M.2.2.2.1 = none) (d : decode M.2.1 pc = .ok (.return_, 1)) (k : Q x) : mGM M pc L [] (hp K x) (PV K Q) := r_ret ⟨hr, d⟩ ⟨x, rfl, rfl, k⟩
theorem s_aret {Q : Nat → Cn → Prop} {v : Nat} {nm : String} (hr : M.2.2.2.1 = some (.object nm)) (d : decode M.2.1 pc = .ok (.areturn, 1)) (k : Q v x) : mGM M pc L [.ref v] (hp K x) (PR K Q) := r_aret ⟨⟨nm, hr⟩, d⟩ ⟨v, x, rfl, rfl, k⟩
theorem s_I {Q : Int32 → Cn → Prop} {a : List Value} (hp1 : plainName M.1.cls = true) (hc : ∀ v ∈ a, v.category = 1) (hn : a.length ≤ M.2.2.1) (k : GI M 0 (mEnL a M.2.2.1) [] K x Q) : mSI M a K x Q := mSp_of hp1 hc hn k
theorem s_V {Q : Cn → Prop} {a : List Value} (hp1 : plainName M.1.cls = true) (hc : ∀ v ∈ a, v.category = 1) (hn : a.length ≤ M.2.2.1) (k : GV M 0 (mEnL a M.2.2.1) [] K x Q) : mSV M a K x Q := mSp_of hp1 hc hn k
theorem s_R {Q : Nat → Cn → Prop} {a : List Value} (hp1 : plainName M.1.cls = true) (hc : ∀ v ∈ a, v.category = 1) (hn : a.length ≤ M.2.2.1) (k : GR M 0 (mEnL a M.2.2.1) [] K x Q) : mSR M a K x Q := mSp_of hp1 hc hn k
end MSH
def b2i (c : Prop) [Decidable c] : Int32 := if c then 1 else 0
theorem b2i_01 (c : Prop) [Decidable c] : b2i c = 0 ∨ b2i c = 1 := by unfold b2i; by_cases h : c <;> simp [h]
theorem b2i_z (c : Prop) [Decidable c] : (b2i c = 0) ↔ ¬ c := by unfold b2i; by_cases h : c <;> simp [h]
theorem b2i_o (c : Prop) [Decidable c] : (b2i c = 1) ↔ c := by unfold b2i; by_cases h : c <;> simp [h]
theorem b2i_t {c : Prop} [Decidable c] (h : c) : b2i c = 1 := if_pos h
theorem b2i_f {c : Prop} [Decidable c] (h : ¬ c) : b2i c = 0 := if_neg h
end
