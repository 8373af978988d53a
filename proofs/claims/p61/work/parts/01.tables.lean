-- ===== PART A: goes FIRST, ahead of the names: the tables' words, and 'selects' of the private methods out of them =====
/-- a private method of a class that the tables say can be made, by its rows of tables_1 -/
def lw_okq (q : MethodName × Nat) : Prop := (q.1.cls ≠ "java/lang/invoke/MethodHandle" ∧ q.1.cls ≠ "java/lang/invoke/VarHandle") ∧ Cond.instantiable q.1.cls q.2 ∈ tables_1 ∧ Cond.privateMethod q.1 ∈ tables_1 ∧ Cond.instanceMethod q.1 ∈ tables_1
theorem lw_t1 {w : Cond} (i : Nat) (h : tables_1_1[i]? = some w) : w ∈ tables_1 := by have := List.mem_of_getElem? h; simp only [tables_1, List.mem_append]; exact Or.inl this
theorem lw_t2 {w : Cond} (i : Nat) (h : tables_1_2[i]? = some w) : w ∈ tables_1 := by have := List.mem_of_getElem? h; simp only [tables_1, List.mem_append]; exact Or.inr (Or.inl this)
theorem lw_t3 {w : Cond} (i : Nat) (h : tables_1_3[i]? = some w) : w ∈ tables_1 := by have := List.mem_of_getElem? h; simp only [tables_1, List.mem_append]; exact Or.inr (Or.inr (Or.inl this))
theorem lw_t4 {w : Cond} (i : Nat) (h : tables_1_4[i]? = some w) : w ∈ tables_1 := by have := List.mem_of_getElem? h; simp only [tables_1, List.mem_append]; exact Or.inr (Or.inr (Or.inr (Or.inl this)))
theorem lw_t5 {w : Cond} (i : Nat) (h : tables_1_5[i]? = some w) : w ∈ tables_1 := by have := List.mem_of_getElem? h; simp only [tables_1, List.mem_append]; exact Or.inr (Or.inr (Or.inr (Or.inr (Or.inl this))))
theorem lw_t6 {w : Cond} (i : Nat) (h : tables_1_6[i]? = some w) : w ∈ tables_1 := by have := List.mem_of_getElem? h; simp only [tables_1, List.mem_append]; exact Or.inr (Or.inr (Or.inr (Or.inr (Or.inr (Or.inl this)))))
theorem lw_t7 {w : Cond} (i : Nat) (h : tables_1_7[i]? = some w) : w ∈ tables_1 := by have := List.mem_of_getElem? h; simp only [tables_1, List.mem_append]; exact Or.inr (Or.inr (Or.inr (Or.inr (Or.inr (Or.inr (Or.inl this))))))
theorem lw_t8 {w : Cond} (i : Nat) (h : tables_1_8[i]? = some w) : w ∈ tables_1 := by have := List.mem_of_getElem? h; simp only [tables_1, List.mem_append]; exact Or.inr (Or.inr (Or.inr (Or.inr (Or.inr (Or.inr (Or.inr (this)))))))
theorem lw_c0 : ("SlotSeries" ≠ "java/lang/invoke/MethodHandle" ∧ "SlotSeries" ≠ "java/lang/invoke/VarHandle") ∧ Cond.instantiable "SlotSeries" 11 ∈ tables_1 := ⟨⟨by decide +kernel, by decide +kernel⟩, lw_t1 17 rfl⟩
theorem lw_p0 : lw_okq (⟨"SlotSeries", "putOnTape", "(I)V"⟩, 11) := ⟨lw_c0.1, lw_c0.2, lw_t2 141 rfl, lw_t2 142 rfl⟩
theorem lw_c1 : ("SlotSeries$Reader" ≠ "java/lang/invoke/MethodHandle" ∧ "SlotSeries$Reader" ≠ "java/lang/invoke/VarHandle") ∧ Cond.instantiable "SlotSeries$Reader" 18 ∈ tables_1 := ⟨⟨by decide +kernel, by decide +kernel⟩, lw_t1 231 rfl⟩
theorem lw_p1 : lw_okq (⟨"SlotSeries$Reader", "advance", "()V"⟩, 18) := ⟨lw_c1.1, lw_c1.2, lw_t2 164 rfl, lw_t2 165 rfl⟩
theorem lw_p2 : lw_okq (⟨"SlotSeries$Reader", "wordTold", "()I"⟩, 18) := ⟨lw_c1.1, lw_c1.2, lw_t2 171 rfl, lw_t2 172 rfl⟩
theorem lw_p3 : lw_okq (⟨"SlotSeries$Reader", "readWeeks", "()Z"⟩, 18) := ⟨lw_c1.1, lw_c1.2, lw_t2 228 rfl, lw_t2 229 rfl⟩
theorem lw_p4 : lw_okq (⟨"SlotSeries$Reader", "takeWord", "(I)Z"⟩, 18) := ⟨lw_c1.1, lw_c1.2, lw_t2 232 rfl, lw_t2 233 rfl⟩
theorem lw_p5 : lw_okq (⟨"SlotSeries$Reader", "isWord", "(I)Z"⟩, 18) := ⟨lw_c1.1, lw_c1.2, lw_t2 236 rfl, lw_t2 237 rfl⟩
theorem lw_p6 : lw_okq (⟨"SlotSeries$Reader", "fail", "(I)Z"⟩, 18) := ⟨lw_c1.1, lw_c1.2, lw_t3 0 rfl, lw_t3 1 rfl⟩
theorem lw_p7 : lw_okq (⟨"SlotSeries$Reader", "isNumber", "(II)Z"⟩, 18) := ⟨lw_c1.1, lw_c1.2, lw_t3 4 rfl, lw_t3 5 rfl⟩
theorem lw_p8 : lw_okq (⟨"SlotSeries$Reader", "takeSign", "(C)Z"⟩, 18) := ⟨lw_c1.1, lw_c1.2, lw_t3 11 rfl, lw_t3 12 rfl⟩
theorem lw_p9 : lw_okq (⟨"SlotSeries$Reader", "isSign", "(C)Z"⟩, 18) := ⟨lw_c1.1, lw_c1.2, lw_t3 15 rfl, lw_t3 16 rfl⟩
theorem lw_p10 : lw_okq (⟨"SlotSeries$Reader", "readLine", "()Z"⟩, 18) := ⟨lw_c1.1, lw_c1.2, lw_t3 19 rfl, lw_t3 20 rfl⟩
theorem lw_p11 : lw_okq (⟨"SlotSeries$Reader", "readLimit", "()Z"⟩, 18) := ⟨lw_c1.1, lw_c1.2, lw_t3 23 rfl, lw_t3 24 rfl⟩
theorem lw_p12 : lw_okq (⟨"SlotSeries$Reader", "readCarrier", "()Z"⟩, 18) := ⟨lw_c1.1, lw_c1.2, lw_t3 30 rfl, lw_t3 31 rfl⟩
theorem lw_p13 : lw_okq (⟨"SlotSeries$Reader", "isName", "()Z"⟩, 18) := ⟨lw_c1.1, lw_c1.2, lw_t3 34 rfl, lw_t3 35 rfl⟩
theorem lw_c2 : ("SlotSeries$Names" ≠ "java/lang/invoke/MethodHandle" ∧ "SlotSeries$Names" ≠ "java/lang/invoke/VarHandle") ∧ Cond.instantiable "SlotSeries$Names" 2 ∈ tables_1 := ⟨⟨by decide +kernel, by decide +kernel⟩, lw_t1 214 rfl⟩
theorem lw_p14 : lw_okq (⟨"SlotSeries$Names", "isNamed", "(I[BII)Z"⟩, 2) := ⟨lw_c2.1, lw_c2.2, lw_t3 42 rfl, lw_t3 43 rfl⟩
theorem lw_p15 : lw_okq (⟨"SlotSeries$Reader", "readSeries", "()Z"⟩, 18) := ⟨lw_c1.1, lw_c1.2, lw_t3 51 rfl, lw_t3 52 rfl⟩
def lw_privs_1 : List (MethodName × Nat) := [(⟨"SlotSeries", "putOnTape", "(I)V"⟩, 11), (⟨"SlotSeries$Reader", "advance", "()V"⟩, 18), (⟨"SlotSeries$Reader", "wordTold", "()I"⟩, 18), (⟨"SlotSeries$Reader", "readWeeks", "()Z"⟩, 18), (⟨"SlotSeries$Reader", "takeWord", "(I)Z"⟩, 18), (⟨"SlotSeries$Reader", "isWord", "(I)Z"⟩, 18), (⟨"SlotSeries$Reader", "fail", "(I)Z"⟩, 18), (⟨"SlotSeries$Reader", "isNumber", "(II)Z"⟩, 18), (⟨"SlotSeries$Reader", "takeSign", "(C)Z"⟩, 18), (⟨"SlotSeries$Reader", "isSign", "(C)Z"⟩, 18), (⟨"SlotSeries$Reader", "readLine", "()Z"⟩, 18), (⟨"SlotSeries$Reader", "readLimit", "()Z"⟩, 18), (⟨"SlotSeries$Reader", "readCarrier", "()Z"⟩, 18), (⟨"SlotSeries$Reader", "isName", "()Z"⟩, 18), (⟨"SlotSeries$Names", "isNamed", "(I[BII)Z"⟩, 2), (⟨"SlotSeries$Reader", "readSeries", "()Z"⟩, 18)]
theorem lw_r1 : ∀ q ∈ lw_privs_1, lw_okq q := List.forall_mem_cons.mpr ⟨lw_p0, List.forall_mem_cons.mpr ⟨lw_p1, List.forall_mem_cons.mpr ⟨lw_p2, List.forall_mem_cons.mpr ⟨lw_p3, List.forall_mem_cons.mpr ⟨lw_p4, List.forall_mem_cons.mpr ⟨lw_p5, List.forall_mem_cons.mpr ⟨lw_p6, List.forall_mem_cons.mpr ⟨lw_p7, List.forall_mem_cons.mpr ⟨lw_p8, List.forall_mem_cons.mpr ⟨lw_p9, List.forall_mem_cons.mpr ⟨lw_p10, List.forall_mem_cons.mpr ⟨lw_p11, List.forall_mem_cons.mpr ⟨lw_p12, List.forall_mem_cons.mpr ⟨lw_p13, List.forall_mem_cons.mpr ⟨lw_p14, List.forall_mem_cons.mpr ⟨lw_p15, fun _ h => absurd h List.not_mem_nil⟩⟩⟩⟩⟩⟩⟩⟩⟩⟩⟩⟩⟩⟩⟩⟩
theorem lw_p16 : lw_okq (⟨"SlotSeries$Reader", "readPlace", "()Z"⟩, 18) := ⟨lw_c1.1, lw_c1.2, lw_t3 55 rfl, lw_t3 56 rfl⟩
theorem lw_p17 : lw_okq (⟨"SlotSeries$Reader", "readSpan", "()Z"⟩, 18) := ⟨lw_c1.1, lw_c1.2, lw_t3 59 rfl, lw_t3 60 rfl⟩
theorem lw_p18 : lw_okq (⟨"SlotSeries$Reader", "readAsk", "()Z"⟩, 18) := ⟨lw_c1.1, lw_c1.2, lw_t3 100 rfl, lw_t3 101 rfl⟩
theorem lw_p19 : lw_okq (⟨"SlotSeries", "isCarrier", "(I)Z"⟩, 11) := ⟨lw_c0.1, lw_c0.2, lw_t3 146 rfl, lw_t3 147 rfl⟩
theorem lw_p20 : lw_okq (⟨"SlotSeries", "hasText", "()Z"⟩, 11) := ⟨lw_c0.1, lw_c0.2, lw_t3 159 rfl, lw_t3 160 rfl⟩
theorem lw_p21 : lw_okq (⟨"SlotSeries", "isSeries", "(I)Z"⟩, 11) := ⟨lw_c0.1, lw_c0.2, lw_t3 169 rfl, lw_t3 170 rfl⟩
theorem lw_p22 : lw_okq (⟨"SlotSeries", "isWeek", "(I)Z"⟩, 11) := ⟨lw_c0.1, lw_c0.2, lw_t3 192 rfl, lw_t3 193 rfl⟩
theorem lw_p23 : lw_okq (⟨"SlotSeries", "isAsk", "(I)Z"⟩, 11) := ⟨lw_c0.1, lw_c0.2, lw_t3 206 rfl, lw_t3 207 rfl⟩
theorem lw_p24 : lw_okq (⟨"SlotSeries", "isHour", "(I)Z"⟩, 11) := ⟨lw_c0.1, lw_c0.2, lw_t3 214 rfl, lw_t3 215 rfl⟩
theorem lw_p25 : lw_okq (⟨"SlotSeries", "isCell", "(III)Z"⟩, 11) := ⟨lw_c0.1, lw_c0.2, lw_t3 222 rfl, lw_t3 223 rfl⟩
theorem lw_p26 : lw_okq (⟨"SlotSeries", "isDay", "(I)Z"⟩, 11) := ⟨lw_c0.1, lw_c0.2, lw_t3 226 rfl, lw_t3 227 rfl⟩
theorem lw_c3 : ("SlotSeries$Series" ≠ "java/lang/invoke/MethodHandle" ∧ "SlotSeries$Series" ≠ "java/lang/invoke/VarHandle") ∧ Cond.instantiable "SlotSeries$Series" 12 ∈ tables_1 := ⟨⟨by decide +kernel, by decide +kernel⟩, lw_t1 34 rfl⟩
theorem lw_p27 : lw_okq (⟨"SlotSeries$Series", "isKeptWith", "(I)Z"⟩, 12) := ⟨lw_c3.1, lw_c3.2, lw_t4 50 rfl, lw_t4 51 rfl⟩
theorem lw_p28 : lw_okq (⟨"SlotSeries", "usesMore", "(II)Z"⟩, 11) := ⟨lw_c0.1, lw_c0.2, lw_t4 95 rfl, lw_t4 96 rfl⟩
theorem lw_p29 : lw_okq (⟨"SlotSeries", "departuresBehind", "(LSlotSeries$Series;I)I"⟩, 11) := ⟨lw_c0.1, lw_c0.2, lw_t4 135 rfl, lw_t4 136 rfl⟩
theorem lw_c4 : ("SlotSeries$Pool" ≠ "java/lang/invoke/MethodHandle" ∧ "SlotSeries$Pool" ≠ "java/lang/invoke/VarHandle") ∧ Cond.instantiable "SlotSeries$Pool" 5 ∈ tables_1 := ⟨⟨by decide +kernel, by decide +kernel⟩, lw_t2 61 rfl⟩
theorem lw_p30 : lw_okq (⟨"SlotSeries$Pool", "countSlots", "()V"⟩, 5) := ⟨lw_c4.1, lw_c4.2, lw_t4 209 rfl, lw_t4 210 rfl⟩
theorem lw_p31 : lw_okq (⟨"SlotSeries$Pool", "allAsks", "()I"⟩, 5) := ⟨lw_c4.1, lw_c4.2, lw_t4 213 rfl, lw_t4 214 rfl⟩
def lw_privs_2 : List (MethodName × Nat) := [(⟨"SlotSeries$Reader", "readPlace", "()Z"⟩, 18), (⟨"SlotSeries$Reader", "readSpan", "()Z"⟩, 18), (⟨"SlotSeries$Reader", "readAsk", "()Z"⟩, 18), (⟨"SlotSeries", "isCarrier", "(I)Z"⟩, 11), (⟨"SlotSeries", "hasText", "()Z"⟩, 11), (⟨"SlotSeries", "isSeries", "(I)Z"⟩, 11), (⟨"SlotSeries", "isWeek", "(I)Z"⟩, 11), (⟨"SlotSeries", "isAsk", "(I)Z"⟩, 11), (⟨"SlotSeries", "isHour", "(I)Z"⟩, 11), (⟨"SlotSeries", "isCell", "(III)Z"⟩, 11), (⟨"SlotSeries", "isDay", "(I)Z"⟩, 11), (⟨"SlotSeries$Series", "isKeptWith", "(I)Z"⟩, 12), (⟨"SlotSeries", "usesMore", "(II)Z"⟩, 11), (⟨"SlotSeries", "departuresBehind", "(LSlotSeries$Series;I)I"⟩, 11), (⟨"SlotSeries$Pool", "countSlots", "()V"⟩, 5), (⟨"SlotSeries$Pool", "allAsks", "()I"⟩, 5)]
theorem lw_r2 : ∀ q ∈ lw_privs_2, lw_okq q := List.forall_mem_cons.mpr ⟨lw_p16, List.forall_mem_cons.mpr ⟨lw_p17, List.forall_mem_cons.mpr ⟨lw_p18, List.forall_mem_cons.mpr ⟨lw_p19, List.forall_mem_cons.mpr ⟨lw_p20, List.forall_mem_cons.mpr ⟨lw_p21, List.forall_mem_cons.mpr ⟨lw_p22, List.forall_mem_cons.mpr ⟨lw_p23, List.forall_mem_cons.mpr ⟨lw_p24, List.forall_mem_cons.mpr ⟨lw_p25, List.forall_mem_cons.mpr ⟨lw_p26, List.forall_mem_cons.mpr ⟨lw_p27, List.forall_mem_cons.mpr ⟨lw_p28, List.forall_mem_cons.mpr ⟨lw_p29, List.forall_mem_cons.mpr ⟨lw_p30, List.forall_mem_cons.mpr ⟨lw_p31, fun _ h => absurd h List.not_mem_nil⟩⟩⟩⟩⟩⟩⟩⟩⟩⟩⟩⟩⟩⟩⟩⟩
theorem lw_p32 : lw_okq (⟨"SlotSeries$Pool", "chosen", "(IZ)I"⟩, 5) := ⟨lw_c4.1, lw_c4.2, lw_t4 217 rfl, lw_t4 218 rfl⟩
theorem lw_p33 : lw_okq (⟨"SlotSeries$Pool", "longestOf", "(IZ)I"⟩, 5) := ⟨lw_c4.1, lw_c4.2, lw_t4 221 rfl, lw_t4 222 rfl⟩
theorem lw_p34 : lw_okq (⟨"SlotSeries$Pool", "isEntrants", "(LSlotSeries$Ask;)Z"⟩, 5) := ⟨lw_c4.1, lw_c4.2, lw_t4 226 rfl, lw_t4 227 rfl⟩
theorem lw_p35 : lw_okq (⟨"SlotSeries$Pool", "lookAt", "(I)V"⟩, 5) := ⟨lw_c4.1, lw_c4.2, lw_t4 238 rfl, lw_t4 239 rfl⟩
theorem lw_p36 : lw_okq (⟨"SlotSeries", "canRetime", "(II)Z"⟩, 11) := ⟨lw_c0.1, lw_c0.2, lw_t5 27 rfl, lw_t5 28 rfl⟩
theorem lw_p37 : lw_okq (⟨"SlotSeries", "whySwapFails", "(II)I"⟩, 11) := ⟨lw_c0.1, lw_c0.2, lw_t5 35 rfl, lw_t5 36 rfl⟩
theorem lw_p38 : lw_okq (⟨"SlotSeries", "remember", "()V"⟩, 11) := ⟨lw_c0.1, lw_c0.2, lw_t5 47 rfl, lw_t5 48 rfl⟩
theorem lw_c5 : ("SlotSeries$Teller" ≠ "java/lang/invoke/MethodHandle" ∧ "SlotSeries$Teller" ≠ "java/lang/invoke/VarHandle") ∧ Cond.instantiable "SlotSeries$Teller" 2 ∈ tables_1 := ⟨⟨by decide +kernel, by decide +kernel⟩, lw_t2 88 rfl⟩
theorem lw_p39 : lw_okq (⟨"SlotSeries$Teller", "putWord", "(Ljava/lang/String;)V"⟩, 2) := ⟨lw_c5.1, lw_c5.2, lw_t5 141 rfl, lw_t5 142 rfl⟩
theorem lw_p40 : lw_okq (⟨"SlotSeries$Teller", "putBlank", "()V"⟩, 2) := ⟨lw_c5.1, lw_c5.2, lw_t5 145 rfl, lw_t5 146 rfl⟩
theorem lw_p41 : lw_okq (⟨"SlotSeries$Teller", "putSign", "(C)V"⟩, 2) := ⟨lw_c5.1, lw_c5.2, lw_t5 151 rfl, lw_t5 152 rfl⟩
theorem lw_p42 : lw_okq (⟨"SlotSeries$Teller", "putNumber", "(I)V"⟩, 2) := ⟨lw_c5.1, lw_c5.2, lw_t5 157 rfl, lw_t5 158 rfl⟩
theorem lw_p43 : lw_okq (⟨"SlotSeries$Teller", "putLimit", "(III)V"⟩, 2) := ⟨lw_c5.1, lw_c5.2, lw_t5 161 rfl, lw_t5 162 rfl⟩
theorem lw_p44 : lw_okq (⟨"SlotSeries$Teller", "putName", "(LSlotSeries$Names;I)V"⟩, 2) := ⟨lw_c5.1, lw_c5.2, lw_t5 168 rfl, lw_t5 169 rfl⟩
theorem lw_p45 : lw_okq (⟨"SlotSeries$Teller", "putSeries", "(LSlotSeries$Series;LSlotSeries$Names;)V"⟩, 2) := ⟨lw_c5.1, lw_c5.2, lw_t5 173 rfl, lw_t5 174 rfl⟩
theorem lw_p46 : lw_okq (⟨"SlotSeries$Teller", "putPlace", "(III)V"⟩, 2) := ⟨lw_c5.1, lw_c5.2, lw_t5 178 rfl, lw_t5 179 rfl⟩
theorem lw_p47 : lw_okq (⟨"SlotSeries$Teller", "putSpan", "(II)V"⟩, 2) := ⟨lw_c5.1, lw_c5.2, lw_t5 184 rfl, lw_t5 185 rfl⟩
def lw_privs_3 : List (MethodName × Nat) := [(⟨"SlotSeries$Pool", "chosen", "(IZ)I"⟩, 5), (⟨"SlotSeries$Pool", "longestOf", "(IZ)I"⟩, 5), (⟨"SlotSeries$Pool", "isEntrants", "(LSlotSeries$Ask;)Z"⟩, 5), (⟨"SlotSeries$Pool", "lookAt", "(I)V"⟩, 5), (⟨"SlotSeries", "canRetime", "(II)Z"⟩, 11), (⟨"SlotSeries", "whySwapFails", "(II)I"⟩, 11), (⟨"SlotSeries", "remember", "()V"⟩, 11), (⟨"SlotSeries$Teller", "putWord", "(Ljava/lang/String;)V"⟩, 2), (⟨"SlotSeries$Teller", "putBlank", "()V"⟩, 2), (⟨"SlotSeries$Teller", "putSign", "(C)V"⟩, 2), (⟨"SlotSeries$Teller", "putNumber", "(I)V"⟩, 2), (⟨"SlotSeries$Teller", "putLimit", "(III)V"⟩, 2), (⟨"SlotSeries$Teller", "putName", "(LSlotSeries$Names;I)V"⟩, 2), (⟨"SlotSeries$Teller", "putSeries", "(LSlotSeries$Series;LSlotSeries$Names;)V"⟩, 2), (⟨"SlotSeries$Teller", "putPlace", "(III)V"⟩, 2), (⟨"SlotSeries$Teller", "putSpan", "(II)V"⟩, 2)]
theorem lw_r3 : ∀ q ∈ lw_privs_3, lw_okq q := List.forall_mem_cons.mpr ⟨lw_p32, List.forall_mem_cons.mpr ⟨lw_p33, List.forall_mem_cons.mpr ⟨lw_p34, List.forall_mem_cons.mpr ⟨lw_p35, List.forall_mem_cons.mpr ⟨lw_p36, List.forall_mem_cons.mpr ⟨lw_p37, List.forall_mem_cons.mpr ⟨lw_p38, List.forall_mem_cons.mpr ⟨lw_p39, List.forall_mem_cons.mpr ⟨lw_p40, List.forall_mem_cons.mpr ⟨lw_p41, List.forall_mem_cons.mpr ⟨lw_p42, List.forall_mem_cons.mpr ⟨lw_p43, List.forall_mem_cons.mpr ⟨lw_p44, List.forall_mem_cons.mpr ⟨lw_p45, List.forall_mem_cons.mpr ⟨lw_p46, List.forall_mem_cons.mpr ⟨lw_p47, fun _ h => absurd h List.not_mem_nil⟩⟩⟩⟩⟩⟩⟩⟩⟩⟩⟩⟩⟩⟩⟩⟩
theorem lw_p48 : lw_okq (⟨"SlotSeries$Teller", "putAsk", "(LSlotSeries$Ask;LSlotSeries$Names;)V"⟩, 2) := ⟨lw_c5.1, lw_c5.2, lw_t5 189 rfl, lw_t5 190 rfl⟩
theorem lw_c6 : ("SlotSeriesModel" ≠ "java/lang/invoke/MethodHandle" ∧ "SlotSeriesModel" ≠ "java/lang/invoke/VarHandle") ∧ Cond.instantiable "SlotSeriesModel" 23 ∈ tables_1 := ⟨⟨by decide +kernel, by decide +kernel⟩, lw_t5 199 rfl⟩
theorem lw_p49 : lw_okq (⟨"SlotSeriesModel", "puts4", "(I)V"⟩, 23) := ⟨lw_c6.1, lw_c6.2, lw_t6 38 rfl, lw_t6 39 rfl⟩
theorem lw_p50 : lw_okq (⟨"SlotSeriesModel", "readAll", "()I"⟩, 23) := ⟨lw_c6.1, lw_c6.2, lw_t6 53 rfl, lw_t6 54 rfl⟩
theorem lw_p51 : lw_okq (⟨"SlotSeriesModel", "advance", "()V"⟩, 23) := ⟨lw_c6.1, lw_c6.2, lw_t6 57 rfl, lw_t6 58 rfl⟩
theorem lw_p52 : lw_okq (⟨"SlotSeriesModel", "see", "(I)I"⟩, 23) := ⟨lw_c6.1, lw_c6.2, lw_t6 61 rfl, lw_t6 62 rfl⟩
theorem lw_p53 : lw_okq (⟨"SlotSeriesModel", "passes", "(Ljava/lang/String;)V"⟩, 23) := ⟨lw_c6.1, lw_c6.2, lw_t6 71 rfl, lw_t6 72 rfl⟩
theorem lw_p54 : lw_okq (⟨"SlotSeriesModel", "eats", "(Ljava/lang/String;)Z"⟩, 23) := ⟨lw_c6.1, lw_c6.2, lw_t6 75 rfl, lw_t6 76 rfl⟩
theorem lw_p55 : lw_okq (⟨"SlotSeriesModel", "isWord", "(Ljava/lang/String;)Z"⟩, 23) := ⟨lw_c6.1, lw_c6.2, lw_t6 79 rfl, lw_t6 80 rfl⟩
theorem lw_p56 : lw_okq (⟨"SlotSeriesModel", "good", "()Z"⟩, 23) := ⟨lw_c6.1, lw_c6.2, lw_t6 83 rfl, lw_t6 84 rfl⟩
theorem lw_p57 : lw_okq (⟨"SlotSeriesModel", "errs", "(II)V"⟩, 23) := ⟨lw_c6.1, lw_c6.2, lw_t6 89 rfl, lw_t6 90 rfl⟩
theorem lw_p58 : lw_okq (⟨"SlotSeriesModel", "number", "(II)I"⟩, 23) := ⟨lw_c6.1, lw_c6.2, lw_t6 93 rfl, lw_t6 94 rfl⟩
theorem lw_p59 : lw_okq (⟨"SlotSeriesModel", "passesByte", "(I)V"⟩, 23) := ⟨lw_c6.1, lw_c6.2, lw_t6 97 rfl, lw_t6 98 rfl⟩
theorem lw_p60 : lw_okq (⟨"SlotSeriesModel", "isByte", "(I)Z"⟩, 23) := ⟨lw_c6.1, lw_c6.2, lw_t6 101 rfl, lw_t6 102 rfl⟩
theorem lw_p61 : lw_okq (⟨"SlotSeriesModel", "readLine", "()V"⟩, 23) := ⟨lw_c6.1, lw_c6.2, lw_t6 105 rfl, lw_t6 106 rfl⟩
theorem lw_p62 : lw_okq (⟨"SlotSeriesModel", "readLimit", "()V"⟩, 23) := ⟨lw_c6.1, lw_c6.2, lw_t6 110 rfl, lw_t6 111 rfl⟩
theorem lw_p63 : lw_okq (⟨"SlotSeriesModel", "readCarrier", "()V"⟩, 23) := ⟨lw_c6.1, lw_c6.2, lw_t6 120 rfl, lw_t6 121 rfl⟩
def lw_privs_4 : List (MethodName × Nat) := [(⟨"SlotSeries$Teller", "putAsk", "(LSlotSeries$Ask;LSlotSeries$Names;)V"⟩, 2), (⟨"SlotSeriesModel", "puts4", "(I)V"⟩, 23), (⟨"SlotSeriesModel", "readAll", "()I"⟩, 23), (⟨"SlotSeriesModel", "advance", "()V"⟩, 23), (⟨"SlotSeriesModel", "see", "(I)I"⟩, 23), (⟨"SlotSeriesModel", "passes", "(Ljava/lang/String;)V"⟩, 23), (⟨"SlotSeriesModel", "eats", "(Ljava/lang/String;)Z"⟩, 23), (⟨"SlotSeriesModel", "isWord", "(Ljava/lang/String;)Z"⟩, 23), (⟨"SlotSeriesModel", "good", "()Z"⟩, 23), (⟨"SlotSeriesModel", "errs", "(II)V"⟩, 23), (⟨"SlotSeriesModel", "number", "(II)I"⟩, 23), (⟨"SlotSeriesModel", "passesByte", "(I)V"⟩, 23), (⟨"SlotSeriesModel", "isByte", "(I)Z"⟩, 23), (⟨"SlotSeriesModel", "readLine", "()V"⟩, 23), (⟨"SlotSeriesModel", "readLimit", "()V"⟩, 23), (⟨"SlotSeriesModel", "readCarrier", "()V"⟩, 23)]
theorem lw_r4 : ∀ q ∈ lw_privs_4, lw_okq q := List.forall_mem_cons.mpr ⟨lw_p48, List.forall_mem_cons.mpr ⟨lw_p49, List.forall_mem_cons.mpr ⟨lw_p50, List.forall_mem_cons.mpr ⟨lw_p51, List.forall_mem_cons.mpr ⟨lw_p52, List.forall_mem_cons.mpr ⟨lw_p53, List.forall_mem_cons.mpr ⟨lw_p54, List.forall_mem_cons.mpr ⟨lw_p55, List.forall_mem_cons.mpr ⟨lw_p56, List.forall_mem_cons.mpr ⟨lw_p57, List.forall_mem_cons.mpr ⟨lw_p58, List.forall_mem_cons.mpr ⟨lw_p59, List.forall_mem_cons.mpr ⟨lw_p60, List.forall_mem_cons.mpr ⟨lw_p61, List.forall_mem_cons.mpr ⟨lw_p62, List.forall_mem_cons.mpr ⟨lw_p63, fun _ h => absurd h List.not_mem_nil⟩⟩⟩⟩⟩⟩⟩⟩⟩⟩⟩⟩⟩⟩⟩⟩
theorem lw_p64 : lw_okq (⟨"SlotSeriesModel", "nameHere", "()I"⟩, 23) := ⟨lw_c6.1, lw_c6.2, lw_t6 124 rfl, lw_t6 125 rfl⟩
theorem lw_p65 : lw_okq (⟨"SlotSeriesModel", "isOwn", "()Z"⟩, 23) := ⟨lw_c6.1, lw_c6.2, lw_t6 128 rfl, lw_t6 129 rfl⟩
theorem lw_p66 : lw_okq (⟨"SlotSeriesModel", "dayHere", "()I"⟩, 23) := ⟨lw_c6.1, lw_c6.2, lw_t6 132 rfl, lw_t6 133 rfl⟩
theorem lw_p67 : lw_okq (⟨"SlotSeriesModel", "packed", "(II)I"⟩, 23) := ⟨lw_c6.1, lw_c6.2, lw_t6 151 rfl, lw_t6 152 rfl⟩
theorem lw_p68 : lw_okq (⟨"SlotSeriesModel", "findName", "(I)I"⟩, 23) := ⟨lw_c6.1, lw_c6.2, lw_t6 155 rfl, lw_t6 156 rfl⟩
theorem lw_p69 : lw_okq (⟨"SlotSeriesModel", "readSeries", "()V"⟩, 23) := ⟨lw_c6.1, lw_c6.2, lw_t6 159 rfl, lw_t6 160 rfl⟩
theorem lw_p70 : lw_okq (⟨"SlotSeriesModel", "readCommon", "()V"⟩, 23) := ⟨lw_c6.1, lw_c6.2, lw_t6 163 rfl, lw_t6 164 rfl⟩
theorem lw_p71 : lw_okq (⟨"SlotSeriesModel", "canBe", "(IIIII)Z"⟩, 23) := ⟨lw_c6.1, lw_c6.2, lw_t6 170 rfl, lw_t6 171 rfl⟩
theorem lw_p72 : lw_okq (⟨"SlotSeriesModel", "fromNow", "()I"⟩, 23) := ⟨lw_c6.1, lw_c6.2, lw_t6 174 rfl, lw_t6 175 rfl⟩
theorem lw_p73 : lw_okq (⟨"SlotSeriesModel", "loadBut", "(IIIII)I"⟩, 23) := ⟨lw_c6.1, lw_c6.2, lw_t6 178 rfl, lw_t6 179 rfl⟩
theorem lw_p74 : lw_okq (⟨"SlotSeriesModel", "one", "(II)I"⟩, 23) := ⟨lw_c6.1, lw_c6.2, lw_t6 182 rfl, lw_t6 183 rfl⟩
theorem lw_p75 : lw_okq (⟨"SlotSeriesModel", "basisOf", "(I)I"⟩, 23) := ⟨lw_c6.1, lw_c6.2, lw_t6 186 rfl, lw_t6 187 rfl⟩
theorem lw_p76 : lw_okq (⟨"SlotSeriesModel", "addsSeries", "(IIIZ)V"⟩, 23) := ⟨lw_c6.1, lw_c6.2, lw_t6 190 rfl, lw_t6 191 rfl⟩
theorem lw_p77 : lw_okq (⟨"SlotSeriesModel", "lays", "(III)V"⟩, 23) := ⟨lw_c6.1, lw_c6.2, lw_t6 194 rfl, lw_t6 195 rfl⟩
theorem lw_p78 : lw_okq (⟨"SlotSeriesModel", "readAsk", "()V"⟩, 23) := ⟨lw_c6.1, lw_c6.2, lw_t6 198 rfl, lw_t6 199 rfl⟩
theorem lw_p79 : lw_okq (⟨"SlotSeriesModel", "addsAsk", "()V"⟩, 23) := ⟨lw_c6.1, lw_c6.2, lw_t6 202 rfl, lw_t6 203 rfl⟩
def lw_privs_5 : List (MethodName × Nat) := [(⟨"SlotSeriesModel", "nameHere", "()I"⟩, 23), (⟨"SlotSeriesModel", "isOwn", "()Z"⟩, 23), (⟨"SlotSeriesModel", "dayHere", "()I"⟩, 23), (⟨"SlotSeriesModel", "packed", "(II)I"⟩, 23), (⟨"SlotSeriesModel", "findName", "(I)I"⟩, 23), (⟨"SlotSeriesModel", "readSeries", "()V"⟩, 23), (⟨"SlotSeriesModel", "readCommon", "()V"⟩, 23), (⟨"SlotSeriesModel", "canBe", "(IIIII)Z"⟩, 23), (⟨"SlotSeriesModel", "fromNow", "()I"⟩, 23), (⟨"SlotSeriesModel", "loadBut", "(IIIII)I"⟩, 23), (⟨"SlotSeriesModel", "one", "(II)I"⟩, 23), (⟨"SlotSeriesModel", "basisOf", "(I)I"⟩, 23), (⟨"SlotSeriesModel", "addsSeries", "(IIIZ)V"⟩, 23), (⟨"SlotSeriesModel", "lays", "(III)V"⟩, 23), (⟨"SlotSeriesModel", "readAsk", "()V"⟩, 23), (⟨"SlotSeriesModel", "addsAsk", "()V"⟩, 23)]
theorem lw_r5 : ∀ q ∈ lw_privs_5, lw_okq q := List.forall_mem_cons.mpr ⟨lw_p64, List.forall_mem_cons.mpr ⟨lw_p65, List.forall_mem_cons.mpr ⟨lw_p66, List.forall_mem_cons.mpr ⟨lw_p67, List.forall_mem_cons.mpr ⟨lw_p68, List.forall_mem_cons.mpr ⟨lw_p69, List.forall_mem_cons.mpr ⟨lw_p70, List.forall_mem_cons.mpr ⟨lw_p71, List.forall_mem_cons.mpr ⟨lw_p72, List.forall_mem_cons.mpr ⟨lw_p73, List.forall_mem_cons.mpr ⟨lw_p74, List.forall_mem_cons.mpr ⟨lw_p75, List.forall_mem_cons.mpr ⟨lw_p76, List.forall_mem_cons.mpr ⟨lw_p77, List.forall_mem_cons.mpr ⟨lw_p78, List.forall_mem_cons.mpr ⟨lw_p79, fun _ h => absurd h List.not_mem_nil⟩⟩⟩⟩⟩⟩⟩⟩⟩⟩⟩⟩⟩⟩⟩⟩
theorem lw_p80 : lw_okq (⟨"SlotSeriesModel", "isCarrier", "(I)Z"⟩, 23) := ⟨lw_c6.1, lw_c6.2, lw_t6 218 rfl, lw_t6 219 rfl⟩
theorem lw_p81 : lw_okq (⟨"SlotSeriesModel", "isThere", "()Z"⟩, 23) := ⟨lw_c6.1, lw_c6.2, lw_t6 230 rfl, lw_t6 231 rfl⟩
theorem lw_p82 : lw_okq (⟨"SlotSeriesModel", "isSeries", "(I)Z"⟩, 23) := ⟨lw_c6.1, lw_c6.2, lw_t6 239 rfl, lw_t7 0 rfl⟩
theorem lw_p83 : lw_okq (⟨"SlotSeriesModel", "isWeek", "(I)Z"⟩, 23) := ⟨lw_c6.1, lw_c6.2, lw_t7 12 rfl, lw_t7 13 rfl⟩
theorem lw_p84 : lw_okq (⟨"SlotSeriesModel", "stateOf", "(II)I"⟩, 23) := ⟨lw_c6.1, lw_c6.2, lw_t7 16 rfl, lw_t7 17 rfl⟩
theorem lw_p85 : lw_okq (⟨"SlotSeriesModel", "isAsk", "(I)Z"⟩, 23) := ⟨lw_c6.1, lw_c6.2, lw_t7 24 rfl, lw_t7 25 rfl⟩
theorem lw_p86 : lw_okq (⟨"SlotSeriesModel", "ask0", "(II)I"⟩, 23) := ⟨lw_c6.1, lw_c6.2, lw_t7 28 rfl, lw_t7 29 rfl⟩
theorem lw_p87 : lw_okq (⟨"SlotSeriesModel", "isHour", "(I)Z"⟩, 23) := ⟨lw_c6.1, lw_c6.2, lw_t7 36 rfl, lw_t7 37 rfl⟩
theorem lw_p88 : lw_okq (⟨"SlotSeriesModel", "isPlace", "(III)Z"⟩, 23) := ⟨lw_c6.1, lw_c6.2, lw_t7 44 rfl, lw_t7 45 rfl⟩
theorem lw_p89 : lw_okq (⟨"SlotSeriesModel", "isDay", "(I)Z"⟩, 23) := ⟨lw_c6.1, lw_c6.2, lw_t7 48 rfl, lw_t7 49 rfl⟩
theorem lw_p90 : lw_okq (⟨"SlotSeriesModel", "goodOf", "(I)I"⟩, 23) := ⟨lw_c6.1, lw_c6.2, lw_t7 69 rfl, lw_t7 70 rfl⟩
theorem lw_p91 : lw_okq (⟨"SlotSeriesModel", "standsOf", "(I)I"⟩, 23) := ⟨lw_c6.1, lw_c6.2, lw_t7 77 rfl, lw_t7 78 rfl⟩
theorem lw_p92 : lw_okq (⟨"SlotSeriesModel", "isKept", "(II)Z"⟩, 23) := ⟨lw_c6.1, lw_c6.2, lw_t7 81 rfl, lw_t7 82 rfl⟩
theorem lw_p93 : lw_okq (⟨"SlotSeriesModel", "spareOf", "(I)I"⟩, 23) := ⟨lw_c6.1, lw_c6.2, lw_t7 89 rfl, lw_t7 90 rfl⟩
theorem lw_p94 : lw_okq (⟨"SlotSeriesModel", "isEntrant", "(II)Z"⟩, 23) := ⟨lw_c6.1, lw_c6.2, lw_t7 110 rfl, lw_t7 111 rfl⟩
theorem lw_p95 : lw_okq (⟨"SlotSeriesModel", "isBetter", "(II)Z"⟩, 23) := ⟨lw_c6.1, lw_c6.2, lw_t7 122 rfl, lw_t7 123 rfl⟩
def lw_privs_6 : List (MethodName × Nat) := [(⟨"SlotSeriesModel", "isCarrier", "(I)Z"⟩, 23), (⟨"SlotSeriesModel", "isThere", "()Z"⟩, 23), (⟨"SlotSeriesModel", "isSeries", "(I)Z"⟩, 23), (⟨"SlotSeriesModel", "isWeek", "(I)Z"⟩, 23), (⟨"SlotSeriesModel", "stateOf", "(II)I"⟩, 23), (⟨"SlotSeriesModel", "isAsk", "(I)Z"⟩, 23), (⟨"SlotSeriesModel", "ask0", "(II)I"⟩, 23), (⟨"SlotSeriesModel", "isHour", "(I)Z"⟩, 23), (⟨"SlotSeriesModel", "isPlace", "(III)Z"⟩, 23), (⟨"SlotSeriesModel", "isDay", "(I)Z"⟩, 23), (⟨"SlotSeriesModel", "goodOf", "(I)I"⟩, 23), (⟨"SlotSeriesModel", "standsOf", "(I)I"⟩, 23), (⟨"SlotSeriesModel", "isKept", "(II)Z"⟩, 23), (⟨"SlotSeriesModel", "spareOf", "(I)I"⟩, 23), (⟨"SlotSeriesModel", "isEntrant", "(II)Z"⟩, 23), (⟨"SlotSeriesModel", "isBetter", "(II)Z"⟩, 23)]
theorem lw_r6 : ∀ q ∈ lw_privs_6, lw_okq q := List.forall_mem_cons.mpr ⟨lw_p80, List.forall_mem_cons.mpr ⟨lw_p81, List.forall_mem_cons.mpr ⟨lw_p82, List.forall_mem_cons.mpr ⟨lw_p83, List.forall_mem_cons.mpr ⟨lw_p84, List.forall_mem_cons.mpr ⟨lw_p85, List.forall_mem_cons.mpr ⟨lw_p86, List.forall_mem_cons.mpr ⟨lw_p87, List.forall_mem_cons.mpr ⟨lw_p88, List.forall_mem_cons.mpr ⟨lw_p89, List.forall_mem_cons.mpr ⟨lw_p90, List.forall_mem_cons.mpr ⟨lw_p91, List.forall_mem_cons.mpr ⟨lw_p92, List.forall_mem_cons.mpr ⟨lw_p93, List.forall_mem_cons.mpr ⟨lw_p94, List.forall_mem_cons.mpr ⟨lw_p95, fun _ h => absurd h List.not_mem_nil⟩⟩⟩⟩⟩⟩⟩⟩⟩⟩⟩⟩⟩⟩⟩⟩
theorem lw_p96 : lw_okq (⟨"SlotSeriesModel", "allOf", "(IZ)I"⟩, 23) := ⟨lw_c6.1, lw_c6.2, lw_t7 126 rfl, lw_t7 127 rfl⟩
theorem lw_p97 : lw_okq (⟨"SlotSeriesModel", "basisOn", "(II)I"⟩, 23) := ⟨lw_c6.1, lw_c6.2, lw_t7 134 rfl, lw_t7 135 rfl⟩
theorem lw_p98 : lw_okq (⟨"SlotSeriesModel", "weeksOf", "(I)I"⟩, 23) := ⟨lw_c6.1, lw_c6.2, lw_t7 158 rfl, lw_t7 159 rfl⟩
theorem lw_p99 : lw_okq (⟨"SlotSeriesModel", "canAsk", "(III)Z"⟩, 23) := ⟨lw_c6.1, lw_c6.2, lw_t7 162 rfl, lw_t7 163 rfl⟩
theorem lw_p100 : lw_okq (⟨"SlotSeriesModel", "hourFor", "(I)I"⟩, 23) := ⟨lw_c6.1, lw_c6.2, lw_t7 170 rfl, lw_t7 171 rfl⟩
theorem lw_p101 : lw_okq (⟨"SlotSeriesModel", "begins", "()V"⟩, 23) := ⟨lw_c6.1, lw_c6.2, lw_t7 198 rfl, lw_t7 199 rfl⟩
theorem lw_p102 : lw_okq (⟨"SlotSeriesModel", "chosen", "(Z)I"⟩, 23) := ⟨lw_c6.1, lw_c6.2, lw_t7 202 rfl, lw_t7 203 rfl⟩
theorem lw_p103 : lw_okq (⟨"SlotSeriesModel", "playsAside", "(I)I"⟩, 23) := ⟨lw_c6.1, lw_c6.2, lw_t7 210 rfl, lw_t7 211 rfl⟩
theorem lw_p104 : lw_okq (⟨"SlotSeriesModel", "copies", "()V"⟩, 23) := ⟨lw_c6.1, lw_c6.2, lw_t7 214 rfl, lw_t7 215 rfl⟩
theorem lw_p105 : lw_okq (⟨"SlotSeriesModel", "plays", "()I"⟩, 23) := ⟨lw_c6.1, lw_c6.2, lw_t7 218 rfl, lw_t7 219 rfl⟩
theorem lw_p106 : lw_okq (⟨"SlotSeriesModel", "grants", "(II)V"⟩, 23) := ⟨lw_c6.1, lw_c6.2, lw_t7 222 rfl, lw_t7 223 rfl⟩
theorem lw_p107 : lw_okq (⟨"SlotSeriesModel", "canRetime", "(II)Z"⟩, 23) := ⟨lw_c6.1, lw_c6.2, lw_t8 2 rfl, lw_t8 3 rfl⟩
theorem lw_p108 : lw_okq (⟨"SlotSeriesModel", "canBeAt", "(II)Z"⟩, 23) := ⟨lw_c6.1, lw_c6.2, lw_t8 6 rfl, lw_t8 7 rfl⟩
theorem lw_p109 : lw_okq (⟨"SlotSeriesModel", "isComing", "(I)Z"⟩, 23) := ⟨lw_c6.1, lw_c6.2, lw_t8 18 rfl, lw_t8 19 rfl⟩
theorem lw_p110 : lw_okq (⟨"SlotSeriesModel", "keeps", "()V"⟩, 23) := ⟨lw_c6.1, lw_c6.2, lw_t8 22 rfl, lw_t8 23 rfl⟩
theorem lw_p111 : lw_okq (⟨"SlotSeriesModel", "goes", "(IIII)V"⟩, 23) := ⟨lw_c6.1, lw_c6.2, lw_t8 26 rfl, lw_t8 27 rfl⟩
def lw_privs_7 : List (MethodName × Nat) := [(⟨"SlotSeriesModel", "allOf", "(IZ)I"⟩, 23), (⟨"SlotSeriesModel", "basisOn", "(II)I"⟩, 23), (⟨"SlotSeriesModel", "weeksOf", "(I)I"⟩, 23), (⟨"SlotSeriesModel", "canAsk", "(III)Z"⟩, 23), (⟨"SlotSeriesModel", "hourFor", "(I)I"⟩, 23), (⟨"SlotSeriesModel", "begins", "()V"⟩, 23), (⟨"SlotSeriesModel", "chosen", "(Z)I"⟩, 23), (⟨"SlotSeriesModel", "playsAside", "(I)I"⟩, 23), (⟨"SlotSeriesModel", "copies", "()V"⟩, 23), (⟨"SlotSeriesModel", "plays", "()I"⟩, 23), (⟨"SlotSeriesModel", "grants", "(II)V"⟩, 23), (⟨"SlotSeriesModel", "canRetime", "(II)Z"⟩, 23), (⟨"SlotSeriesModel", "canBeAt", "(II)Z"⟩, 23), (⟨"SlotSeriesModel", "isComing", "(I)Z"⟩, 23), (⟨"SlotSeriesModel", "keeps", "()V"⟩, 23), (⟨"SlotSeriesModel", "goes", "(IIII)V"⟩, 23)]
theorem lw_r7 : ∀ q ∈ lw_privs_7, lw_okq q := List.forall_mem_cons.mpr ⟨lw_p96, List.forall_mem_cons.mpr ⟨lw_p97, List.forall_mem_cons.mpr ⟨lw_p98, List.forall_mem_cons.mpr ⟨lw_p99, List.forall_mem_cons.mpr ⟨lw_p100, List.forall_mem_cons.mpr ⟨lw_p101, List.forall_mem_cons.mpr ⟨lw_p102, List.forall_mem_cons.mpr ⟨lw_p103, List.forall_mem_cons.mpr ⟨lw_p104, List.forall_mem_cons.mpr ⟨lw_p105, List.forall_mem_cons.mpr ⟨lw_p106, List.forall_mem_cons.mpr ⟨lw_p107, List.forall_mem_cons.mpr ⟨lw_p108, List.forall_mem_cons.mpr ⟨lw_p109, List.forall_mem_cons.mpr ⟨lw_p110, List.forall_mem_cons.mpr ⟨lw_p111, fun _ h => absurd h List.not_mem_nil⟩⟩⟩⟩⟩⟩⟩⟩⟩⟩⟩⟩⟩⟩⟩⟩
theorem lw_p112 : lw_okq (⟨"SlotSeriesModel", "openFrom", "(II)I"⟩, 23) := ⟨lw_c6.1, lw_c6.2, lw_t8 42 rfl, lw_t8 43 rfl⟩
theorem lw_p113 : lw_okq (⟨"SlotSeriesModel", "dropsAsk", "(I)V"⟩, 23) := ⟨lw_c6.1, lw_c6.2, lw_t8 58 rfl, lw_t8 59 rfl⟩
theorem lw_p114 : lw_okq (⟨"SlotSeriesModel", "isNew", "(I)Z"⟩, 23) := ⟨lw_c6.1, lw_c6.2, lw_t8 70 rfl, lw_t8 71 rfl⟩
theorem lw_p115 : lw_okq (⟨"SlotSeriesModel", "canSwap", "(II)Z"⟩, 23) := ⟨lw_c6.1, lw_c6.2, lw_t8 74 rfl, lw_t8 75 rfl⟩
theorem lw_p116 : lw_okq (⟨"SlotSeriesModel", "changesOver", "(II)V"⟩, 23) := ⟨lw_c6.1, lw_c6.2, lw_t8 78 rfl, lw_t8 79 rfl⟩
theorem lw_p117 : lw_okq (⟨"SlotSeriesModel", "isAbove", "(III)Z"⟩, 23) := ⟨lw_c6.1, lw_c6.2, lw_t8 95 rfl, lw_t8 96 rfl⟩
theorem lw_p118 : lw_okq (⟨"SlotSeriesModel", "stays", "(II)V"⟩, 23) := ⟨lw_c6.1, lw_c6.2, lw_t8 112 rfl, lw_t8 113 rfl⟩
theorem lw_p119 : lw_okq (⟨"SlotSeriesModel", "saysText", "(Ljava/lang/String;)V"⟩, 23) := ⟨lw_c6.1, lw_c6.2, lw_t8 121 rfl, lw_t8 122 rfl⟩
theorem lw_p120 : lw_okq (⟨"SlotSeriesModel", "says", "(I)V"⟩, 23) := ⟨lw_c6.1, lw_c6.2, lw_t8 125 rfl, lw_t8 126 rfl⟩
theorem lw_p121 : lw_okq (⟨"SlotSeriesModel", "saysNumber", "(I)V"⟩, 23) := ⟨lw_c6.1, lw_c6.2, lw_t8 129 rfl, lw_t8 130 rfl⟩
theorem lw_p122 : lw_okq (⟨"SlotSeriesModel", "saysName", "(I)V"⟩, 23) := ⟨lw_c6.1, lw_c6.2, lw_t8 136 rfl, lw_t8 137 rfl⟩
theorem lw_p123 : lw_okq (⟨"SlotSeriesModel", "saysCommon", "(Ljava/lang/String;II)V"⟩, 23) := ⟨lw_c6.1, lw_c6.2, lw_t8 141 rfl, lw_t8 142 rfl⟩
def lw_privs_8 : List (MethodName × Nat) := [(⟨"SlotSeriesModel", "openFrom", "(II)I"⟩, 23), (⟨"SlotSeriesModel", "dropsAsk", "(I)V"⟩, 23), (⟨"SlotSeriesModel", "isNew", "(I)Z"⟩, 23), (⟨"SlotSeriesModel", "canSwap", "(II)Z"⟩, 23), (⟨"SlotSeriesModel", "changesOver", "(II)V"⟩, 23), (⟨"SlotSeriesModel", "isAbove", "(III)Z"⟩, 23), (⟨"SlotSeriesModel", "stays", "(II)V"⟩, 23), (⟨"SlotSeriesModel", "saysText", "(Ljava/lang/String;)V"⟩, 23), (⟨"SlotSeriesModel", "says", "(I)V"⟩, 23), (⟨"SlotSeriesModel", "saysNumber", "(I)V"⟩, 23), (⟨"SlotSeriesModel", "saysName", "(I)V"⟩, 23), (⟨"SlotSeriesModel", "saysCommon", "(Ljava/lang/String;II)V"⟩, 23)]
theorem lw_r8 : ∀ q ∈ lw_privs_8, lw_okq q := List.forall_mem_cons.mpr ⟨lw_p112, List.forall_mem_cons.mpr ⟨lw_p113, List.forall_mem_cons.mpr ⟨lw_p114, List.forall_mem_cons.mpr ⟨lw_p115, List.forall_mem_cons.mpr ⟨lw_p116, List.forall_mem_cons.mpr ⟨lw_p117, List.forall_mem_cons.mpr ⟨lw_p118, List.forall_mem_cons.mpr ⟨lw_p119, List.forall_mem_cons.mpr ⟨lw_p120, List.forall_mem_cons.mpr ⟨lw_p121, List.forall_mem_cons.mpr ⟨lw_p122, List.forall_mem_cons.mpr ⟨lw_p123, fun _ h => absurd h List.not_mem_nil⟩⟩⟩⟩⟩⟩⟩⟩⟩⟩⟩⟩
def lw_privs : List (MethodName × Nat) := lw_privs_1 ++ (lw_privs_2 ++ (lw_privs_3 ++ (lw_privs_4 ++ (lw_privs_5 ++ (lw_privs_6 ++ (lw_privs_7 ++ (lw_privs_8)))))))
def lw_tbl : List Cond := k2_sels lw_privs ++ tables_1
theorem lw_privs_ok : ∀ q ∈ lw_privs, lw_okq q := by
  show ∀ q ∈ lw_privs_1 ++ (lw_privs_2 ++ (lw_privs_3 ++ (lw_privs_4 ++ (lw_privs_5 ++ (lw_privs_6 ++ (lw_privs_7 ++ (lw_privs_8))))))), lw_okq q
  exact List.forall_mem_append.mpr ⟨lw_r1, List.forall_mem_append.mpr ⟨lw_r2, List.forall_mem_append.mpr ⟨lw_r3, List.forall_mem_append.mpr ⟨lw_r4, List.forall_mem_append.mpr ⟨lw_r5, List.forall_mem_append.mpr ⟨lw_r6, List.forall_mem_append.mpr ⟨lw_r7, lw_r8⟩⟩⟩⟩⟩⟩⟩
-- ===== end of PART A; then your names; then what follows =====
