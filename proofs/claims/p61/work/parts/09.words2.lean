theorem nc_X0 : RX0 ≠ "java/lang/invoke/MethodHandle" ∧ RX0 ≠ "java/lang/invoke/VarHandle" := by decide +kernel
theorem wi_X0 : Cond.initialized RX0 ∈ mTb := mTb_1 4 rfl rfl
theorem pd_0 : (parseMethodDescriptor "()V").map (fun d => d.parameters.length) = some 0 := by decide +kernel
theorem mo_X0_init : mMo mX0_init 0 := ⟨wi_X0, mTb_1 106 rfl rfl, nc_X0, pd_0⟩
theorem pd_1 : (parseMethodDescriptor "(LSlotSeries$Ask;)V").map (fun d => d.parameters.length) = some 1 := by decide +kernel
theorem mo_X0_copyFrom : mMo mX0_copyFrom 1 := ⟨wi_X0, mTb_3 126 rfl rfl, nc_X0, pd_1⟩
theorem pd_2 : (parseMethodDescriptor "(IIII)V").map (fun d => d.parameters.length) = some 4 := by decide +kernel
theorem mo_X0_placeAt : mMo mX0_placeAt 4 := ⟨wi_X0, mTb_3 110 rfl rfl, nc_X0, pd_2⟩
theorem pd_3 : (parseMethodDescriptor "(III)V").map (fun d => d.parameters.length) = some 3 := by decide +kernel
theorem mo_X0_span : mMo mX0_span 3 := ⟨wi_X0, mTb_3 114 rfl rfl, nc_X0, pd_3⟩
theorem pd_4 : (parseMethodDescriptor "()I").map (fun d => d.parameters.length) = some 0 := by decide +kernel
theorem mo_X0_wantedBits : mMo mX0_wantedBits 0 := ⟨wi_X0, mTb_4 179 rfl rfl, nc_X0, pd_4⟩
theorem nc_X1 : RX1 ≠ "java/lang/invoke/MethodHandle" ∧ RX1 ≠ "java/lang/invoke/VarHandle" := by decide +kernel
theorem wi_X1 : Cond.initialized RX1 ∈ mTb := mTb_1 5 rfl rfl
theorem mo_X1_init : mMo mX1_init 0 := ⟨wi_X1, mTb_1 217 rfl rfl, nc_X1, pd_0⟩
theorem pd_5 : (parseMethodDescriptor "(LSlotSeries$Names;)V").map (fun d => d.parameters.length) = some 1 := by decide +kernel
theorem mo_X1_copyFrom : mMo mX1_copyFrom 1 := ⟨wi_X1, mTb_3 132 rfl rfl, nc_X1, pd_5⟩
theorem pd_6 : (parseMethodDescriptor "(II)I").map (fun d => d.parameters.length) = some 2 := by decide +kernel
theorem mo_X1_letterOf : mMo mX1_letterOf 2 := ⟨wi_X1, mTb_3 153 rfl rfl, nc_X1, pd_6⟩
theorem pd_7 : (parseMethodDescriptor "([BII)I").map (fun d => d.parameters.length) = some 3 := by decide +kernel
theorem mo_X1_carrierNamed : mMo mX1_carrierNamed 3 := ⟨wi_X1, mTb_3 40 rfl rfl, nc_X1, pd_7⟩
theorem pd_8 : (parseMethodDescriptor "(I[BII)Z").map (fun d => d.parameters.length) = some 4 := by decide +kernel
theorem mo_X1_isNamed : mMo mX1_isNamed 4 := ⟨wi_X1, mTb_3 44 rfl rfl, nc_X1, pd_8⟩
theorem pd_9 : (parseMethodDescriptor "([BII)V").map (fun d => d.parameters.length) = some 3 := by decide +kernel
theorem mo_X1_add : mMo mX1_add 3 := ⟨wi_X1, mTb_3 48 rfl rfl, nc_X1, pd_9⟩
theorem nc_X2 : RX2 ≠ "java/lang/invoke/MethodHandle" ∧ RX2 ≠ "java/lang/invoke/VarHandle" := by decide +kernel
theorem wi_X2 : Cond.initialized RX2 ∈ mTb := mTb_1 7 rfl rfl
theorem mo_X2_init : mMo mX2_init 0 := ⟨wi_X2, mTb_2 64 rfl rfl, nc_X2, pd_0⟩
theorem pd_10 : (parseMethodDescriptor "(LSlotSeries$Season;)I").map (fun d => d.parameters.length) = some 1 := by decide +kernel
theorem mo_X2_firstOf : mMo mX2_firstOf 1 := ⟨wi_X2, mTb_4 206 rfl rfl, nc_X2, pd_10⟩
theorem pd_11 : (parseMethodDescriptor "(LSlotSeries$Season;I)V").map (fun d => d.parameters.length) = some 2 := by decide +kernel
theorem mo_X2_serve : mMo mX2_serve 2 := ⟨wi_X2, mTb_4 236 rfl rfl, nc_X2, pd_11⟩
theorem pd_12 : (parseMethodDescriptor "(LSlotSeries$Season;)V").map (fun d => d.parameters.length) = some 1 := by decide +kernel
theorem mo_X2_carryOver : mMo mX2_carryOver 1 := ⟨wi_X2, mTb_5 79 rfl rfl, nc_X2, pd_12⟩
theorem mo_X2_allAsks : mMo mX2_allAsks 0 := ⟨wi_X2, mTb_4 215 rfl rfl, nc_X2, pd_4⟩
theorem mo_X2_countSlots : mMo mX2_countSlots 0 := ⟨wi_X2, mTb_4 211 rfl rfl, nc_X2, pd_0⟩
theorem pd_13 : (parseMethodDescriptor "(LSlotSeries$Ask;)Z").map (fun d => d.parameters.length) = some 1 := by decide +kernel
theorem mo_X2_isEntrants : mMo mX2_isEntrants 1 := ⟨wi_X2, mTb_4 228 rfl rfl, nc_X2, pd_13⟩
theorem pd_14 : (parseMethodDescriptor "(IZ)I").map (fun d => d.parameters.length) = some 2 := by decide +kernel
theorem mo_X2_chosen : mMo mX2_chosen 2 := ⟨wi_X2, mTb_4 219 rfl rfl, nc_X2, pd_14⟩
theorem mo_X2_longestOf : mMo mX2_longestOf 2 := ⟨wi_X2, mTb_4 223 rfl rfl, nc_X2, pd_14⟩
theorem pd_15 : (parseMethodDescriptor "(I)V").map (fun d => d.parameters.length) = some 1 := by decide +kernel
theorem mo_X2_lookAt : mMo mX2_lookAt 1 := ⟨wi_X2, mTb_5 0 rfl rfl, nc_X2, pd_15⟩
theorem nc_X3 : RX3 ≠ "java/lang/invoke/MethodHandle" ∧ RX3 ≠ "java/lang/invoke/VarHandle" := by decide +kernel
theorem wi_X3 : Cond.initialized RX3 ∈ mTb := mTb_1 6 rfl rfl
theorem mo_X3_init : mMo mX3_init 0 := ⟨wi_X3, mTb_1 234 rfl rfl, nc_X3, pd_0⟩
theorem pd_16 : (parseMethodDescriptor "([BI)Z").map (fun d => d.parameters.length) = some 2 := by decide +kernel
theorem mo_X3_readText : mMo mX3_readText 2 := ⟨wi_X3, mTb_2 155 rfl rfl, nc_X3, pd_16⟩
theorem pd_17 : (parseMethodDescriptor "()Z").map (fun d => d.parameters.length) = some 0 := by decide +kernel
theorem mo_X3_readWeeks : mMo mX3_readWeeks 0 := ⟨wi_X3, mTb_2 230 rfl rfl, nc_X3, pd_17⟩
theorem mo_X3_readLine : mMo mX3_readLine 0 := ⟨wi_X3, mTb_3 21 rfl rfl, nc_X3, pd_17⟩
theorem mo_X3_readLimit : mMo mX3_readLimit 0 := ⟨wi_X3, mTb_3 25 rfl rfl, nc_X3, pd_17⟩
theorem mo_X3_readCarrier : mMo mX3_readCarrier 0 := ⟨wi_X3, mTb_3 32 rfl rfl, nc_X3, pd_17⟩
theorem mo_X3_readSeries : mMo mX3_readSeries 0 := ⟨wi_X3, mTb_3 53 rfl rfl, nc_X3, pd_17⟩
theorem mo_X3_readAsk : mMo mX3_readAsk 0 := ⟨wi_X3, mTb_3 102 rfl rfl, nc_X3, pd_17⟩
theorem mo_X3_readPlace : mMo mX3_readPlace 0 := ⟨wi_X3, mTb_3 57 rfl rfl, nc_X3, pd_17⟩
theorem mo_X3_readSpan : mMo mX3_readSpan 0 := ⟨wi_X3, mTb_3 61 rfl rfl, nc_X3, pd_17⟩
theorem pd_18 : (parseMethodDescriptor "(I)Z").map (fun d => d.parameters.length) = some 1 := by decide +kernel
theorem mo_X3_takeWord : mMo mX3_takeWord 1 := ⟨wi_X3, mTb_2 234 rfl rfl, nc_X3, pd_18⟩
theorem pd_19 : (parseMethodDescriptor "(C)Z").map (fun d => d.parameters.length) = some 1 := by decide +kernel
theorem mo_X3_takeSign : mMo mX3_takeSign 1 := ⟨wi_X3, mTb_3 13 rfl rfl, nc_X3, pd_19⟩
theorem pd_20 : (parseMethodDescriptor "(II)Z").map (fun d => d.parameters.length) = some 2 := by decide +kernel
theorem mo_X3_isNumber : mMo mX3_isNumber 2 := ⟨wi_X3, mTb_3 6 rfl rfl, nc_X3, pd_20⟩
theorem mo_X3_isSign : mMo mX3_isSign 1 := ⟨wi_X3, mTb_3 17 rfl rfl, nc_X3, pd_19⟩
theorem mo_X3_isWord : mMo mX3_isWord 1 := ⟨wi_X3, mTb_2 238 rfl rfl, nc_X3, pd_18⟩
theorem mo_X3_isName : mMo mX3_isName 0 := ⟨wi_X3, mTb_3 36 rfl rfl, nc_X3, pd_17⟩
theorem mo_X3_fail : mMo mX3_fail 1 := ⟨wi_X3, mTb_3 2 rfl rfl, nc_X3, pd_18⟩
theorem mo_X3_advance : mMo mX3_advance 0 := ⟨wi_X3, mTb_2 166 rfl rfl, nc_X3, pd_0⟩
theorem mo_X3_wordTold : mMo mX3_wordTold 0 := ⟨wi_X3, mTb_2 173 rfl rfl, nc_X3, pd_4⟩
theorem nc_X4 : RX4 ≠ "java/lang/invoke/MethodHandle" ∧ RX4 ≠ "java/lang/invoke/VarHandle" := by decide +kernel
theorem wi_X4 : Cond.initialized RX4 ∈ mTb := mTb_1 2 rfl rfl
theorem mo_X4_init : mMo mX4_init 0 := ⟨wi_X4, mTb_1 28 rfl rfl, nc_X4, pd_0⟩
theorem mo_X4_copyFrom : mMo mX4_copyFrom 1 := ⟨wi_X4, mTb_3 118 rfl rfl, nc_X4, pd_12⟩
theorem mo_X4_clear : mMo mX4_clear 0 := ⟨wi_X4, mTb_2 162 rfl rfl, nc_X4, pd_0⟩
theorem pd_21 : (parseMethodDescriptor "()LSlotSeries$Series;").map (fun d => d.parameters.length) = some 0 := by decide +kernel
theorem mo_X4_addSeries : mMo mX4_addSeries 0 := ⟨wi_X4, mTb_3 84 rfl rfl, nc_X4, pd_21⟩
theorem pd_22 : (parseMethodDescriptor "()LSlotSeries$Ask;").map (fun d => d.parameters.length) = some 0 := by decide +kernel
theorem mo_X4_addAsk : mMo mX4_addAsk 0 := ⟨wi_X4, mTb_3 106 rfl rfl, nc_X4, pd_22⟩
theorem mo_X4_removeAsk : mMo mX4_removeAsk 1 := ⟨wi_X4, mTb_5 83 rfl rfl, nc_X4, pd_15⟩
theorem mo_X4_isOver : mMo mX4_isOver 0 := ⟨wi_X4, mTb_4 145 rfl rfl, nc_X4, pd_17⟩
theorem mo_X4_weeksToCome : mMo mX4_weeksToCome 0 := ⟨wi_X4, mTb_4 155 rfl rfl, nc_X4, pd_4⟩
theorem pd_23 : (parseMethodDescriptor "(III)I").map (fun d => d.parameters.length) = some 3 := by decide +kernel
theorem mo_X4_loadOf : mMo mX4_loadOf 3 := ⟨wi_X4, mTb_3 232 rfl rfl, nc_X4, pd_23⟩
theorem mo_X4_loadIn : mMo mX4_loadIn 3 := ⟨wi_X4, mTb_4 5 rfl rfl, nc_X4, pd_23⟩
theorem pd_24 : (parseMethodDescriptor "(IIIZI)I").map (fun d => d.parameters.length) = some 5 := by decide +kernel
theorem mo_X4_weeksLoaded : mMo mX4_weeksLoaded 5 := ⟨wi_X4, mTb_3 75 rfl rfl, nc_X4, pd_24⟩
theorem pd_25 : (parseMethodDescriptor "(IIIII)Z").map (fun d => d.parameters.length) = some 5 := by decide +kernel
theorem mo_X4_hasPlace : mMo mX4_hasPlace 5 := ⟨wi_X4, mTb_3 68 rfl rfl, nc_X4, pd_25⟩
theorem pd_26 : (parseMethodDescriptor "(LSlotSeries$Ask;II)Z").map (fun d => d.parameters.length) = some 3 := by decide +kernel
theorem mo_X4_hasPlaceFor : mMo mX4_hasPlaceFor 3 := ⟨wi_X4, mTb_4 175 rfl rfl, nc_X4, pd_26⟩
theorem pd_27 : (parseMethodDescriptor "(LSlotSeries$Ask;)I").map (fun d => d.parameters.length) = some 1 := by decide +kernel
theorem mo_X4_hourFor : mMo mX4_hourFor 1 := ⟨wi_X4, mTb_4 189 rfl rfl, nc_X4, pd_27⟩
theorem pd_28 : (parseMethodDescriptor "(LSlotSeries$Ask;I)V").map (fun d => d.parameters.length) = some 2 := by decide +kernel
theorem mo_X4_grant : mMo mX4_grant 2 := ⟨wi_X4, mTb_5 5 rfl rfl, nc_X4, pd_28⟩
theorem pd_29 : (parseMethodDescriptor "(III)Z").map (fun d => d.parameters.length) = some 3 := by decide +kernel
theorem mo_X4_holdsMore : mMo mX4_holdsMore 3 := ⟨wi_X4, mTb_5 103 rfl rfl, nc_X4, pd_29⟩
theorem mo_X4_seriesOf : mMo mX4_seriesOf 2 := ⟨wi_X4, mTb_4 83 rfl rfl, nc_X4, pd_6⟩
theorem mo_X4_basisOf : mMo mX4_basisOf 2 := ⟨wi_X4, mTb_4 101 rfl rfl, nc_X4, pd_6⟩
theorem pd_30 : (parseMethodDescriptor "(I)I").map (fun d => d.parameters.length) = some 1 := by decide +kernel
theorem mo_X4_goodOf : mMo mX4_goodOf 1 := ⟨wi_X4, mTb_4 106 rfl rfl, nc_X4, pd_30⟩
theorem mo_X4_startAnew : mMo mX4_startAnew 0 := ⟨wi_X4, mTb_5 124 rfl rfl, nc_X4, pd_0⟩
theorem nc_X5 : RX5 ≠ "java/lang/invoke/MethodHandle" ∧ RX5 ≠ "java/lang/invoke/VarHandle" := by decide +kernel
theorem wi_X5 : Cond.initialized RX5 ∈ mTb := mTb_1 3 rfl rfl
theorem mo_X5_init : mMo mX5_init 0 := ⟨wi_X5, mTb_1 37 rfl rfl, nc_X5, pd_0⟩
theorem pd_31 : (parseMethodDescriptor "(LSlotSeries$Series;)V").map (fun d => d.parameters.length) = some 1 := by decide +kernel
theorem mo_X5_copyFrom : mMo mX5_copyFrom 1 := ⟨wi_X5, mTb_3 122 rfl rfl, nc_X5, pd_31⟩
theorem mo_X5_placeAt : mMo mX5_placeAt 4 := ⟨wi_X5, mTb_3 89 rfl rfl, nc_X5, pd_2⟩
theorem pd_32 : (parseMethodDescriptor "(II)V").map (fun d => d.parameters.length) = some 2 := by decide +kernel
theorem mo_X5_comeWith : mMo mX5_comeWith 2 := ⟨wi_X5, mTb_3 93 rfl rfl, nc_X5, pd_32⟩
theorem mo_X5_openIn : mMo mX5_openIn 1 := ⟨wi_X5, mTb_3 98 rfl rfl, nc_X5, pd_15⟩
theorem mo_X5_changeOver : mMo mX5_changeOver 1 := ⟨wi_X5, mTb_5 41 rfl rfl, nc_X5, pd_31⟩
theorem mo_X5_openBits : mMo mX5_openBits 0 := ⟨wi_X5, mTb_3 186 rfl rfl, nc_X5, pd_4⟩
theorem mo_X5_heldBits : mMo mX5_heldBits 0 := ⟨wi_X5, mTb_3 80 rfl rfl, nc_X5, pd_4⟩
theorem mo_X5_bitsThatAre : mMo mX5_bitsThatAre 1 := ⟨wi_X5, mTb_3 182 rfl rfl, nc_X5, pd_30⟩
theorem mo_X5_stateOf : mMo mX5_stateOf 1 := ⟨wi_X5, mTb_3 198 rfl rfl, nc_X5, pd_30⟩
theorem mo_X5_holds : mMo mX5_holds 1 := ⟨wi_X5, mTb_4 0 rfl rfl, nc_X5, pd_18⟩
theorem mo_X5_fills : mMo mX5_fills 3 := ⟨wi_X5, mTb_3 236 rfl rfl, nc_X5, pd_29⟩
theorem mo_X5_isOf : mMo mX5_isOf 2 := ⟨wi_X5, mTb_4 75 rfl rfl, nc_X5, pd_20⟩
theorem mo_X5_basis : mMo mX5_basis 0 := ⟨wi_X5, mTb_4 29 rfl rfl, nc_X5, pd_4⟩
theorem mo_X5_good : mMo mX5_good 0 := ⟨wi_X5, mTb_4 39 rfl rfl, nc_X5, pd_4⟩
theorem mo_X5_isKeptWith : mMo mX5_isKeptWith 1 := ⟨wi_X5, mTb_4 52 rfl rfl, nc_X5, pd_18⟩
theorem mo_X5_isSafe : mMo mX5_isSafe 0 := ⟨wi_X5, mTb_4 47 rfl rfl, nc_X5, pd_17⟩
theorem mo_X5_isLost : mMo mX5_isLost 0 := ⟨wi_X5, mTb_4 57 rfl rfl, nc_X5, pd_17⟩
theorem mo_X5_missesLeft : mMo mX5_missesLeft 0 := ⟨wi_X5, mTb_4 65 rfl rfl, nc_X5, pd_4⟩
theorem nc_X6 : RX6 ≠ "java/lang/invoke/MethodHandle" ∧ RX6 ≠ "java/lang/invoke/VarHandle" := by decide +kernel
theorem wi_X6 : Cond.initialized RX6 ∈ mTb := mTb_1 8 rfl rfl
theorem mo_X6_init : mMo mX6_init 0 := ⟨wi_X6, mTb_2 91 rfl rfl, nc_X6, pd_0⟩
theorem pd_33 : (parseMethodDescriptor "(LSlotSeries$Season;LSlotSeries$Names;)I").map (fun d => d.parameters.length) = some 2 := by decide +kernel
theorem mo_X6_write : mMo mX6_write 2 := ⟨wi_X6, mTb_5 138 rfl rfl, nc_X6, pd_33⟩
theorem mo_X6_putLimit : mMo mX6_putLimit 3 := ⟨wi_X6, mTb_5 163 rfl rfl, nc_X6, pd_3⟩
theorem pd_34 : (parseMethodDescriptor "(LSlotSeries$Series;LSlotSeries$Names;)V").map (fun d => d.parameters.length) = some 2 := by decide +kernel
theorem mo_X6_putSeries : mMo mX6_putSeries 2 := ⟨wi_X6, mTb_5 175 rfl rfl, nc_X6, pd_34⟩
theorem pd_35 : (parseMethodDescriptor "(LSlotSeries$Ask;LSlotSeries$Names;)V").map (fun d => d.parameters.length) = some 2 := by decide +kernel
theorem mo_X6_putAsk : mMo mX6_putAsk 2 := ⟨wi_X6, mTb_5 191 rfl rfl, nc_X6, pd_35⟩
theorem mo_X6_putPlace : mMo mX6_putPlace 3 := ⟨wi_X6, mTb_5 180 rfl rfl, nc_X6, pd_3⟩
theorem mo_X6_putSpan : mMo mX6_putSpan 2 := ⟨wi_X6, mTb_5 186 rfl rfl, nc_X6, pd_32⟩
theorem pd_36 : (parseMethodDescriptor "(LSlotSeries$Names;I)V").map (fun d => d.parameters.length) = some 2 := by decide +kernel
theorem mo_X6_putName : mMo mX6_putName 2 := ⟨wi_X6, mTb_5 170 rfl rfl, nc_X6, pd_36⟩
theorem pd_37 : (parseMethodDescriptor "(Ljava/lang/String;)V").map (fun d => d.parameters.length) = some 1 := by decide +kernel
theorem mo_X6_putWord : mMo mX6_putWord 1 := ⟨wi_X6, mTb_5 143 rfl rfl, nc_X6, pd_37⟩
theorem mo_X6_putNumber : mMo mX6_putNumber 1 := ⟨wi_X6, mTb_5 159 rfl rfl, nc_X6, pd_15⟩
theorem mo_X6_putBlank : mMo mX6_putBlank 0 := ⟨wi_X6, mTb_5 147 rfl rfl, nc_X6, pd_0⟩
theorem pd_38 : (parseMethodDescriptor "(C)V").map (fun d => d.parameters.length) = some 1 := by decide +kernel
theorem mo_X6_putSign : mMo mX6_putSign 1 := ⟨wi_X6, mTb_5 153 rfl rfl, nc_X6, pd_38⟩
theorem nc_X7 : RX7 ≠ "java/lang/invoke/MethodHandle" ∧ RX7 ≠ "java/lang/invoke/VarHandle" := by decide +kernel
theorem wi_X7 : Cond.initialized RX7 ∈ mTb := mTb_1 1 rfl rfl
theorem mo_X7_init : mMo mX7_init 0 := ⟨wi_X7, mTb_1 20 rfl rfl, nc_X7, pd_0⟩
theorem pd_39 : (parseMethodDescriptor "(IIIII)I").map (fun d => d.parameters.length) = some 5 := by decide +kernel
theorem mo_X7_feed : mMo mX7_feed 5 := ⟨wi_X7, mTb_2 139 rfl rfl, nc_X7, pd_39⟩
theorem mo_X7_end : mMo mX7_end 1 := ⟨wi_X7, mTb_2 147 rfl rfl, nc_X7, pd_30⟩
theorem mo_X7_text : mMo mX7_text 0 := ⟨wi_X7, mTb_2 151 rfl rfl, nc_X7, pd_4⟩
theorem mo_X7_fault : mMo mX7_fault 1 := ⟨wi_X7, mTb_3 136 rfl rfl, nc_X7, pd_30⟩
theorem mo_X7_count : mMo mX7_count 1 := ⟨wi_X7, mTb_3 140 rfl rfl, nc_X7, pd_30⟩
theorem mo_X7_letter : mMo mX7_letter 2 := ⟨wi_X7, mTb_3 144 rfl rfl, nc_X7, pd_6⟩
theorem mo_X7_find : mMo mX7_find 0 := ⟨wi_X7, mTb_3 157 rfl rfl, nc_X7, pd_4⟩
theorem mo_X7_series : mMo mX7_series 2 := ⟨wi_X7, mTb_3 167 rfl rfl, nc_X7, pd_6⟩
theorem mo_X7_weeks : mMo mX7_weeks 2 := ⟨wi_X7, mTb_3 175 rfl rfl, nc_X7, pd_6⟩
theorem mo_X7_week : mMo mX7_week 2 := ⟨wi_X7, mTb_3 190 rfl rfl, nc_X7, pd_6⟩
theorem mo_X7_asked : mMo mX7_asked 2 := ⟨wi_X7, mTb_3 204 rfl rfl, nc_X7, pd_6⟩
theorem mo_X7_limitOf : mMo mX7_limitOf 2 := ⟨wi_X7, mTb_3 212 rfl rfl, nc_X7, pd_6⟩
theorem pd_40 : (parseMethodDescriptor "(IIII)I").map (fun d => d.parameters.length) = some 4 := by decide +kernel
theorem mo_X7_load : mMo mX7_load 4 := ⟨wi_X7, mTb_3 220 rfl rfl, nc_X7, pd_40⟩
theorem mo_X7_at : mMo mX7_at 4 := ⟨wi_X7, mTb_4 9 rfl rfl, nc_X7, pd_40⟩
theorem mo_X7_room : mMo mX7_room 4 := ⟨wi_X7, mTb_4 14 rfl rfl, nc_X7, pd_40⟩
theorem mo_X7_use : mMo mX7_use 2 := ⟨wi_X7, mTb_4 25 rfl rfl, nc_X7, pd_6⟩
theorem mo_X7_stands : mMo mX7_stands 1 := ⟨wi_X7, mTb_4 43 rfl rfl, nc_X7, pd_30⟩
theorem mo_X7_spare : mMo mX7_spare 1 := ⟨wi_X7, mTb_4 61 rfl rfl, nc_X7, pd_30⟩
theorem mo_X7_of : mMo mX7_of 2 := ⟨wi_X7, mTb_4 71 rfl rfl, nc_X7, pd_6⟩
theorem mo_X7_entrant : mMo mX7_entrant 2 := ⟨wi_X7, mTb_4 79 rfl rfl, nc_X7, pd_6⟩
theorem mo_X7_sum : mMo mX7_sum 2 := ⟨wi_X7, mTb_4 88 rfl rfl, nc_X7, pd_6⟩
theorem mo_X7_best : mMo mX7_best 1 := ⟨wi_X7, mTb_4 93 rfl rfl, nc_X7, pd_30⟩
theorem mo_X7_most : mMo mX7_most 2 := ⟨wi_X7, mTb_4 111 rfl rfl, nc_X7, pd_6⟩
theorem mo_X7_rate : mMo mX7_rate 1 := ⟨wi_X7, mTb_4 115 rfl rfl, nc_X7, pd_30⟩
theorem mo_X7_longest : mMo mX7_longest 1 := ⟨wi_X7, mTb_4 119 rfl rfl, nc_X7, pd_30⟩
theorem mo_X7_kept : mMo mX7_kept 1 := ⟨wi_X7, mTb_4 124 rfl rfl, nc_X7, pd_30⟩
theorem mo_X7_common : mMo mX7_common 2 := ⟨wi_X7, mTb_4 128 rfl rfl, nc_X7, pd_6⟩
theorem mo_X7_pairs : mMo mX7_pairs 3 := ⟨wi_X7, mTb_4 133 rfl rfl, nc_X7, pd_23⟩
theorem mo_X7_peak : mMo mX7_peak 1 := ⟨wi_X7, mTb_4 141 rfl rfl, nc_X7, pd_30⟩
theorem mo_X7_full : mMo mX7_full 1 := ⟨wi_X7, mTb_4 150 rfl rfl, nc_X7, pd_30⟩
theorem mo_X7_idle : mMo mX7_idle 1 := ⟨wi_X7, mTb_4 161 rfl rfl, nc_X7, pd_30⟩
theorem mo_X7_fitting : mMo mX7_fitting 4 := ⟨wi_X7, mTb_4 165 rfl rfl, nc_X7, pd_40⟩
theorem mo_X7_fits : mMo mX7_fits 1 := ⟨wi_X7, mTb_4 171 rfl rfl, nc_X7, pd_30⟩
theorem mo_X7_where : mMo mX7_where 1 := ⟨wi_X7, mTb_4 185 rfl rfl, nc_X7, pd_30⟩
theorem mo_X7_blocked : mMo mX7_blocked 1 := ⟨wi_X7, mTb_4 193 rfl rfl, nc_X7, pd_30⟩
theorem mo_X7_clash : mMo mX7_clash 2 := ⟨wi_X7, mTb_4 197 rfl rfl, nc_X7, pd_6⟩
theorem mo_X7_first : mMo mX7_first 0 := ⟨wi_X7, mTb_4 202 rfl rfl, nc_X7, pd_4⟩
theorem mo_X7_would : mMo mX7_would 0 := ⟨wi_X7, mTb_4 232 rfl rfl, nc_X7, pd_4⟩
theorem mo_X7_helps : mMo mX7_helps 1 := ⟨wi_X7, mTb_5 13 rfl rfl, nc_X7, pd_30⟩
theorem mo_X7_turn : mMo mX7_turn 1 := ⟨wi_X7, mTb_5 17 rfl rfl, nc_X7, pd_30⟩
theorem mo_X7_granted : mMo mX7_granted 1 := ⟨wi_X7, mTb_5 21 rfl rfl, nc_X7, pd_30⟩
theorem mo_X7_movable : mMo mX7_movable 1 := ⟨wi_X7, mTb_5 25 rfl rfl, nc_X7, pd_30⟩
theorem mo_X7_partners : mMo mX7_partners 1 := ⟨wi_X7, mTb_5 33 rfl rfl, nc_X7, pd_30⟩
theorem mo_X7_miss : mMo mX7_miss 2 := ⟨wi_X7, mTb_5 45 rfl rfl, nc_X7, pd_6⟩
theorem mo_X7_excuse : mMo mX7_excuse 2 := ⟨wi_X7, mTb_5 53 rfl rfl, nc_X7, pd_6⟩
theorem mo_X7_fly : mMo mX7_fly 2 := ⟨wi_X7, mTb_5 57 rfl rfl, nc_X7, pd_6⟩
theorem mo_X7_back : mMo mX7_back 2 := ⟨wi_X7, mTb_5 61 rfl rfl, nc_X7, pd_6⟩
theorem mo_X7_gives : mMo mX7_gives 2 := ⟨wi_X7, mTb_5 67 rfl rfl, nc_X7, pd_6⟩
theorem mo_X7_tick : mMo mX7_tick 0 := ⟨wi_X7, mTb_5 71 rfl rfl, nc_X7, pd_4⟩
theorem mo_X7_pool : mMo mX7_pool 0 := ⟨wi_X7, mTb_5 75 rfl rfl, nc_X7, pd_4⟩
theorem mo_X7_retime : mMo mX7_retime 2 := ⟨wi_X7, mTb_5 87 rfl rfl, nc_X7, pd_6⟩
theorem mo_X7_swap : mMo mX7_swap 2 := ⟨wi_X7, mTb_5 91 rfl rfl, nc_X7, pd_6⟩
theorem mo_X7_hand : mMo mX7_hand 2 := ⟨wi_X7, mTb_5 95 rfl rfl, nc_X7, pd_6⟩
theorem mo_X7_limit : mMo mX7_limit 3 := ⟨wi_X7, mTb_5 99 rfl rfl, nc_X7, pd_23⟩
theorem mo_X7_ask : mMo mX7_ask 5 := ⟨wi_X7, mTb_5 108 rfl rfl, nc_X7, pd_39⟩
theorem mo_X7_drop : mMo mX7_drop 1 := ⟨wi_X7, mTb_5 115 rfl rfl, nc_X7, pd_30⟩
theorem mo_X7_ends : mMo mX7_ends 0 := ⟨wi_X7, mTb_5 120 rfl rfl, nc_X7, pd_4⟩
theorem mo_X7_undo : mMo mX7_undo 0 := ⟨wi_X7, mTb_5 130 rfl rfl, nc_X7, pd_4⟩
theorem mo_X7_tell : mMo mX7_tell 0 := ⟨wi_X7, mTb_5 134 rfl rfl, nc_X7, pd_4⟩
theorem mo_X7_octet : mMo mX7_octet 1 := ⟨wi_X7, mTb_5 197 rfl rfl, nc_X7, pd_30⟩
theorem mo_X7_putOnTape : mMo mX7_putOnTape 1 := ⟨wi_X7, mTb_2 143 rfl rfl, nc_X7, pd_15⟩
theorem mo_X7_hasText : mMo mX7_hasText 0 := ⟨wi_X7, mTb_3 161 rfl rfl, nc_X7, pd_17⟩
theorem mo_X7_isSeries : mMo mX7_isSeries 1 := ⟨wi_X7, mTb_3 171 rfl rfl, nc_X7, pd_18⟩
theorem mo_X7_isAsk : mMo mX7_isAsk 1 := ⟨wi_X7, mTb_3 208 rfl rfl, nc_X7, pd_18⟩
theorem mo_X7_isCarrier : mMo mX7_isCarrier 1 := ⟨wi_X7, mTb_3 148 rfl rfl, nc_X7, pd_18⟩
theorem mo_X7_isWeek : mMo mX7_isWeek 1 := ⟨wi_X7, mTb_3 194 rfl rfl, nc_X7, pd_18⟩
theorem mo_X7_isDay : mMo mX7_isDay 1 := ⟨wi_X7, mTb_3 228 rfl rfl, nc_X7, pd_18⟩
theorem mo_X7_isHour : mMo mX7_isHour 1 := ⟨wi_X7, mTb_3 216 rfl rfl, nc_X7, pd_18⟩
theorem mo_X7_isCell : mMo mX7_isCell 3 := ⟨wi_X7, mTb_3 224 rfl rfl, nc_X7, pd_29⟩
theorem mo_X7_remember : mMo mX7_remember 0 := ⟨wi_X7, mTb_5 49 rfl rfl, nc_X7, pd_0⟩
theorem mo_X7_usesMore : mMo mX7_usesMore 2 := ⟨wi_X7, mTb_4 97 rfl rfl, nc_X7, pd_20⟩
theorem pd_41 : (parseMethodDescriptor "(LSlotSeries$Series;I)I").map (fun d => d.parameters.length) = some 2 := by decide +kernel
theorem mo_X7_departuresBehind : mMo mX7_departuresBehind 2 := ⟨wi_X7, mTb_4 137 rfl rfl, nc_X7, pd_41⟩
theorem mo_X7_canRetime : mMo mX7_canRetime 2 := ⟨wi_X7, mTb_5 29 rfl rfl, nc_X7, pd_20⟩
theorem mo_X7_whySwapFails : mMo mX7_whySwapFails 2 := ⟨wi_X7, mTb_5 37 rfl rfl, nc_X7, pd_6⟩
theorem mo_X7_isWithin : mMo mX7_isWithin 3 := ⟨wi_X7, mTb_3 9 rfl rfl, nc_X7, pd_29⟩
theorem mo_X7_isWay : mMo mX7_isWay 1 := ⟨wi_X7, mTb_4 17 rfl rfl, nc_X7, pd_18⟩
theorem mo_X7_isState : mMo mX7_isState 1 := ⟨wi_X7, mTb_3 178 rfl rfl, nc_X7, pd_18⟩
theorem mo_X7_isLetter : mMo mX7_isLetter 1 := ⟨wi_X7, mTb_2 169 rfl rfl, nc_X7, pd_18⟩
theorem mo_X7_isDigit : mMo mX7_isDigit 1 := ⟨wi_X7, mTb_2 225 rfl rfl, nc_X7, pd_18⟩
theorem mo_X7_hasBit : mMo mX7_hasBit 2 := ⟨wi_X7, mTb_3 28 rfl rfl, nc_X7, pd_20⟩
theorem mo_X7_spanBits : mMo mX7_spanBits 2 := ⟨wi_X7, mTb_3 64 rfl rfl, nc_X7, pd_6⟩
theorem mo_X7_bitsFrom : mMo mX7_bitsFrom 1 := ⟨wi_X7, mTb_3 71 rfl rfl, nc_X7, pd_30⟩
theorem nc_X8 : RX8 ≠ "java/lang/invoke/MethodHandle" ∧ RX8 ≠ "java/lang/invoke/VarHandle" := by decide +kernel
theorem wi_X8 : Cond.initialized RX8 ∈ mTb := mTb_1 9 rfl rfl
theorem mo_X8_init : mMo mX8_init 0 := ⟨wi_X8, mTb_5 202 rfl rfl, nc_X8, pd_0⟩
theorem pd_42 : (parseMethodDescriptor "(JJJ)Z").map (fun d => d.parameters.length) = some 3 := by decide +kernel
theorem mo_X8_in : mMo mX8_in 3 := ⟨wi_X8, mTb_6 47 rfl rfl, nc_X8, pd_42⟩
theorem mo_X8_has : mMo mX8_has 2 := ⟨wi_X8, mTb_6 116 rfl rfl, nc_X8, pd_20⟩
theorem mo_X8_bits : mMo mX8_bits 1 := ⟨wi_X8, mTb_7 67 rfl rfl, nc_X8, pd_30⟩
theorem mo_X8_isThere : mMo mX8_isThere 0 := ⟨wi_X8, mTb_6 232 rfl rfl, nc_X8, pd_17⟩
theorem mo_X8_one : mMo mX8_one 2 := ⟨wi_X8, mTb_6 184 rfl rfl, nc_X8, pd_6⟩
theorem mo_X8_lays : mMo mX8_lays 3 := ⟨wi_X8, mTb_6 196 rfl rfl, nc_X8, pd_3⟩
theorem mo_X8_ask0 : mMo mX8_ask0 2 := ⟨wi_X8, mTb_7 30 rfl rfl, nc_X8, pd_6⟩
theorem mo_X8_isSeries : mMo mX8_isSeries 1 := ⟨wi_X8, mTb_7 1 rfl rfl, nc_X8, pd_18⟩
theorem mo_X8_isAsk : mMo mX8_isAsk 1 := ⟨wi_X8, mTb_7 26 rfl rfl, nc_X8, pd_18⟩
theorem mo_X8_isCarrier : mMo mX8_isCarrier 1 := ⟨wi_X8, mTb_6 220 rfl rfl, nc_X8, pd_18⟩
theorem mo_X8_isWeek : mMo mX8_isWeek 1 := ⟨wi_X8, mTb_7 14 rfl rfl, nc_X8, pd_18⟩
theorem mo_X8_isDay : mMo mX8_isDay 1 := ⟨wi_X8, mTb_7 50 rfl rfl, nc_X8, pd_18⟩
theorem mo_X8_isHour : mMo mX8_isHour 1 := ⟨wi_X8, mTb_7 38 rfl rfl, nc_X8, pd_18⟩
theorem mo_X8_isPlace : mMo mX8_isPlace 3 := ⟨wi_X8, mTb_7 46 rfl rfl, nc_X8, pd_29⟩
theorem mo_X8_basisOf : mMo mX8_basisOf 1 := ⟨wi_X8, mTb_6 188 rfl rfl, nc_X8, pd_30⟩
theorem mo_X8_loadBut : mMo mX8_loadBut 5 := ⟨wi_X8, mTb_6 180 rfl rfl, nc_X8, pd_39⟩
theorem mo_X8_span : mMo mX8_span 2 := ⟨wi_X8, mTb_6 168 rfl rfl, nc_X8, pd_6⟩
theorem mo_X8_fromNow : mMo mX8_fromNow 0 := ⟨wi_X8, mTb_6 176 rfl rfl, nc_X8, pd_4⟩
theorem mo_X8_canBe : mMo mX8_canBe 5 := ⟨wi_X8, mTb_6 172 rfl rfl, nc_X8, pd_25⟩
theorem mo_X8_canBeAt : mMo mX8_canBeAt 2 := ⟨wi_X8, mTb_8 8 rfl rfl, nc_X8, pd_20⟩
theorem mo_X8_puts4 : mMo mX8_puts4 1 := ⟨wi_X8, mTb_6 40 rfl rfl, nc_X8, pd_15⟩
theorem mo_X8_feed : mMo mX8_feed 5 := ⟨wi_X8, mTb_6 36 rfl rfl, nc_X8, pd_39⟩
theorem mo_X8_end : mMo mX8_end 1 := ⟨wi_X8, mTb_6 44 rfl rfl, nc_X8, pd_30⟩
theorem mo_X8_good : mMo mX8_good 0 := ⟨wi_X8, mTb_6 85 rfl rfl, nc_X8, pd_17⟩
theorem mo_X8_errs : mMo mX8_errs 2 := ⟨wi_X8, mTb_6 91 rfl rfl, nc_X8, pd_32⟩
theorem mo_X8_see : mMo mX8_see 1 := ⟨wi_X8, mTb_6 63 rfl rfl, nc_X8, pd_30⟩
theorem mo_X8_advance : mMo mX8_advance 0 := ⟨wi_X8, mTb_6 59 rfl rfl, nc_X8, pd_0⟩
theorem pd_43 : (parseMethodDescriptor "(Ljava/lang/String;)Z").map (fun d => d.parameters.length) = some 1 := by decide +kernel
theorem mo_X8_isWord : mMo mX8_isWord 1 := ⟨wi_X8, mTb_6 81 rfl rfl, nc_X8, pd_43⟩
theorem mo_X8_eats : mMo mX8_eats 1 := ⟨wi_X8, mTb_6 77 rfl rfl, nc_X8, pd_43⟩
theorem mo_X8_passes : mMo mX8_passes 1 := ⟨wi_X8, mTb_6 73 rfl rfl, nc_X8, pd_37⟩
theorem mo_X8_isByte : mMo mX8_isByte 1 := ⟨wi_X8, mTb_6 103 rfl rfl, nc_X8, pd_18⟩
theorem mo_X8_passesByte : mMo mX8_passesByte 1 := ⟨wi_X8, mTb_6 99 rfl rfl, nc_X8, pd_15⟩
theorem mo_X8_number : mMo mX8_number 2 := ⟨wi_X8, mTb_6 95 rfl rfl, nc_X8, pd_6⟩
theorem pd_44 : (parseMethodDescriptor "(I)Ljava/lang/String;").map (fun d => d.parameters.length) = some 1 := by decide +kernel
theorem mo_X8_dayOf : mMo mX8_dayOf 1 := ⟨wi_X8, mTb_6 137 rfl rfl, nc_X8, pd_44⟩
theorem mo_X8_dayHere : mMo mX8_dayHere 0 := ⟨wi_X8, mTb_6 134 rfl rfl, nc_X8, pd_4⟩
theorem mo_X8_isOwn : mMo mX8_isOwn 0 := ⟨wi_X8, mTb_6 130 rfl rfl, nc_X8, pd_17⟩
theorem mo_X8_packed : mMo mX8_packed 2 := ⟨wi_X8, mTb_6 153 rfl rfl, nc_X8, pd_6⟩
theorem mo_X8_nameHere : mMo mX8_nameHere 0 := ⟨wi_X8, mTb_6 126 rfl rfl, nc_X8, pd_4⟩
theorem mo_X8_findName : mMo mX8_findName 1 := ⟨wi_X8, mTb_6 157 rfl rfl, nc_X8, pd_30⟩
theorem mo_X8_readLimit : mMo mX8_readLimit 0 := ⟨wi_X8, mTb_6 112 rfl rfl, nc_X8, pd_0⟩
theorem mo_X8_readCarrier : mMo mX8_readCarrier 0 := ⟨wi_X8, mTb_6 122 rfl rfl, nc_X8, pd_0⟩
theorem mo_X8_readCommon : mMo mX8_readCommon 0 := ⟨wi_X8, mTb_6 165 rfl rfl, nc_X8, pd_0⟩
theorem pd_45 : (parseMethodDescriptor "(IIIZ)V").map (fun d => d.parameters.length) = some 4 := by decide +kernel
theorem mo_X8_addsSeries : mMo mX8_addsSeries 4 := ⟨wi_X8, mTb_6 192 rfl rfl, nc_X8, pd_45⟩
theorem mo_X8_readSeries : mMo mX8_readSeries 0 := ⟨wi_X8, mTb_6 161 rfl rfl, nc_X8, pd_0⟩
theorem mo_X8_addsAsk : mMo mX8_addsAsk 0 := ⟨wi_X8, mTb_6 204 rfl rfl, nc_X8, pd_0⟩
theorem mo_X8_readAsk : mMo mX8_readAsk 0 := ⟨wi_X8, mTb_6 200 rfl rfl, nc_X8, pd_0⟩
theorem mo_X8_readLine : mMo mX8_readLine 0 := ⟨wi_X8, mTb_6 107 rfl rfl, nc_X8, pd_0⟩
theorem mo_X8_readAll : mMo mX8_readAll 0 := ⟨wi_X8, mTb_6 55 rfl rfl, nc_X8, pd_4⟩
theorem mo_X8_text : mMo mX8_text 0 := ⟨wi_X8, mTb_6 51 rfl rfl, nc_X8, pd_4⟩
theorem mo_X8_fault : mMo mX8_fault 1 := ⟨wi_X8, mTb_6 208 rfl rfl, nc_X8, pd_30⟩
theorem mo_X8_count : mMo mX8_count 1 := ⟨wi_X8, mTb_6 212 rfl rfl, nc_X8, pd_30⟩
theorem mo_X8_letterOf : mMo mX8_letterOf 2 := ⟨wi_X8, mTb_6 224 rfl rfl, nc_X8, pd_6⟩
theorem mo_X8_letter : mMo mX8_letter 2 := ⟨wi_X8, mTb_6 216 rfl rfl, nc_X8, pd_6⟩
theorem mo_X8_find : mMo mX8_find 0 := ⟨wi_X8, mTb_6 228 rfl rfl, nc_X8, pd_4⟩
theorem mo_X8_series : mMo mX8_series 2 := ⟨wi_X8, mTb_6 237 rfl rfl, nc_X8, pd_6⟩
theorem mo_X8_weeks : mMo mX8_weeks 2 := ⟨wi_X8, mTb_7 5 rfl rfl, nc_X8, pd_6⟩
theorem mo_X8_stateOf : mMo mX8_stateOf 2 := ⟨wi_X8, mTb_7 18 rfl rfl, nc_X8, pd_6⟩
theorem mo_X8_week : mMo mX8_week 2 := ⟨wi_X8, mTb_7 10 rfl rfl, nc_X8, pd_6⟩
theorem mo_X8_asked : mMo mX8_asked 2 := ⟨wi_X8, mTb_7 22 rfl rfl, nc_X8, pd_6⟩
theorem mo_X8_limitOf : mMo mX8_limitOf 2 := ⟨wi_X8, mTb_7 34 rfl rfl, nc_X8, pd_6⟩
theorem mo_X8_load : mMo mX8_load 4 := ⟨wi_X8, mTb_7 42 rfl rfl, nc_X8, pd_40⟩
theorem mo_X8_at : mMo mX8_at 4 := ⟨wi_X8, mTb_7 55 rfl rfl, nc_X8, pd_40⟩
theorem mo_X8_room : mMo mX8_room 4 := ⟨wi_X8, mTb_7 59 rfl rfl, nc_X8, pd_40⟩
theorem mo_X8_goodOf : mMo mX8_goodOf 1 := ⟨wi_X8, mTb_7 71 rfl rfl, nc_X8, pd_30⟩
theorem mo_X8_use : mMo mX8_use 2 := ⟨wi_X8, mTb_7 64 rfl rfl, nc_X8, pd_6⟩
theorem mo_X8_isKept : mMo mX8_isKept 2 := ⟨wi_X8, mTb_7 83 rfl rfl, nc_X8, pd_20⟩
theorem mo_X8_standsOf : mMo mX8_standsOf 1 := ⟨wi_X8, mTb_7 79 rfl rfl, nc_X8, pd_30⟩
theorem mo_X8_stands : mMo mX8_stands 1 := ⟨wi_X8, mTb_7 75 rfl rfl, nc_X8, pd_30⟩
theorem mo_X8_spareOf : mMo mX8_spareOf 1 := ⟨wi_X8, mTb_7 91 rfl rfl, nc_X8, pd_30⟩
theorem mo_X8_spare : mMo mX8_spare 1 := ⟨wi_X8, mTb_7 87 rfl rfl, nc_X8, pd_30⟩
theorem mo_X8_rate : mMo mX8_rate 1 := ⟨wi_X8, mTb_7 95 rfl rfl, nc_X8, pd_30⟩
theorem mo_X8_longest : mMo mX8_longest 1 := ⟨wi_X8, mTb_7 99 rfl rfl, nc_X8, pd_30⟩
theorem mo_X8_of : mMo mX8_of 2 := ⟨wi_X8, mTb_7 103 rfl rfl, nc_X8, pd_6⟩
theorem mo_X8_isEntrant : mMo mX8_isEntrant 2 := ⟨wi_X8, mTb_7 112 rfl rfl, nc_X8, pd_20⟩
theorem mo_X8_entrant : mMo mX8_entrant 2 := ⟨wi_X8, mTb_7 108 rfl rfl, nc_X8, pd_6⟩
theorem mo_X8_sum : mMo mX8_sum 2 := ⟨wi_X8, mTb_7 116 rfl rfl, nc_X8, pd_6⟩
theorem mo_X8_allOf : mMo mX8_allOf 2 := ⟨wi_X8, mTb_7 128 rfl rfl, nc_X8, pd_14⟩
theorem mo_X8_isBetter : mMo mX8_isBetter 2 := ⟨wi_X8, mTb_7 124 rfl rfl, nc_X8, pd_20⟩
theorem mo_X8_best : mMo mX8_best 1 := ⟨wi_X8, mTb_7 120 rfl rfl, nc_X8, pd_30⟩
theorem mo_X8_basisOn : mMo mX8_basisOn 2 := ⟨wi_X8, mTb_7 136 rfl rfl, nc_X8, pd_6⟩
theorem mo_X8_most : mMo mX8_most 2 := ⟨wi_X8, mTb_7 132 rfl rfl, nc_X8, pd_6⟩
theorem mo_X8_peak : mMo mX8_peak 1 := ⟨wi_X8, mTb_7 140 rfl rfl, nc_X8, pd_30⟩
theorem mo_X8_full : mMo mX8_full 1 := ⟨wi_X8, mTb_7 144 rfl rfl, nc_X8, pd_30⟩
theorem mo_X8_idle : mMo mX8_idle 1 := ⟨wi_X8, mTb_7 148 rfl rfl, nc_X8, pd_30⟩
theorem mo_X8_fitting : mMo mX8_fitting 4 := ⟨wi_X8, mTb_7 152 rfl rfl, nc_X8, pd_40⟩
theorem mo_X8_weeksOf : mMo mX8_weeksOf 1 := ⟨wi_X8, mTb_7 160 rfl rfl, nc_X8, pd_30⟩
theorem mo_X8_canAsk : mMo mX8_canAsk 3 := ⟨wi_X8, mTb_7 164 rfl rfl, nc_X8, pd_29⟩
theorem mo_X8_fits : mMo mX8_fits 1 := ⟨wi_X8, mTb_7 156 rfl rfl, nc_X8, pd_30⟩
theorem mo_X8_hourFor : mMo mX8_hourFor 1 := ⟨wi_X8, mTb_7 172 rfl rfl, nc_X8, pd_30⟩
theorem mo_X8_where : mMo mX8_where 1 := ⟨wi_X8, mTb_7 168 rfl rfl, nc_X8, pd_30⟩
theorem mo_X8_blocked : mMo mX8_blocked 1 := ⟨wi_X8, mTb_7 176 rfl rfl, nc_X8, pd_30⟩
theorem mo_X8_clash : mMo mX8_clash 2 := ⟨wi_X8, mTb_7 180 rfl rfl, nc_X8, pd_6⟩
theorem mo_X8_common : mMo mX8_common 2 := ⟨wi_X8, mTb_7 184 rfl rfl, nc_X8, pd_6⟩
theorem mo_X8_pairs : mMo mX8_pairs 3 := ⟨wi_X8, mTb_7 188 rfl rfl, nc_X8, pd_23⟩
theorem mo_X8_kept : mMo mX8_kept 1 := ⟨wi_X8, mTb_7 192 rfl rfl, nc_X8, pd_30⟩
theorem pd_46 : (parseMethodDescriptor "(Z)I").map (fun d => d.parameters.length) = some 1 := by decide +kernel
theorem mo_X8_chosen : mMo mX8_chosen 1 := ⟨wi_X8, mTb_7 204 rfl rfl, nc_X8, pd_46⟩
theorem mo_X8_begins : mMo mX8_begins 0 := ⟨wi_X8, mTb_7 200 rfl rfl, nc_X8, pd_0⟩
theorem mo_X8_grants : mMo mX8_grants 2 := ⟨wi_X8, mTb_7 224 rfl rfl, nc_X8, pd_32⟩
theorem mo_X8_plays : mMo mX8_plays 0 := ⟨wi_X8, mTb_7 220 rfl rfl, nc_X8, pd_4⟩
theorem mo_X8_copies : mMo mX8_copies 0 := ⟨wi_X8, mTb_7 216 rfl rfl, nc_X8, pd_0⟩
theorem mo_X8_playsAside : mMo mX8_playsAside 1 := ⟨wi_X8, mTb_7 212 rfl rfl, nc_X8, pd_30⟩
theorem mo_X8_first : mMo mX8_first 0 := ⟨wi_X8, mTb_7 196 rfl rfl, nc_X8, pd_4⟩
theorem mo_X8_would : mMo mX8_would 0 := ⟨wi_X8, mTb_7 208 rfl rfl, nc_X8, pd_4⟩
theorem mo_X8_helps : mMo mX8_helps 1 := ⟨wi_X8, mTb_7 228 rfl rfl, nc_X8, pd_30⟩
theorem mo_X8_turn : mMo mX8_turn 1 := ⟨wi_X8, mTb_7 232 rfl rfl, nc_X8, pd_30⟩
theorem mo_X8_granted : mMo mX8_granted 1 := ⟨wi_X8, mTb_7 236 rfl rfl, nc_X8, pd_30⟩
theorem mo_X8_movable : mMo mX8_movable 1 := ⟨wi_X8, mTb_8 0 rfl rfl, nc_X8, pd_30⟩
theorem mo_X8_canRetime : mMo mX8_canRetime 2 := ⟨wi_X8, mTb_8 4 rfl rfl, nc_X8, pd_20⟩
theorem mo_X8_keeps : mMo mX8_keeps 0 := ⟨wi_X8, mTb_8 24 rfl rfl, nc_X8, pd_0⟩
theorem mo_X8_undo : mMo mX8_undo 0 := ⟨wi_X8, mTb_8 12 rfl rfl, nc_X8, pd_4⟩
theorem mo_X8_goes : mMo mX8_goes 4 := ⟨wi_X8, mTb_8 28 rfl rfl, nc_X8, pd_2⟩
theorem mo_X8_isComing : mMo mX8_isComing 1 := ⟨wi_X8, mTb_8 20 rfl rfl, nc_X8, pd_18⟩
theorem mo_X8_miss : mMo mX8_miss 2 := ⟨wi_X8, mTb_8 16 rfl rfl, nc_X8, pd_6⟩
theorem mo_X8_excuse : mMo mX8_excuse 2 := ⟨wi_X8, mTb_8 32 rfl rfl, nc_X8, pd_6⟩
theorem mo_X8_fly : mMo mX8_fly 2 := ⟨wi_X8, mTb_8 36 rfl rfl, nc_X8, pd_6⟩
theorem mo_X8_openFrom : mMo mX8_openFrom 2 := ⟨wi_X8, mTb_8 44 rfl rfl, nc_X8, pd_6⟩
theorem mo_X8_back : mMo mX8_back 2 := ⟨wi_X8, mTb_8 40 rfl rfl, nc_X8, pd_6⟩
theorem mo_X8_gives : mMo mX8_gives 2 := ⟨wi_X8, mTb_8 48 rfl rfl, nc_X8, pd_6⟩
theorem mo_X8_tick : mMo mX8_tick 0 := ⟨wi_X8, mTb_8 52 rfl rfl, nc_X8, pd_4⟩
theorem mo_X8_pool : mMo mX8_pool 0 := ⟨wi_X8, mTb_8 56 rfl rfl, nc_X8, pd_4⟩
theorem mo_X8_dropsAsk : mMo mX8_dropsAsk 1 := ⟨wi_X8, mTb_8 60 rfl rfl, nc_X8, pd_15⟩
theorem mo_X8_retime : mMo mX8_retime 2 := ⟨wi_X8, mTb_8 64 rfl rfl, nc_X8, pd_6⟩
theorem mo_X8_isNew : mMo mX8_isNew 1 := ⟨wi_X8, mTb_8 72 rfl rfl, nc_X8, pd_18⟩
theorem mo_X8_changesOver : mMo mX8_changesOver 2 := ⟨wi_X8, mTb_8 80 rfl rfl, nc_X8, pd_32⟩
theorem mo_X8_canSwap : mMo mX8_canSwap 2 := ⟨wi_X8, mTb_8 76 rfl rfl, nc_X8, pd_20⟩
theorem mo_X8_swap : mMo mX8_swap 2 := ⟨wi_X8, mTb_8 68 rfl rfl, nc_X8, pd_6⟩
theorem mo_X8_partners : mMo mX8_partners 1 := ⟨wi_X8, mTb_8 84 rfl rfl, nc_X8, pd_30⟩
theorem mo_X8_hand : mMo mX8_hand 2 := ⟨wi_X8, mTb_8 88 rfl rfl, nc_X8, pd_6⟩
theorem mo_X8_isAbove : mMo mX8_isAbove 3 := ⟨wi_X8, mTb_8 97 rfl rfl, nc_X8, pd_29⟩
theorem mo_X8_limit : mMo mX8_limit 3 := ⟨wi_X8, mTb_8 92 rfl rfl, nc_X8, pd_23⟩
theorem mo_X8_ask : mMo mX8_ask 5 := ⟨wi_X8, mTb_8 101 rfl rfl, nc_X8, pd_39⟩
theorem mo_X8_drop : mMo mX8_drop 1 := ⟨wi_X8, mTb_8 106 rfl rfl, nc_X8, pd_30⟩
theorem mo_X8_stays : mMo mX8_stays 2 := ⟨wi_X8, mTb_8 114 rfl rfl, nc_X8, pd_32⟩
theorem mo_X8_ends : mMo mX8_ends 0 := ⟨wi_X8, mTb_8 110 rfl rfl, nc_X8, pd_4⟩
theorem mo_X8_says : mMo mX8_says 1 := ⟨wi_X8, mTb_8 127 rfl rfl, nc_X8, pd_15⟩
theorem mo_X8_saysText : mMo mX8_saysText 1 := ⟨wi_X8, mTb_8 123 rfl rfl, nc_X8, pd_37⟩
theorem mo_X8_saysNumber : mMo mX8_saysNumber 1 := ⟨wi_X8, mTb_8 131 rfl rfl, nc_X8, pd_15⟩
theorem mo_X8_saysName : mMo mX8_saysName 1 := ⟨wi_X8, mTb_8 138 rfl rfl, nc_X8, pd_15⟩
theorem pd_47 : (parseMethodDescriptor "(Ljava/lang/String;II)V").map (fun d => d.parameters.length) = some 3 := by decide +kernel
theorem mo_X8_saysCommon : mMo mX8_saysCommon 3 := ⟨wi_X8, mTb_8 143 rfl rfl, nc_X8, pd_47⟩
theorem mo_X8_tell : mMo mX8_tell 0 := ⟨wi_X8, mTb_8 118 rfl rfl, nc_X8, pd_4⟩
theorem mo_X8_octet : mMo mX8_octet 1 := ⟨wi_X8, mTb_8 152 rfl rfl, nc_X8, pd_30⟩
theorem nc_J6 : RJ6 ≠ "java/lang/invoke/MethodHandle" ∧ RJ6 ≠ "java/lang/invoke/VarHandle" := by decide +kernel
theorem wi_J6 : Cond.initialized RJ6 ∈ mTb := mTb_1 15 rfl rfl
theorem mo_J6_bitCount_0f7a4 : mMo mJ6_bitCount_0f7a4 1 := ⟨wi_J6, mTb_4 32 rfl rfl, nc_J6, pd_30⟩
theorem nc_J0 : RJ0 ≠ "java/lang/invoke/MethodHandle" ∧ RJ0 ≠ "java/lang/invoke/VarHandle" := by decide +kernel
theorem wi_J0 : Cond.initialized RJ0 ∈ mTb := mTb_1 11 rfl rfl
theorem mo_J0_length_8abf5 : mMo mJ0_length_8abf5 0 := ⟨wi_J0, mTb_2 178 rfl rfl, nc_J0, pd_4⟩
theorem pd_48 : (parseMethodDescriptor "(I)C").map (fun d => d.parameters.length) = some 1 := by decide +kernel
theorem mo_J0_charAt_5068e : mMo mJ0_charAt_5068e 1 := ⟨wi_J0, mTb_2 188 rfl rfl, nc_J0, pd_48⟩
theorem pd_49 : (parseMethodDescriptor "()B").map (fun d => d.parameters.length) = some 0 := by decide +kernel
theorem mo_J0_coder_7d493 : mMo mJ0_coder_7d493 0 := ⟨wi_J0, mTb_2 182 rfl rfl, nc_J0, pd_49⟩
theorem mo_J0_isLatin1_aae02 : mMo mJ0_isLatin1_aae02 0 := ⟨wi_J0, mTb_2 192 rfl rfl, nc_J0, pd_17⟩
theorem mo_J0_checkIndex_df160 : mMo mJ0_checkIndex_df160 2 := ⟨wi_J0, mTb_2 198 rfl rfl, nc_J0, pd_32⟩
theorem nc_J1 : RJ1 ≠ "java/lang/invoke/MethodHandle" ∧ RJ1 ≠ "java/lang/invoke/VarHandle" := by decide +kernel
theorem wi_J1 : Cond.initialized RJ1 ∈ mTb := mTb_1 12 rfl rfl
theorem pd_50 : (parseMethodDescriptor "([BI)C").map (fun d => d.parameters.length) = some 2 := by decide +kernel
theorem mo_J1_charAt_3b067 : mMo mJ1_charAt_3b067 2 := ⟨wi_J1, mTb_2 195 rfl rfl, nc_J1, pd_50⟩
theorem nc_J3 : RJ3 ≠ "java/lang/invoke/MethodHandle" ∧ RJ3 ≠ "java/lang/invoke/VarHandle" := by decide +kernel
theorem wi_J3 : Cond.initialized RJ3 ∈ mTb := mTb_1 13 rfl rfl
theorem pd_51 : (parseMethodDescriptor "(IILjava/util/function/BiFunction;)I").map (fun d => d.parameters.length) = some 3 := by decide +kernel
theorem mo_J3_checkIndex_8e157 : mMo mJ3_checkIndex_8e157 3 := ⟨wi_J3, mTb_2 203 rfl rfl, nc_J3, pd_51⟩
