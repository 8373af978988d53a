def mFp : List Nat := [9, 86, 95, 104, 110, 121, 131, 209, 216, 223, 230, 236, 246, 256, 263, 275, 282, 289, 296, 303, 310, 317, 324, 335, 343, 351, 359, 366, 376, 386, 394, 406, 417, 426, 435, 440, 448]
def mSr : List Nat := [538, 1223, 1248, 1249, 1250, 1260, 1265, 1266, 1271, 1276, 1277, 1393, 1432, 1441, 1442, 1462, 1463, 1464, 1465, 1466, 1467, 1468, 1469, 1470, 1471, 1472, 1473, 1923, 1936, 1937, 1938, 1943, 1948, 1949, 1950, 1951, 1952]
def mTm (q : String × Nat × String × List Int32) : Term := .string q.1 q.2.1
def mTv (q : String × Nat × String × List Int32) : Term := .field (mTm q) "java/lang/String" "value" "[B"
def mBlk (q : String × Nat × String × List Int32) : List Cond := Cond.exactly (mTm q) "java/lang/String" :: Cond.eq (.field (mTm q) "java/lang/String" "coder" "B") (.int 0) :: Cond.arrayOf (mTv q) .byte :: Cond.eq (.length (mTv q)) (.int (Int32.ofNat q.2.2.2.length)) :: (List.range q.2.2.2.length).map (fun j => Cond.eq (.elem (mTv q) (.int (Int32.ofNat j))) (.int (q.2.2.2.getD j 0)))
theorem mS_len : mS.length = 37 := by decide +kernel
theorem mBlk_all : (List.range 37).all (fun i => decide (((flatC (Cond.and given_1 narrow_1)).drop (mFp.getD i 0)).take (mBlk (mSq i)).length = mBlk (mSq i))) = true := by decide +kernel
theorem mSr_all : (List.range 37).all (fun i => decide (lw_tbl[mSr.getD i 0]? = some (Cond.stringRef (mSq i).1 (mSq i).2.1 (mSq i).2.2.1) ∧ (mSq i).2.2.2.length < 2 ^ 31)) = true := by decide +kernel
def mNp : List Nat := [159, 228, 339, 356, 363, 426, 453, 531, 587, 611, 630, 666, 673, 680, 698, 804, 1001, 1024, 1068, 1232, 1233]
theorem mNst_all : (List.range 21).all (fun i => decide (∃ q ∈ mNst[i]?, lw_tbl[mNp.getD i 0]? = some (Cond.methodLinkNest q.1 q.2.1 q.2.2.1 q.2.2.2))) = true := by decide +kernel
theorem mNst_len : mNst.length = 21 := by decide
theorem w_lc : Cond.laysStatic "java/lang/String" "COMPACT_STRINGS" "Z" ∈ lw_tbl := List.mem_of_getElem? (i := 548) (by decide +kernel)
theorem w_ls : Cond.laysStatic mFm.1 mFm.2.1 mFm.2.2 ∈ lw_tbl := List.mem_of_getElem? (i := 564) (by decide +kernel)
theorem w_ic : Cond.initialized "java/lang/String" ∈ lw_tbl := List.mem_of_getElem? (i := 135) (by decide +kernel)
theorem w_is : Cond.initialized mFm.1 ∈ lw_tbl := List.mem_of_getElem? (i := 137) (by decide +kernel)
