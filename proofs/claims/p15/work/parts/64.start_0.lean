def mFp : List Nat := [9, 86, 95, 104, 110, 121, 131, 209, 216, 223, 230, 236, 246, 256, 263, 275, 282, 289, 296, 303, 310, 317, 324, 335, 343, 351, 359, 366, 376, 386, 394, 406, 417, 426, 435, 440, 448]
def mSr : List (Nat × Nat) := [(1, 174), (4, 139), (4, 164), (4, 165), (4, 166), (4, 176), (4, 181), (4, 182), (4, 187), (4, 192), (4, 193), (5, 69), (5, 108), (5, 117), (5, 118), (5, 138), (5, 139), (5, 140), (5, 141), (5, 142), (5, 143), (5, 144), (5, 145), (5, 146), (5, 147), (5, 148), (5, 149), (7, 119), (7, 132), (7, 133), (7, 134), (7, 139), (7, 144), (7, 145), (7, 146), (7, 147), (7, 148)]
def mTm (q : String × Nat × String × List Int32) : Term := .string q.1 q.2.1
def mTv (q : String × Nat × String × List Int32) : Term := .field (mTm q) "java/lang/String" "value" "[B"
def mBlk (q : String × Nat × String × List Int32) : List Cond := Cond.exactly (mTm q) "java/lang/String" :: Cond.eq (.field (mTm q) "java/lang/String" "coder" "B") (.int 0) :: Cond.arrayOf (mTv q) .byte :: Cond.eq (.length (mTv q)) (.int (Int32.ofNat q.2.2.2.length)) :: (List.range q.2.2.2.length).map (fun j => Cond.eq (.elem (mTv q) (.int (Int32.ofNat j))) (.int (q.2.2.2.getD j 0)))
theorem mS_len : mS.length = 37 := by decide +kernel
theorem mBlk_all : (List.range 37).all (fun i => decide (((flatC (Cond.and given_1 narrow_1)).drop (mFp.getD i 0)).take (mBlk (mSq i)).length = mBlk (mSq i))) = true := by decide +kernel
theorem mSr_all : (List.range 37).all (fun i => decide ((mCk (mSr.getD i (0, 0)).1)[(mSr.getD i (0, 0)).2]? = some (Cond.stringRef (mSq i).1 (mSq i).2.1 (mSq i).2.2.1) ∧ (mSq i).2.2.2.length < 2 ^ 31)) = true := by decide +kernel
def mNp : List (Nat × Nat) := [(0, 35), (0, 104), (0, 215), (0, 232), (0, 239), (1, 62), (1, 89), (1, 167), (1, 223), (2, 7), (2, 26), (2, 62), (2, 69), (2, 76), (2, 94), (2, 200), (3, 157), (3, 180), (3, 224), (4, 148), (4, 149)]
theorem mNst_all : (List.range 21).all (fun i => decide (∃ q ∈ mNst[i]?, (mCk (mNp.getD i (0, 0)).1)[(mNp.getD i (0, 0)).2]? = some (Cond.methodLinkNest q.1 q.2.1 q.2.2.1 q.2.2.2))) = true := by decide +kernel
theorem mNst_len : mNst.length = 21 := by decide
theorem w_lc : Cond.laysStatic "java/lang/String" "COMPACT_STRINGS" "Z" ∈ lw_tbl := List.mem_append_right _ (lw_t2 184 rfl)
