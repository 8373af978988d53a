set_option maxHeartbeats 2000000 in
theorem v_X8_tell_152 {K : Sh} {x : Cn} {Q : Int32 → Cn → Prop} {b0 : Nat} {l1 : Int32} {b0_1 : Nat} {n_b0_1 : Nat} (k_b0 : kk K b0 = some (8, 0)) (g_b0_1 : gr x b0 1 = some b0_1) (k_b0_1 : kk K b0_1 = some (20, n_b0_1)) (K0 : vp_in 1 n_b0_1 ∧ (((gi x b0_1 1) ≤ l1 → (GI mX8_tell 188 [some (.ref b0), some (.int 0)] [] K x Q)) ∧ (¬ (gi x b0_1 1) ≤ l1 → (mSV mX8_saysText [.ref b0, .ref (mSB + 30)] K x (fun y_3 => mSV mX8_saysName [.ref b0, .int l1] K y_3 (fun y_4 => mSV mX8_says [.ref b0, .int 59] K y_4 (fun y_5 => GI mX8_tell 152 [some (.ref b0), some (.int (l1 + 1))] [] K y_5 Q))))))) : GI mX8_tell 152 [some (.ref b0), some (.int l1)] [] K x Q := by
  show mGM mX8_tell 152 [some (.ref b0), some (.int l1)] [] (hp K x) (PI K Q)
  refine r_iload_n (pc := 152) dX8_tell_152 rfl ?_
  refine r_aload_n (pc := 153) dX8_tell_153 rfl ?_
  refine s_getR (pc := 154) dX8_tell_154 fl_X8_9 rfl k_b0 g_b0_1 ?_
  refine r_iconst (pc := 157) (v := 1) dX8_tell_157 (by decide) ?_
  obtain ⟨i_1, K0⟩ := K0
  refine s_iald (pc := 158) dX8_tell_158 k_b0_1 i_1 ?_
  refine r_icmp_ge (pc := 159) (tgt := 186) dX8_tell_159 (by decide) (fun q => ?_) (fun q => ?_)
  · have K0 := K0.1 q
    refine r_iconst (pc := 186) (v := 0) dX8_tell_186 (by decide) ?_
    refine r_istore_n (pc := 187) dX8_tell_187 (by decide) ?_
    exact r_le (L' := [some (.ref b0), some (.int 0)]) ⟨rfl, ⟨rfl, trivial⟩⟩ K0
  · have K0 := K0.2 q
    refine r_aload_n (pc := 162) dX8_tell_162 rfl ?_
    refine r_ldcwS (pc := 163) (j := 30) dX8_tell_163 rfl ?_
    refine s_VV (pc := 166) mX8_saysText (ci := 8) (a := b0) (As := [.ref (mSB + 30)]) dX8_tell_166 lk_X8_404 in_X8_saysText mo_X8_saysText ⟨by decide, rfl⟩ ⟨by decide, by decide⟩ (Nat.le_of_ble_eq_true rfl) k_b0 (mSV_mono K0 (fun y_3 K0 => ?_))
    refine r_aload_n (pc := 169) dX8_tell_169 rfl ?_
    refine r_iload_n (pc := 170) dX8_tell_170 rfl ?_
    refine s_VV (pc := 171) mX8_saysName (ci := 8) (a := b0) (As := [.int l1]) dX8_tell_171 lk_X8_407 in_X8_saysName mo_X8_saysName ⟨by decide, rfl⟩ ⟨by decide, by decide⟩ (Nat.le_of_ble_eq_true rfl) k_b0 (mSV_mono K0 (fun y_4 K0 => ?_))
    refine r_aload_n (pc := 174) dX8_tell_174 rfl ?_
    refine r_bipush (pc := 175) (v := 59) dX8_tell_175 (by decide) ?_
    refine s_VV (pc := 177) mX8_says (ci := 8) (a := b0) (As := [.int 59]) dX8_tell_177 lk_X8_401 in_X8_says mo_X8_says ⟨by decide, rfl⟩ ⟨by decide, by decide⟩ (Nat.le_of_ble_eq_true rfl) k_b0 (mSV_mono K0 (fun y_5 K0 => ?_))
    refine r_iinc (pc := 180) (v := l1 + 1) dX8_tell_180 rfl rfl (by decide) ?_
    refine r_goto (pc := 183) (L := [some (.ref b0), some (.int (l1 + 1))]) (tgt := 152) dX8_tell_183 (by decide) ?_
    exact r_le (L' := [some (.ref b0), some (.int (l1 + 1))]) ⟨rfl, ⟨rfl, trivial⟩⟩ K0
set_option maxHeartbeats 2000000 in
theorem v_X8_tell_188 {K : Sh} {x : Cn} {Q : Int32 → Cn → Prop} {b0 : Nat} {l1 : Int32} {b0_1 : Nat} {n_b0_1 : Nat} (k_b0 : kk K b0 = some (8, 0)) (g_b0_1 : gr x b0 1 = some b0_1) (k_b0_1 : kk K b0_1 = some (20, n_b0_1)) (K0 : vp_in 2 n_b0_1 ∧ (((gi x b0_1 2) ≤ l1 → (GI mX8_tell 242 [some (.ref b0), some (.int 0)] [] K x Q)) ∧ (¬ (gi x b0_1 2) ≤ l1 → (mSV mX8_saysCommon [.ref b0, .ref (mSB + 31), .int (62 + (12 * l1)), .int 5] K x (fun y_3 => ∃ c_4 : Nat, gr y_3 b0 3 = some c_4 ∧ (∃ n_7 : Nat, kk K c_4 = some (20, n_7) ∧ ((l24 l1 n_7) ∧ ((¬ (so (gi y_3 c_4) (l1 : Int32).toNatClampNeg 4 = 1) → (mSV mX8_saysText [.ref b0, .ref (mSB + 34)] K y_3 (fun y_10 => GI mX8_tell 188 [some (.ref b0), some (.int (l1 + 1))] [] K y_10 Q))) ∧ ((so (gi y_3 c_4) (l1 : Int32).toNatClampNeg 4 = 1) → (mSV mX8_saysText [.ref b0, .ref (mSB + 33)] K y_3 (fun y_11 => GI mX8_tell 188 [some (.ref b0), some (.int (l1 + 1))] [] K y_11 Q))))))))))) : GI mX8_tell 188 [some (.ref b0), some (.int l1)] [] K x Q := by
  show mGM mX8_tell 188 [some (.ref b0), some (.int l1)] [] (hp K x) (PI K Q)
  refine r_iload_n (pc := 188) dX8_tell_188 rfl ?_
  refine r_aload_n (pc := 189) dX8_tell_189 rfl ?_
  refine s_getR (pc := 190) dX8_tell_190 fl_X8_9 rfl k_b0 g_b0_1 ?_
  refine r_iconst (pc := 193) (v := 2) dX8_tell_193 (by decide) ?_
  obtain ⟨i_1, K0⟩ := K0
  refine s_iald (pc := 194) dX8_tell_194 k_b0_1 i_1 ?_
  refine r_icmp_ge (pc := 195) (tgt := 240) dX8_tell_195 (by decide) (fun q => ?_) (fun q => ?_)
  · have K0 := K0.1 q
    refine r_iconst (pc := 240) (v := 0) dX8_tell_240 (by decide) ?_
    refine r_istore_n (pc := 241) dX8_tell_241 (by decide) ?_
    exact r_le (L' := [some (.ref b0), some (.int 0)]) ⟨rfl, ⟨rfl, trivial⟩⟩ K0
  · have K0 := K0.2 q
    refine r_aload_n (pc := 198) dX8_tell_198 rfl ?_
    refine r_ldcwS (pc := 199) (j := 31) dX8_tell_199 rfl ?_
    refine r_bipush (pc := 202) (v := 62) dX8_tell_202 (by decide) ?_
    refine r_bipush (pc := 204) (v := 12) dX8_tell_204 (by decide) ?_
    refine r_iload_n (pc := 206) dX8_tell_206 rfl ?_
    refine r_imul (pc := 207) dX8_tell_207 ?_
    refine r_iadd (pc := 208) dX8_tell_208 ?_
    refine r_iconst (pc := 209) (v := 5) dX8_tell_209 (by decide) ?_
    refine s_VV (pc := 210) mX8_saysCommon (ci := 8) (a := b0) (As := [.ref (mSB + 31), .int (62 + (12 * l1)), .int 5]) dX8_tell_210 lk_X8_425 in_X8_saysCommon mo_X8_saysCommon ⟨by decide, rfl⟩ ⟨by decide, by decide⟩ (Nat.le_of_ble_eq_true rfl) k_b0 (mSV_mono K0 (fun y_3 K0 => ?_))
    refine r_aload_n (pc := 213) dX8_tell_213 rfl ?_
    refine r_aload_n (pc := 214) dX8_tell_214 rfl ?_
    refine r_iload_n (pc := 215) dX8_tell_215 rfl ?_
    obtain ⟨c_4, g_5, K0⟩ := K0
    obtain ⟨n_7, e_6, K0⟩ := K0
    obtain ⟨p_8, K0⟩ := K0
    refine s_VI (pc := 216) mX8_isNew (ci := 8) (a := b0) (As := [.int l1]) dX8_tell_216 lk_X8_382 in_X8_isNew mo_X8_isNew ⟨by decide, rfl⟩ ⟨by decide, by decide⟩ (Nat.le_of_ble_eq_true rfl) k_b0 (sr_X8_isNew k_b0 g_5 e_6 p_8 ?_)
    refine r_if_eq (pc := 219) (tgt := 228) dX8_tell_219 (by decide) (fun q => ?_) (fun q => ?_)
    · have q := (b2i_z _).mp q
      have K0 := K0.1 q
      refine r_ldcwS (pc := 228) (j := 34) dX8_tell_228 rfl ?_
      refine s_VV (pc := 231) mX8_saysText (ci := 8) (a := b0) (As := [.ref (mSB + 34)]) dX8_tell_231 lk_X8_404 in_X8_saysText mo_X8_saysText ⟨by decide, rfl⟩ ⟨by decide, by decide⟩ (Nat.le_of_ble_eq_true rfl) k_b0 (mSV_mono K0 (fun y_10 K0 => ?_))
      refine r_iinc (pc := 234) (v := l1 + 1) dX8_tell_234 rfl rfl (by decide) ?_
      refine r_goto (pc := 237) (L := [some (.ref b0), some (.int (l1 + 1))]) (tgt := 188) dX8_tell_237 (by decide) ?_
      exact r_le (L' := [some (.ref b0), some (.int (l1 + 1))]) ⟨rfl, ⟨rfl, trivial⟩⟩ K0
    · have q := b2i_nz q
      have K0 := K0.2 q
      refine r_ldcwS (pc := 222) (j := 33) dX8_tell_222 rfl ?_
      refine r_goto (pc := 225) (tgt := 231) dX8_tell_225 (by decide) ?_
      refine s_VV (pc := 231) mX8_saysText (ci := 8) (a := b0) (As := [.ref (mSB + 33)]) dX8_tell_231 lk_X8_404 in_X8_saysText mo_X8_saysText ⟨by decide, rfl⟩ ⟨by decide, by decide⟩ (Nat.le_of_ble_eq_true rfl) k_b0 (mSV_mono K0 (fun y_11 K0 => ?_))
      refine r_iinc (pc := 234) (v := l1 + 1) dX8_tell_234 rfl rfl (by decide) ?_
      refine r_goto (pc := 237) (L := [some (.ref b0), some (.int (l1 + 1))]) (tgt := 188) dX8_tell_237 (by decide) ?_
      exact r_le (L' := [some (.ref b0), some (.int (l1 + 1))]) ⟨rfl, ⟨rfl, trivial⟩⟩ K0
set_option maxHeartbeats 2000000 in
theorem v_X8_tell_242 {K : Sh} {x : Cn} {Q : Int32 → Cn → Prop} {b0 : Nat} {l1 : Int32} {b0_1 : Nat} {n_b0_1 : Nat} (k_b0 : kk K b0 = some (8, 0)) (g_b0_1 : gr x b0 1 = some b0_1) (k_b0_1 : kk K b0_1 = some (20, n_b0_1)) (K0 : vp_in 3 n_b0_1 ∧ (((gi x b0_1 3) ≤ l1 → (Q (gi x b0 22) x)) ∧ (¬ (gi x b0_1 3) ≤ l1 → (mSV mX8_saysCommon [.ref b0, .ref (mSB + 35), .int (350 + (7 * l1)), .int 4] K x (fun y_3 => ∃ c_4 : Nat, gr y_3 b0 3 = some c_4 ∧ (∃ n_7 : Nat, kk K c_4 = some (20, n_7) ∧ ((l24 l1 n_7) ∧ (((ao (gi y_3 c_4) (l1 : Int32).toNatClampNeg 6) ≤ 0 → (((ao (gi y_3 c_4) (l1 : Int32).toNatClampNeg 6) ≤ 0 → (mSV mX8_says [.ref b0, .int 59] K y_3 (fun y_11 => GI mX8_tell 242 [some (.ref b0), some (.int (l1 + 1))] [] K y_11 Q))) ∧ (¬ (ao (gi y_3 c_4) (l1 : Int32).toNatClampNeg 6) ≤ 0 → (mSV mX8_saysNumber [.ref b0, .int (ao (gi y_3 c_4) (l1 : Int32).toNatClampNeg 6)] K y_3 (fun y_12 => mSV mX8_says [.ref b0, .int 59] K y_12 (fun y_13 => GI mX8_tell 242 [some (.ref b0), some (.int (l1 + 1))] [] K y_13 Q)))))) ∧ (¬ (ao (gi y_3 c_4) (l1 : Int32).toNatClampNeg 6) ≤ 0 → (mSV mX8_saysText [.ref b0, .ref (mSB + 36)] K y_3 (fun y_14 => ∃ c_15 : Nat, gr y_14 b0 3 = some c_15 ∧ (∃ n_18 : Nat, kk K c_15 = some (20, n_18) ∧ ((l24 l1 n_18) ∧ (((ao (gi y_14 c_15) (l1 : Int32).toNatClampNeg 6) ≤ 0 → (mSV mX8_says [.ref b0, .int 59] K y_14 (fun y_21 => GI mX8_tell 242 [some (.ref b0), some (.int (l1 + 1))] [] K y_21 Q))) ∧ (¬ (ao (gi y_14 c_15) (l1 : Int32).toNatClampNeg 6) ≤ 0 → (mSV mX8_saysNumber [.ref b0, .int (ao (gi y_14 c_15) (l1 : Int32).toNatClampNeg 6)] K y_14 (fun y_22 => mSV mX8_says [.ref b0, .int 59] K y_22 (fun y_23 => GI mX8_tell 242 [some (.ref b0), some (.int (l1 + 1))] [] K y_23 Q)))))))))))))))))) : GI mX8_tell 242 [some (.ref b0), some (.int l1)] [] K x Q := by
  show mGM mX8_tell 242 [some (.ref b0), some (.int l1)] [] (hp K x) (PI K Q)
  refine r_iload_n (pc := 242) dX8_tell_242 rfl ?_
  refine r_aload_n (pc := 243) dX8_tell_243 rfl ?_
  refine s_getR (pc := 244) dX8_tell_244 fl_X8_9 rfl k_b0 g_b0_1 ?_
  refine r_iconst (pc := 247) (v := 3) dX8_tell_247 (by decide) ?_
  obtain ⟨i_1, K0⟩ := K0
  refine s_iald (pc := 248) dX8_tell_248 k_b0_1 i_1 ?_
  refine r_icmp_ge (pc := 249) (tgt := 318) dX8_tell_249 (by decide) (fun q => ?_) (fun q => ?_)
  · have K0 := K0.1 q
    refine r_aload_n (pc := 318) dX8_tell_318 rfl ?_
    refine s_getI (pc := 319) dX8_tell_319 fl_X8_398 rfl k_b0 ?_
    exact s_iret rfl dX8_tell_322 K0
  · have K0 := K0.2 q
    refine r_aload_n (pc := 252) dX8_tell_252 rfl ?_
    refine r_ldcwS (pc := 253) (j := 35) dX8_tell_253 rfl ?_
    refine r_sipush (pc := 256) (v := 350) dX8_tell_256 (by decide) ?_
    refine r_bipush (pc := 259) (v := 7) dX8_tell_259 (by decide) ?_
    refine r_iload_n (pc := 261) dX8_tell_261 rfl ?_
    refine r_imul (pc := 262) dX8_tell_262 ?_
    refine r_iadd (pc := 263) dX8_tell_263 ?_
    refine r_iconst (pc := 264) (v := 4) dX8_tell_264 (by decide) ?_
    refine s_VV (pc := 265) mX8_saysCommon (ci := 8) (a := b0) (As := [.ref (mSB + 35), .int (350 + (7 * l1)), .int 4]) dX8_tell_265 lk_X8_425 in_X8_saysCommon mo_X8_saysCommon ⟨by decide, rfl⟩ ⟨by decide, by decide⟩ (Nat.le_of_ble_eq_true rfl) k_b0 (mSV_mono K0 (fun y_3 K0 => ?_))
    refine r_aload_n (pc := 268) dX8_tell_268 rfl ?_
    refine r_iload_n (pc := 269) dX8_tell_269 rfl ?_
    refine r_bipush (pc := 270) (v := 6) dX8_tell_270 (by decide) ?_
    obtain ⟨c_4, g_5, K0⟩ := K0
    obtain ⟨n_7, e_6, K0⟩ := K0
    obtain ⟨p_8, K0⟩ := K0
    refine s_VI (pc := 272) mX8_ask0 (ci := 8) (a := b0) (As := [.int l1, .int 6]) dX8_tell_272 lk_X8_284 in_X8_ask0 mo_X8_ask0 ⟨by decide, rfl⟩ ⟨by decide, by decide⟩ (Nat.le_of_ble_eq_true rfl) k_b0 (sr_X8_ask0 k_b0 g_5 e_6 p_8 ⟨by decide, by decide⟩ ?_)
    refine r_if_le (pc := 275) (tgt := 285) dX8_tell_275 (by decide) (fun q => ?_) (fun q => ?_)
    · have K0 := K0.1 q
      refine r_aload_n (pc := 285) dX8_tell_285 rfl ?_
      refine r_iload_n (pc := 286) dX8_tell_286 rfl ?_
      refine r_bipush (pc := 287) (v := 6) dX8_tell_287 (by decide) ?_
      refine s_VI (pc := 289) mX8_ask0 (ci := 8) (a := b0) (As := [.int l1, .int 6]) dX8_tell_289 lk_X8_284 in_X8_ask0 mo_X8_ask0 ⟨by decide, rfl⟩ ⟨by decide, by decide⟩ (Nat.le_of_ble_eq_true rfl) k_b0 (sr_X8_ask0 k_b0 g_5 e_6 p_8 ⟨by decide, by decide⟩ ?_)
      refine r_if_le (pc := 292) (tgt := 306) dX8_tell_292 (by decide) (fun q => ?_) (fun q => ?_)
      · have K0 := K0.1 q
        refine r_aload_n (pc := 306) dX8_tell_306 rfl ?_
        refine r_bipush (pc := 307) (v := 59) dX8_tell_307 (by decide) ?_
        refine s_VV (pc := 309) mX8_says (ci := 8) (a := b0) (As := [.int 59]) dX8_tell_309 lk_X8_401 in_X8_says mo_X8_says ⟨by decide, rfl⟩ ⟨by decide, by decide⟩ (Nat.le_of_ble_eq_true rfl) k_b0 (mSV_mono K0 (fun y_11 K0 => ?_))
        refine r_iinc (pc := 312) (v := l1 + 1) dX8_tell_312 rfl rfl (by decide) ?_
        refine r_goto (pc := 315) (L := [some (.ref b0), some (.int (l1 + 1))]) (tgt := 242) dX8_tell_315 (by decide) ?_
        exact r_le (L' := [some (.ref b0), some (.int (l1 + 1))]) ⟨rfl, ⟨rfl, trivial⟩⟩ K0
      · have K0 := K0.2 q
        refine r_aload_n (pc := 295) dX8_tell_295 rfl ?_
        refine r_aload_n (pc := 296) dX8_tell_296 rfl ?_
        refine r_iload_n (pc := 297) dX8_tell_297 rfl ?_
        refine r_bipush (pc := 298) (v := 6) dX8_tell_298 (by decide) ?_
        refine s_VI (pc := 300) mX8_ask0 (ci := 8) (a := b0) (As := [.int l1, .int 6]) dX8_tell_300 lk_X8_284 in_X8_ask0 mo_X8_ask0 ⟨by decide, rfl⟩ ⟨by decide, by decide⟩ (Nat.le_of_ble_eq_true rfl) k_b0 (sr_X8_ask0 k_b0 g_5 e_6 p_8 ⟨by decide, by decide⟩ ?_)
        refine s_VV (pc := 303) mX8_saysNumber (ci := 8) (a := b0) (As := [.int (ao (gi y_3 c_4) (l1 : Int32).toNatClampNeg 6)]) dX8_tell_303 lk_X8_410 in_X8_saysNumber mo_X8_saysNumber ⟨by decide, rfl⟩ ⟨by decide, by decide⟩ (Nat.le_of_ble_eq_true rfl) k_b0 (mSV_mono K0 (fun y_12 K0 => ?_))
        refine r_aload_n (pc := 306) dX8_tell_306 rfl ?_
        refine r_bipush (pc := 307) (v := 59) dX8_tell_307 (by decide) ?_
        refine s_VV (pc := 309) mX8_says (ci := 8) (a := b0) (As := [.int 59]) dX8_tell_309 lk_X8_401 in_X8_says mo_X8_says ⟨by decide, rfl⟩ ⟨by decide, by decide⟩ (Nat.le_of_ble_eq_true rfl) k_b0 (mSV_mono K0 (fun y_13 K0 => ?_))
        refine r_iinc (pc := 312) (v := l1 + 1) dX8_tell_312 rfl rfl (by decide) ?_
        refine r_goto (pc := 315) (L := [some (.ref b0), some (.int (l1 + 1))]) (tgt := 242) dX8_tell_315 (by decide) ?_
        exact r_le (L' := [some (.ref b0), some (.int (l1 + 1))]) ⟨rfl, ⟨rfl, trivial⟩⟩ K0
    · have K0 := K0.2 q
      refine r_aload_n (pc := 278) dX8_tell_278 rfl ?_
      refine r_ldcwS (pc := 279) (j := 36) dX8_tell_279 rfl ?_
      refine s_VV (pc := 282) mX8_saysText (ci := 8) (a := b0) (As := [.ref (mSB + 36)]) dX8_tell_282 lk_X8_404 in_X8_saysText mo_X8_saysText ⟨by decide, rfl⟩ ⟨by decide, by decide⟩ (Nat.le_of_ble_eq_true rfl) k_b0 (mSV_mono K0 (fun y_14 K0 => ?_))
      refine r_aload_n (pc := 285) dX8_tell_285 rfl ?_
      refine r_iload_n (pc := 286) dX8_tell_286 rfl ?_
      refine r_bipush (pc := 287) (v := 6) dX8_tell_287 (by decide) ?_
      obtain ⟨c_15, g_16, K0⟩ := K0
      obtain ⟨n_18, e_17, K0⟩ := K0
      obtain ⟨p_19, K0⟩ := K0
      refine s_VI (pc := 289) mX8_ask0 (ci := 8) (a := b0) (As := [.int l1, .int 6]) dX8_tell_289 lk_X8_284 in_X8_ask0 mo_X8_ask0 ⟨by decide, rfl⟩ ⟨by decide, by decide⟩ (Nat.le_of_ble_eq_true rfl) k_b0 (sr_X8_ask0 k_b0 g_16 e_17 p_19 ⟨by decide, by decide⟩ ?_)
      refine r_if_le (pc := 292) (tgt := 306) dX8_tell_292 (by decide) (fun q => ?_) (fun q => ?_)
      · have K0 := K0.1 q
        refine r_aload_n (pc := 306) dX8_tell_306 rfl ?_
        refine r_bipush (pc := 307) (v := 59) dX8_tell_307 (by decide) ?_
        refine s_VV (pc := 309) mX8_says (ci := 8) (a := b0) (As := [.int 59]) dX8_tell_309 lk_X8_401 in_X8_says mo_X8_says ⟨by decide, rfl⟩ ⟨by decide, by decide⟩ (Nat.le_of_ble_eq_true rfl) k_b0 (mSV_mono K0 (fun y_21 K0 => ?_))
        refine r_iinc (pc := 312) (v := l1 + 1) dX8_tell_312 rfl rfl (by decide) ?_
        refine r_goto (pc := 315) (L := [some (.ref b0), some (.int (l1 + 1))]) (tgt := 242) dX8_tell_315 (by decide) ?_
        exact r_le (L' := [some (.ref b0), some (.int (l1 + 1))]) ⟨rfl, ⟨rfl, trivial⟩⟩ K0
      · have K0 := K0.2 q
        refine r_aload_n (pc := 295) dX8_tell_295 rfl ?_
        refine r_aload_n (pc := 296) dX8_tell_296 rfl ?_
        refine r_iload_n (pc := 297) dX8_tell_297 rfl ?_
        refine r_bipush (pc := 298) (v := 6) dX8_tell_298 (by decide) ?_
        refine s_VI (pc := 300) mX8_ask0 (ci := 8) (a := b0) (As := [.int l1, .int 6]) dX8_tell_300 lk_X8_284 in_X8_ask0 mo_X8_ask0 ⟨by decide, rfl⟩ ⟨by decide, by decide⟩ (Nat.le_of_ble_eq_true rfl) k_b0 (sr_X8_ask0 k_b0 g_16 e_17 p_19 ⟨by decide, by decide⟩ ?_)
        refine s_VV (pc := 303) mX8_saysNumber (ci := 8) (a := b0) (As := [.int (ao (gi y_14 c_15) (l1 : Int32).toNatClampNeg 6)]) dX8_tell_303 lk_X8_410 in_X8_saysNumber mo_X8_saysNumber ⟨by decide, rfl⟩ ⟨by decide, by decide⟩ (Nat.le_of_ble_eq_true rfl) k_b0 (mSV_mono K0 (fun y_22 K0 => ?_))
        refine r_aload_n (pc := 306) dX8_tell_306 rfl ?_
        refine r_bipush (pc := 307) (v := 59) dX8_tell_307 (by decide) ?_
        refine s_VV (pc := 309) mX8_says (ci := 8) (a := b0) (As := [.int 59]) dX8_tell_309 lk_X8_401 in_X8_says mo_X8_says ⟨by decide, rfl⟩ ⟨by decide, by decide⟩ (Nat.le_of_ble_eq_true rfl) k_b0 (mSV_mono K0 (fun y_23 K0 => ?_))
        refine r_iinc (pc := 312) (v := l1 + 1) dX8_tell_312 rfl rfl (by decide) ?_
        refine r_goto (pc := 315) (L := [some (.ref b0), some (.int (l1 + 1))]) (tgt := 242) dX8_tell_315 (by decide) ?_
        exact r_le (L' := [some (.ref b0), some (.int (l1 + 1))]) ⟨rfl, ⟨rfl, trivial⟩⟩ K0
section
end
