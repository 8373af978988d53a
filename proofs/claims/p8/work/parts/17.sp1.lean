/-! small methods of numbers alone: their answers as terms -/
theorem b2i_nz {c : Prop} [Decidable c] (h : ¬ b2i c = 0) : c := by
  by_cases q : c
  · exact q
  · exact absurd (b2i_f q) h
abbrev f_bit (v i : Int32) : Prop := ¬ (((v : Int32).toUInt32 >>> ((i : Int32).toUInt32 &&& Int32.toUInt32 31)).toInt32 &&& 1) = 0
def f_sb (a b : Int32) : Int32 := (((1 <<< (((b - a) + 1) &&& 31)) - 1) <<< (a &&& 31))
def f_bf (w : Int32) : Int32 := if w ≤ 30 then ((-1) <<< (w &&& 31)) else 0
def f_sh (v i : Int32) : Int32 := ((v : Int32).toUInt32 >>> ((i : Int32).toUInt32 &&& Int32.toUInt32 31)).toInt32
def f_b1 (v : Int32) : Int32 := (v - (f_sh v 1 &&& 1431655765))
def f_b2 (v : Int32) : Int32 := ((v &&& 858993459) + (f_sh v 2 &&& 858993459))
def f_b3 (v : Int32) : Int32 := ((v + f_sh v 4) &&& 252645135)
def f_b4 (v : Int32) : Int32 := (v + f_sh v 8)
def f_b5 (v : Int32) : Int32 := (v + f_sh v 16)
def f_bc (v : Int32) : Int32 := f_b5 (f_b4 (f_b3 (f_b2 (f_b1 v)))) &&& 63
abbrev f_has (v i : Int32) : Prop := ((v >>> (i &&& 31)) &&& 1) = 1
def f_span (a b : Int32) : Int32 := if a ≤ b then (((((1 : Int64) <<< (((b + 1) : Int32).toInt64 &&& 63)) - ((1 : Int64) <<< ((a : Int32).toInt64 &&& 63))) : Int64).toInt32) else 0
section SP1
variable {K : Sh} {x : Cn} {Q : Int32 → Cn → Prop}
theorem sp_X7_isWithin {a b c : Int32} (k : Q (b2i (b ≤ a ∧ a ≤ c)) x) : mSI mX7_isWithin [.int a, .int b, .int c] K x Q := by
  refine v_X7_isWithin_0 ⟨fun h => ?_, fun h => ⟨fun h' => ?_, fun h' => ?_⟩⟩
  · rwa [b2i_f (fun z => Int32.not_le.mpr h z.1)] at k
  · rwa [b2i_f (fun z => Int32.not_le.mpr h' z.2)] at k
  · rwa [b2i_t ⟨Int32.not_lt.mp h, Int32.not_lt.mp h'⟩] at k
theorem sp_X7_isState {a : Int32} (k : Q (b2i (0 ≤ a ∧ a ≤ 4)) x) : mSI mX7_isState [.int a] K x Q := by
  refine v_X7_isState_0 ⟨fun h => ?_, fun h => ⟨fun h' => ?_, fun h' => ?_⟩⟩
  · rwa [b2i_f (fun z => Int32.not_le.mpr h z.1)] at k
  · rwa [b2i_f (fun z => Int32.not_le.mpr h' z.2)] at k
  · rwa [b2i_t ⟨Int32.not_lt.mp h, Int32.not_lt.mp h'⟩] at k
theorem sp_X7_isLetter {a : Int32} (k : Q (b2i (97 ≤ a ∧ a ≤ 122)) x) : mSI mX7_isLetter [.int a] K x Q := by
  refine v_X7_isLetter_0 ⟨fun h => ?_, fun h => ⟨fun h' => ?_, fun h' => ?_⟩⟩
  · rwa [b2i_f (fun z => Int32.not_le.mpr h z.1)] at k
  · rwa [b2i_f (fun z => Int32.not_le.mpr h' z.2)] at k
  · rwa [b2i_t ⟨Int32.not_lt.mp h, Int32.not_lt.mp h'⟩] at k
theorem sp_X7_isDigit {a : Int32} (k : Q (b2i (48 ≤ a ∧ a ≤ 57)) x) : mSI mX7_isDigit [.int a] K x Q := by
  refine v_X7_isDigit_0 ⟨fun h => ?_, fun h => ⟨fun h' => ?_, fun h' => ?_⟩⟩
  · rwa [b2i_f (fun z => Int32.not_le.mpr h z.1)] at k
  · rwa [b2i_f (fun z => Int32.not_le.mpr h' z.2)] at k
  · rwa [b2i_t ⟨Int32.not_lt.mp h, Int32.not_lt.mp h'⟩] at k
theorem sp_X7_isWay {a : Int32} (k : Q (b2i (a = 0 ∨ a = 1)) x) : mSI mX7_isWay [.int a] K x Q := by
  refine v_X7_isWay_0 ⟨fun h => ?_, fun h => ⟨fun h' => ?_, fun h' => ?_⟩⟩
  · rwa [b2i_t (Or.inl h)] at k
  · rwa [b2i_f (fun z => z.elim h h')] at k
  · rwa [b2i_t (Or.inr h')] at k
theorem sp_X7_hasBit {a b : Int32} (k : Q (b2i (f_bit a b)) x) : mSI mX7_hasBit [.int a, .int b] K x Q := by
  refine v_X7_hasBit_0 ⟨fun h => ?_, fun h => ?_⟩
  · rwa [b2i_f (fun z => z h)] at k
  · rwa [b2i_t h] at k
theorem sp_X7_spanBits {a b : Int32} (k : Q (f_sb a b) x) : mSI mX7_spanBits [.int a, .int b] K x Q := v_X7_spanBits_0 k
theorem sp_X7_bitsFrom {a : Int32} (k : Q (f_bf a) x) : mSI mX7_bitsFrom [.int a] K x Q := by
  refine v_X7_bitsFrom_0 ⟨fun h => ?_, fun h => ?_⟩
  · unfold f_bf at k
    rwa [if_pos h] at k
  · unfold f_bf at k
    rwa [if_neg h] at k
theorem sp_J6_bitCount_0f7a4 {a : Int32} (k : Q (f_bc a) x) : mSI mJ6_bitCount_0f7a4 [.int a] K x Q := by
  refine v_J6_bitCount_0f7a4_0 (fun r1 h1 r2 h2 r3 h3 r4 h4 r5 h5 => ?_)
  have e : r5 = f_b5 (f_b4 (f_b3 (f_b2 (f_b1 a)))) := by
    rw [h5, h4, h3, h2, h1]
    rfl
  rw [e]
  exact k
theorem sp_X8_has {a b : Int32} (k : Q (b2i (f_has a b)) x) : mSI mX8_has [.int a, .int b] K x Q := by
  refine v_X8_has_0 ⟨fun h => ?_, fun h => ?_⟩
  · rwa [b2i_f h] at k
  · rwa [b2i_t h] at k
theorem sp_X8_span {a b : Int32} (k : Q (f_span a b) x) : mSI mX8_span [.int a, .int b] K x Q := by
  refine v_X8_span_0 ⟨fun h => ?_, fun h => ?_⟩
  · unfold f_span at k
    rwa [if_pos h] at k
  · unfold f_span at k
    rwa [if_neg h] at k
theorem le64 {a b : Int32} : a.toInt64 ≤ b.toInt64 ↔ a ≤ b := by
  rw [Int64.le_iff_toInt_le, Int32.le_iff_toInt_le, Int32.toInt_toInt64, Int32.toInt_toInt64]
theorem lt64 {a b : Int32} : a.toInt64 < b.toInt64 ↔ a < b := by
  rw [Int64.lt_iff_toInt_lt, Int32.lt_iff_toInt_lt, Int32.toInt_toInt64, Int32.toInt_toInt64]
theorem sp_X8_in {v lo hi : Int32} (k : Q (b2i (lo ≤ v ∧ v ≤ hi)) x) : mSI mX8_in [.long v.toInt64, .long lo.toInt64, .long hi.toInt64] K x Q := by
  intro l D ad sz
  refine Met.ofW (cc := cX8_in) (maxL := 6) (ret := some .boolean) (by decide) rfl ?_
  intro p e s m args below meth c s₁ B hml hv
  obtain ⟨rfl, hsz, hR, hK, hS⟩ := hv
  have hlocks := B.notSynchronized
  subst hsz
  have hx := B.exec
  have hb := B.bytes
  have hr := B.returns
  rw [lg_entry_eq]
  have hl := lv_entry ([.long v.toInt64, .long lo.toInt64, .long hi.toInt64]) (n := 6) (Nat.le_of_ble_eq_true rfl)
  change W _ _ _ _ _ _ _ _ _ _ _ _ _ _ _ (F0 m 0 ((lg_sl ([.long v.toInt64, .long lo.toInt64, .long hi.toInt64]) ++ List.replicate (6 - (lg_sl ([.long v.toInt64, .long lo.toInt64, .long hi.toInt64])).length) Slot.unset).toArray) [])
  generalize (lg_sl ([.long v.toInt64, .long lo.toInt64, .long hi.toInt64]) ++ List.replicate (6 - (lg_sl ([.long v.toInt64, .long lo.toInt64, .long hi.toInt64])).length) Slot.unset).toArray = ls at hl ⊢
  have hl : lv_has ls 6 [(0, .long v.toInt64), (2, .long lo.toInt64), (4, .long hi.toInt64)] := hl
  have hend : ∀ r : Int32, (r = 0 ∨ r = 1) → Q r x → W p l e (headSpec (mWs mX8_in) { frames := mX8_in.2.2.2.2.1, cells := 0, slots := 0, locals := mX8_in.2.2.2.2.2 }).room s m (List.map (mcv ad) [.long v.toInt64, .long lo.toInt64, .long hi.toInt64]).toArray below meth c s.heap [] 0 0 (MQ below (mQH D ad (hp K x) s.heap.size (PI K Q)) (List.map (mcv ad) [.long v.toInt64, .long lo.toInt64, .long hi.toInt64]).toArray s 0 0 (mAH ad (hp K x) s.heap.size)) (F0 m 18 ls [.int r]) := by
    intro r hr01 hq
    exact W.zret hx hb hr (by rcases hr01 with rfl | rfl <;> rfl) (fun t ht hW => ⟨⟨some (.int r), hp K x, rfl, ⟨r, x, rfl, rfl, hq⟩, by rw [ht]; exact (hR.self _).moved hW.alike⟩, (va_S.rf (A := mAH ad (hp K x) s.heap.size)).F ht⟩) (fun _ h => by cases h) dX8_in_18
  refine lv_lload_n hx hb dX8_in_0 rfl (lv_at hl 0 rfl) ?_
  refine lv_lload_n hx hb dX8_in_1 rfl (lv_at hl 1 rfl) ?_
  refine W.lcmp hx hb dX8_in_2 ?_
  refine lv_if_lt (tgt := 17) hx hb dX8_in_3 (by decide) (fun q => ?_) (fun q => ?_)
  · have q1 := lt64.mp ((lg_cmp_lt _ _).mp q)
    refine lv_iconst (v := 0) hx hb dX8_in_17 (by decide) ?_
    exact hend 0 (Or.inl rfl) (by rwa [b2i_f (fun z => Int32.not_le.mpr q1 z.1)] at k)
  · have q1 := fun z => q ((lg_cmp_lt _ _).mpr (lt64.mpr z))
    refine lv_lload_n hx hb dX8_in_6 rfl (lv_at hl 0 rfl) ?_
    refine lv_lload hx hb dX8_in_7 (lv_at hl 2 rfl) ?_
    refine W.lcmp hx hb dX8_in_9 ?_
    refine lv_if_gt (tgt := 17) hx hb dX8_in_10 (by decide) (fun q2 => ?_) (fun q2 => ?_)
    · have q3 := lt64.mp ((lg_cmp_gt _ _).mp q2)
      refine lv_iconst (v := 0) hx hb dX8_in_17 (by decide) ?_
      exact hend 0 (Or.inl rfl) (by rwa [b2i_f (fun z => Int32.not_le.mpr q3 z.2)] at k)
    · have q3 := fun z => q2 ((lg_cmp_gt _ _).mpr (lt64.mpr z))
      refine lv_iconst (v := 1) hx hb dX8_in_13 (by decide) ?_
      refine lv_goto (tgt := 18) hx hb dX8_in_14 (by decide) ?_
      exact hend 1 (Or.inr rfl) (by rwa [b2i_t ⟨Int32.not_lt.mp q1, Int32.not_lt.mp q3⟩] at k)
theorem sq_X8_in {v lo hi : Int32} {v1 v2 v3 : Int64} (e1 : v1 = v.toInt64) (e2 : v2 = lo.toInt64) (e3 : v3 = hi.toInt64) (k : Q (b2i (lo ≤ v ∧ v ≤ hi)) x) : mSI mX8_in [.long v1, .long v2, .long v3] K x Q := by
  rw [e1, e2, e3]
  exact sp_X8_in k
end SP1
