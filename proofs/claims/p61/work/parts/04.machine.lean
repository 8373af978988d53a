/-! String constants by their places, links between nest mates -/
def mSB : Nat := 1000000
def mS : List (String × Nat × String × List Int32) := [("SlotSeries$Reader", 215, "mon tue wed thu fri sat sun weeks limit carrier series ask in out new by ", [109, 111, 110, 32, 116, 117, 101, 32, 119, 101, 100, 32, 116, 104, 117, 32, 102, 114, 105, 32, 115, 97, 116, 32, 115, 117, 110, 32, 119, 101, 101, 107, 115, 32, 108, 105, 109, 105, 116, 32, 99, 97, 114, 114, 105, 101, 114, 32, 115, 101, 114, 105, 101, 115, 32, 97, 115, 107, 32, 105, 110, 32, 111, 117, 116, 32, 110, 101, 119, 32, 98, 121, 32]), ("SlotSeries$Teller", 19, "weeks", [119, 101, 101, 107, 115]), ("SlotSeries$Teller", 80, "limit", [108, 105, 109, 105, 116]), ("SlotSeries$Teller", 82, "in", [105, 110]), ("SlotSeries$Teller", 52, "carrier", [99, 97, 114, 114, 105, 101, 114]), ("SlotSeries$Teller", 84, "series", [115, 101, 114, 105, 101, 115]), ("SlotSeries$Teller", 135, "mon tue wed thu fri sat sun weeks limit carrier series ask in out new by ", [109, 111, 110, 32, 116, 117, 101, 32, 119, 101, 100, 32, 116, 104, 117, 32, 102, 114, 105, 32, 115, 97, 116, 32, 115, 117, 110, 32, 119, 101, 101, 107, 115, 32, 108, 105, 109, 105, 116, 32, 99, 97, 114, 114, 105, 101, 114, 32, 115, 101, 114, 105, 101, 115, 32, 97, 115, 107, 32, 105, 110, 32, 111, 117, 116, 32, 110, 101, 119, 32, 98, 121, 32]), ("SlotSeries$Teller", 143, "out", [111, 117, 116]), ("SlotSeries$Teller", 116, "new", [110, 101, 119]), ("SlotSeries$Teller", 118, "ask", [97, 115, 107]), ("SlotSeries$Teller", 131, "by", [98, 121]), ("SlotSeriesModel", 185, "weeks", [119, 101, 101, 107, 115]), ("SlotSeriesModel", 187, "limit", [108, 105, 109, 105, 116]), ("SlotSeriesModel", 195, "in", [105, 110]), ("SlotSeriesModel", 189, "carrier", [99, 97, 114, 114, 105, 101, 114]), ("SlotSeriesModel", 164, "mon", [109, 111, 110]), ("SlotSeriesModel", 166, "tue", [116, 117, 101]), ("SlotSeriesModel", 168, "wed", [119, 101, 100]), ("SlotSeriesModel", 170, "thu", [116, 104, 117]), ("SlotSeriesModel", 172, "fri", [102, 114, 105]), ("SlotSeriesModel", 174, "sat", [115, 97, 116]), ("SlotSeriesModel", 176, "sun", [115, 117, 110]), ("SlotSeriesModel", 191, "series", [115, 101, 114, 105, 101, 115]), ("SlotSeriesModel", 193, "ask", [97, 115, 107]), ("SlotSeriesModel", 196, "out", [111, 117, 116]), ("SlotSeriesModel", 197, "new", [110, 101, 119]), ("SlotSeriesModel", 199, "by", [98, 121]), ("SlotSeriesModel", 417, "weeks ", [119, 101, 101, 107, 115, 32]), ("SlotSeriesModel", 419, "limit ", [108, 105, 109, 105, 116, 32]), ("SlotSeriesModel", 413, " in ", [32, 105, 110, 32]), ("SlotSeriesModel", 421, "carrier ", [99, 97, 114, 114, 105, 101, 114, 32]), ("SlotSeriesModel", 423, "series ", [115, 101, 114, 105, 101, 115, 32]), ("SlotSeriesModel", 415, " out ", [32, 111, 117, 116, 32]), ("SlotSeriesModel", 429, " new;", [32, 110, 101, 119, 59]), ("SlotSeriesModel", 431, ";", [59]), ("SlotSeriesModel", 433, "ask ", [97, 115, 107, 32]), ("SlotSeriesModel", 435, " by ", [32, 98, 121, 32])]
def mNS : Nat := 37
def mNst : List (String × Nat × MethodName × String) := [("SlotSeries$Season", 49, ⟨"SlotSeries$Series", "<init>", "()V"⟩, "SlotSeries"), ("SlotSeries$Season", 50, ⟨"SlotSeries$Ask", "<init>", "()V"⟩, "SlotSeries"), ("SlotSeries", 26, ⟨"SlotSeries$Names", "<init>", "()V"⟩, "SlotSeries"), ("SlotSeries", 40, ⟨"SlotSeries$Reader", "<init>", "()V"⟩, "SlotSeries"), ("SlotSeries$Reader", 20, ⟨"SlotSeries$Names", "<init>", "()V"⟩, "SlotSeries"), ("SlotSeries", 53, ⟨"SlotSeries$Pool", "<init>", "()V"⟩, "SlotSeries"), ("SlotSeries", 60, ⟨"SlotSeries$Teller", "<init>", "()V"⟩, "SlotSeries"), ("SlotSeries$Reader", 204, ⟨"SlotSeries", "isLetter", "(I)Z"⟩, "SlotSeries"), ("SlotSeries$Reader", 211, ⟨"SlotSeries", "isDigit", "(I)Z"⟩, "SlotSeries"), ("SlotSeries$Reader", 200, ⟨"SlotSeries", "isWithin", "(III)Z"⟩, "SlotSeries"), ("SlotSeries$Reader", 131, ⟨"SlotSeries", "hasBit", "(II)Z"⟩, "SlotSeries"), ("SlotSeries$Reader", 161, ⟨"SlotSeries", "spanBits", "(II)I"⟩, "SlotSeries"), ("SlotSeries$Season", 92, ⟨"SlotSeries", "bitsFrom", "(I)I"⟩, "SlotSeries"), ("SlotSeries$Season", 84, ⟨"SlotSeries", "hasBit", "(II)Z"⟩, "SlotSeries"), ("SlotSeries$Series", 49, ⟨"SlotSeries", "spanBits", "(II)I"⟩, "SlotSeries"), ("SlotSeries$Series", 65, ⟨"SlotSeries", "hasBit", "(II)Z"⟩, "SlotSeries"), ("SlotSeries$Season", 68, ⟨"SlotSeries", "spanBits", "(II)I"⟩, "SlotSeries"), ("SlotSeries$Ask", 39, ⟨"SlotSeries", "spanBits", "(II)I"⟩, "SlotSeries"), ("SlotSeries$Pool", 95, ⟨"SlotSeries", "hasBit", "(II)Z"⟩, "SlotSeries"), ("SlotSeries$Teller", 151, ⟨"SlotSeries", "isLetter", "(I)Z"⟩, "SlotSeries"), ("SlotSeries$Teller", 155, ⟨"SlotSeries", "isDigit", "(I)Z"⟩, "SlotSeries")]

def mFm : String × String × String := ("jdk/internal/util/Preconditions", "SIOOBE_FORMATTER", "Ljava/util/function/BiFunction;")
def mSK (ad : Nat → Nat) (A : Nat → Prop) (U : State) : Prop := va_Z "java/lang/String" "COMPACT_STRINGS" "Z" (.int 1) A U U.heap ∧ (∀ q ∈ mNst, va_Nw (.methodLinkNest q.1 q.2.1 q.2.2.1 q.2.2.2) U) ∧ (∀ (i : Nat) (q : String × Nat × String × List Int32), mS[i]? = some q → vk_R q.1 q.2.1 q.2.2.1 (ad (mSB + i)) U ∧ va_O "java/lang/String" (ad (mSB + i)) A U U.heap ∧ va_OF "java/lang/String" "coder" "B" (.int 0) (ad (mSB + i)) A U U.heap ∧ va_OF "java/lang/String" "value" "[B" (.ref (ad (mSB + 100 + i))) (ad (mSB + i)) A U U.heap ∧ va_T .byte (ad (mSB + 100 + i)) q.2.2.2.length (fun j => .int (q.2.2.2.getD j 0)) A U U.heap) ∧ (va_Z mFm.1 mFm.2.1 mFm.2.2 .null A U U.heap ∨ va_Z mFm.1 mFm.2.1 mFm.2.2 (.ref (ad (mSB + 900))) A U U.heap) ∧ va_AO RX4 U ∧ va_AO RX5 U ∧ va_AO RX0 U
theorem mSK.go {ad : Nat → Nat} {A A' : Nat → Prop} {s U : State} {H : Heap} {locs : List Loc} (h : mSK ad A s) (hS : va_S A s.heap H locs) (hA : ∀ q, A' q → A q) (hH : U.heap = H) (hW : s.WarmedH U.vm) : mSK ad A' U := by
  obtain ⟨h1, h2, h3, h4, h5, h6, h7⟩ := h
  refine ⟨?_, fun q hq => (h2 q hq).warmM hW, fun i q hq => ?_, ?_, h5.moved hW.alike, h6.moved hW.alike, h7.moved hW.alike⟩
  · rw [hH]
    exact ((h1.kept hS.2.1).narrow hA).moved hW.alike
  · obtain ⟨g1, g2, g3, g4, g5⟩ := h3 i q hq
    rw [hH]
    exact ⟨g1.warm hW, ((g2.kept hS.2.1).narrow hA).moved hW.alike, ((g3.kept hS.2.1).narrow hA).moved hW.alike, ((g4.kept hS.2.1).narrow hA).moved hW.alike, ((g5.kept hS.2.1).narrow hA).moved hW.alike⟩
  · rw [hH]
    rcases h4 with h4 | h4
    · exact Or.inl (((h4.kept hS.2.1).narrow hA).moved hW.alike)
    · exact Or.inr (((h4.kept hS.2.1).narrow hA).moved hW.alike)
theorem mSK.same {ad : Nat → Nat} {A : Nat → Prop} {u U : State} (h : mSK ad A u) (hv : U.vm = u.vm) (hh : U.heap = u.heap) : mSK ad A U := by
  have hal : u.vm.Alike U.vm := by rw [hv]; exact Vm.Alike.refl _
  obtain ⟨h1, h2, h3, h4, h5, h6, h7⟩ := h
  refine ⟨?_, fun q hq => (h2 q hq).same rfl hv.symm, fun i q hq => ?_, ?_, h5.moved hal, h6.moved hal, h7.moved hal⟩
  · rw [hh]
    exact h1.moved hal
  · obtain ⟨g1, g2, g3, g4, g5⟩ := h3 i q hq
    rw [hh]
    exact ⟨g1.same hv, g2.moved hal, g3.moved hal, g4.moved hal, g5.moved hal⟩
  · rw [hh]
    rcases h4 with h4 | h4
    · exact Or.inl (h4.moved hal)
    · exact Or.inr (h4.moved hal)
/-- strings lie above all cells -/
theorem mSK.ad {ad ad' : Nat → Nat} {A : Nat → Prop} {U : State} (h : mSK ad A U) (e : ∀ a, mSB ≤ a → ad' a = ad a) : mSK ad' A U := by
  obtain ⟨h1, h2, h3, h4, h5⟩ := h
  refine ⟨h1, h2, fun i q hq => ?_, ?_, h5⟩
  · rw [e (mSB + i) (by omega), e (mSB + 100 + i) (by omega)]
    exact h3 i q hq
  · rw [e (mSB + 900) (by omega)]
    exact h4
/-! the words of the tables that stay -/
def mTb : List Cond := lw_tbl.filter goodWord
theorem mTb_at {w : Cond} (i : Nat) (h : lw_tbl[i]? = some w) (g : goodWord w = true) : w ∈ mTb := List.mem_filter.mpr ⟨List.mem_of_getElem? h, g⟩
theorem mTb_good {ws : List Cond} (h : ∀ w ∈ ws, w ∈ mTb) : GoodIn mTb ws := fun w hw => ⟨h w hw, good_of_word (List.mem_filter.mp (h w hw)).2⟩
/-! a method: its name, code, locals, answer's type, frames and words that it needs -/
abbrev MR : Type := MethodName × ByteArray × Nat × Option FieldType × Nat × Nat
abbrev MP : Type := Option Value → HP → Prop
def mWs (M : MR) : List Cond := Cond.code M.1 M.2.1 M.2.2.1 M.2.2.2.1 :: mTb
def mcv (ad : Nat → Nat) : Value → Value := fun v => match v with
  | .ref a => .ref (ad a)
  | v => v
theorem mcv_cat (ad : Nat → Nat) (v : Value) : (mcv ad v).category = v.category := by cases v <;> rfl
def mAsc (ad : Nat → Nat) (L : List (Option Value)) : List (Nat × Value) := (List.range L.length).filterMap (fun i => (L[i]?).join.map (fun v => (i, mcv ad v)))
def mLoc (ad : Nat → Nat) (nL : Nat) (L : List (Option Value)) (ls : Array Slot) : Prop := lv_has ls nL (mAsc ad L) ∧ ∀ v : Value, some v ∈ L → v.category = 1
theorem mAsc_in {ad : Nat → Nat} {L : List (Option Value)} {i : Nat} {v : Value} (h : L[i]? = some (some v)) : (i, mcv ad v) ∈ mAsc ad L := by
  refine List.mem_filterMap.mpr ⟨i, List.mem_range.mpr (List.getElem?_eq_some_iff.mp h).1, ?_⟩
  rw [h]
  rfl
theorem mAsc_of {ad : Nat → Nat} {L : List (Option Value)} {q : Nat × Value} (h : q ∈ mAsc ad L) : ∃ v : Value, L[q.1]? = some (some v) ∧ q.2 = mcv ad v := by
  obtain ⟨i, -, hi⟩ := List.mem_filterMap.mp h
  cases hL : L[i]? with
  | none => rw [hL] at hi; cases hi
  | some o =>
    cases o with
    | none => rw [hL] at hi; cases hi
    | some v =>
      rw [hL] at hi
      cases hi
      exact ⟨v, hL, rfl⟩
theorem mLoc.at {ad : Nat → Nat} {nL : Nat} {L : List (Option Value)} {ls : Array Slot} (h : mLoc ad nL L ls) {i : Nat} {v : Value} (hi : L[i]? = some (some v)) : ls[i]? = some (.val (mcv ad v)) := h.1.2.2 _ (mAsc_in hi)
/-- a stored value: what the locals hold behind it -/
theorem mLoc.store {ad : Nat → Nat} {nL : Nat} {L : List (Option Value)} {ls ls' : Array Slot} {i : Nat} {v : Value} (h : mLoc ad nL L ls) (hv : v.category = 1) (h' : lv_has ls' nL ((i, mcv ad v) :: (mAsc ad L).filter (fun q => !(q.1 == i) && !(q.1 + 1 == i && q.2.category == 2)))) : mLoc ad nL (L.set i (some v)) ls' := by
  refine ⟨⟨h'.1, h'.2.1, fun q hq => ?_⟩, fun w hw => ?_⟩
  · obtain ⟨w, hw, e⟩ := mAsc_of hq
    obtain ⟨j, qv⟩ := q
    subst e
    by_cases hj : j = i
    · subst hj
      have hl : j < L.length := by
        have := (List.getElem?_eq_some_iff.mp hw).1
        simpa using this
      rw [List.getElem?_set_self hl] at hw
      cases hw
      exact h'.2.2 _ List.mem_cons_self
    · rw [List.getElem?_set_ne (fun e => hj e.symm)] at hw
      refine h'.2.2 _ (List.mem_cons_of_mem _ (List.mem_filter.mpr ⟨mAsc_in hw, ?_⟩))
      have hc := h.2 w (List.mem_of_getElem? hw)
      have hc2 : (mcv ad w).category = 1 := by rw [mcv_cat]; exact hc
      simp [hj, hc2]
  · rcases List.mem_or_eq_of_mem_set hw with q | q
    · exact h.2 w q
    · cases q
      exact hv
/-! a run of a method's body -/
abbrev BT : Type := Program × Launch × Env × Room × State × MethodId × Array Value × List Frame × Method × Code × (State → Prop) × va_G × (Nat → Prop)
/-- the return that fits an answer -/
def mRI (M : MR) (v : Option Value) (pc : Nat) : Prop := match v with
  | none => M.2.2.2.1 = none ∧ decode M.2.1 pc = .ok (.return_, 1)
  | some (.int x) => (∃ ty : FieldType, M.2.2.2.1 = some ty ∧ narrow ty (.int x) = .int x) ∧ decode M.2.1 pc = .ok (.ireturn, 1)
  | some (.ref _) => (∃ nm : String, M.2.2.2.1 = some (.object nm)) ∧ decode M.2.1 pc = .ok (.areturn, 1)
  | some _ => False
def mG (B : BT) (c : Nat × Nat) (ad : Nat → Nat) (nL pc : Nat) (L : List (Option Value)) (st : List Value) (h : HP) : Prop := match B with
  | (p, l, e, R, s, m, args, below, meth, cd, Q, D, A) => ∀ (H : Heap) (locs : List Loc) (ls : Array Slot), mRep D A s ad h H → va_S A s.heap H locs → mLoc ad nL L ls → W p l e R s m args below meth cd H locs c.1 c.2 Q (F0 m pc ls (st.map (mcv ad)))
/-- where a body of M stands, and what its end must give -/
def mCx (B : BT) (c : Nat × Nat) (ad : Nat → Nat) (M : MR) (P : MP) : Prop := match B with
  | (p, l, e, R, s, m, args, below, meth, cd, Q, D, A) => p.tables.exec = Jvm.exec ∧ cd.code = M.2.1 ∧ cd.maxLocals = M.2.2.1 ∧ s.vm.findClass M.1.cls = some m.cls ∧ (∀ w ∈ mTb, w.before args s = true) ∧ va_K D vwCl [] s ∧ (∀ q, s.heap.size ≤ q → A q) ∧ (M.2.2.2.2.1 ≤ R.frames ∧ M.2.2.2.2.2 ≤ R.locals ∧ c.1 ≤ R.cells ∧ c.2 ≤ R.slots) ∧ mSK ad A s ∧ meth.name = M.1.name ∧
    ∀ (v : Option Value) (h : HP) (H : Heap) (locs : List Loc) (ls : Array Slot) (pc : Nat), P v h → mRep D A s ad h H → va_S A s.heap H locs → mRI M v pc → W p l e R s m args below meth cd H locs c.1 c.2 Q (F0 m pc ls ((v.map (mcv ad)).toList))
/-- from here on the body of M ends with P -/
def mGM (M : MR) (pc : Nat) (L : List (Option Value)) (st : List Value) (h : HP) (P : MP) : Prop := ∀ (B : BT) (c : Nat × Nat) (ad : Nat → Nat), mCx B c ad M P → mG B c ad M.2.2.1 pc L st h
/-! a whole method -/
def mPH (D : va_G) (ad : Nat → Nat) (h : HP) (sz : Nat) : State → Prop := fun U => U.heap.size = sz ∧ mRep D (fun _ => True) U ad h U.heap ∧ va_K D vwCl [] U ∧ mSK ad (mAH ad h sz) U
def mQH (D : va_G) (ad : Nat → Nat) (h : HP) (sz : Nat) (P : MP) : Array Value → State → Outcome → State → Prop := fun _ st o t => (∃ (v : Option Value) (h' : HP), o = .returned (v.map (mcv ad)) ∧ P v h' ∧ mRep D (mAH ad h sz) t ad h' t.heap) ∧ va_F (mAH ad h sz) st t
def mSp (M : MR) (a : List Value) (h : HP) (P : MP) : Prop := ∀ (l : Launch) (D : va_G) (ad : Nat → Nat) (sz : Nat), Met l M.1 (mWs M) ({ frames := M.2.2.2.2.1, cells := 0, slots := 0, locals := M.2.2.2.2.2 }) (va_Pc (a.map (mcv ad)) (mPH D ad h sz)) (mQH D ad h sz P) 0 0 (mAH ad h sz)
def mEnL (a : List Value) (nL : Nat) : List (Option Value) := a.map some ++ List.replicate (nL - a.length) none
theorem mLoc_entry {ad : Nat → Nat} {a : List Value} {nL : Nat} (hc : ∀ v ∈ a, v.category = 1) (hn : a.length ≤ nL) : mLoc ad nL (mEnL a nL) ((lg_sl (a.map (mcv ad)) ++ List.replicate (nL - (lg_sl (a.map (mcv ad))).length) Slot.unset).toArray) := by
  have hsl : ∀ a : List Value, (∀ v ∈ a, v.category = 1) → lg_sl (a.map (mcv ad)) = a.map (fun v => Slot.val (mcv ad v)) := by
    intro a
    induction a with
    | nil => intro _; rfl
    | cons v a ih =>
      intro h
      have h1 : (mcv ad v).category = 1 := by rw [mcv_cat]; exact h v List.mem_cons_self
      have h2 := ih (fun w hw => h w (List.mem_cons_of_mem _ hw))
      simp only [lg_sl, List.map_cons, List.flatMap_cons] at h2 ⊢
      rw [h2, if_neg (by omega)]
      rfl
  have hlen : (lg_sl (a.map (mcv ad))).length = a.length := by rw [hsl a hc]; simp
  have h0 := lv_entry (a.map (mcv ad)) (n := nL) (by omega)
  refine ⟨⟨h0.1, h0.2.1, fun q hq => ?_⟩, fun v hv => ?_⟩
  · obtain ⟨v, hv, e⟩ := mAsc_of hq
    obtain ⟨i, qv⟩ := q
    subst e
    simp only [mEnL] at hv
    have hi : i < a.length := by
      rcases Nat.lt_or_ge i a.length with q | q
      · exact q
      · rw [List.getElem?_append_right (by simpa using q)] at hv
        have := List.eq_of_mem_replicate (List.mem_of_getElem? hv)
        cases this
    rw [List.getElem?_append_left (by simpa using hi)] at hv
    simp only [List.getElem?_map] at hv
    rw [hsl a hc]
    simp only [List.getElem?_toArray]
    rw [List.getElem?_append_left (by simpa using hi)]
    simp only [List.getElem?_map]
    cases hx : a[i]? with
    | none => rw [hx] at hv; cases hv
    | some w =>
      rw [hx] at hv
      simp only [Option.map_some] at hv ⊢
      have : w = v := by injection hv with z; injection z
      rw [this]
  · simp only [mEnL, List.mem_append, List.mem_map] at hv
    rcases hv with ⟨w, h1, h2⟩ | h1
    · cases h2
      exact hc _ h1
    · have := List.eq_of_mem_replicate h1
      cases this
/-- a body's end gives a method's contract -/
theorem mSp_of {M : MR} {a : List Value} {h : HP} {P : MP} (hp : plainName M.1.cls = true) (hc : ∀ v ∈ a, v.category = 1) (hn : a.length ≤ M.2.2.1) (k : mGM M 0 (mEnL a M.2.2.1) [] h P) : mSp M a h P := by
  intro l D ad sz
  obtain ⟨y, cc, nL, ret, fr, lo⟩ := M
  refine Met.ofW (cc := cc) (maxL := nL) (ret := ret) hp rfl ?_
  intro p e s m args below meth c s₁ B hml hv
  obtain ⟨rfl, hsz, hR, hK, hS⟩ := hv
  have hlocks := B.notSynchronized
  subst hsz
  have hts := atoms_spec (ws := mWs (y, cc, nL, ret, fr, lo)) B.pre
  rw [lg_entry_eq]
  refine k (p, l, e, (headSpec (mWs (y, cc, nL, ret, fr, lo)) ({ frames := fr, cells := 0, slots := 0, locals := lo })).room, s, m, (a.map (mcv ad)).toArray, below, meth, c, MQ below (mQH D ad h s.heap.size P) (a.map (mcv ad)).toArray s 0 0 (mAH ad h s.heap.size), D, mAH ad h s.heap.size) (0, 0) ad
    ⟨B.exec, B.bytes, hml, findClass_of_methodNamed B.named, fun w hw => hts w (List.mem_cons_of_mem _ hw), hK, fun q hq => Or.inr hq, ⟨Nat.le_refl _, Nat.le_refl _, Nat.zero_le _, Nat.zero_le _⟩, hS, (name_of_methodNamed B.named B.method).1, ?_⟩ s.heap [] _ (hR.self _) va_S.rf (mLoc_entry hc hn)
  intro v h' H locs ls pc hP hR' hS' hri
  cases v with
  | none =>
    exact W.vret B.exec B.bytes (B.returns.trans hri.1) (fun t ht hW => ⟨⟨none, h', rfl, hP, by rw [ht]; exact hR'.moved hW.alike⟩, hS'.F ht⟩) hS'.2.2 hri.2
  | some v =>
    cases v with
    | int x =>
      obtain ⟨⟨ty, h1, h2⟩, h3⟩ := hri
      exact W.zret B.exec B.bytes (B.returns.trans h1) h2 (fun t ht hW => ⟨⟨some (.int x), h', rfl, hP, by rw [ht]; exact hR'.moved hW.alike⟩, hS'.F ht⟩) hS'.2.2 h3
    | ref x =>
      obtain ⟨⟨nm, h1⟩, h3⟩ := hri
      exact W.aret B.exec B.bytes (B.returns.trans h1) (Or.inl ⟨nm, rfl⟩) (Or.inr ⟨_, rfl⟩) (fun t ht hW => ⟨⟨some (.ref x), h', rfl, hP, by rw [ht]; exact hR'.moved hW.alike⟩, hS'.F ht⟩) hS'.2.2 h3
    | _ => exact absurd hri (fun z => z)
theorem mSp_mono {M : MR} {a : List Value} {h : HP} {P P' : MP} (k : mSp M a h P) (hP : ∀ v h', P v h' → P' v h') : mSp M a h P' := by
  intro l D ad sz p e ha hc hk s m args below hf happ hpre hz
  obtain ⟨k2, o, h1, h2, h3, ⟨⟨v, h', e1, e2, e3⟩, e4⟩, e5⟩ := k l D ad sz p e ha hc hk s m args below hf happ hpre hz
  exact ⟨k2, o, h1, h2, h3, ⟨⟨v, h', e1, hP v h' e2, e3⟩, e4⟩, e5⟩

