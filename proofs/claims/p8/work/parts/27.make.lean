/-! methods that make cells -/
def mQN (D : va_G) (ad : Nat → Nat) (h : HP) (sz : Nat) (P : HP → Prop) : Array Value → State → Outcome → State → Prop := fun _ st o t => (∃ (h' : HP) (ad' : Nat → Nat), o = .returned none ∧ P h' ∧ (∀ a, a < h.1 ∨ mSB ≤ a → ad' a = ad a) ∧ mRep D (mAH ad h sz) t ad' h' t.heap) ∧ va_F (mAH ad h sz) st t
def mRmN (N : MR) (mc ms : Nat) : Room := { frames := N.2.2.2.2.1, cells := mc, slots := ms, locals := N.2.2.2.2.2 }
def mSpN (N : MR) (a : List Value) (h : HP) (mc ms : Nat) (P : HP → Prop) : Prop := ∀ (l : Launch) (D : va_G) (ad : Nat → Nat) (sz : Nat), Met l N.1 (mWs N) (mRmN N mc ms) (va_Pc (a.map (mcv ad)) (mPH D ad h sz)) (mQN D ad h sz P) mc ms (mAH ad h sz)
theorem mSpN_mono {M : MR} {a : List Value} {h : HP} {mc ms : Nat} {P P' : HP → Prop} (k : mSpN M a h mc ms P) (hP : ∀ h', P h' → P' h') : mSpN M a h mc ms P' := by
  intro l D ad sz p e ha hc hk s m args below hf happ hpre hz
  obtain ⟨k2, o, h1, h2, h3, ⟨⟨h', ad', e1, e2, e3⟩, e4⟩, e5⟩ := k l D ad sz p e ha hc hk s m args below hf happ hpre hz
  exact ⟨k2, o, h1, h2, h3, ⟨⟨h', ad', e1, hP h' e2, e3⟩, e4⟩, e5⟩
/-- a method that makes none -/
theorem mSpN_0 {M : MR} {a : List Value} {h : HP} {P : HP → Prop} (k : mSp M a h (fun v h' => v = none ∧ P h')) : mSpN M a h 0 0 P := by
  intro l D ad sz p e ha hc hk s m args below hf happ hpre hz
  obtain ⟨k2, o, h1, h2, h3, ⟨⟨v, h', e1, ⟨rfl, e2⟩, e3⟩, e4⟩, e5⟩ := k l D ad sz p e ha hc hk s m args below hf happ hpre hz
  exact ⟨k2, o, h1, h2, h3, ⟨⟨h', ad, e1, e2, fun _ _ => rfl, e3⟩, e4⟩, e5⟩
theorem mSpN_of {M : MR} {a : List Value} {h : HP} {mc ms : Nat} {P : HP → Prop} (hp : plainName M.1.cls = true) (hcat : ∀ v ∈ a, v.category = 1) (hn : a.length ≤ M.2.2.1) (hret : M.2.2.2.1 = none)
    (k : ∀ (B : BT) (ad : Nat → Nat), mCx B (0, 0) ad M FF → B.2.2.2.1.cells = mc → B.2.2.2.1.slots = ms → (∀ (ad' : Nat → Nat) (h' : HP) (pc : Nat) (L : List (Option Value)), P h' → (∀ a, a < h.1 ∨ mSB ≤ a → ad' a = ad a) → decode M.2.1 pc = .ok (.return_, 1) → mG B (mc, ms) ad' M.2.2.1 pc L [] h') → mG B (0, 0) ad M.2.2.1 0 (mEnL a M.2.2.1) [] h) : mSpN M a h mc ms P := by
  intro l D ad sz
  obtain ⟨y, cc, nL, ret, fr, lo⟩ := M
  refine Met.ofW (cc := cc) (maxL := nL) (ret := ret) hp rfl ?_
  intro p e s m args below meth c s₁ B hml hv
  obtain ⟨rfl, hsz, hR, hK, hS⟩ := hv
  have hlocks := B.notSynchronized
  subst hsz
  have hts := atoms_spec (ws := mWs (y, cc, nL, ret, fr, lo)) B.pre
  rw [lg_entry_eq]
  refine k (p, l, e, (headSpec (mWs (y, cc, nL, ret, fr, lo)) (mRmN (y, cc, nL, ret, fr, lo) mc ms)).room, s, m, (a.map (mcv ad)).toArray, below, meth, c, MQ below (mQN D ad h s.heap.size P) (a.map (mcv ad)).toArray s mc ms (mAH ad h s.heap.size), D, mAH ad h s.heap.size) ad
    ⟨B.exec, B.bytes, hml, findClass_of_methodNamed B.named, fun w hw => hts w (List.mem_cons_of_mem _ hw), hK, fun q hq => Or.inr hq, ⟨Nat.le_refl _, Nat.le_refl _, Nat.zero_le _, Nat.zero_le _⟩, hS, (name_of_methodNamed B.named B.method).1, fun _ _ _ _ _ _ z => absurd z (fun z => z)⟩ rfl rfl ?_ s.heap [] _ (hR.self _) va_S.rf (mLoc_entry hcat hn)
  intro ad' h' pc L hP had hd H locs ls hR' hS' hl
  exact W.vret B.exec B.bytes (B.returns.trans hret) (fun t ht hW => ⟨⟨h', ad', rfl, hP, had, by rw [ht]; exact hR'.moved hW.alike⟩, hS'.F ht⟩) hS'.2.2 hd
section MCN
variable {p : Program} {l : Launch} {e : Env} {R : Room} {s : State} {m : MethodId} {args : Array Value} {below : List Frame} {meth : Method} {cd : Code} {H : Heap} {locs : List Loc} {cells slots : Nat} {Q : State → Prop}
theorem mContN {D : va_G} {A : Nat → Prop} {ad : Nat → Nat} {h : HP} {P' : HP → Prop} {mc ms : Nat} {av : Array Value} {pc : Nat} {ls : Array Slot} {st0 rest : List Value} (hr : va_Run p l e R s m args below meth cd H locs cells slots mc ms (F0 m pc ls st0) rest (mQN D ad h H.size P' av) (mAH ad h H.size)) (hS : va_S A s.heap H locs) (hA : ∀ q, mAH ad h H.size q → A q)
    (kk : ∀ (h' : HP) (ad' : Nat → Nat) (H1 : Heap) (locs1 : List Loc), P' h' → (∀ a, a < h.1 ∨ mSB ≤ a → ad' a = ad a) → mRep D A s ad' h' H1 → va_S A s.heap H1 locs1 → W p l e R s m args below meth cd H1 locs1 (cells + mc) (slots + ms) Q (F0 m (pc + 3) ls rest)) : W p l e R s m args below meth cd H locs cells slots Q (F0 m pc ls st0) := by
  intro T hT X
  obtain ⟨v, st₀, t, T', L, h0, X', hL, e1, e2, ⟨⟨h', ad', hv, hp, had, hb⟩, hz, hk⟩, st⟩ := hr T hT X
  cases hv
  rw [h0] at hz hk
  have hal : s.vm.Alike t.vm := by rw [← e2]; exact X'.warmed.alike
  obtain ⟨t2, a1, b1⟩ := kk h' ad' T'.heap (locs ++ L) hp had (by rw [e1]; exact (hb.moved hal.symm).weaken hA)
    ⟨Nat.le_trans hS.1 (by rw [e1]; exact hz), fun q h1 h2 => by rw [e1, hk q (Nat.lt_of_lt_of_le h1 hS.1) (fun z => h2 (hA q z))]; exact hS.2.1 q h1 h2, fun q hq => by
      rcases List.mem_append.mp hq with h | h
      · exact hS.2.2 q h
      · exact hA _ (hL q h)⟩ T' rfl X'
  exact ⟨t2, st t2 a1, b1⟩
end MCN
section MCI
variable {B : BT} {c : Nat × Nat} {ad : Nat → Nat} {M : MR} {P : MP} {pc : Nat} {L : List (Option Value)} {st : List Value} {h : HP}
theorem g_callI (N : MR) {idx a mc ms : Nat} (X : mCx B c ad M P) (d : decode M.2.1 pc = .ok (.invokespecial idx, 3)) (hl : Cond.methodLink M.1.cls idx N.1 ∈ mTb ∨ ∃ host, (M.1.cls, idx, N.1, host) ∈ mNst) (hi : Cond.instanceMethod N.1 ∈ mTb) (mo : mMo N 0) (hnm : N.1.name = "<init>") (hret : N.2.2.2.1 = none) (hR : N.2.2.2.2.1 + 1 ≤ M.2.2.2.2.1 ∧ 8 + (N.2.2.1 + 11) + N.2.2.2.2.2 ≤ M.2.2.2.2.2) (hst : (st.map fun v => v.category).sum ≤ 8) (hc : c.1 + mc ≤ B.2.2.2.1.cells ∧ c.2 + ms ≤ B.2.2.2.1.slots) (hL : ∀ b, some (.ref b) ∈ L → b < h.1 ∨ mSB ≤ b) (hS : ∀ b, Value.ref b ∈ st → b < h.1 ∨ mSB ≤ b)
    (k : mSpN N [.ref a] h mc ms (fun h' => ∀ ad', (∀ b, b < h.1 ∨ mSB ≤ b → ad' b = ad b) → mG B (c.1 + mc, c.2 + ms) ad' M.2.2.1 (pc + 3) L st h')) : mG B c ad M.2.2.1 pc L (.ref a :: st) h := by
  obtain ⟨p, l, e0, R, s, m, args, below, meth, cd, Q, D, A⟩ := B
  intro H locs ls h1 h2 h3
  obtain ⟨x1, x2, x3, x4, x5, x6, x7, ⟨x8, x9, x10, x11⟩, x12, x13, -⟩ := X
  obtain ⟨y, cc, nL, ret, fr, lo⟩ := N
  have hret : ret = none := hret
  subst hret
  have hA := h1.free h2 x7
  have hM := k l D ad H.size
  have hpre : PreS s H (va_Pc ([Value.ref a].map (mcv ad)) (mPH D ad h H.size)) (.ref (ad a) :: []) := ⟨mBlind, fun U hU hW => ⟨rfl, by rw [hU], by rw [hU]; exact (h1.weaken (fun _ _ => trivial)).moved hW.alike, va_K.moved hW.alike x6, x12.go h2 hA hU hW⟩⟩
  have fin : ∀ (h' : HP) (ad' : Nat → Nat) (H1 : Heap) (locs1 : List Loc), (∀ ad', (∀ b, b < h.1 ∨ mSB ≤ b → ad' b = ad b) → mG (p, l, e0, R, s, m, args, below, meth, cd, Q, D, A) (c.1 + mc, c.2 + ms) ad' M.2.2.1 (pc + 3) L st h') → (∀ a, a < h.1 ∨ mSB ≤ a → ad' a = ad a) → mRep D A s ad' h' H1 → va_S A s.heap H1 locs1 → W p l e0 R s m args below meth cd H1 locs1 (c.1 + mc) (c.2 + ms) Q (F0 m (pc + 3) ls (st.map (mcv ad))) := by
    intro h' ad' H1 locs1 q1 q2 q3 q4
    have := q1 ad' q2 H1 locs1 ls q3 q4 (h3.ad (fun b hb => q2 b (hL b hb)))
    rwa [mSt_ad (fun b hb => q2 b (hS b hb))] at this
  rcases hl with hl | ⟨host, hl⟩
  · have cw : CallB R s args M.1.cls idx y cc nL none (mWs (y, cc, nL, none, fr, lo)) (mRmN (y, cc, nL, none, fr, lo) mc ms) mc ms 0 ∧ y.name = "<init>" ∧ (Cond.instanceMethod y).before args s = true := ⟨callB_of 0 x5 (mGoodWs mo.2.1) rfl rfl rfl (x5 _ mo.1) (x5 _ hl) ⟨mo.2.2.1.1, mo.2.2.1.2, mo.2.2.2⟩ ⟨Nat.le_trans hR.1 x8, Nat.le_trans hR.2 x9⟩, hnm, x5 _ hi⟩
    exact mContN (rest := st.map (mcv ad)) (va_runI (As := []) (rm := mRmN (y, cc, nL, none, fr, lo) mc ms) ⟨x1, x2, x3, x4, x5⟩ hM cw hpre rfl rfl h3.1.1 rfl (lv_room (by rw [mCats]; exact hst)) d hc) h2 hA fin
  · have cw : va_CN R s args M.1.cls idx y host cc nL none (mWs (y, cc, nL, none, fr, lo)) (mRmN (y, cc, nL, none, fr, lo) mc ms) mc ms 0 ∧ y.name = "<init>" ∧ (Cond.instanceMethod y).before args s = true := ⟨va_cnB 0 x5 (mGoodWs mo.2.1) rfl rfl rfl (x12.2.1 _ hl) (x5 _ mo.1) ⟨mo.2.2.1.1, mo.2.2.1.2, mo.2.2.2⟩ ⟨Nat.le_trans hR.1 x8, Nat.le_trans hR.2 x9⟩, hnm, x5 _ hi⟩
    exact mContN (rest := st.map (mcv ad)) (va_runIN (As := []) (rm := mRmN (y, cc, nL, none, fr, lo) mc ms) ⟨x1, x2, x3, x4, x5⟩ hM cw hpre rfl rfl h3.1.1 rfl (lv_room (by rw [mCats]; exact hst)) d hc) h2 hA fin
end MCI
