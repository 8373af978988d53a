/-! making cells -/
def nw (h : HP) (q : Nat × Nat) : HP := (h.1 + 1, fun a => if a = h.1 then q else h.2.1 a, fun a k => if a = h.1 then 0 else h.2.2.1 a k, fun a k => if a = h.1 then none else h.2.2.2 a k)
def WFh (h : HP) : Prop := ∀ a k b, rR h a k = some b → b < h.1
def adN {α : Type} (ad : Nat → α) (n : Nat) (q : α) : Nat → α := fun a => if a = n then q else ad a
theorem adN_s {α : Type} (ad : Nat → α) (n : Nat) (q : α) : adN ad n q n = q := if_pos rfl
theorem adN_n {α : Type} (ad : Nat → α) {n a : Nat} (q : α) (h : a ≠ n) : adN ad n q a = ad a := if_neg h
theorem kd_nw (h : HP) (q : Nat × Nat) : kd (nw h q) h.1 = some q := by
  unfold kd
  rw [if_pos (show h.1 < (nw h q).1 from Nat.lt_succ_self _)]
  exact congrArg some (if_pos rfl)
def FF : MP := fun _ _ => False
theorem mEnt_nw {ad ad' : Nat → Nat} {ca ca' : Nat → ClassId} {h : HP} {q : Nat × Nat} {a : Nat} (hw : WFh h) (ha : a < h.1) (e : ∀ a, a ≠ h.1 → ad' a = ad a) (ec : ca' a = ca a) : mEnt ad' ca' (nw h q) a = mEnt ad ca h a := by
  have hne : ¬ a = h.1 := by omega
  have e1 : (nw h q).2.1 a = h.2.1 a := if_neg hne
  have e2 : rI (nw h q) a = rI h a := by funext k; exact if_neg hne
  have e3 : ∀ k, (rR (nw h q) a k).map ad' = (rR h a k).map ad := by
    intro k
    have : rR (nw h q) a k = rR h a k := if_neg hne
    rw [this]
    cases hb : rR h a k with
    | none => rfl
    | some b =>
      have := hw a k b hb
      show some (ad' b) = some (ad b)
      rw [e b (by omega)]
  have e4 : ∀ ci, mfv ad' (nw h q) ci a = mfv ad h ci a := by
    intro ci
    funext k
    unfold mfv
    rw [e2, e3]
  unfold mEnt
  rw [e1, e2, e4, ec]
  congr 1
  congr 1
  congr 7
  funext k
  exact e3 k
theorem mWl_nw {ad ad' : Nat → Nat} {ca ca' : Nat → ClassId} {h : HP} {q : Nat × Nat} (hw : WFh h) (e : ∀ a, a ≠ h.1 → ad' a = ad a) (ec : ∀ a, a ≠ h.1 → ca' a = ca a) : mWl ad' ca' (nw h q) = mWl ad ca h ++ [(ad' h.1, mEnt ad' ca' (nw h q) h.1)] := by
  unfold mWl
  show (List.range (h.1 + 1)).map _ = _
  rw [List.range_succ, List.map_append]
  congr 1
  apply List.map_congr_left
  intro a ha
  have ha := List.mem_range.mp ha
  rw [e a (by omega), mEnt_nw hw ha e (ec a (by omega))]
theorem mcv_ad {ad ad' : Nat → Nat} {v : Value} (h : ∀ b, v = .ref b → ad' b = ad b) : mcv ad' v = mcv ad v := by
  cases v with
  | ref b => show Value.ref _ = Value.ref _; rw [h b rfl]
  | _ => rfl
theorem mLoc.ad {ad ad' : Nat → Nat} {nL : Nat} {L : List (Option Value)} {ls : Array Slot} (h : mLoc ad nL L ls) (e : ∀ b, some (.ref b) ∈ L → ad' b = ad b) : mLoc ad' nL L ls := by
  refine ⟨⟨h.1.1, h.1.2.1, fun q hq => ?_⟩, h.2⟩
  obtain ⟨v, hv, eq⟩ := mAsc_of hq
  obtain ⟨i, w⟩ := q
  subst eq
  rw [mcv_ad (fun b hb => e b (by subst hb; exact List.mem_of_getElem? hv))]
  exact h.at hv
theorem mSt_ad {ad ad' : Nat → Nat} {st : List Value} (e : ∀ b, Value.ref b ∈ st → ad' b = ad b) : st.map (mcv ad') = st.map (mcv ad) := by
  apply List.map_congr_left
  intro v hv
  exact mcv_ad (fun b hb => e b (by subst hb; exact hv))
theorem mCx_ad {B : BT} {c c' : Nat × Nat} {ad ad' : Nat → Nat} {M : MR} {P : MP} (X : mCx B c ad M P) (hc : c'.1 ≤ B.2.2.2.1.cells ∧ c'.2 ≤ B.2.2.2.1.slots) (e : ∀ a, mSB ≤ a → ad' a = ad a) : mCx B c' ad' M FF := by
  obtain ⟨p, l, e0, R, s, m, args, below, meth, cd, Q, D, A⟩ := B
  obtain ⟨x1, x2, x3, x4, x5, x6, x7, ⟨x8, x9, x10, x11⟩, x12, x13, -⟩ := X
  exact ⟨x1, x2, x3, x4, x5, x6, x7, ⟨x8, x9, hc.1, hc.2⟩, x12.ad e, x13, fun _ _ _ _ _ _ z => absurd z (fun z => z)⟩
section MAL
variable {B : BT} {c : Nat × Nat} {ad : Nat → Nat} {M : MR} {P : MP} {pc : Nat} {L : List (Option Value)} {st : List Value} {h : HP}
theorem g_new {ci i : Nat} (X : mCx B c ad M P) (d : decode M.2.1 pc = .ok (.new i, 3)) (hl : Cond.classLink M.1.cls i (mCn ci) ∈ mTb) (hi : Cond.instantiable (mCn ci) (mNF ci) ∈ mTb) (hn : Cond.initialized (mCn ci) ∈ mTb) (hci : ci < 9) (hw : WFh h) (hsb : h.1 < mSB) (hL : ∀ b, some (.ref b) ∈ L → b ≠ h.1) (hS : ∀ b, Value.ref b ∈ st → b ≠ h.1) (hc : c.1 + 1 ≤ B.2.2.2.1.cells ∧ c.2 + mNF ci ≤ B.2.2.2.1.slots)
    (k : ∀ ad', (∀ a, a ≠ h.1 → ad' a = ad a) → mG B (c.1 + 1, c.2 + mNF ci) ad' M.2.2.1 (pc + 3) L (.ref h.1 :: st) (nw h (ci, 0))) : mG B c ad M.2.2.1 pc L st h := by
  obtain ⟨p, l, e0, R, s, m, args, below, meth, cd, Q, D, A⟩ := B
  intro H locs ls h1 h2 h3
  obtain ⟨x1, x2, x3, x4, x5, x6, x7, ⟨x8, x9, x10, x11⟩, x12, x13, -⟩ := X
  obtain ⟨ca, hP, hD, hT⟩ := h1
  have hfs : ∀ j, j < mNF ci → defaultValue (mTy ci j) = vp_V ((List.range (mNF ci)).map (mfv ad (nw h (ci, 0)) ci h.1)) j := by
    intro j hj
    have e1 : rI (nw h (ci, 0)) h.1 j = 0 := if_pos rfl
    have e2 : rR (nw h (ci, 0)) h.1 j = none := if_pos rfl
    unfold vp_V
    rw [List.getD_eq_getElem?_getD, mfs_at hj]
    show _ = mfv ad (nw h (ci, 0)) ci h.1 j
    unfold mfv
    rw [e1, e2]
    have hty : ∀ ci, ci < 9 → ∀ j, j < mNF ci → defaultValue (mTy ci j) = if mIs (mTy ci j) = true then .int 0 else va_rf none := by decide +kernel
    exact hty ci hci j hj
  refine va_new (cl := vwCl) (ci := ci) (fs := (List.range (mNF ci)).map (mfv ad (nw h (ci, 0)) ci h.1)) x1 x2 x5 (mIn hci) (mTy ci) (mTyOk hci) x4 (x5 _ hl) (x5 _ hi) (x5 _ hn) x6 hP hD h2 x7 (mCl_at hci) hfs hc.1 hc.2 d (fun q H1 q1 q2 q3 => ?_)
  have ead : ∀ a, a ≠ h.1 → (adN ad h.1 q) a = ad a := fun a ha => adN_n _ _ ha
  have k1 := k (adN ad h.1 q) ead
  have hent : mEnt (adN ad h.1 q) ca (nw h (ci, 0)) h.1 = .inr (ci, (List.range (mNF ci)).map (mfv ad (nw h (ci, 0)) ci h.1)) := by
    have hkd := kd_nw h (ci, 0)
    rw [mEnt_obj hkd hci]
    congr 3
    funext j
    unfold mfv
    rw [show rR (nw h (ci, 0)) h.1 j = none from if_pos rfl]
    rfl
  have hWl := mWl_nw (ad := ad) (ad' := adN ad h.1 q) (ca := ca) (ca' := ca) (q := (ci, 0)) hw ead (fun _ _ => rfl)
  rw [hent, adN_s] at hWl
  rw [← hWl] at q1 q2
  have := k1 H1 locs ls ⟨ca, q1, q2, fun a ha h9 => ?_⟩ q3 (h3.ad (fun b hb => ead b (hL b hb)))
  · rw [List.map_cons, mSt_ad (fun b hb => ead b (hS b hb)), show mcv (adN ad h.1 q) (.ref h.1) = .ref q by show Value.ref _ = _; rw [adN_s]] at this
    exact this
  · have ha : a < h.1 + 1 := ha
    by_cases hq : a = h.1
    · have : (nw h (ci, 0)).2.1 a = (ci, 0) := if_pos hq
      rw [this] at h9
      exact absurd h9 (by show ¬ 9 ≤ ci; omega)
    · have e9 : (nw h (ci, 0)).2.1 a = h.2.1 a := if_neg hq
      rw [e9] at h9 ⊢
      exact hT a (by omega) h9
theorem mRep_arr {D : va_G} {A : Nat → Prop} {s : State} {ca : Nat → ClassId} {H1 : Heap} {q cA kn N : Nat} {a0 : vp_A} (hw : WFh h) (hT : ∀ a, a < h.1 → 9 ≤ (h.2.1 a).1 → ArrOfT s (ca a) (mAty (h.2.1 a).1) ∧ va_RA s (ca a) (mAty (h.2.1 a).1)) (hk : ¬ kn < 9) (ha : (kn < 22 ∧ a0 = (N, .inl (fun _ => 0))) ∨ (¬ kn < 22 ∧ a0 = (N, .inr (.inr (.inr (.inr (fun _ => none))))))) (hA : ArrOfT s cA (mAty kn) ∧ va_RA s cA (mAty kn)) (q1 : va_P D vwCl (mWl ad ca h ++ [(q, .inl (cA, a0))]) H1) (q2 : va_D A (mWl ad ca h ++ [(q, .inl (cA, a0))])) : mRep D A s (adN ad h.1 q) (nw h (kn, N)) H1 := by
  have ead : ∀ a, a ≠ h.1 → (adN ad h.1 q) a = ad a := fun a ha => adN_n _ _ ha
  have hkd := kd_nw h (kn, N)
  have hWl := mWl_nw (ad := ad) (ad' := adN ad h.1 q) (ca := ca) (ca' := adN ca h.1 cA) (q := (kn, N)) hw ead (fun a ha => adN_n _ _ ha)
  have hent : mEnt (adN ad h.1 q) (adN ca h.1 cA) (nw h (kn, N)) h.1 = .inl (cA, a0) := by
    rcases ha with ⟨h22, rfl⟩ | ⟨h22, rfl⟩
    · rw [mEnt_int hkd hk h22, adN_s]
      congr 4
      funext k
      exact if_pos rfl
    · rw [mEnt_ref hkd h22, adN_s]
      congr 7
      funext k
      rw [show rR (nw h (kn, N)) h.1 k = none from if_pos rfl]
      rfl
  rw [hent, adN_s] at hWl
  refine ⟨adN ca h.1 cA, by rw [hWl]; exact q1, by rw [hWl]; exact q2, fun a ha h9 => ?_⟩
  have ha : a < h.1 + 1 := ha
  by_cases hq : a = h.1
  · have e9 : (nw h (kn, N)).2.1 a = (kn, N) := if_pos hq
    rw [e9, show adN ca h.1 cA a = cA from if_pos hq]
    exact hA
  · have e9 : (nw h (kn, N)).2.1 a = h.2.1 a := if_neg hq
    rw [e9] at h9 ⊢
    rw [show adN ca h.1 cA a = ca a from if_neg hq]
    exact hT a (by omega) h9
theorem va_K_last {D : va_G} {s : State} {cA : ClassId} {ty : FieldType} (hK : va_K D vwCl ([] ++ [(cA, ty)]) s) : ArrOfT s cA ty ∧ va_RA s cA ty := hK.2 0 (cA, ty) rfl
theorem g_newa {at9 : ArrayType} {kn N : Nat} {v : Int32} (X : mCx B c ad M P) (d : decode M.2.1 pc = .ok (.newarray at9, 2)) (hat : (at9 = .int ∧ kn = 20) ∨ (at9 = .byte ∧ kn = 21)) (hwd : Cond.arrayClass (newarray.typeOf at9) ∈ mTb) (hv : v = nI N) (hN : N ≤ 100000) (hw : WFh h) (hsb : h.1 < mSB) (hL : ∀ b, some (.ref b) ∈ L → b ≠ h.1) (hS : ∀ b, Value.ref b ∈ st → b ≠ h.1) (hc : c.1 + 1 ≤ B.2.2.2.1.cells ∧ c.2 + N ≤ B.2.2.2.1.slots)
    (k : ∀ ad', (∀ a, a ≠ h.1 → ad' a = ad a) → mG B (c.1 + 1, c.2 + N) ad' M.2.2.1 (pc + 2) L (.ref h.1 :: st) (nw h (kn, N))) : mG B c ad M.2.2.1 pc L (.int v :: st) h := by
  obtain ⟨p, l, e0, R, s, m, args, below, meth, cd, Q, D, A⟩ := B
  intro H locs ls h1 h2 h3
  obtain ⟨x1, x2, x3, x4, x5, x6, x7, ⟨x8, x9, x10, x11⟩, x12, x13, -⟩ := X
  obtain ⟨ca, hP, hD, hT⟩ := h1
  have ead : ∀ q, ∀ a, a ≠ h.1 → (adN ad h.1 q) a = ad a := fun q a ha => adN_n _ _ ha
  have fin : ∀ (q : Nat) (cA : ClassId) (H1 : Heap) (a0 : vp_A), a0 = (N, .inl (fun _ => 0)) → ¬ kn < 9 → kn < 22 → ArrOfT s cA (mAty kn) ∧ va_RA s cA (mAty kn) → va_P D vwCl (mWl ad ca h ++ [(q, .inl (cA, a0))]) H1 → va_D A (mWl ad ca h ++ [(q, .inl (cA, a0))]) → va_S A s.heap H1 locs → W p l e0 R s m args below meth cd H1 locs (c.1 + 1) (c.2 + N) Q (F0 m (pc + 2) ls (.ref q :: st.map (mcv ad))) := by
    intro q cA H1 a0 ea h9 h22 hA q1 q2 q3
    have := k (adN ad h.1 q) (ead q) H1 locs ls (mRep_arr hw hT h9 (Or.inl ⟨h22, ea⟩) hA q1 q2) q3 (h3.ad (fun b hb => ead q b (hL b hb)))
    rw [List.map_cons, mSt_ad (fun b hb => ead q b (hS b hb)), show mcv (adN ad h.1 q) (.ref h.1) = .ref q by show Value.ref _ = _; rw [adN_s]] at this
    exact this
  subst hv
  rcases hat with ⟨rfl, rfl⟩ | ⟨rfl, rfl⟩
  · exact va_newa (atype := .int) (ty := .int) (N' := N) (a0 := (N, .inl (fun _ => 0))) x1 x2 (x5 _ hwd) rfl x6 hP hD h2 x7 (fun cA => rfl) (nI_pos (by omega)) (nI_clamp (by omega)) (by show N * 4 ≤ _; omega) hc.1 hc.2 d (fun q cA H1 q0 q1 q2 q3 => fin q cA H1 _ rfl (by decide) (by decide) (va_K_last q0) q1 q2 q3)
  · exact va_newa (atype := .byte) (ty := .byte) (N' := N) (a0 := (N, .inl (fun _ => 0))) x1 x2 (x5 _ hwd) rfl x6 hP hD h2 x7 (fun cA => rfl) (nI_pos (by omega)) (nI_clamp (by omega)) (by show N * 1 ≤ _; omega) hc.1 hc.2 d (fun q cA H1 q0 q1 q2 q3 => fin q cA H1 _ rfl (by decide) (by decide) (va_K_last q0) q1 q2 q3)
theorem g_anew {C : String} {kn N i : Nat} {v : Int32} (X : mCx B c ad M P) (d : decode M.2.1 pc = .ok (.anewarray i, 3)) (hl : Cond.classLink M.1.cls i C ∈ mTb) (hC : (C = RX4 ∧ kn = 22) ∨ (C = RX5 ∧ kn = 23) ∨ (C = RX0 ∧ kn = 24)) (hv : v = nI N) (hN : N ≤ 100000) (hw : WFh h) (hsb : h.1 < mSB) (hL : ∀ b, some (.ref b) ∈ L → b ≠ h.1) (hS : ∀ b, Value.ref b ∈ st → b ≠ h.1) (hc : c.1 + 1 ≤ B.2.2.2.1.cells ∧ c.2 + N ≤ B.2.2.2.1.slots)
    (k : ∀ ad', (∀ a, a ≠ h.1 → ad' a = ad a) → mG B (c.1 + 1, c.2 + N) ad' M.2.2.1 (pc + 3) L (.ref h.1 :: st) (nw h (kn, N))) : mG B c ad M.2.2.1 pc L (.int v :: st) h := by
  obtain ⟨p, l, e0, R, s, m, args, below, meth, cd, Q, D, A⟩ := B
  intro H locs ls h1 h2 h3
  obtain ⟨x1, x2, x3, x4, x5, x6, x7, ⟨x8, x9, x10, x11⟩, x12, x13, -⟩ := X
  obtain ⟨ca, hP, hD, hT⟩ := h1
  have ead : ∀ q, ∀ a, a ≠ h.1 → (adN ad h.1 q) a = ad a := fun q a ha => adN_n _ _ ha
  have hao : va_AO C s := by
    rcases hC with ⟨rfl, -⟩ | ⟨rfl, -⟩ | ⟨rfl, -⟩
    · exact x12.2.2.2.2.1
    · exact x12.2.2.2.2.2.1
    · exact x12.2.2.2.2.2.2
  have hty : ¬ kn < 22 ∧ mAty kn = .object C := by
    rcases hC with ⟨rfl, rfl⟩ | ⟨rfl, rfl⟩ | ⟨rfl, rfl⟩ <;> exact ⟨by decide, rfl⟩
  subst hv
  refine va_newq (N' := N) x1 x2 x4 (x5 _ hl) hao x6 hP hD h2 x7 (nI_pos (by omega)) (nI_clamp (by omega)) (by omega) hc.1 hc.2 d (fun q cA H1 q0 q1 q2 q3 => ?_)
  have := k (adN ad h.1 q) (ead q) H1 locs ls (mRep_arr (N := N) hw hT (by omega) (Or.inr ⟨hty.1, rfl⟩) (by rw [hty.2]; exact va_K_last q0) q1 q2) q3 (h3.ad (fun b hb => ead q b (hL b hb)))
  rw [List.map_cons, mSt_ad (fun b hb => ead q b (hS b hb)), show mcv (adN ad h.1 q) (.ref h.1) = .ref q by show Value.ref _ = _; rw [adN_s]] at this
  exact this
theorem g_objInit {i a : Nat} (X : mCx B c ad M P) (d : decode M.2.1 pc = .ok (.invokespecial i, 3)) (hl : Cond.methodLink M.1.cls i objectInit ∈ mTb) (hi : Cond.instanceMethod objectInit ∈ mTb) (hcd : Cond.code objectInit ⟨#[0xb1]⟩ 1 none ∈ mTb) (hR : 1 ≤ M.2.2.2.2.1 ∧ 21 ≤ M.2.2.2.2.2) (hst : (st.map fun v => v.category).sum ≤ 8) (k : mG B c ad M.2.2.1 (pc + 3) L st h) : mG B c ad M.2.2.1 pc L (.ref a :: st) h := by
  obtain ⟨p, l, e0, R, s, m, args, below, meth, cd, Q, D, A⟩ := B
  intro H locs ls h1 h2 h3
  obtain ⟨x1, x2, x3, x4, x5, x6, x7, ⟨x8, x9, x10, x11⟩, x12, x13, -⟩ := X
  refine W.objInit x1 x2 x4 (x5 _ hl) (x5 _ hi) (x5 _ hcd) rfl (h3.1.1.trans x3.symm) (a := ad a) (rest := st.map (mcv ad)) rfl d (Nat.le_trans hR.1 x8) ?_ (k H locs ls h1 h2 h3)
  show 2 * 0 + _ + 12 ≤ R.locals
  rw [mCats]
  have : 21 ≤ R.locals := Nat.le_trans hR.2 x9
  omega
end MAL
