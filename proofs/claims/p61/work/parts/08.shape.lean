/-! the heap in two: a shape that stays (cells and kinds), what it holds -/
abbrev Sh : Type := Nat × (Nat → Nat × Nat)
abbrev Cn : Type := (Nat → Nat → Int32) × (Nat → Nat → Option Nat)
def hp (K : Sh) (x : Cn) : HP := (K.1, K.2, x.1, x.2)
def kk (K : Sh) (a : Nat) : Option (Nat × Nat) := if a < K.1 then some (K.2 a) else none
def gi (x : Cn) (a k : Nat) : Int32 := x.1 a k
def gr (x : Cn) (a k : Nat) : Option Nat := x.2 a k
def ui (x : Cn) (a k : Nat) (v : Int32) : Cn := (fun b j => if b = a ∧ j = k then v else x.1 b j, x.2)
def ur (x : Cn) (a k : Nat) (v : Option Nat) : Cn := (x.1, fun b j => if b = a ∧ j = k then v else x.2 b j)
theorem gi_ui (x : Cn) (a k : Nat) (v : Int32) (b j : Nat) : gi (ui x a k v) b j = if b = a ∧ j = k then v else gi x b j := rfl
theorem gr_ui (x : Cn) (a k : Nat) (v : Int32) (b j : Nat) : gr (ui x a k v) b j = gr x b j := rfl
theorem gi_ur (x : Cn) (a k : Nat) (v : Option Nat) (b j : Nat) : gi (ur x a k v) b j = gi x b j := rfl
theorem gr_ur (x : Cn) (a k : Nat) (v : Option Nat) (b j : Nat) : gr (ur x a k v) b j = if b = a ∧ j = k then v else gr x b j := rfl
def PI (K : Sh) (Q : Int32 → Cn → Prop) : MP := fun v h' => ∃ (r : Int32) (y : Cn), v = some (.int r) ∧ h' = hp K y ∧ Q r y
def PV (K : Sh) (Q : Cn → Prop) : MP := fun v h' => ∃ y : Cn, v = none ∧ h' = hp K y ∧ Q y
def PR (K : Sh) (Q : Nat → Cn → Prop) : MP := fun v h' => ∃ (r : Nat) (y : Cn), v = some (.ref r) ∧ h' = hp K y ∧ Q r y
def mSI (N : MR) (a : List Value) (K : Sh) (x : Cn) (Q : Int32 → Cn → Prop) : Prop := mSp N a (hp K x) (PI K Q)
def mSV (N : MR) (a : List Value) (K : Sh) (x : Cn) (Q : Cn → Prop) : Prop := mSp N a (hp K x) (PV K Q)
def mSR (N : MR) (a : List Value) (K : Sh) (x : Cn) (Q : Nat → Cn → Prop) : Prop := mSp N a (hp K x) (PR K Q)
def GI (M : MR) (pc : Nat) (L : List (Option Value)) (st : List Value) (K : Sh) (x : Cn) (Q : Int32 → Cn → Prop) : Prop := mGM M pc L st (hp K x) (PI K Q)
def GV (M : MR) (pc : Nat) (L : List (Option Value)) (st : List Value) (K : Sh) (x : Cn) (Q : Cn → Prop) : Prop := mGM M pc L st (hp K x) (PV K Q)
def GR (M : MR) (pc : Nat) (L : List (Option Value)) (st : List Value) (K : Sh) (x : Cn) (Q : Nat → Cn → Prop) : Prop := mGM M pc L st (hp K x) (PR K Q)
theorem mSI_mono {N : MR} {a : List Value} {K : Sh} {x : Cn} {Q Q' : Int32 → Cn → Prop} (k : mSI N a K x Q) (h : ∀ r y, Q r y → Q' r y) : mSI N a K x Q' := mSp_mono k (fun _ _ ⟨r, y, h1, h2, h3⟩ => ⟨r, y, h1, h2, h r y h3⟩)
theorem mSV_mono {N : MR} {a : List Value} {K : Sh} {x : Cn} {Q Q' : Cn → Prop} (k : mSV N a K x Q) (h : ∀ y, Q y → Q' y) : mSV N a K x Q' := mSp_mono k (fun _ _ ⟨y, h1, h2, h3⟩ => ⟨y, h1, h2, h y h3⟩)
theorem mSR_mono {N : MR} {a : List Value} {K : Sh} {x : Cn} {Q Q' : Nat → Cn → Prop} (k : mSR N a K x Q) (h : ∀ r y, Q r y → Q' r y) : mSR N a K x Q' := mSp_mono k (fun _ _ ⟨r, y, h1, h2, h3⟩ => ⟨r, y, h1, h2, h r y h3⟩)
/-- fewer locals known -/
def mLe : List (Option Value) → List (Option Value) → Prop
  | [], _ => True
  | none :: l, _ :: l' => mLe l l'
  | some v :: l, o :: l' => o = some v ∧ mLe l l'
  | none :: l, [] => mLe l []
  | some _ :: _, [] => False
theorem mLe_at : ∀ {L L' : List (Option Value)}, mLe L L' → ∀ (i : Nat) (v : Value), L[i]? = some (some v) → L'[i]? = some (some v) := by
  intro L
  induction L with
  | nil => intro L' _ i v h; simp at h
  | cons o l ih =>
    intro L' hL i v h
    cases o with
    | none =>
      cases i with
      | zero => simp at h
      | succ i =>
        simp only [List.getElem?_cons_succ] at h
        cases L' with
        | nil =>
          have := ih (L' := []) hL i v h
          simp at this
        | cons o' l' => exact ih (L' := l') hL i v h
    | some w =>
      cases L' with
      | nil => exact absurd hL (fun z => z)
      | cons o' l' =>
        cases i with
        | zero =>
          simp only [List.getElem?_cons_zero] at h ⊢
          rw [hL.1]
          exact h
        | succ i => exact ih (L' := l') hL.2 i v h
theorem mLe_mem : ∀ {L L' : List (Option Value)}, mLe L L' → ∀ v : Value, some v ∈ L → some v ∈ L' := by
  intro L L' h v hv
  obtain ⟨i, hi⟩ := List.getElem?_of_mem hv
  exact List.mem_of_getElem? (mLe_at h i v hi)
section MSH
variable {M : MR} {P : MP} {pc : Nat} {L : List (Option Value)} {st : List Value} {K : Sh} {x : Cn}
theorem r_le {h : HP} {L' : List (Option Value)} (hL : mLe L' L) (k : mGM M pc L' st h P) : mGM M pc L st h P := by
  intro B c ad X
  have k1 := k B c ad X
  obtain ⟨p, l, e0, R, s, m, args, below, meth, cd, Q, D, A⟩ := B
  intro H locs ls h1 h2 h3
  refine k1 H locs ls h1 h2 ⟨⟨h3.1.1, h3.1.2.1, fun q hq => ?_⟩, fun v hv => h3.2 v (mLe_mem hL v hv)⟩
  obtain ⟨v, hv, e⟩ := mAsc_of hq
  rw [show q = (q.1, q.2) from rfl, e]
  exact h3.at (mLe_at hL _ _ hv)
theorem s_getI {a ci i k : Nat} (d : decode M.2.1 pc = .ok (.getfield i, 3)) (F : mFld M.1.cls i ci k) (hi : mIs (mTy ci k) = true) (e : kk K a = some (ci, 0)) (q : mGM M (pc + 3) L (.int (gi x a k) :: st) (hp K x) P) : mGM M pc L (.ref a :: st) (hp K x) P := r_getI d F hi e q
theorem s_getR {a ci i k b : Nat} (d : decode M.2.1 pc = .ok (.getfield i, 3)) (F : mFld M.1.cls i ci k) (hi : mIs (mTy ci k) = false) (e : kk K a = some (ci, 0)) (hr : gr x a k = some b) (q : mGM M (pc + 3) L (.ref b :: st) (hp K x) P) : mGM M pc L (.ref a :: st) (hp K x) P := r_getR d F hi e hr q
theorem s_putI {a ci i k : Nat} {v : Int32} (d : decode M.2.1 pc = .ok (.putfield i, 3)) (F : mFld M.1.cls i ci k) (hi : mTy ci k = .int) (hf : (mTt ci k).2.2.2 = false) (e : kk K a = some (ci, 0)) (q : mGM M (pc + 3) L st (hp K (ui x a k v)) P) : mGM M pc L (.int v :: .ref a :: st) (hp K x) P := r_putI d F (by rw [hi]; rfl) hf e (by rw [hi]; exact ⟨rfl, rfl⟩) q
theorem s_putZ {a ci i k : Nat} {v : Int32} (d : decode M.2.1 pc = .ok (.putfield i, 3)) (F : mFld M.1.cls i ci k) (hi : mTy ci k = .boolean) (hf : (mTt ci k).2.2.2 = false) (e : kk K a = some (ci, 0)) (hv : v = 0 ∨ v = 1) (q : mGM M (pc + 3) L st (hp K (ui x a k v)) P) : mGM M pc L (.int v :: .ref a :: st) (hp K x) P := r_putI d F (by rw [hi]; rfl) hf e (by rw [hi]; rcases hv with rfl | rfl <;> exact ⟨rfl, rfl⟩) q
theorem s_putR {a ci i k b : Nat} (d : decode M.2.1 pc = .ok (.putfield i, 3)) (F : mFld M.1.cls i ci k) (hi : mIs (mTy ci k) = false) (hf : (mTt ci k).2.2.2 = false) (e : kk K a = some (ci, 0)) (q : mGM M (pc + 3) L st (hp K (ur x a k (some b))) P) : mGM M pc L (.ref b :: .ref a :: st) (hp K x) P := r_putR d F hi hf e q
theorem s_iald {a n : Nat} {i : Int32} (d : decode M.2.1 pc = .ok (.iaload, 1)) (e : kk K a = some (20, n)) (hin : vp_in i n) (q : mGM M (pc + 1) L (.int (gi x a i.toNatClampNeg) :: st) (hp K x) P) : mGM M pc L (.int i :: .ref a :: st) (hp K x) P := r_iald d e hin q
theorem s_bald {a n : Nat} {i : Int32} (d : decode M.2.1 pc = .ok (.baload, 1)) (e : kk K a = some (21, n)) (hin : vp_in i n) (q : mGM M (pc + 1) L (.int (gi x a i.toNatClampNeg) :: st) (hp K x) P) : mGM M pc L (.int i :: .ref a :: st) (hp K x) P := r_bald d e hin q
theorem s_iast {a n : Nat} {i v : Int32} (d : decode M.2.1 pc = .ok (.iastore, 1)) (e : kk K a = some (20, n)) (hin : vp_in i n) (q : mGM M (pc + 1) L st (hp K (ui x a i.toNatClampNeg v)) P) : mGM M pc L (.int v :: .int i :: .ref a :: st) (hp K x) P := r_iast d e hin q
theorem s_bast {a n : Nat} {i v : Int32} (d : decode M.2.1 pc = .ok (.bastore, 1)) (e : kk K a = some (21, n)) (hin : vp_in i n) (q : mGM M (pc + 1) L st (hp K (ui x a i.toNatClampNeg v.toInt8.toInt32)) P) : mGM M pc L (.int v :: .int i :: .ref a :: st) (hp K x) P := r_bast d e hin q
theorem s_alen {a ci n : Nat} (d : decode M.2.1 pc = .ok (.arraylength, 1)) (e : kk K a = some (ci, n)) (h9 : 9 ≤ ci) (q : mGM M (pc + 1) L (.int (Int32.ofNat n) :: st) (hp K x) P) : mGM M pc L (.ref a :: st) (hp K x) P := r_alen d e h9 rfl q
theorem s_aald {a ci n b : Nat} {C : String} {i : Int32} (d : decode M.2.1 pc = .ok (.aaload, 1)) (h22 : ¬ ci < 22) (hC : mAty ci = .object C) (e : kk K a = some (ci, n)) (hin : vp_in i n) (hb : gr x a i.toNatClampNeg = some b) (q : mGM M (pc + 1) L (.ref b :: st) (hp K x) P) : mGM M pc L (.int i :: .ref a :: st) (hp K x) P := r_aald d e h22 hC hin hb q
theorem s_aast {a ci n b cj : Nat} {i : Int32} (d : decode M.2.1 pc = .ok (.aastore, 1)) (h22 : ¬ ci < 22) (hj : cj < 9) (hC : mAty ci = .object (mCn cj)) (e : kk K a = some (ci, n)) (e2 : kk K b = some (cj, 0)) (hin : vp_in i n) (q : mGM M (pc + 1) L st (hp K (ur x a i.toNatClampNeg (some b))) P) : mGM M pc L (.ref b :: .int i :: .ref a :: st) (hp K x) P := r_aast d e h22 hj hC e2 hin q
theorem s_VI (N : MR) {a ci idx : Nat} {As : List Value} (d : decode M.2.1 pc = .ok (.invokevirtual idx, 3)) (hl : Cond.methodLink M.1.cls idx N.1 ∈ mTb) (hi : Cond.instanceMethod N.1 ∈ mTb ∧ Cond.selects N.1.cls N.1 N.1 ∈ mTb) (mo : mMo N As.length) (hci : ci < 9 ∧ mCn ci = N.1.cls) (hR : N.2.2.2.2.1 + 1 ≤ M.2.2.2.2.1 ∧ 8 + (N.2.2.1 + 11) + N.2.2.2.2.2 ≤ M.2.2.2.2.2) (hst : (st.map fun v => v.category).sum ≤ 8) (e : kk K a = some (ci, 0))
    (k : mSI N (.ref a :: As) K x (fun r y => mGM M (pc + 3) L (.int r :: st) (hp K y) P)) : mGM M pc L (As.reverse ++ .ref a :: st) (hp K x) P := r_callV N d hl hi mo e hci hR hst (mSp_mono k (by rintro _ _ ⟨r, y, rfl, rfl, q⟩; exact q))
theorem s_VV (N : MR) {a ci idx : Nat} {As : List Value} (d : decode M.2.1 pc = .ok (.invokevirtual idx, 3)) (hl : Cond.methodLink M.1.cls idx N.1 ∈ mTb) (hi : Cond.instanceMethod N.1 ∈ mTb ∧ Cond.selects N.1.cls N.1 N.1 ∈ mTb) (mo : mMo N As.length) (hci : ci < 9 ∧ mCn ci = N.1.cls) (hR : N.2.2.2.2.1 + 1 ≤ M.2.2.2.2.1 ∧ 8 + (N.2.2.1 + 11) + N.2.2.2.2.2 ≤ M.2.2.2.2.2) (hst : (st.map fun v => v.category).sum ≤ 8) (e : kk K a = some (ci, 0))
    (k : mSV N (.ref a :: As) K x (fun y => mGM M (pc + 3) L st (hp K y) P)) : mGM M pc L (As.reverse ++ .ref a :: st) (hp K x) P := r_callV N d hl hi mo e hci hR hst (mSp_mono k (by rintro _ _ ⟨y, rfl, rfl, q⟩; exact q))
theorem s_VR (N : MR) {a ci idx : Nat} {As : List Value} (d : decode M.2.1 pc = .ok (.invokevirtual idx, 3)) (hl : Cond.methodLink M.1.cls idx N.1 ∈ mTb) (hi : Cond.instanceMethod N.1 ∈ mTb ∧ Cond.selects N.1.cls N.1 N.1 ∈ mTb) (mo : mMo N As.length) (hci : ci < 9 ∧ mCn ci = N.1.cls) (hR : N.2.2.2.2.1 + 1 ≤ M.2.2.2.2.1 ∧ 8 + (N.2.2.1 + 11) + N.2.2.2.2.2 ≤ M.2.2.2.2.2) (hst : (st.map fun v => v.category).sum ≤ 8) (e : kk K a = some (ci, 0))
    (k : mSR N (.ref a :: As) K x (fun r y => mGM M (pc + 3) L (.ref r :: st) (hp K y) P)) : mGM M pc L (As.reverse ++ .ref a :: st) (hp K x) P := r_callV N d hl hi mo e hci hR hst (mSp_mono k (by rintro _ _ ⟨r, y, rfl, rfl, q⟩; exact q))
theorem s_SI (N : MR) {idx : Nat} {As : List Value} (d : decode M.2.1 pc = .ok (.invokestatic idx, 3)) (hl : Cond.methodLink M.1.cls idx N.1 ∈ mTb) (hi : Cond.static N.1 ∈ mTb) (mo : mMo N As.length) (hR : N.2.2.2.2.1 + 1 ≤ M.2.2.2.2.1 ∧ 8 + (N.2.2.1 + 11) + N.2.2.2.2.2 ≤ M.2.2.2.2.2) (hst : (st.map fun v => v.category).sum ≤ 8)
    (k : mSI N As K x (fun r y => mGM M (pc + 3) L (.int r :: st) (hp K y) P)) : mGM M pc L (As.reverse ++ st) (hp K x) P := r_callS N d hl hi mo hR hst (mSp_mono k (by rintro _ _ ⟨r, y, rfl, rfl, q⟩; exact q))
theorem s_SR (N : MR) {idx : Nat} {As : List Value} (d : decode M.2.1 pc = .ok (.invokestatic idx, 3)) (hl : Cond.methodLink M.1.cls idx N.1 ∈ mTb) (hi : Cond.static N.1 ∈ mTb) (mo : mMo N As.length) (hR : N.2.2.2.2.1 + 1 ≤ M.2.2.2.2.1 ∧ 8 + (N.2.2.1 + 11) + N.2.2.2.2.2 ≤ M.2.2.2.2.2) (hst : (st.map fun v => v.category).sum ≤ 8)
    (k : mSR N As K x (fun r y => mGM M (pc + 3) L (.ref r :: st) (hp K y) P)) : mGM M pc L (As.reverse ++ st) (hp K x) P := r_callS N d hl hi mo hR hst (mSp_mono k (by rintro _ _ ⟨r, y, rfl, rfl, q⟩; exact q))
theorem s_SNI (N : MR) {idx : Nat} {host : String} {As : List Value} (d : decode M.2.1 pc = .ok (.invokestatic idx, 3)) (hl : (M.1.cls, idx, N.1, host) ∈ mNst) (hi : Cond.static N.1 ∈ mTb) (mo : mMo N As.length) (hR : N.2.2.2.2.1 + 1 ≤ M.2.2.2.2.1 ∧ 8 + (N.2.2.1 + 11) + N.2.2.2.2.2 ≤ M.2.2.2.2.2) (hst : (st.map fun v => v.category).sum ≤ 8)
    (k : mSI N As K x (fun r y => mGM M (pc + 3) L (.int r :: st) (hp K y) P)) : mGM M pc L (As.reverse ++ st) (hp K x) P := r_callSN N d hl hi mo hR hst (mSp_mono k (by rintro _ _ ⟨r, y, rfl, rfl, q⟩; exact q))
theorem s_iret {Q : Int32 → Cn → Prop} {v : Int32} (hr : M.2.2.2.1 = some .int) (d : decode M.2.1 pc = .ok (.ireturn, 1)) (k : Q v x) : mGM M pc L [.int v] (hp K x) (PI K Q) := r_iret ⟨⟨.int, hr, rfl⟩, d⟩ ⟨v, x, rfl, rfl, k⟩
theorem s_zret {Q : Int32 → Cn → Prop} {v : Int32} (hr : M.2.2.2.1 = some .boolean) (hv : v = 0 ∨ v = 1) (d : decode M.2.1 pc = .ok (.ireturn, 1)) (k : Q v x) : mGM M pc L [.int v] (hp K x) (PI K Q) := r_iret ⟨⟨.boolean, hr, by rcases hv with rfl | rfl <;> rfl⟩, d⟩ ⟨v, x, rfl, rfl, k⟩
theorem s_nret {Q : Int32 → Cn → Prop} {ty : FieldType} {v : Int32} (hr : M.2.2.2.1 = some ty) (hv : narrow ty (.int v) = .int v) (d : decode M.2.1 pc = .ok (.ireturn, 1)) (k : Q v x) : mGM M pc L [.int v] (hp K x) (PI K Q) := r_iret ⟨⟨ty, hr, hv⟩, d⟩ ⟨v, x, rfl, rfl, k⟩
theorem s_ret {Q : Cn → Prop} (hr : M.2.2.2.1 = none) (d : decode M.2.1 pc = .ok (.return_, 1)) (k : Q x) : mGM M pc L [] (hp K x) (PV K Q) := r_ret ⟨hr, d⟩ ⟨x, rfl, rfl, k⟩
theorem s_aret {Q : Nat → Cn → Prop} {v : Nat} {nm : String} (hr : M.2.2.2.1 = some (.object nm)) (d : decode M.2.1 pc = .ok (.areturn, 1)) (k : Q v x) : mGM M pc L [.ref v] (hp K x) (PR K Q) := r_aret ⟨⟨nm, hr⟩, d⟩ ⟨v, x, rfl, rfl, k⟩
theorem s_I {Q : Int32 → Cn → Prop} {a : List Value} (hp1 : plainName M.1.cls = true) (hc : ∀ v ∈ a, v.category = 1) (hn : a.length ≤ M.2.2.1) (k : GI M 0 (mEnL a M.2.2.1) [] K x Q) : mSI M a K x Q := mSp_of hp1 hc hn k
theorem s_V {Q : Cn → Prop} {a : List Value} (hp1 : plainName M.1.cls = true) (hc : ∀ v ∈ a, v.category = 1) (hn : a.length ≤ M.2.2.1) (k : GV M 0 (mEnL a M.2.2.1) [] K x Q) : mSV M a K x Q := mSp_of hp1 hc hn k
theorem s_R {Q : Nat → Cn → Prop} {a : List Value} (hp1 : plainName M.1.cls = true) (hc : ∀ v ∈ a, v.category = 1) (hn : a.length ≤ M.2.2.1) (k : GR M 0 (mEnL a M.2.2.1) [] K x Q) : mSR M a K x Q := mSp_of hp1 hc hn k
end MSH
def b2i (c : Prop) [Decidable c] : Int32 := if c then 1 else 0
theorem b2i_01 (c : Prop) [Decidable c] : b2i c = 0 ∨ b2i c = 1 := by unfold b2i; by_cases h : c <;> simp [h]
theorem b2i_z (c : Prop) [Decidable c] : (b2i c = 0) ↔ ¬ c := by unfold b2i; by_cases h : c <;> simp [h]
theorem b2i_o (c : Prop) [Decidable c] : (b2i c = 1) ↔ c := by unfold b2i; by_cases h : c <;> simp [h]
theorem b2i_t {c : Prop} [Decidable c] (h : c) : b2i c = 1 := if_pos h
theorem b2i_f {c : Prop} [Decidable c] (h : ¬ c) : b2i c = 0 := if_neg h
