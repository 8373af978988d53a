theorem oi_i : Cond.instanceMethod objectInit ∈ mTb := mTb_at 146 (by decide +kernel) rfl
theorem oi_c : Cond.code objectInit ⟨#[0xb1]⟩ 1 none ∈ mTb := mTb_at 147 (by decide +kernel) rfl
theorem ac_i : Cond.arrayClass (newarray.typeOf .int) ∈ mTb := mTb_at 226 (by decide +kernel) rfl
theorem ac_b : Cond.arrayClass (newarray.typeOf .byte) ∈ mTb := mTb_at 225 (by decide +kernel) rfl
theorem it_0 : Cond.instantiable (mCn 0) (mNF 0) ∈ mTb := mTb_at 227 (by decide +kernel) rfl
theorem iz_0 : Cond.initialized (mCn 0) ∈ mTb := mTb_at 128 (by decide +kernel) rfl
theorem it_1 : Cond.instantiable (mCn 1) (mNF 1) ∈ mTb := mTb_at 338 (by decide +kernel) rfl
theorem iz_1 : Cond.initialized (mCn 1) ∈ mTb := mTb_at 129 (by decide +kernel) rfl
theorem it_2 : Cond.instantiable (mCn 2) (mNF 2) ∈ mTb := mTb_at 425 (by decide +kernel) rfl
theorem iz_2 : Cond.initialized (mCn 2) ∈ mTb := mTb_at 131 (by decide +kernel) rfl
theorem it_3 : Cond.instantiable (mCn 3) (mNF 3) ∈ mTb := mTb_at 355 (by decide +kernel) rfl
theorem iz_3 : Cond.initialized (mCn 3) ∈ mTb := mTb_at 130 (by decide +kernel) rfl
theorem it_4 : Cond.instantiable (mCn 4) (mNF 4) ∈ mTb := mTb_at 149 (by decide +kernel) rfl
theorem iz_4 : Cond.initialized (mCn 4) ∈ mTb := mTb_at 126 (by decide +kernel) rfl
theorem it_5 : Cond.instantiable (mCn 5) (mNF 5) ∈ mTb := mTb_at 158 (by decide +kernel) rfl
theorem iz_5 : Cond.initialized (mCn 5) ∈ mTb := mTb_at 127 (by decide +kernel) rfl
theorem it_6 : Cond.instantiable (mCn 6) (mNF 6) ∈ mTb := mTb_at 452 (by decide +kernel) rfl
theorem iz_6 : Cond.initialized (mCn 6) ∈ mTb := mTb_at 132 (by decide +kernel) rfl
theorem it_7 : Cond.instantiable (mCn 7) (mNF 7) ∈ mTb := mTb_at 141 (by decide +kernel) rfl
theorem iz_7 : Cond.initialized (mCn 7) ∈ mTb := mTb_at 125 (by decide +kernel) rfl
theorem it_8 : Cond.instantiable (mCn 8) (mNF 8) ∈ mTb := mTb_at 1283 (by decide +kernel) rfl
theorem iz_8 : Cond.initialized (mCn 8) ∈ mTb := mTb_at 133 (by decide +kernel) rfl
theorem kl_X7_17 : Cond.classLink RX7 17 RX4 ∈ mTb := mTb_at 148 (by decide +kernel) rfl
theorem kl_X7_24 : Cond.classLink RX7 24 RX1 ∈ mTb := mTb_at 337 (by decide +kernel) rfl
theorem kl_X7_38 : Cond.classLink RX7 38 RX3 ∈ mTb := mTb_at 354 (by decide +kernel) rfl
theorem kl_X7_51 : Cond.classLink RX7 51 RX2 ∈ mTb := mTb_at 424 (by decide +kernel) rfl
theorem kl_X7_58 : Cond.classLink RX7 58 RX6 ∈ mTb := mTb_at 451 (by decide +kernel) rfl
theorem kl_X2_9 : Cond.classLink RX2 9 RX4 ∈ mTb := mTb_at 430 (by decide +kernel) rfl
theorem kl_X3_9 : Cond.classLink RX3 9 RX4 ∈ mTb := mTb_at 360 (by decide +kernel) rfl
theorem kl_X3_18 : Cond.classLink RX3 18 RX1 ∈ mTb := mTb_at 362 (by decide +kernel) rfl
theorem kl_X4_34 : Cond.classLink RX4 34 RX5 ∈ mTb := mTb_at 154 (by decide +kernel) rfl
theorem kl_X4_40 : Cond.classLink RX4 40 RX0 ∈ mTb := mTb_at 156 (by decide +kernel) rfl
theorem kl_L_7 : Cond.classLink RL 7 RX7 ∈ mTb := mTb_at 140 (by decide +kernel) rfl
theorem kl_L_10 : Cond.classLink RL 10 RX8 ∈ mTb := mTb_at 1282 (by decide +kernel) rfl
/-! contents that are empty from n on -/
def Okx (n : Nat) (x : Cn) : Prop := (∀ a k, n ≤ a → x.1 a k = 0 ∧ x.2 a k = none) ∧ ∀ a k b, x.2 a k = some b → b < n
theorem Okx.up {n m : Nat} {x : Cn} (h : Okx n x) (hm : n ≤ m) : Okx m x := ⟨fun a k ha => h.1 a k (Nat.le_trans hm ha), fun a k b hb => Nat.lt_of_lt_of_le (h.2 a k b hb) hm⟩
theorem Okx.ui {n a : Nat} {x : Cn} (h : Okx n x) (ha : a < n) (k : Nat) (v : Int32) : Okx n (ui x a k v) := ⟨fun b j hb => ⟨(if_neg (fun z => by omega)).trans (h.1 b j hb).1, (h.1 b j hb).2⟩, h.2⟩
theorem Okx.ur {n a b : Nat} {x : Cn} (h : Okx n x) (ha : a < n) (k : Nat) (hb : b < n) : Okx n (ur x a k (some b)) := by
  refine ⟨fun c j hc => ⟨(h.1 c j hc).1, (if_neg (fun z => by omega)).trans (h.1 c j hc).2⟩, fun c j d hd => ?_⟩
  have hd : (if c = a ∧ j = k then some b else x.2 c j) = some d := hd
  by_cases hq : c = a ∧ j = k
  · rw [if_pos hq] at hd
    cases hd
    exact hb
  · rw [if_neg hq] at hd
    exact h.2 c j d hd
theorem Okx.wf {n : Nat} {x : Cn} (h : Okx n x) : WFh (hp (n, kwf) x) := h.2
theorem nw_hp {n : Nat} {x : Cn} {q : Nat × Nat} (h : Okx n x) (hq : kwf n = q) : nw (hp (n, kwf) x) q = hp (n + 1, kwf) x := by
  unfold nw hp
  refine Prod.ext rfl (Prod.ext (funext fun a => ?_) (Prod.ext (funext fun a => funext fun k => ?_) (funext fun a => funext fun k => ?_)))
  · show (if a = n then q else kwf a) = kwf a
    by_cases ha : a = n
    · rw [if_pos ha, ha, hq]
    · rw [if_neg ha]
  · show (if a = n then 0 else x.1 a k) = x.1 a k
    by_cases ha : a = n
    · rw [if_pos ha, ha, (h.1 n k (Nat.le_refl _)).1]
    · rw [if_neg ha]
  · show (if a = n then none else x.2 a k) = x.2 a k
    by_cases ha : a = n
    · rw [if_pos ha, ha, (h.1 n k (Nat.le_refl _)).2]
    · rw [if_neg ha]
theorem ui_z {x : Cn} {a k : Nat} (h : x.1 a k = 0) : ui x a k 0 = x := by
  unfold ui
  refine Prod.ext (funext fun b => funext fun j => ?_) rfl
  show (if b = a ∧ j = k then 0 else x.1 b j) = x.1 b j
  by_cases hq : b = a ∧ j = k
  · rw [if_pos hq, hq.1, hq.2, h]
  · rw [if_neg hq]
theorem kdN {n a : Nat} {x : Cn} {q : Nat × Nat} (ha : a < n) (hq : kwf a = q) : kd (hp (n, kwf) x) a = some q := by
  unfold kd
  rw [if_pos (show a < (hp (n, kwf) x).1 from ha)]
  exact congrArg some hq
/-- a constructor's body from here on, whatever the addresses of the cells that it made -/
def GN (M : MR) (mc ms n0 : Nat) (P : HP → Prop) (c : Nat × Nat) (pc : Nat) (L : List (Option Value)) (st : List Value) (h : HP) : Prop := ∀ (B : BT) (ad0 ad : Nat → Nat), mCx B c ad M FF → B.2.2.2.1.cells = mc → B.2.2.2.1.slots = ms → (∀ (ad' : Nat → Nat) (h' : HP) (pc : Nat) (L : List (Option Value)), P h' → (∀ a, a < n0 ∨ mSB ≤ a → ad' a = ad0 a) → decode M.2.1 pc = .ok (.return_, 1) → mG B (mc, ms) ad' M.2.2.1 pc L [] h') → (∀ a, a < n0 ∨ mSB ≤ a → ad a = ad0 a) → mG B c ad M.2.2.1 pc L st h
theorem n_of {M : MR} {a : List Value} {h : HP} {mc ms : Nat} {P : HP → Prop} (hp : plainName M.1.cls = true) (hcat : ∀ v ∈ a, v.category = 1) (hn : a.length ≤ M.2.2.1) (hret : M.2.2.2.1 = none) (k : GN M mc ms h.1 P (0, 0) 0 (mEnL a M.2.2.1) [] h) : mSpN M a h mc ms P := mSpN_of hp hcat hn hret (fun B ad X e1 e2 kx => k B ad ad X e1 e2 kx (fun _ _ => rfl))
section NRU
variable {M : MR} {mc ms n0 : Nat} {P : HP → Prop} {c : Nat × Nat} {pc : Nat} {L : List (Option Value)} {st : List Value} {h : HP} {n : Nat} {x : Cn}
theorem n_aload_n {q : Fin 4} {a : Nat} (d : decode M.2.1 pc = .ok (.aload_n q, 1)) (hl : L[(q : Nat)]? = some (some (.ref a))) (k : GN M mc ms n0 P c (pc + 1) L (.ref a :: st) h) : GN M mc ms n0 P c pc L st h := fun B ad0 ad X e1 e2 kx ha => g_aload_n X d hl (k B ad0 ad X e1 e2 kx ha)
theorem n_iload_n {q : Fin 4} {v : Int32} (d : decode M.2.1 pc = .ok (.iload_n q, 1)) (hl : L[(q : Nat)]? = some (some (.int v))) (k : GN M mc ms n0 P c (pc + 1) L (.int v :: st) h) : GN M mc ms n0 P c pc L st h := fun B ad0 ad X e1 e2 kx ha => g_iload_n X d hl (k B ad0 ad X e1 e2 kx ha)
theorem n_istore_n {q : Fin 4} {v : Int32} (d : decode M.2.1 pc = .ok (.istore_n q, 1)) (hn : (q : Nat) < M.2.2.1) (k : GN M mc ms n0 P c (pc + 1) (L.set (q : Nat) (some (.int v))) st h) : GN M mc ms n0 P c pc L (.int v :: st) h := fun B ad0 ad X e1 e2 kx ha => g_istore_n X d hn (k B ad0 ad X e1 e2 kx ha)
theorem n_iconst {i : Int} {v : Int32} (d : decode M.2.1 pc = .ok (.iconst i, 1)) (hv : Int32.ofInt i = v) (k : GN M mc ms n0 P c (pc + 1) L (.int v :: st) h) : GN M mc ms n0 P c pc L st h := fun B ad0 ad X e1 e2 kx ha => g_iconst X d hv (k B ad0 ad X e1 e2 kx ha)
theorem n_bipush {i : Int} {v : Int32} (d : decode M.2.1 pc = .ok (.bipush i, 2)) (hv : (Int8.ofInt i).toInt32 = v) (k : GN M mc ms n0 P c (pc + 2) L (.int v :: st) h) : GN M mc ms n0 P c pc L st h := fun B ad0 ad X e1 e2 kx ha => g_bipush X d hv (k B ad0 ad X e1 e2 kx ha)
theorem n_sipush {i : Int} {v : Int32} (d : decode M.2.1 pc = .ok (.sipush i, 3)) (hv : (Int16.ofInt i).toInt32 = v) (k : GN M mc ms n0 P c (pc + 3) L (.int v :: st) h) : GN M mc ms n0 P c pc L st h := fun B ad0 ad X e1 e2 kx ha => g_sipush X d hv (k B ad0 ad X e1 e2 kx ha)
theorem n_iinc {i : Nat} {m : Int} {v w : Int32} (d : decode M.2.1 pc = .ok (.iinc i m, 3)) (hl : L[i]? = some (some (.int v))) (hv : v + Int32.ofInt m = w) (hn : i < M.2.2.1) (k : GN M mc ms n0 P c (pc + 3) (L.set i (some (.int w))) st h) : GN M mc ms n0 P c pc L st h := fun B ad0 ad X e1 e2 kx ha => g_iinc X d hl hv hn (k B ad0 ad X e1 e2 kx ha)
theorem n_dup {v : Value} (d : decode M.2.1 pc = .ok (.dup, 1)) (hv : v.category = 1) (k : GN M mc ms n0 P c (pc + 1) L (v :: v :: st) h) : GN M mc ms n0 P c pc L (v :: st) h := fun B ad0 ad X e1 e2 kx ha => g_dup X d hv (k B ad0 ad X e1 e2 kx ha)
theorem n_icmp_ge {v w : Int32} {off : Int} {tgt : Nat} (d : decode M.2.1 pc = .ok (.if_icmp .ge off, 3)) (ht : (pc : Int) + off = (tgt : Int)) (kt : w ≤ v → GN M mc ms n0 P c tgt L st h) (kf : ¬ w ≤ v → GN M mc ms n0 P c (pc + 3) L st h) : GN M mc ms n0 P c pc L (.int w :: .int v :: st) h := fun B ad0 ad X e1 e2 kx ha => g_icmp_ge X d ht (fun q => kt q B ad0 ad X e1 e2 kx ha) (fun q => kf q B ad0 ad X e1 e2 kx ha)
theorem n_goto {off : Int} {tgt : Nat} (d : decode M.2.1 pc = .ok (.goto off, 3)) (ht : (pc : Int) + off = (tgt : Int)) (k : GN M mc ms n0 P c tgt L st h) : GN M mc ms n0 P c pc L st h := fun B ad0 ad X e1 e2 kx ha => g_goto X d ht (k B ad0 ad X e1 e2 kx ha)
theorem n_objInit {i a : Nat} (d : decode M.2.1 pc = .ok (.invokespecial i, 3)) (hl : Cond.methodLink M.1.cls i objectInit ∈ mTb) (hi : Cond.instanceMethod objectInit ∈ mTb) (hcd : Cond.code objectInit ⟨#[0xb1]⟩ 1 none ∈ mTb) (hR : 1 ≤ M.2.2.2.2.1 ∧ 21 ≤ M.2.2.2.2.2) (hst : (st.map fun v => v.category).sum ≤ 8) (k : GN M mc ms n0 P c (pc + 3) L st h) : GN M mc ms n0 P c pc L (.ref a :: st) h := fun B ad0 ad X e1 e2 kx ha => g_objInit X d hl hi hcd hR hst (k B ad0 ad X e1 e2 kx ha)
theorem n_getR {a ci i k b : Nat} (d : decode M.2.1 pc = .ok (.getfield i, 3)) (F : mFld M.1.cls i ci k) (hi : mIs (mTy ci k) = false) (hb : a < n) (hk : kwf a = (ci, 0)) (hr : x.2 a k = some b) (q : GN M mc ms n0 P c (pc + 3) L (.ref b :: st) (hp (n, kwf) x)) : GN M mc ms n0 P c pc L (.ref a :: st) (hp (n, kwf) x) := fun B ad0 ad X e1 e2 kx ha => g_getR X d F hi (kdN hb hk) hr (q B ad0 ad X e1 e2 kx ha)
theorem n_put0 {a ci i k : Nat} (d : decode M.2.1 pc = .ok (.putfield i, 3)) (F : mFld M.1.cls i ci k) (hi : mIs (mTy ci k) = true) (hf : (mTt ci k).2.2.2 = false) (hb : a < n) (hk : kwf a = (ci, 0)) (hv : narrow (mTy ci k) (.int 0) = .int 0 ∧ fits (mTy ci k) (.int 0) = true) (hz : x.1 a k = 0) (q : GN M mc ms n0 P c (pc + 3) L st (hp (n, kwf) x)) : GN M mc ms n0 P c pc L (.int 0 :: .ref a :: st) (hp (n, kwf) x) := fun B ad0 ad X e1 e2 kx ha => g_putI X d F hi hf (kdN hb hk) hv (by have := q B ad0 ad X e1 e2 kx ha; rw [← ui_z hz] at this; exact this)
theorem n_putI {a ci i k : Nat} {v : Int32} (d : decode M.2.1 pc = .ok (.putfield i, 3)) (F : mFld M.1.cls i ci k) (hi : mIs (mTy ci k) = true) (hf : (mTt ci k).2.2.2 = false) (hb : a < n) (hk : kwf a = (ci, 0)) (hv : narrow (mTy ci k) (.int v) = .int v ∧ fits (mTy ci k) (.int v) = true) (q : GN M mc ms n0 P c (pc + 3) L st (hp (n, kwf) (ui x a k v))) : GN M mc ms n0 P c pc L (.int v :: .ref a :: st) (hp (n, kwf) x) := fun B ad0 ad X e1 e2 kx ha => g_putI X d F hi hf (kdN hb hk) hv (q B ad0 ad X e1 e2 kx ha)
theorem n_putR {a ci i k b : Nat} (d : decode M.2.1 pc = .ok (.putfield i, 3)) (F : mFld M.1.cls i ci k) (hi : mIs (mTy ci k) = false) (hf : (mTt ci k).2.2.2 = false) (hb : a < n) (hk : kwf a = (ci, 0)) (q : GN M mc ms n0 P c (pc + 3) L st (hp (n, kwf) (ur x a k (some b)))) : GN M mc ms n0 P c pc L (.ref b :: .ref a :: st) (hp (n, kwf) x) := fun B ad0 ad X e1 e2 kx ha => g_putR X d F hi hf (kdN hb hk) (q B ad0 ad X e1 e2 kx ha)
theorem n_putRF {a ci i k b : Nat} (d : decode M.2.1 pc = .ok (.putfield i, 3)) (F : mFld M.1.cls i ci k) (hi : mIs (mTy ci k) = false) (hf : (mTt ci k).2.2.2 = true) (hdc : (mTt ci k).1 = M.1.cls) (hin : M.1.name = "<init>") (hb : a < n) (hk : kwf a = (ci, 0)) (q : GN M mc ms n0 P c (pc + 3) L st (hp (n, kwf) (ur x a k (some b)))) : GN M mc ms n0 P c pc L (.ref b :: .ref a :: st) (hp (n, kwf) x) := fun B ad0 ad X e1 e2 kx ha => g_putRF X d F hi hf hdc hin (kdN hb hk) (q B ad0 ad X e1 e2 kx ha)
theorem n_aast {a ci N b cj nb : Nat} {i : Int32} {j : Nat} (d : decode M.2.1 pc = .ok (.aastore, 1)) (ha : a < n) (hka : kwf a = (ci, N)) (h22 : ¬ ci < 22) (hj : cj < 9) (hC : mAty ci = .object (mCn cj)) (hb : b < n) (hkb : kwf b = (cj, nb)) (hin : vp_in i N) (hij : i.toNatClampNeg = j) (q : GN M mc ms n0 P c (pc + 1) L st (hp (n, kwf) (ur x a j (some b)))) : GN M mc ms n0 P c pc L (.ref b :: .int i :: .ref a :: st) (hp (n, kwf) x) := fun B ad0 ad X e1 e2 kx ha0 => g_aast X d (kdN ha hka) h22 hj hC (kdN hb hkb) hin (by rw [hij]; exact q B ad0 ad X e1 e2 kx ha0)
theorem n_new {ci i : Nat} {c' : Nat × Nat} (d : decode M.2.1 pc = .ok (.new i, 3)) (hl : Cond.classLink M.1.cls i (mCn ci) ∈ mTb) (hi : Cond.instantiable (mCn ci) (mNF ci) ∈ mTb) (hz : Cond.initialized (mCn ci) ∈ mTb) (hci : ci < 9) (ok : Okx n x) (hsb : n < mSB) (hL : ∀ b, some (.ref b) ∈ L → b < n) (hS : ∀ b, Value.ref b ∈ st → b < n) (hn : n0 ≤ n) (hc' : c' = (c.1 + 1, c.2 + mNF ci)) (h1 : c'.1 ≤ mc) (h2 : c'.2 ≤ ms) (hq : kwf n = (ci, 0)) (k : GN M mc ms n0 P c' (pc + 3) L (.ref n :: st) (hp (n + 1, kwf) x)) : GN M mc ms n0 P c pc L st (hp (n, kwf) x) := by
  subst hc'
  intro B ad0 ad X e1 e2 kx ha
  have hc : c.1 + 1 ≤ B.2.2.2.1.cells ∧ c.2 + mNF ci ≤ B.2.2.2.1.slots := by rw [e1, e2]; exact ⟨h1, h2⟩
  refine g_new (h := hp (n, kwf) x) X d hl hi hz hci ok.wf hsb (fun b hb => Nat.ne_of_lt (hL b hb)) (fun b hb => Nat.ne_of_lt (hS b hb)) hc (fun ad' had => ?_)
  rw [nw_hp ok hq]
  exact k B ad0 ad' (mCx_ad X hc (fun a h => had a (show a ≠ n by omega))) e1 e2 kx (fun a h => (had a (show a ≠ n by omega)).trans (ha a h))
theorem n_newa {at9 : ArrayType} {kn N : Nat} {v : Int32} {c' : Nat × Nat} (d : decode M.2.1 pc = .ok (.newarray at9, 2)) (hat : (at9 = .int ∧ kn = 20) ∨ (at9 = .byte ∧ kn = 21)) (hwd : Cond.arrayClass (newarray.typeOf at9) ∈ mTb) (hv : v = nI N) (hN : N ≤ 100000) (ok : Okx n x) (hsb : n < mSB) (hL : ∀ b, some (.ref b) ∈ L → b < n) (hS : ∀ b, Value.ref b ∈ st → b < n) (hn : n0 ≤ n) (hc' : c' = (c.1 + 1, c.2 + N)) (h1 : c'.1 ≤ mc) (h2 : c'.2 ≤ ms) (hq : kwf n = (kn, N)) (k : GN M mc ms n0 P c' (pc + 2) L (.ref n :: st) (hp (n + 1, kwf) x)) : GN M mc ms n0 P c pc L (.int v :: st) (hp (n, kwf) x) := by
  subst hc'
  intro B ad0 ad X e1 e2 kx ha
  have hc : c.1 + 1 ≤ B.2.2.2.1.cells ∧ c.2 + N ≤ B.2.2.2.1.slots := by rw [e1, e2]; exact ⟨h1, h2⟩
  refine g_newa (h := hp (n, kwf) x) X d hat hwd hv hN ok.wf hsb (fun b hb => Nat.ne_of_lt (hL b hb)) (fun b hb => Nat.ne_of_lt (hS b hb)) hc (fun ad' had => ?_)
  rw [nw_hp ok hq]
  exact k B ad0 ad' (mCx_ad X hc (fun a h => had a (show a ≠ n by omega))) e1 e2 kx (fun a h => (had a (show a ≠ n by omega)).trans (ha a h))
theorem n_anew {C : String} {kn N i : Nat} {v : Int32} {c' : Nat × Nat} (d : decode M.2.1 pc = .ok (.anewarray i, 3)) (hl : Cond.classLink M.1.cls i C ∈ mTb) (hC : (C = RX4 ∧ kn = 22) ∨ (C = RX5 ∧ kn = 23) ∨ (C = RX0 ∧ kn = 24)) (hv : v = nI N) (hN : N ≤ 100000) (ok : Okx n x) (hsb : n < mSB) (hL : ∀ b, some (.ref b) ∈ L → b < n) (hS : ∀ b, Value.ref b ∈ st → b < n) (hn : n0 ≤ n) (hc' : c' = (c.1 + 1, c.2 + N)) (h1 : c'.1 ≤ mc) (h2 : c'.2 ≤ ms) (hq : kwf n = (kn, N)) (k : GN M mc ms n0 P c' (pc + 3) L (.ref n :: st) (hp (n + 1, kwf) x)) : GN M mc ms n0 P c pc L (.int v :: st) (hp (n, kwf) x) := by
  subst hc'
  intro B ad0 ad X e1 e2 kx ha
  have hc : c.1 + 1 ≤ B.2.2.2.1.cells ∧ c.2 + N ≤ B.2.2.2.1.slots := by rw [e1, e2]; exact ⟨h1, h2⟩
  refine g_anew (h := hp (n, kwf) x) X d hl hC hv hN ok.wf hsb (fun b hb => Nat.ne_of_lt (hL b hb)) (fun b hb => Nat.ne_of_lt (hS b hb)) hc (fun ad' had => ?_)
  rw [nw_hp ok hq]
  exact k B ad0 ad' (mCx_ad X hc (fun a h => had a (show a ≠ n by omega))) e1 e2 kx (fun a h => (had a (show a ≠ n by omega)).trans (ha a h))
theorem n_callI (N : MR) {idx a m1 s1 : Nat} {c' : Nat × Nat} (d : decode M.2.1 pc = .ok (.invokespecial idx, 3)) (hl : Cond.methodLink M.1.cls idx N.1 ∈ mTb ∨ ∃ host, (M.1.cls, idx, N.1, host) ∈ mNst) (hi : Cond.instanceMethod N.1 ∈ mTb) (mo : mMo N 0) (hnm : N.1.name = "<init>") (hret : N.2.2.2.1 = none) (hR : N.2.2.2.2.1 + 1 ≤ M.2.2.2.2.1 ∧ 8 + (N.2.2.1 + 11) + N.2.2.2.2.2 ≤ M.2.2.2.2.2) (hst : (st.map fun v => v.category).sum ≤ 8) (hL : ∀ b, some (.ref b) ∈ L → b < n) (hS : ∀ b, Value.ref b ∈ st → b < n) (hn : n0 ≤ n) (hc' : c' = (c.1 + m1, c.2 + s1)) (h1 : c'.1 ≤ mc) (h2 : c'.2 ≤ ms) {n' : Nat} {y : Cn}
    (k1 : mSpN N [.ref a] (hp (n, kwf) x) m1 s1 (fun h' => h' = hp (n', kwf) y)) (k : GN M mc ms n0 P c' (pc + 3) L st (hp (n', kwf) y)) : GN M mc ms n0 P c pc L (.ref a :: st) (hp (n, kwf) x) := by
  subst hc'
  intro B ad0 ad X e1 e2 kx ha
  have hc : c.1 + m1 ≤ B.2.2.2.1.cells ∧ c.2 + s1 ≤ B.2.2.2.1.slots := by rw [e1, e2]; exact ⟨h1, h2⟩
  refine g_callI N X d hl hi mo hnm hret hR hst hc (fun b hb => Or.inl (hL b hb)) (fun b hb => Or.inl (hS b hb)) (mSpN_mono k1 (fun h' eh ad' had => ?_))
  subst eh
  exact k B ad0 ad' (mCx_ad X hc (fun a h => had a (Or.inr h))) e1 e2 kx (fun a h => (had a (h.elim (fun q => Or.inl (Nat.lt_of_lt_of_le q hn)) Or.inr)).trans (ha a h))
theorem n_ret (hc : c = (mc, ms)) (hst : st = []) (d : decode M.2.1 pc = .ok (.return_, 1)) (hP : P h) : GN M mc ms n0 P c pc L st h := by
  subst hc
  subst hst
  exact fun B ad0 ad X e1 e2 kx ha => kx ad h pc L hP ha d
end NRU
theorem ct_X5 {n b : Nat} {x : Cn} (hb : b < n) (hk : kwf b = (5, 0)) (hz : ∀ k, x.1 b k = 0) : mSpN mX5_init [.ref b] (hp (n, kwf) x) 0 0 (fun h' => h' = hp (n, kwf) x) := by
  refine n_of (by decide) (by simp [Value.category]) (Nat.le_of_ble_eq_true rfl) rfl ?_
  show GN mX5_init 0 0 n _ (0, 0) 0 [some (.ref b)] [] _
  refine n_aload_n (pc := 0) dX5_init_0 rfl ?_
  refine n_objInit (pc := 1) dX5_init_1 lk_X5_3 oi_i oi_c ⟨by decide, by decide⟩ (Nat.le_of_ble_eq_true rfl) ?_
  refine n_aload_n (pc := 4) dX5_init_4 rfl ?_
  refine n_iconst (v := 0) (pc := 5) dX5_init_5 (by decide) ?_
  refine n_put0 (pc := 6) (ci := 5) dX5_init_6 fl_X5_9 rfl rfl hb hk ⟨rfl, rfl⟩ (hz _) ?_
  refine n_aload_n (pc := 9) dX5_init_9 rfl ?_
  refine n_iconst (v := 0) (pc := 10) dX5_init_10 (by decide) ?_
  refine n_put0 (pc := 11) (ci := 5) dX5_init_11 fl_X5_15 rfl rfl hb hk ⟨rfl, rfl⟩ (hz _) ?_
  refine n_aload_n (pc := 14) dX5_init_14 rfl ?_
  refine n_iconst (v := 0) (pc := 15) dX5_init_15 (by decide) ?_
  refine n_put0 (pc := 16) (ci := 5) dX5_init_16 fl_X5_18 rfl rfl hb hk ⟨rfl, rfl⟩ (hz _) ?_
  refine n_aload_n (pc := 19) dX5_init_19 rfl ?_
  refine n_iconst (v := 0) (pc := 20) dX5_init_20 (by decide) ?_
  refine n_put0 (pc := 21) (ci := 5) dX5_init_21 fl_X5_21 rfl rfl hb hk ⟨rfl, rfl⟩ (hz _) ?_
  refine n_aload_n (pc := 24) dX5_init_24 rfl ?_
  refine n_iconst (v := 0) (pc := 25) dX5_init_25 (by decide) ?_
  refine n_put0 (pc := 26) (ci := 5) dX5_init_26 fl_X5_24 rfl rfl hb hk ⟨rfl, rfl⟩ (hz _) ?_
  refine n_aload_n (pc := 29) dX5_init_29 rfl ?_
  refine n_iconst (v := 0) (pc := 30) dX5_init_30 (by decide) ?_
  refine n_put0 (pc := 31) (ci := 5) dX5_init_31 fl_X5_28 rfl rfl hb hk ⟨rfl, rfl⟩ (hz _) ?_
  refine n_aload_n (pc := 34) dX5_init_34 rfl ?_
  refine n_iconst (v := 0) (pc := 35) dX5_init_35 (by decide) ?_
  refine n_put0 (pc := 36) (ci := 5) dX5_init_36 fl_X5_31 rfl rfl hb hk ⟨rfl, rfl⟩ (hz _) ?_
  refine n_aload_n (pc := 39) dX5_init_39 rfl ?_
  refine n_iconst (v := 0) (pc := 40) dX5_init_40 (by decide) ?_
  refine n_put0 (pc := 41) (ci := 5) dX5_init_41 fl_X5_34 rfl rfl hb hk ⟨rfl, rfl⟩ (hz _) ?_
  refine n_aload_n (pc := 44) dX5_init_44 rfl ?_
  refine n_iconst (v := 0) (pc := 45) dX5_init_45 (by decide) ?_
  refine n_put0 (pc := 46) (ci := 5) dX5_init_46 fl_X5_37 rfl rfl hb hk ⟨rfl, rfl⟩ (hz _) ?_
  refine n_aload_n (pc := 49) dX5_init_49 rfl ?_
  refine n_iconst (v := 0) (pc := 50) dX5_init_50 (by decide) ?_
  refine n_put0 (pc := 51) (ci := 5) dX5_init_51 fl_X5_40 rfl rfl hb hk ⟨rfl, rfl⟩ (hz _) ?_
  refine n_aload_n (pc := 54) dX5_init_54 rfl ?_
  refine n_iconst (v := 0) (pc := 55) dX5_init_55 (by decide) ?_
  refine n_put0 (pc := 56) (ci := 5) dX5_init_56 fl_X5_43 rfl rfl hb hk ⟨rfl, rfl⟩ (hz _) ?_
  refine n_aload_n (pc := 59) dX5_init_59 rfl ?_
  refine n_iconst (v := 0) (pc := 60) dX5_init_60 (by decide) ?_
  refine n_put0 (pc := 61) (ci := 5) dX5_init_61 fl_X5_46 rfl rfl hb hk ⟨rfl, rfl⟩ (hz _) ?_
  exact n_ret (pc := 64) rfl rfl dX5_init_64 rfl
theorem ct_X0 {n b : Nat} {x : Cn} (hb : b < n) (hk : kwf b = (0, 0)) (hz : ∀ k, x.1 b k = 0) : mSpN mX0_init [.ref b] (hp (n, kwf) x) 0 0 (fun h' => h' = hp (n, kwf) x) := by
  refine n_of (by decide) (by simp [Value.category]) (Nat.le_of_ble_eq_true rfl) rfl ?_
  show GN mX0_init 0 0 n _ (0, 0) 0 [some (.ref b)] [] _
  refine n_aload_n (pc := 0) dX0_init_0 rfl ?_
  refine n_objInit (pc := 1) dX0_init_1 lk_X0_1 oi_i oi_c ⟨by decide, by decide⟩ (Nat.le_of_ble_eq_true rfl) ?_
  refine n_aload_n (pc := 4) dX0_init_4 rfl ?_
  refine n_iconst (v := 0) (pc := 5) dX0_init_5 (by decide) ?_
  refine n_put0 (pc := 6) (ci := 0) dX0_init_6 fl_X0_7 rfl rfl hb hk ⟨rfl, rfl⟩ (hz _) ?_
  refine n_aload_n (pc := 9) dX0_init_9 rfl ?_
  refine n_iconst (v := 0) (pc := 10) dX0_init_10 (by decide) ?_
  refine n_put0 (pc := 11) (ci := 0) dX0_init_11 fl_X0_13 rfl rfl hb hk ⟨rfl, rfl⟩ (hz _) ?_
  refine n_aload_n (pc := 14) dX0_init_14 rfl ?_
  refine n_iconst (v := 0) (pc := 15) dX0_init_15 (by decide) ?_
  refine n_put0 (pc := 16) (ci := 0) dX0_init_16 fl_X0_16 rfl rfl hb hk ⟨rfl, rfl⟩ (hz _) ?_
  refine n_aload_n (pc := 19) dX0_init_19 rfl ?_
  refine n_iconst (v := 0) (pc := 20) dX0_init_20 (by decide) ?_
  refine n_put0 (pc := 21) (ci := 0) dX0_init_21 fl_X0_19 rfl rfl hb hk ⟨rfl, rfl⟩ (hz _) ?_
  refine n_aload_n (pc := 24) dX0_init_24 rfl ?_
  refine n_iconst (v := 0) (pc := 25) dX0_init_25 (by decide) ?_
  refine n_put0 (pc := 26) (ci := 0) dX0_init_26 fl_X0_22 rfl rfl hb hk ⟨rfl, rfl⟩ (hz _) ?_
  refine n_aload_n (pc := 29) dX0_init_29 rfl ?_
  refine n_iconst (v := 0) (pc := 30) dX0_init_30 (by decide) ?_
  refine n_put0 (pc := 31) (ci := 0) dX0_init_31 fl_X0_25 rfl rfl hb hk ⟨rfl, rfl⟩ (hz _) ?_
  refine n_aload_n (pc := 34) dX0_init_34 rfl ?_
  refine n_iconst (v := 0) (pc := 35) dX0_init_35 (by decide) ?_
  refine n_put0 (pc := 36) (ci := 0) dX0_init_36 fl_X0_28 rfl rfl hb hk ⟨rfl, rfl⟩ (hz _) ?_
  exact n_ret (pc := 39) rfl rfl dX0_init_39 rfl
theorem ct_X1 {n b : Nat} {x : Cn} (hb : b < n) (hn : n < 1000) (hk : kwf b = (1, 0)) (h1 : kwf n = (20, 48)) (ok : Okx n x) (hz : ∀ k, x.1 b k = 0) : mSpN mX1_init [.ref b] (hp (n, kwf) x) 1 48 (fun h' => h' = hp (n + 1, kwf) (ur x b 1 (some n))) := by
  have sb : n < mSB := Nat.lt_trans hn (by decide)
  refine n_of (by decide) (by simp [Value.category]) (Nat.le_of_ble_eq_true rfl) rfl ?_
  show GN mX1_init 1 48 n _ (0, 0) 0 [some (.ref b)] [] _
  refine n_aload_n (pc := 0) dX1_init_0 rfl ?_
  refine n_objInit (pc := 1) dX1_init_1 lk_X1_3 oi_i oi_c ⟨by decide, by decide⟩ (Nat.le_of_ble_eq_true rfl) ?_
  refine n_aload_n (pc := 4) dX1_init_4 rfl ?_
  refine n_iconst (v := 0) (pc := 5) dX1_init_5 (by decide) ?_
  refine n_put0 (pc := 6) (ci := 1) dX1_init_6 fl_X1_9 rfl rfl hb hk ⟨rfl, rfl⟩ (hz _) ?_
  refine n_aload_n (pc := 9) dX1_init_9 rfl ?_
  refine n_bipush (v := 48) (pc := 10) dX1_init_10 (by decide) ?_
  refine n_newa (kn := 20) (N := 48) (c' := (1, 48)) (pc := 12) dX1_init_12 (Or.inl ⟨rfl, rfl⟩) ac_i rfl (by decide) ok (by omega) (by intro b9 h9; simp at h9; first | (subst h9; show @LT.lt Nat _ _ _; omega) | (rcases h9 with h9 | h9 <;> (subst h9; show @LT.lt Nat _ _ _; omega)) | (rcases h9 with h9 | h9 | h9 <;> (subst h9; show @LT.lt Nat _ _ _; omega))) (by intro b9 h9; simp at h9; first | (subst h9; show @LT.lt Nat _ _ _; omega) | (rcases h9 with h9 | h9 <;> (subst h9; show @LT.lt Nat _ _ _; omega)) | (rcases h9 with h9 | h9 | h9 <;> (subst h9; show @LT.lt Nat _ _ _; omega))) (by omega) rfl (Nat.le_of_ble_eq_true rfl) (Nat.le_of_ble_eq_true rfl) (by assumption) ?_
  refine n_putRF (pc := 14) (ci := 1) dX1_init_14 fl_X1_15 rfl rfl rfl rfl (by omega) hk ?_
  exact n_ret (pc := 17) rfl rfl dX1_init_17 rfl
theorem ct_X6 {n b : Nat} {x : Cn} (hb : b < n) (hn : n < 1000) (hk : kwf b = (6, 0)) (h1 : kwf n = (21, 2400)) (ok : Okx n x) (hz : ∀ k, x.1 b k = 0) : mSpN mX6_init [.ref b] (hp (n, kwf) x) 1 2400 (fun h' => h' = hp (n + 1, kwf) (ur x b 0 (some n))) := by
  have sb : n < mSB := Nat.lt_trans hn (by decide)
  refine n_of (by decide) (by simp [Value.category]) (Nat.le_of_ble_eq_true rfl) rfl ?_
  show GN mX6_init 1 2400 n _ (0, 0) 0 [some (.ref b)] [] _
  refine n_aload_n (pc := 0) dX6_init_0 rfl ?_
  refine n_objInit (pc := 1) dX6_init_1 lk_X6_3 oi_i oi_c ⟨by decide, by decide⟩ (Nat.le_of_ble_eq_true rfl) ?_
  refine n_aload_n (pc := 4) dX6_init_4 rfl ?_
  refine n_sipush (v := 2400) (pc := 5) dX6_init_5 (by decide) ?_
  refine n_newa (kn := 21) (N := 2400) (c' := (1, 2400)) (pc := 8) dX6_init_8 (Or.inr ⟨rfl, rfl⟩) ac_b rfl (by decide) ok (by omega) (by intro b9 h9; simp at h9; first | (subst h9; show @LT.lt Nat _ _ _; omega) | (rcases h9 with h9 | h9 <;> (subst h9; show @LT.lt Nat _ _ _; omega)) | (rcases h9 with h9 | h9 | h9 <;> (subst h9; show @LT.lt Nat _ _ _; omega))) (by intro b9 h9; simp at h9; first | (subst h9; show @LT.lt Nat _ _ _; omega) | (rcases h9 with h9 | h9 <;> (subst h9; show @LT.lt Nat _ _ _; omega)) | (rcases h9 with h9 | h9 | h9 <;> (subst h9; show @LT.lt Nat _ _ _; omega))) (by omega) rfl (Nat.le_of_ble_eq_true rfl) (Nat.le_of_ble_eq_true rfl) (by assumption) ?_
  refine n_putRF (pc := 10) (ci := 6) dX6_init_10 fl_X6_9 rfl rfl rfl rfl (by omega) hk ?_
  refine n_aload_n (pc := 13) dX6_init_13 rfl ?_
  refine n_iconst (v := 0) (pc := 14) dX6_init_14 (by decide) ?_
  refine n_put0 (pc := 15) (ci := 6) dX6_init_15 fl_X6_15 rfl rfl (by omega) hk ⟨rfl, rfl⟩ (hz _) ?_
  exact n_ret (pc := 18) rfl rfl dX6_init_18 rfl
/-! a season's cells: i series, j asks made -/
def seaP (q i j : Nat) (x : Cn) : Cn := (x.1, fun a k => if a = q ∧ 5 ≤ k ∧ k ≤ 9 then some (q + (k - 4)) else if a = q + 3 ∧ k < i then some (q + 6 + k) else if a = q + 4 ∧ k < j then some (q + 30 + k) else x.2 a k)
theorem seaP_0 (q : Nat) (x : Cn) : ur (ur (ur (ur (ur x q 5 (some (q + 1))) q 6 (some (q + 2))) q 7 (some (q + 3))) q 8 (some (q + 4))) q 9 (some (q + 5)) = seaP q 0 0 x := by
  refine Prod.ext rfl (funext fun a => funext fun k => ?_)
  show (if a = q ∧ k = 9 then some (q + 5) else if a = q ∧ k = 8 then some (q + 4) else if a = q ∧ k = 7 then some (q + 3) else if a = q ∧ k = 6 then some (q + 2) else if a = q ∧ k = 5 then some (q + 1) else x.2 a k) = if a = q ∧ 5 ≤ k ∧ k ≤ 9 then some (q + (k - 4)) else if a = q + 3 ∧ k < 0 then some (q + 6 + k) else if a = q + 4 ∧ k < 0 then some (q + 30 + k) else x.2 a k
  (repeat' split) <;> first | rfl | (exfalso; omega) | (congr 1; omega)
theorem seaP_s (q i j : Nat) (x : Cn) : ur (seaP q i j x) (q + 3) i (some (q + 6 + i)) = seaP q (i + 1) j x := by
  refine Prod.ext rfl (funext fun a => funext fun k => ?_)
  show (if a = q + 3 ∧ k = i then some (q + 6 + i) else if a = q ∧ 5 ≤ k ∧ k ≤ 9 then some (q + (k - 4)) else if a = q + 3 ∧ k < i then some (q + 6 + k) else if a = q + 4 ∧ k < j then some (q + 30 + k) else x.2 a k) = if a = q ∧ 5 ≤ k ∧ k ≤ 9 then some (q + (k - 4)) else if a = q + 3 ∧ k < i + 1 then some (q + 6 + k) else if a = q + 4 ∧ k < j then some (q + 30 + k) else x.2 a k
  (repeat' split) <;> first | rfl | (exfalso; omega) | (congr 1; omega)
theorem seaP_a (q i j : Nat) (x : Cn) : ur (seaP q i j x) (q + 4) j (some (q + 30 + j)) = seaP q i (j + 1) x := by
  refine Prod.ext rfl (funext fun a => funext fun k => ?_)
  show (if a = q + 4 ∧ k = j then some (q + 30 + j) else if a = q ∧ 5 ≤ k ∧ k ≤ 9 then some (q + (k - 4)) else if a = q + 3 ∧ k < i then some (q + 6 + k) else if a = q + 4 ∧ k < j then some (q + 30 + k) else x.2 a k) = if a = q ∧ 5 ≤ k ∧ k ≤ 9 then some (q + (k - 4)) else if a = q + 3 ∧ k < i then some (q + 6 + k) else if a = q + 4 ∧ k < j + 1 then some (q + 30 + k) else x.2 a k
  (repeat' split) <;> first | rfl | (exfalso; omega) | (congr 1; omega)
theorem seaP_ok {q i j n : Nat} {x : Cn} (ok : Okx (q + 1) x) (h1 : q + 6 + i ≤ n) (h2 : j = 0 ∨ q + 30 + j ≤ n) : Okx n (seaP q i j x) := by
  refine ⟨fun a k ha => ⟨(ok.1 a k (by omega)).1, ?_⟩, fun a k b hb => ?_⟩
  · show (if a = q ∧ 5 ≤ k ∧ k ≤ 9 then some (q + (k - 4)) else if a = q + 3 ∧ k < i then some (q + 6 + k) else if a = q + 4 ∧ k < j then some (q + 30 + k) else x.2 a k) = none
    rw [if_neg (by omega), if_neg (by omega), if_neg (by omega)]
    exact (ok.1 a k (by omega)).2
  · have hb : (if a = q ∧ 5 ≤ k ∧ k ≤ 9 then some (q + (k - 4)) else if a = q + 3 ∧ k < i then some (q + 6 + k) else if a = q + 4 ∧ k < j then some (q + 30 + k) else x.2 a k) = some b := hb
    by_cases z1 : a = q ∧ 5 ≤ k ∧ k ≤ 9
    · rw [if_pos z1] at hb
      cases hb
      omega
    · rw [if_neg z1] at hb
      by_cases z2 : a = q + 3 ∧ k < i
      · rw [if_pos z2] at hb
        cases hb
        omega
      · rw [if_neg z2] at hb
        by_cases z3 : a = q + 4 ∧ k < j
        · rw [if_pos z3] at hb
          cases hb
          omega
        · rw [if_neg z3] at hb
          have := ok.2 a k b hb
          omega
theorem skd5 {j : Nat} (h1 : 6 ≤ j) (h2 : j < 30) : skd j = (5, 0) := by
  unfold skd
  rw [if_neg (by omega), if_neg (by omega), if_neg (by omega), if_neg (by omega), if_neg (by omega), if_pos (by omega)]
theorem skd0 {j : Nat} (h1 : 30 ≤ j) : skd j = (0, 0) := by
  unfold skd
  rw [if_neg (by omega), if_neg (by omega), if_neg (by omega), if_neg (by omega), if_neg (by omega), if_neg (by omega)]
theorem lp_X4a {q : Nat} {x : Cn} {P : HP → Prop} (hq : q < 900) (hs : ∀ j, j < 54 → kwf (q + j) = skd j) (ok : Okx (q + 1) x) (K : GN mX4_init 53 577 (q + 1) P (29, 409) 98 [some (.ref q), some (.int (nI 24))] [] (hp (q + 30, kwf) (seaP q 24 0 x))) : ∀ d i, i + d = 24 → GN mX4_init 53 577 (q + 1) P (5 + i, 121 + 12 * i) 73 [some (.ref q), some (.int (nI i))] [] (hp (q + 6 + i, kwf) (seaP q i 0 x)) := by
  intro d
  induction d with
  | zero =>
    intro i hi
    obtain rfl : i = 24 := by omega
    refine n_iload_n (pc := 73) dX4_init_73 rfl ?_
    refine n_bipush (v := nI 24) (pc := 74) dX4_init_74 (by decide) ?_
    exact n_icmp_ge (pc := 76) (tgt := 98) dX4_init_76 (by decide) (fun _ => K) (fun z => absurd (by decide) z)
  | succ d ih =>
    intro i hi
    have sb : q + 6 + i < mSB := Nat.lt_trans (show q + 6 + i < 1000 by omega) (by decide)
    have hk : kwf (q + 6 + i) = (5, 0) := by rw [Nat.add_assoc, hs (6 + i) (by omega)]; exact skd5 (by omega) (by omega)
    refine n_iload_n (pc := 73) dX4_init_73 rfl ?_
    refine n_bipush (v := nI 24) (pc := 74) dX4_init_74 (by decide) ?_
    refine n_icmp_ge (pc := 76) (tgt := 98) dX4_init_76 (by decide) (fun z => absurd z (nI_ge (by omega) (by omega))) (fun _ => ?_)
    refine n_aload_n (pc := 79) dX4_init_79 rfl ?_
    refine n_getR (pc := 80) (ci := 4) (b := q + 3) dX4_init_80 fl_X4_36 rfl (by omega) (hs 0 (by decide)) (by simp [seaP]) ?_
    refine n_iload_n (pc := 83) dX4_init_83 rfl ?_
    refine n_new (pc := 84) (ci := 5) (c' := (6 + i, 133 + 12 * i)) dX4_init_84 kl_X4_34 it_5 iz_5 (by decide) (seaP_ok ok (by omega) (Or.inl rfl)) sb (by intro b9 h9; simp at h9; first | (subst h9; show @LT.lt Nat _ _ _; omega) | (rcases h9 with h9 | h9 <;> (subst h9; show @LT.lt Nat _ _ _; omega)) | (rcases h9 with h9 | h9 | h9 <;> (subst h9; show @LT.lt Nat _ _ _; omega))) (by intro b9 h9; simp at h9; first | (subst h9; show @LT.lt Nat _ _ _; omega) | (rcases h9 with h9 | h9 <;> (subst h9; show @LT.lt Nat _ _ _; omega)) | (rcases h9 with h9 | h9 | h9 <;> (subst h9; show @LT.lt Nat _ _ _; omega))) (by omega) (Prod.ext (show 6 + i = 5 + i + 1 by omega) (show 133 + 12 * i = 121 + 12 * i + 12 by omega)) (show 6 + i ≤ 53 by omega) (show 133 + 12 * i ≤ 577 by omega) hk ?_
    refine n_dup (pc := 87) dX4_init_87 rfl ?_
    refine n_callI mX5_init (pc := 88) (m1 := 0) (s1 := 0) (c' := (6 + i, 133 + 12 * i)) dX4_init_88 (Or.inr ⟨_, nl_X4_49⟩) ii_X5_init mo_X5_init rfl rfl ⟨by decide, by decide⟩ (Nat.le_of_ble_eq_true rfl) (by intro b9 h9; simp at h9; first | (subst h9; show @LT.lt Nat _ _ _; omega) | (rcases h9 with h9 | h9 <;> (subst h9; show @LT.lt Nat _ _ _; omega)) | (rcases h9 with h9 | h9 | h9 <;> (subst h9; show @LT.lt Nat _ _ _; omega))) (by intro b9 h9; simp at h9; first | (subst h9; show @LT.lt Nat _ _ _; omega) | (rcases h9 with h9 | h9 <;> (subst h9; show @LT.lt Nat _ _ _; omega)) | (rcases h9 with h9 | h9 | h9 <;> (subst h9; show @LT.lt Nat _ _ _; omega))) (by omega) rfl (show 6 + i ≤ 53 by omega) (show 133 + 12 * i ≤ 577 by omega) (ct_X5 (by omega) hk (fun k => (ok.1 _ k (by omega)).1)) ?_
    refine n_aast (pc := 91) (ci := 23) (N := 24) (cj := 5) (nb := 0) (j := i) dX4_init_91 (by omega) (hs 3 (by decide)) (by decide) (by decide) rfl (by omega) hk (vp_in_nI (by omega) (by decide)) (nI_clamp (by omega)) ?_
    rw [seaP_s]
    refine n_iinc (pc := 92) (w := nI (i + 1)) dX4_init_92 rfl (nI_succ i).symm (by decide) ?_
    refine n_goto (pc := 95) (tgt := 73) dX4_init_95 (by decide) ?_
    rw [show ((6 + i, 133 + 12 * i) : Nat × Nat) = (5 + (i + 1), 121 + 12 * (i + 1)) from Prod.ext (show 6 + i = 5 + (i + 1) by omega) (show 133 + 12 * i = 121 + 12 * (i + 1) by omega)]
    exact ih (i + 1) (by omega)
theorem lp_X4b {q : Nat} {x : Cn} {P : HP → Prop} (hq : q < 900) (hs : ∀ j, j < 54 → kwf (q + j) = skd j) (ok : Okx (q + 1) x) (hP : P (hp (q + 54, kwf) (seaP q 24 24 x))) : ∀ d i, i + d = 24 → GN mX4_init 53 577 (q + 1) P (29 + i, 409 + 7 * i) 100 [some (.ref q), some (.int (nI i))] [] (hp (q + 30 + i, kwf) (seaP q 24 i x)) := by
  intro d
  induction d with
  | zero =>
    intro i hi
    obtain rfl : i = 24 := by omega
    refine n_iload_n (pc := 100) dX4_init_100 rfl ?_
    refine n_bipush (v := nI 24) (pc := 101) dX4_init_101 (by decide) ?_
    exact n_icmp_ge (pc := 103) (tgt := 125) dX4_init_103 (by decide) (fun _ => n_ret (pc := 125) rfl rfl dX4_init_125 hP) (fun z => absurd (by decide) z)
  | succ d ih =>
    intro i hi
    have sb : q + 30 + i < mSB := Nat.lt_trans (show q + 30 + i < 1000 by omega) (by decide)
    have hk : kwf (q + 30 + i) = (0, 0) := by rw [Nat.add_assoc, hs (30 + i) (by omega)]; exact skd0 (by omega)
    refine n_iload_n (pc := 100) dX4_init_100 rfl ?_
    refine n_bipush (v := nI 24) (pc := 101) dX4_init_101 (by decide) ?_
    refine n_icmp_ge (pc := 103) (tgt := 125) dX4_init_103 (by decide) (fun z => absurd z (nI_ge (by omega) (by omega))) (fun _ => ?_)
    refine n_aload_n (pc := 106) dX4_init_106 rfl ?_
    refine n_getR (pc := 107) (ci := 4) (b := q + 4) dX4_init_107 fl_X4_42 rfl (by omega) (hs 0 (by decide)) (by simp [seaP]) ?_
    refine n_iload_n (pc := 110) dX4_init_110 rfl ?_
    refine n_new (pc := 111) (ci := 0) (c' := (30 + i, 416 + 7 * i)) dX4_init_111 kl_X4_40 it_0 iz_0 (by decide) (seaP_ok ok (by omega) (Or.inr (by omega))) sb (by intro b9 h9; simp at h9; first | (subst h9; show @LT.lt Nat _ _ _; omega) | (rcases h9 with h9 | h9 <;> (subst h9; show @LT.lt Nat _ _ _; omega)) | (rcases h9 with h9 | h9 | h9 <;> (subst h9; show @LT.lt Nat _ _ _; omega))) (by intro b9 h9; simp at h9; first | (subst h9; show @LT.lt Nat _ _ _; omega) | (rcases h9 with h9 | h9 <;> (subst h9; show @LT.lt Nat _ _ _; omega)) | (rcases h9 with h9 | h9 | h9 <;> (subst h9; show @LT.lt Nat _ _ _; omega))) (by omega) (Prod.ext (show 30 + i = 29 + i + 1 by omega) (show 416 + 7 * i = 409 + 7 * i + 7 by omega)) (show 30 + i ≤ 53 by omega) (show 416 + 7 * i ≤ 577 by omega) hk ?_
    refine n_dup (pc := 114) dX4_init_114 rfl ?_
    refine n_callI mX0_init (pc := 115) (m1 := 0) (s1 := 0) (c' := (30 + i, 416 + 7 * i)) dX4_init_115 (Or.inr ⟨_, nl_X4_50⟩) ii_X0_init mo_X0_init rfl rfl ⟨by decide, by decide⟩ (Nat.le_of_ble_eq_true rfl) (by intro b9 h9; simp at h9; first | (subst h9; show @LT.lt Nat _ _ _; omega) | (rcases h9 with h9 | h9 <;> (subst h9; show @LT.lt Nat _ _ _; omega)) | (rcases h9 with h9 | h9 | h9 <;> (subst h9; show @LT.lt Nat _ _ _; omega))) (by intro b9 h9; simp at h9; first | (subst h9; show @LT.lt Nat _ _ _; omega) | (rcases h9 with h9 | h9 <;> (subst h9; show @LT.lt Nat _ _ _; omega)) | (rcases h9 with h9 | h9 | h9 <;> (subst h9; show @LT.lt Nat _ _ _; omega))) (by omega) rfl (show 30 + i ≤ 53 by omega) (show 416 + 7 * i ≤ 577 by omega) (ct_X0 (by omega) hk (fun k => (ok.1 _ k (by omega)).1)) ?_
    refine n_aast (pc := 118) (ci := 24) (N := 24) (cj := 0) (nb := 0) (j := i) dX4_init_118 (by omega) (hs 4 (by decide)) (by decide) (by decide) rfl (by omega) hk (vp_in_nI (by omega) (by decide)) (nI_clamp (by omega)) ?_
    rw [seaP_a]
    refine n_iinc (pc := 119) (w := nI (i + 1)) dX4_init_119 rfl (nI_succ i).symm (by decide) ?_
    refine n_goto (pc := 122) (tgt := 100) dX4_init_122 (by decide) ?_
    rw [show ((30 + i, 416 + 7 * i) : Nat × Nat) = (29 + (i + 1), 409 + 7 * (i + 1)) from Prod.ext (show 30 + i = 29 + (i + 1) by omega) (show 416 + 7 * i = 409 + 7 * (i + 1) by omega)]
    exact ih (i + 1) (by omega)
theorem ct_X4 {q : Nat} {x : Cn} (hq : q < 900) (hs : ∀ j, j < 54 → kwf (q + j) = skd j) (ok : Okx (q + 1) x) (hz : ∀ k, x.1 q k = 0) : mSpN mX4_init [.ref q] (hp (q + 1, kwf) x) 53 577 (fun h' => h' = hp (q + 54, kwf) (seaP q 24 24 x)) := by
  have sb : q + 100 < mSB := Nat.lt_trans (show q + 100 < 1001 by omega) (by decide)
  have hk : kwf q = (4, 0) := hs 0 (by decide)
  have hb : q < q + 1 := by omega
  have ok1 : Okx (q + 2) (ur x q 5 (some (q + 1))) := (ok.up (by omega)).ur (by omega) 5 (by omega)
  have ok2 : Okx (q + 3) (ur (ur x q 5 (some (q + 1))) q 6 (some (q + 2))) := (ok1.up (by omega)).ur (by omega) 6 (by omega)
  have ok3 : Okx (q + 4) (ur (ur (ur x q 5 (some (q + 1))) q 6 (some (q + 2))) q 7 (some (q + 3))) := (ok2.up (by omega)).ur (by omega) 7 (by omega)
  have ok4 : Okx (q + 5) (ur (ur (ur (ur x q 5 (some (q + 1))) q 6 (some (q + 2))) q 7 (some (q + 3))) q 8 (some (q + 4))) := (ok3.up (by omega)).ur (by omega) 8 (by omega)
  refine n_of (by decide) (by simp [Value.category]) (Nat.le_of_ble_eq_true rfl) rfl ?_
  show GN mX4_init 53 577 (q + 1) _ (0, 0) 0 [some (.ref q), none] [] _
  refine n_aload_n (pc := 0) dX4_init_0 rfl ?_
  refine n_objInit (pc := 1) dX4_init_1 lk_X4_3 oi_i oi_c ⟨by decide, by decide⟩ (Nat.le_of_ble_eq_true rfl) ?_
  refine n_aload_n (pc := 4) dX4_init_4 rfl ?_
  refine n_iconst (v := 0) (pc := 5) dX4_init_5 (by decide) ?_
  refine n_put0 (pc := 6) (ci := 4) dX4_init_6 fl_X4_9 rfl rfl hb hk ⟨rfl, rfl⟩ (hz _) ?_
  refine n_aload_n (pc := 9) dX4_init_9 rfl ?_
  refine n_iconst (v := 0) (pc := 10) dX4_init_10 (by decide) ?_
  refine n_put0 (pc := 11) (ci := 4) dX4_init_11 fl_X4_15 rfl rfl hb hk ⟨rfl, rfl⟩ (hz _) ?_
  refine n_aload_n (pc := 14) dX4_init_14 rfl ?_
  refine n_iconst (v := 0) (pc := 15) dX4_init_15 (by decide) ?_
  refine n_put0 (pc := 16) (ci := 4) dX4_init_16 fl_X4_18 rfl rfl hb hk ⟨rfl, rfl⟩ (hz _) ?_
  refine n_aload_n (pc := 19) dX4_init_19 rfl ?_
  refine n_iconst (v := 0) (pc := 20) dX4_init_20 (by decide) ?_
  refine n_put0 (pc := 21) (ci := 4) dX4_init_21 fl_X4_21 rfl rfl hb hk ⟨rfl, rfl⟩ (hz _) ?_
  refine n_aload_n (pc := 24) dX4_init_24 rfl ?_
  refine n_iconst (v := 0) (pc := 25) dX4_init_25 (by decide) ?_
  refine n_put0 (pc := 26) (ci := 4) dX4_init_26 fl_X4_24 rfl rfl hb hk ⟨rfl, rfl⟩ (hz _) ?_
  refine n_aload_n (pc := 29) dX4_init_29 rfl ?_
  refine n_bipush (v := 24) (pc := 30) dX4_init_30 (by decide) ?_
  refine n_newa (n := q + 1) (c' := (1, 24)) (N := 24) (kn := 20) (pc := 32) dX4_init_32 (Or.inl ⟨rfl, rfl⟩) ac_i rfl (by decide) ok (by omega) (by intro b9 h9; simp at h9; first | (subst h9; show @LT.lt Nat _ _ _; omega) | (rcases h9 with h9 | h9 <;> (subst h9; show @LT.lt Nat _ _ _; omega)) | (rcases h9 with h9 | h9 | h9 <;> (subst h9; show @LT.lt Nat _ _ _; omega))) (by intro b9 h9; simp at h9; first | (subst h9; show @LT.lt Nat _ _ _; omega) | (rcases h9 with h9 | h9 <;> (subst h9; show @LT.lt Nat _ _ _; omega)) | (rcases h9 with h9 | h9 | h9 <;> (subst h9; show @LT.lt Nat _ _ _; omega))) (by omega) rfl (Nat.le_of_ble_eq_true rfl) (Nat.le_of_ble_eq_true rfl) (hs 1 (by decide)) ?_
  refine n_putRF (n := q + 2) (b := q + 1) (pc := 34) (ci := 4) dX4_init_34 fl_X4_27 rfl rfl rfl rfl (by omega) hk ?_
  refine n_aload_n (pc := 37) dX4_init_37 rfl ?_
  refine n_bipush (v := 24) (pc := 38) dX4_init_38 (by decide) ?_
  refine n_newa (n := q + 2) (c' := (2, 48)) (N := 24) (kn := 20) (pc := 40) dX4_init_40 (Or.inl ⟨rfl, rfl⟩) ac_i rfl (by decide) ok1 (by omega) (by intro b9 h9; simp at h9; first | (subst h9; show @LT.lt Nat _ _ _; omega) | (rcases h9 with h9 | h9 <;> (subst h9; show @LT.lt Nat _ _ _; omega)) | (rcases h9 with h9 | h9 | h9 <;> (subst h9; show @LT.lt Nat _ _ _; omega))) (by intro b9 h9; simp at h9; first | (subst h9; show @LT.lt Nat _ _ _; omega) | (rcases h9 with h9 | h9 <;> (subst h9; show @LT.lt Nat _ _ _; omega)) | (rcases h9 with h9 | h9 | h9 <;> (subst h9; show @LT.lt Nat _ _ _; omega))) (by omega) rfl (Nat.le_of_ble_eq_true rfl) (Nat.le_of_ble_eq_true rfl) (hs 2 (by decide)) ?_
  refine n_putRF (n := q + 3) (b := q + 2) (pc := 42) (ci := 4) dX4_init_42 fl_X4_31 rfl rfl rfl rfl (by omega) hk ?_
  refine n_aload_n (pc := 45) dX4_init_45 rfl ?_
  refine n_bipush (v := 24) (pc := 46) dX4_init_46 (by decide) ?_
  refine n_anew (n := q + 3) (c' := (3, 72)) (N := 24) (kn := 23) (pc := 48) dX4_init_48 kl_X4_34 (Or.inr (Or.inl ⟨rfl, rfl⟩)) rfl (by decide) ok2 (by omega) (by intro b9 h9; simp at h9; first | (subst h9; show @LT.lt Nat _ _ _; omega) | (rcases h9 with h9 | h9 <;> (subst h9; show @LT.lt Nat _ _ _; omega)) | (rcases h9 with h9 | h9 | h9 <;> (subst h9; show @LT.lt Nat _ _ _; omega))) (by intro b9 h9; simp at h9; first | (subst h9; show @LT.lt Nat _ _ _; omega) | (rcases h9 with h9 | h9 <;> (subst h9; show @LT.lt Nat _ _ _; omega)) | (rcases h9 with h9 | h9 | h9 <;> (subst h9; show @LT.lt Nat _ _ _; omega))) (by omega) rfl (Nat.le_of_ble_eq_true rfl) (Nat.le_of_ble_eq_true rfl) (hs 3 (by decide)) ?_
  refine n_putRF (n := q + 4) (b := q + 3) (pc := 51) (ci := 4) dX4_init_51 fl_X4_36 rfl rfl rfl rfl (by omega) hk ?_
  refine n_aload_n (pc := 54) dX4_init_54 rfl ?_
  refine n_bipush (v := 24) (pc := 55) dX4_init_55 (by decide) ?_
  refine n_anew (n := q + 4) (c' := (4, 96)) (N := 24) (kn := 24) (pc := 57) dX4_init_57 kl_X4_40 (Or.inr (Or.inr ⟨rfl, rfl⟩)) rfl (by decide) ok3 (by omega) (by intro b9 h9; simp at h9; first | (subst h9; show @LT.lt Nat _ _ _; omega) | (rcases h9 with h9 | h9 <;> (subst h9; show @LT.lt Nat _ _ _; omega)) | (rcases h9 with h9 | h9 | h9 <;> (subst h9; show @LT.lt Nat _ _ _; omega))) (by intro b9 h9; simp at h9; first | (subst h9; show @LT.lt Nat _ _ _; omega) | (rcases h9 with h9 | h9 <;> (subst h9; show @LT.lt Nat _ _ _; omega)) | (rcases h9 with h9 | h9 | h9 <;> (subst h9; show @LT.lt Nat _ _ _; omega))) (by omega) rfl (Nat.le_of_ble_eq_true rfl) (Nat.le_of_ble_eq_true rfl) (hs 4 (by decide)) ?_
  refine n_putRF (n := q + 5) (b := q + 4) (pc := 60) (ci := 4) dX4_init_60 fl_X4_42 rfl rfl rfl rfl (by omega) hk ?_
  refine n_aload_n (pc := 63) dX4_init_63 rfl ?_
  refine n_bipush (v := 25) (pc := 64) dX4_init_64 (by decide) ?_
  refine n_newa (n := q + 5) (c' := (5, 121)) (N := 25) (kn := 20) (pc := 66) dX4_init_66 (Or.inl ⟨rfl, rfl⟩) ac_i rfl (by decide) ok4 (by omega) (by intro b9 h9; simp at h9; first | (subst h9; show @LT.lt Nat _ _ _; omega) | (rcases h9 with h9 | h9 <;> (subst h9; show @LT.lt Nat _ _ _; omega)) | (rcases h9 with h9 | h9 | h9 <;> (subst h9; show @LT.lt Nat _ _ _; omega))) (by intro b9 h9; simp at h9; first | (subst h9; show @LT.lt Nat _ _ _; omega) | (rcases h9 with h9 | h9 <;> (subst h9; show @LT.lt Nat _ _ _; omega)) | (rcases h9 with h9 | h9 | h9 <;> (subst h9; show @LT.lt Nat _ _ _; omega))) (by omega) rfl (Nat.le_of_ble_eq_true rfl) (Nat.le_of_ble_eq_true rfl) (hs 5 (by decide)) ?_
  refine n_putRF (n := q + 6) (b := q + 5) (pc := 68) (ci := 4) dX4_init_68 fl_X4_46 rfl rfl rfl rfl (by omega) hk ?_
  change GN mX4_init 53 577 (q + 1) _ (5, 121) 71 [some (.ref q), none] [] (hp (q + 6, kwf) (ur (ur (ur (ur (ur x q 5 (some (q + 1))) q 6 (some (q + 2))) q 7 (some (q + 3))) q 8 (some (q + 4))) q 9 (some (q + 5))))
  rw [seaP_0]
  refine n_iconst (v := nI 0) (pc := 71) dX4_init_71 (by decide) ?_
  refine n_istore_n (pc := 72) dX4_init_72 (by decide) ?_
  refine lp_X4a hq hs ok ?_ 24 0 rfl
  refine n_iconst (v := nI 0) (pc := 98) dX4_init_98 (by decide) ?_
  refine n_istore_n (pc := 99) dX4_init_99 (by decide) ?_
  exact lp_X4b (P := fun h' => h' = hp (q + 54, kwf) (seaP q 24 24 x)) hq hs ok rfl 24 0 rfl
theorem ksK {q : Nat} (h : Isea q) : ∀ j, j < 54 → kwf (q + j) = skd j := fun j hj => by
  have e := ksea h j hj
  have hl := h.lt
  unfold kk at e
  rw [if_pos (show q + j < KW.1 from (show q + j < 726 by omega))] at e
  exact Option.some.inj e
theorem uiz {y : Cn} {a k b j : Nat} {v : Int32} (h : ¬ (b = a ∧ j = k)) (hz : y.1 b j = 0) : (ui y a k v).1 b j = 0 := (if_neg h).trans hz
def plC (x : Cn) : Cn := (ur (ur (ur (ur (seaP 118 24 24 x) 117 0 (some 118)) 117 1 (some 172)) 117 2 (some 173)) 117 3 (some 174))
theorem ct_X2 {x : Cn} (ok : Okx 118 x) (hz : ∀ k, x.1 117 k = 0) : mSpN mX2_init [.ref 117] (hp (118, kwf) x) 57 691 (fun h' => h' = hp (175, kwf) (plC x)) := by
  refine n_of (by decide) (by simp [Value.category]) (Nat.le_of_ble_eq_true rfl) rfl ?_
  show GN mX2_init 57 691 118 _ (0, 0) 0 [some (.ref 117)] [] _
  refine n_aload_n (pc := 0) dX2_init_0 rfl ?_
  refine n_objInit (pc := 1) dX2_init_1 lk_X2_3 oi_i oi_c ⟨by decide, by decide⟩ (Nat.le_of_ble_eq_true rfl) ?_
  refine n_aload_n (pc := 4) dX2_init_4 rfl ?_
  refine n_new (n := 118) (pc := 5) (ci := 4) (c' := (1, 10)) dX2_init_5 kl_X2_9 it_4 iz_4 (by decide) ok (by decide) (by intro b9 h9; simp at h9; first | (subst h9; show @LT.lt Nat _ _ _; omega) | (rcases h9 with h9 | h9 <;> (subst h9; show @LT.lt Nat _ _ _; omega)) | (rcases h9 with h9 | h9 | h9 <;> (subst h9; show @LT.lt Nat _ _ _; omega))) (by intro b9 h9; simp at h9; first | (subst h9; show @LT.lt Nat _ _ _; omega) | (rcases h9 with h9 | h9 <;> (subst h9; show @LT.lt Nat _ _ _; omega)) | (rcases h9 with h9 | h9 | h9 <;> (subst h9; show @LT.lt Nat _ _ _; omega))) (by decide) rfl (Nat.le_of_ble_eq_true rfl) (Nat.le_of_ble_eq_true rfl) (by decide) ?_
  refine n_dup (pc := 8) dX2_init_8 rfl ?_
  refine n_callI mX4_init (n := 119) (n' := 172) (pc := 9) (m1 := 53) (s1 := 577) (c' := (54, 587)) dX2_init_9 (Or.inl lk_X2_11) ii_X4_init mo_X4_init rfl rfl ⟨by decide, by decide⟩ (Nat.le_of_ble_eq_true rfl) (by intro b9 h9; simp at h9; first | (subst h9; show @LT.lt Nat _ _ _; omega) | (rcases h9 with h9 | h9 <;> (subst h9; show @LT.lt Nat _ _ _; omega)) | (rcases h9 with h9 | h9 | h9 <;> (subst h9; show @LT.lt Nat _ _ _; omega))) (by intro b9 h9; simp at h9; first | (subst h9; show @LT.lt Nat _ _ _; omega) | (rcases h9 with h9 | h9 <;> (subst h9; show @LT.lt Nat _ _ _; omega)) | (rcases h9 with h9 | h9 | h9 <;> (subst h9; show @LT.lt Nat _ _ _; omega))) (by decide) rfl (Nat.le_of_ble_eq_true rfl) (Nat.le_of_ble_eq_true rfl) (ct_X4 (q := 118) (by decide) (ksK (Or.inr (Or.inr (Or.inl rfl)))) (ok.up (m := 119) (by decide)) (fun k => (ok.1 _ k (by decide)).1)) ?_
  have ok_1 := seaP_ok (q := 118) (i := 24) (j := 24) (n := 172) (ok.up (m := 119) (by decide)) (by decide) (Or.inr (by decide))
  refine n_putRF (n := 172) (b := 118) (pc := 12) (ci := 2) dX2_init_12 fl_X2_12 rfl rfl rfl rfl (by decide) (by decide) ?_
  have ok_2 := (ok_1.up (m := 172) (by decide)).ur (a := 117) (b := 118) (by decide) 0 (by decide)
  refine n_aload_n (pc := 15) dX2_init_15 rfl ?_
  refine n_bipush (v := 56) (pc := 16) dX2_init_16 (by decide) ?_
  refine n_newa (n := 172) (N := 56) (kn := 20) (c' := (55, 643)) (pc := 18) dX2_init_18 (Or.inl ⟨rfl, rfl⟩) ac_i rfl (by decide) ok_2 (by decide) (by intro b9 h9; simp at h9; first | (subst h9; show @LT.lt Nat _ _ _; omega) | (rcases h9 with h9 | h9 <;> (subst h9; show @LT.lt Nat _ _ _; omega)) | (rcases h9 with h9 | h9 | h9 <;> (subst h9; show @LT.lt Nat _ _ _; omega))) (by intro b9 h9; simp at h9; first | (subst h9; show @LT.lt Nat _ _ _; omega) | (rcases h9 with h9 | h9 <;> (subst h9; show @LT.lt Nat _ _ _; omega)) | (rcases h9 with h9 | h9 | h9 <;> (subst h9; show @LT.lt Nat _ _ _; omega))) (by decide) rfl (Nat.le_of_ble_eq_true rfl) (Nat.le_of_ble_eq_true rfl) (by decide) ?_
  refine n_putRF (n := 173) (b := 172) (pc := 20) (ci := 2) dX2_init_20 fl_X2_18 rfl rfl rfl rfl (by decide) (by decide) ?_
  have ok_3 := (ok_2.up (m := 173) (by decide)).ur (a := 117) (b := 172) (by decide) 1 (by decide)
  refine n_aload_n (pc := 23) dX2_init_23 rfl ?_
  refine n_bipush (v := 24) (pc := 24) dX2_init_24 (by decide) ?_
  refine n_newa (n := 173) (N := 24) (kn := 20) (c' := (56, 667)) (pc := 26) dX2_init_26 (Or.inl ⟨rfl, rfl⟩) ac_i rfl (by decide) ok_3 (by decide) (by intro b9 h9; simp at h9; first | (subst h9; show @LT.lt Nat _ _ _; omega) | (rcases h9 with h9 | h9 <;> (subst h9; show @LT.lt Nat _ _ _; omega)) | (rcases h9 with h9 | h9 | h9 <;> (subst h9; show @LT.lt Nat _ _ _; omega))) (by intro b9 h9; simp at h9; first | (subst h9; show @LT.lt Nat _ _ _; omega) | (rcases h9 with h9 | h9 <;> (subst h9; show @LT.lt Nat _ _ _; omega)) | (rcases h9 with h9 | h9 | h9 <;> (subst h9; show @LT.lt Nat _ _ _; omega))) (by decide) rfl (Nat.le_of_ble_eq_true rfl) (Nat.le_of_ble_eq_true rfl) (by decide) ?_
  refine n_putRF (n := 174) (b := 173) (pc := 28) (ci := 2) dX2_init_28 fl_X2_22 rfl rfl rfl rfl (by decide) (by decide) ?_
  have ok_4 := (ok_3.up (m := 174) (by decide)).ur (a := 117) (b := 173) (by decide) 2 (by decide)
  refine n_aload_n (pc := 31) dX2_init_31 rfl ?_
  refine n_bipush (v := 24) (pc := 32) dX2_init_32 (by decide) ?_
  refine n_newa (n := 174) (N := 24) (kn := 20) (c' := (57, 691)) (pc := 34) dX2_init_34 (Or.inl ⟨rfl, rfl⟩) ac_i rfl (by decide) ok_4 (by decide) (by intro b9 h9; simp at h9; first | (subst h9; show @LT.lt Nat _ _ _; omega) | (rcases h9 with h9 | h9 <;> (subst h9; show @LT.lt Nat _ _ _; omega)) | (rcases h9 with h9 | h9 | h9 <;> (subst h9; show @LT.lt Nat _ _ _; omega))) (by intro b9 h9; simp at h9; first | (subst h9; show @LT.lt Nat _ _ _; omega) | (rcases h9 with h9 | h9 <;> (subst h9; show @LT.lt Nat _ _ _; omega)) | (rcases h9 with h9 | h9 | h9 <;> (subst h9; show @LT.lt Nat _ _ _; omega))) (by decide) rfl (Nat.le_of_ble_eq_true rfl) (Nat.le_of_ble_eq_true rfl) (by decide) ?_
  refine n_putRF (n := 175) (b := 174) (pc := 36) (ci := 2) dX2_init_36 fl_X2_25 rfl rfl rfl rfl (by decide) (by decide) ?_
  have ok_5 := (ok_4.up (m := 175) (by decide)).ur (a := 117) (b := 174) (by decide) 3 (by decide)
  refine n_aload_n (pc := 39) dX2_init_39 rfl ?_
  refine n_iconst (v := 0) (pc := 40) dX2_init_40 (by decide) ?_
  refine n_put0 (n := 175) (pc := 41) (ci := 2) dX2_init_41 fl_X2_28 rfl rfl (by decide) (by decide) ⟨rfl, rfl⟩ (hz 4) ?_
  exact n_ret (pc := 44) rfl rfl dX2_init_44 rfl
theorem plC_ok {x : Cn} (ok : Okx 118 x) : Okx 175 (plC x) := by
  have ok_1 := seaP_ok (q := 118) (i := 24) (j := 24) (n := 172) (ok.up (m := 119) (by decide)) (by decide) (Or.inr (by decide))
  have ok_2 := (ok_1.up (m := 172) (by decide)).ur (a := 117) (b := 118) (by decide) 0 (by decide)
  have ok_3 := (ok_2.up (m := 173) (by decide)).ur (a := 117) (b := 172) (by decide) 1 (by decide)
  have ok_4 := (ok_3.up (m := 174) (by decide)).ur (a := 117) (b := 173) (by decide) 2 (by decide)
  have ok_5 := (ok_4.up (m := 175) (by decide)).ur (a := 117) (b := 174) (by decide) 3 (by decide)
  exact ok_5
def rdC (x : Cn) : Cn := (ur (ui (ur (ur (ur (seaP 60 24 24 x) 59 0 (some 60)) 114 1 (some 115)) 59 1 (some 114)) 59 4 (-1)) 59 5 (some 116))
theorem ct_X3 {x : Cn} (ok : Okx 60 x) (hz : ∀ k, x.1 59 k = 0) : mSpN mX3_init [.ref 59] (hp (60, kwf) x) 57 637 (fun h' => h' = hp (117, kwf) (rdC x)) := by
  refine n_of (by decide) (by simp [Value.category]) (Nat.le_of_ble_eq_true rfl) rfl ?_
  show GN mX3_init 57 637 60 _ (0, 0) 0 [some (.ref 59)] [] _
  refine n_aload_n (pc := 0) dX3_init_0 rfl ?_
  refine n_objInit (pc := 1) dX3_init_1 lk_X3_3 oi_i oi_c ⟨by decide, by decide⟩ (Nat.le_of_ble_eq_true rfl) ?_
  refine n_aload_n (pc := 4) dX3_init_4 rfl ?_
  refine n_new (n := 60) (pc := 5) (ci := 4) (c' := (1, 10)) dX3_init_5 kl_X3_9 it_4 iz_4 (by decide) ok (by decide) (by intro b9 h9; simp at h9; first | (subst h9; show @LT.lt Nat _ _ _; omega) | (rcases h9 with h9 | h9 <;> (subst h9; show @LT.lt Nat _ _ _; omega)) | (rcases h9 with h9 | h9 | h9 <;> (subst h9; show @LT.lt Nat _ _ _; omega))) (by intro b9 h9; simp at h9; first | (subst h9; show @LT.lt Nat _ _ _; omega) | (rcases h9 with h9 | h9 <;> (subst h9; show @LT.lt Nat _ _ _; omega)) | (rcases h9 with h9 | h9 | h9 <;> (subst h9; show @LT.lt Nat _ _ _; omega))) (by decide) rfl (Nat.le_of_ble_eq_true rfl) (Nat.le_of_ble_eq_true rfl) (by decide) ?_
  refine n_dup (pc := 8) dX3_init_8 rfl ?_
  refine n_callI mX4_init (n := 61) (n' := 114) (pc := 9) (m1 := 53) (s1 := 577) (c' := (54, 587)) dX3_init_9 (Or.inl lk_X3_11) ii_X4_init mo_X4_init rfl rfl ⟨by decide, by decide⟩ (Nat.le_of_ble_eq_true rfl) (by intro b9 h9; simp at h9; first | (subst h9; show @LT.lt Nat _ _ _; omega) | (rcases h9 with h9 | h9 <;> (subst h9; show @LT.lt Nat _ _ _; omega)) | (rcases h9 with h9 | h9 | h9 <;> (subst h9; show @LT.lt Nat _ _ _; omega))) (by intro b9 h9; simp at h9; first | (subst h9; show @LT.lt Nat _ _ _; omega) | (rcases h9 with h9 | h9 <;> (subst h9; show @LT.lt Nat _ _ _; omega)) | (rcases h9 with h9 | h9 | h9 <;> (subst h9; show @LT.lt Nat _ _ _; omega))) (by decide) rfl (Nat.le_of_ble_eq_true rfl) (Nat.le_of_ble_eq_true rfl) (ct_X4 (q := 60) (by decide) (ksK (Or.inr (Or.inl rfl))) (ok.up (m := 61) (by decide)) (fun k => (ok.1 _ k (by decide)).1)) ?_
  have ok_1 := seaP_ok (q := 60) (i := 24) (j := 24) (n := 114) (ok.up (m := 61) (by decide)) (by decide) (Or.inr (by decide))
  refine n_putRF (n := 114) (b := 60) (pc := 12) (ci := 3) dX3_init_12 fl_X3_12 rfl rfl rfl rfl (by decide) (by decide) ?_
  have ok_2 := (ok_1.up (m := 114) (by decide)).ur (a := 59) (b := 60) (by decide) 0 (by decide)
  refine n_aload_n (pc := 15) dX3_init_15 rfl ?_
  refine n_new (n := 114) (pc := 16) (ci := 1) (c' := (55, 589)) dX3_init_16 kl_X3_18 it_1 iz_1 (by decide) ok_2 (by decide) (by intro b9 h9; simp at h9; first | (subst h9; show @LT.lt Nat _ _ _; omega) | (rcases h9 with h9 | h9 <;> (subst h9; show @LT.lt Nat _ _ _; omega)) | (rcases h9 with h9 | h9 | h9 <;> (subst h9; show @LT.lt Nat _ _ _; omega))) (by intro b9 h9; simp at h9; first | (subst h9; show @LT.lt Nat _ _ _; omega) | (rcases h9 with h9 | h9 <;> (subst h9; show @LT.lt Nat _ _ _; omega)) | (rcases h9 with h9 | h9 | h9 <;> (subst h9; show @LT.lt Nat _ _ _; omega))) (by decide) rfl (Nat.le_of_ble_eq_true rfl) (Nat.le_of_ble_eq_true rfl) (by decide) ?_
  refine n_dup (pc := 19) dX3_init_19 rfl ?_
  refine n_callI mX1_init (n := 115) (n' := 116) (pc := 20) (m1 := 1) (s1 := 48) (c' := (56, 637)) dX3_init_20 (Or.inr ⟨_, nl_X3_20⟩) ii_X1_init mo_X1_init rfl rfl ⟨by decide, by decide⟩ (Nat.le_of_ble_eq_true rfl) (by intro b9 h9; simp at h9; first | (subst h9; show @LT.lt Nat _ _ _; omega) | (rcases h9 with h9 | h9 <;> (subst h9; show @LT.lt Nat _ _ _; omega)) | (rcases h9 with h9 | h9 | h9 <;> (subst h9; show @LT.lt Nat _ _ _; omega))) (by intro b9 h9; simp at h9; first | (subst h9; show @LT.lt Nat _ _ _; omega) | (rcases h9 with h9 | h9 <;> (subst h9; show @LT.lt Nat _ _ _; omega)) | (rcases h9 with h9 | h9 | h9 <;> (subst h9; show @LT.lt Nat _ _ _; omega))) (by decide) rfl (Nat.le_of_ble_eq_true rfl) (Nat.le_of_ble_eq_true rfl) (ct_X1 (b := 114) (n := 115) (by decide) (by decide) (by decide) (by decide) (ok_2.up (m := 115) (by decide)) (fun k => (ok_2.1 _ k (by decide)).1)) ?_
  have ok_3 := (ok_2.up (m := 116) (by decide)).ur (a := 114) (b := 115) (by decide) 1 (by decide)
  refine n_putRF (n := 116) (b := 114) (pc := 23) (ci := 3) dX3_init_23 fl_X3_21 rfl rfl rfl rfl (by decide) (by decide) ?_
  have ok_4 := (ok_3.up (m := 116) (by decide)).ur (a := 59) (b := 114) (by decide) 1 (by decide)
  refine n_aload_n (pc := 26) dX3_init_26 rfl ?_
  refine n_iconst (v := 0) (pc := 27) dX3_init_27 (by decide) ?_
  refine n_put0 (n := 116) (pc := 28) (ci := 3) dX3_init_28 fl_X3_25 rfl rfl (by decide) (by decide) ⟨rfl, rfl⟩ (hz 2) ?_
  refine n_aload_n (pc := 31) dX3_init_31 rfl ?_
  refine n_iconst (v := 0) (pc := 32) dX3_init_32 (by decide) ?_
  refine n_put0 (n := 116) (pc := 33) (ci := 3) dX3_init_33 fl_X3_29 rfl rfl (by decide) (by decide) ⟨rfl, rfl⟩ (hz 3) ?_
  refine n_aload_n (pc := 36) dX3_init_36 rfl ?_
  refine n_iconst (v := (-1)) (pc := 37) dX3_init_37 (by decide) ?_
  refine n_putI (n := 116) (pc := 38) (ci := 3) dX3_init_38 fl_X3_32 rfl rfl (by decide) (by decide) ⟨rfl, rfl⟩ ?_
  have ok_5 := ok_4.ui (a := 59) (by decide) 4 (-1)
  refine n_aload_n (pc := 41) dX3_init_41 rfl ?_
  refine n_iconst (v := 0) (pc := 42) dX3_init_42 (by decide) ?_
  refine n_newa (n := 116) (N := 0) (kn := 21) (c' := (57, 637)) (pc := 43) dX3_init_43 (Or.inr ⟨rfl, rfl⟩) ac_b rfl (by decide) ok_5 (by decide) (by intro b9 h9; simp at h9; first | (subst h9; show @LT.lt Nat _ _ _; omega) | (rcases h9 with h9 | h9 <;> (subst h9; show @LT.lt Nat _ _ _; omega)) | (rcases h9 with h9 | h9 | h9 <;> (subst h9; show @LT.lt Nat _ _ _; omega))) (by intro b9 h9; simp at h9; first | (subst h9; show @LT.lt Nat _ _ _; omega) | (rcases h9 with h9 | h9 <;> (subst h9; show @LT.lt Nat _ _ _; omega)) | (rcases h9 with h9 | h9 | h9 <;> (subst h9; show @LT.lt Nat _ _ _; omega))) (by decide) rfl (Nat.le_of_ble_eq_true rfl) (Nat.le_of_ble_eq_true rfl) (by decide) ?_
  refine n_putR (n := 117) (b := 116) (pc := 45) (ci := 3) dX3_init_45 fl_X3_35 rfl rfl (by decide) (by decide) ?_
  have ok_6 := (ok_5.up (m := 117) (by decide)).ur (a := 59) (b := 116) (by decide) 5 (by decide)
  refine n_aload_n (pc := 48) dX3_init_48 rfl ?_
  refine n_iconst (v := 0) (pc := 49) dX3_init_49 (by decide) ?_
  refine n_put0 (n := 117) (pc := 50) (ci := 3) dX3_init_50 fl_X3_39 rfl rfl (by decide) (by decide) ⟨rfl, rfl⟩ (uiz (a := 59) (k := 4) (v := -1) (by decide) (hz 6)) ?_
  refine n_aload_n (pc := 53) dX3_init_53 rfl ?_
  refine n_iconst (v := 0) (pc := 54) dX3_init_54 (by decide) ?_
  refine n_put0 (n := 117) (pc := 55) (ci := 3) dX3_init_55 fl_X3_42 rfl rfl (by decide) (by decide) ⟨rfl, rfl⟩ (uiz (a := 59) (k := 4) (v := -1) (by decide) (hz 7)) ?_
  refine n_aload_n (pc := 58) dX3_init_58 rfl ?_
  refine n_iconst (v := 0) (pc := 59) dX3_init_59 (by decide) ?_
  refine n_put0 (n := 117) (pc := 60) (ci := 3) dX3_init_60 fl_X3_45 rfl rfl (by decide) (by decide) ⟨rfl, rfl⟩ (uiz (a := 59) (k := 4) (v := -1) (by decide) (hz 8)) ?_
  refine n_aload_n (pc := 63) dX3_init_63 rfl ?_
  refine n_iconst (v := 0) (pc := 64) dX3_init_64 (by decide) ?_
  refine n_put0 (n := 117) (pc := 65) (ci := 3) dX3_init_65 fl_X3_48 rfl rfl (by decide) (by decide) ⟨rfl, rfl⟩ (uiz (a := 59) (k := 4) (v := -1) (by decide) (hz 9)) ?_
  refine n_aload_n (pc := 68) dX3_init_68 rfl ?_
  refine n_iconst (v := 0) (pc := 69) dX3_init_69 (by decide) ?_
  refine n_put0 (n := 117) (pc := 70) (ci := 3) dX3_init_70 fl_X3_51 rfl rfl (by decide) (by decide) ⟨rfl, rfl⟩ (uiz (a := 59) (k := 4) (v := -1) (by decide) (hz 10)) ?_
  refine n_aload_n (pc := 73) dX3_init_73 rfl ?_
  refine n_iconst (v := 0) (pc := 74) dX3_init_74 (by decide) ?_
  refine n_put0 (n := 117) (pc := 75) (ci := 3) dX3_init_75 fl_X3_54 rfl rfl (by decide) (by decide) ⟨rfl, rfl⟩ (uiz (a := 59) (k := 4) (v := -1) (by decide) (hz 11)) ?_
  refine n_aload_n (pc := 78) dX3_init_78 rfl ?_
  refine n_iconst (v := 0) (pc := 79) dX3_init_79 (by decide) ?_
  refine n_put0 (n := 117) (pc := 80) (ci := 3) dX3_init_80 fl_X3_57 rfl rfl (by decide) (by decide) ⟨rfl, rfl⟩ (uiz (a := 59) (k := 4) (v := -1) (by decide) (hz 12)) ?_
  refine n_aload_n (pc := 83) dX3_init_83 rfl ?_
  refine n_iconst (v := 0) (pc := 84) dX3_init_84 (by decide) ?_
  refine n_put0 (n := 117) (pc := 85) (ci := 3) dX3_init_85 fl_X3_60 rfl rfl (by decide) (by decide) ⟨rfl, rfl⟩ (uiz (a := 59) (k := 4) (v := -1) (by decide) (hz 13)) ?_
  refine n_aload_n (pc := 88) dX3_init_88 rfl ?_
  refine n_iconst (v := 0) (pc := 89) dX3_init_89 (by decide) ?_
  refine n_put0 (n := 117) (pc := 90) (ci := 3) dX3_init_90 fl_X3_63 rfl rfl (by decide) (by decide) ⟨rfl, rfl⟩ (uiz (a := 59) (k := 4) (v := -1) (by decide) (hz 14)) ?_
  refine n_aload_n (pc := 93) dX3_init_93 rfl ?_
  refine n_iconst (v := 0) (pc := 94) dX3_init_94 (by decide) ?_
  refine n_put0 (n := 117) (pc := 95) (ci := 3) dX3_init_95 fl_X3_66 rfl rfl (by decide) (by decide) ⟨rfl, rfl⟩ (uiz (a := 59) (k := 4) (v := -1) (by decide) (hz 15)) ?_
  refine n_aload_n (pc := 98) dX3_init_98 rfl ?_
  refine n_iconst (v := 0) (pc := 99) dX3_init_99 (by decide) ?_
  refine n_put0 (n := 117) (pc := 100) (ci := 3) dX3_init_100 fl_X3_69 rfl rfl (by decide) (by decide) ⟨rfl, rfl⟩ (uiz (a := 59) (k := 4) (v := -1) (by decide) (hz 16)) ?_
  refine n_aload_n (pc := 103) dX3_init_103 rfl ?_
  refine n_iconst (v := 0) (pc := 104) dX3_init_104 (by decide) ?_
  refine n_put0 (n := 117) (pc := 105) (ci := 3) dX3_init_105 fl_X3_72 rfl rfl (by decide) (by decide) ⟨rfl, rfl⟩ (uiz (a := 59) (k := 4) (v := -1) (by decide) (hz 17)) ?_
  exact n_ret (pc := 108) rfl rfl dX3_init_108 rfl
theorem rdC_ok {x : Cn} (ok : Okx 60 x) : Okx 117 (rdC x) := by
  have ok_1 := seaP_ok (q := 60) (i := 24) (j := 24) (n := 114) (ok.up (m := 61) (by decide)) (by decide) (Or.inr (by decide))
  have ok_2 := (ok_1.up (m := 114) (by decide)).ur (a := 59) (b := 60) (by decide) 0 (by decide)
  have ok_3 := (ok_2.up (m := 116) (by decide)).ur (a := 114) (b := 115) (by decide) 1 (by decide)
  have ok_4 := (ok_3.up (m := 116) (by decide)).ur (a := 59) (b := 114) (by decide) 1 (by decide)
  have ok_5 := ok_4.ui (a := 59) (by decide) 4 (-1)
  have ok_6 := (ok_5.up (m := 117) (by decide)).ur (a := 59) (b := 116) (by decide) 5 (by decide)
  exact ok_6
def clC (x : Cn) : Cn := (ur (seaP 663 24 24 (ur (seaP 609 24 24 (ur (seaP 555 24 24 (ur (seaP 501 24 24 (ur (seaP 447 24 24 (ur (seaP 393 24 24 (ur (seaP 339 24 24 (ur (seaP 285 24 24 (ur (seaP 231 24 24 (ur (seaP 177 24 24 (ur (ur (ur (plC (ui (ur (rdC (ur (ur (ur (ur (seaP 2 24 24 (ur x 0 0 (some 1))) 0 2 (some 2)) 56 1 (some 57)) 0 3 (some 56)) 0 4 (some 58))) 0 6 (some 59)) 0 8 (-1))) 0 9 (some 117)) 175 0 (some 176)) 0 10 (some 175))) 58 0 (some 177))) 58 1 (some 231))) 58 2 (some 285))) 58 3 (some 339))) 58 4 (some 393))) 58 5 (some 447))) 58 6 (some 501))) 58 7 (some 555))) 58 8 (some 609))) 58 9 (some 663))
theorem ct_X7 {x : Cn} (ok : Okx 1 x) (hz : ∀ k, x.1 0 k = 0) : mSpN mX7_init [.ref 0] (hp (1, kwf) x) 716 11470 (fun h' => h' = hp (717, kwf) (clC x)) := by
  refine n_of (by decide) (by simp [Value.category]) (Nat.le_of_ble_eq_true rfl) rfl ?_
  show GN mX7_init 716 11470 1 _ (0, 0) 0 [some (.ref 0), none] [] _
  refine n_aload_n (pc := 0) dX7_init_0 rfl ?_
  refine n_objInit (pc := 1) dX7_init_1 lk_X7_1 oi_i oi_c ⟨by decide, by decide⟩ (Nat.le_of_ble_eq_true rfl) ?_
  refine n_aload_n (pc := 4) dX7_init_4 rfl ?_
  refine n_sipush (v := 1200) (pc := 5) dX7_init_5 (by decide) ?_
  refine n_newa (n := 1) (N := 1200) (kn := 21) (c' := (1, 1200)) (pc := 8) dX7_init_8 (Or.inr ⟨rfl, rfl⟩) ac_b rfl (by decide) ok (by decide) (by intro b9 h9; simp at h9; first | (subst h9; show @LT.lt Nat _ _ _; omega) | (rcases h9 with h9 | h9 <;> (subst h9; show @LT.lt Nat _ _ _; omega)) | (rcases h9 with h9 | h9 | h9 <;> (subst h9; show @LT.lt Nat _ _ _; omega))) (by intro b9 h9; simp at h9; first | (subst h9; show @LT.lt Nat _ _ _; omega) | (rcases h9 with h9 | h9 <;> (subst h9; show @LT.lt Nat _ _ _; omega)) | (rcases h9 with h9 | h9 | h9 <;> (subst h9; show @LT.lt Nat _ _ _; omega))) (by decide) rfl (Nat.le_of_ble_eq_true rfl) (Nat.le_of_ble_eq_true rfl) (by decide) ?_
  refine n_putRF (n := 2) (b := 1) (pc := 10) (ci := 7) dX7_init_10 fl_X7_9 rfl rfl rfl rfl (by decide) (by decide) ?_
  have ok_1 := (ok.up (m := 2) (by decide)).ur (a := 0) (b := 1) (by decide) 0 (by decide)
  refine n_aload_n (pc := 13) dX7_init_13 rfl ?_
  refine n_iconst (v := 0) (pc := 14) dX7_init_14 (by decide) ?_
  refine n_put0 (n := 2) (pc := 15) (ci := 7) dX7_init_15 fl_X7_13 rfl rfl (by decide) (by decide) ⟨rfl, rfl⟩ (hz 1) ?_
  refine n_aload_n (pc := 18) dX7_init_18 rfl ?_
  refine n_new (n := 2) (pc := 19) (ci := 4) (c' := (2, 1210)) dX7_init_19 kl_X7_17 it_4 iz_4 (by decide) ok_1 (by decide) (by intro b9 h9; simp at h9; first | (subst h9; show @LT.lt Nat _ _ _; omega) | (rcases h9 with h9 | h9 <;> (subst h9; show @LT.lt Nat _ _ _; omega)) | (rcases h9 with h9 | h9 | h9 <;> (subst h9; show @LT.lt Nat _ _ _; omega))) (by intro b9 h9; simp at h9; first | (subst h9; show @LT.lt Nat _ _ _; omega) | (rcases h9 with h9 | h9 <;> (subst h9; show @LT.lt Nat _ _ _; omega)) | (rcases h9 with h9 | h9 | h9 <;> (subst h9; show @LT.lt Nat _ _ _; omega))) (by decide) rfl (Nat.le_of_ble_eq_true rfl) (Nat.le_of_ble_eq_true rfl) (by decide) ?_
  refine n_dup (pc := 22) dX7_init_22 rfl ?_
  refine n_callI mX4_init (n := 3) (n' := 56) (pc := 23) (m1 := 53) (s1 := 577) (c' := (55, 1787)) dX7_init_23 (Or.inl lk_X7_19) ii_X4_init mo_X4_init rfl rfl ⟨by decide, by decide⟩ (Nat.le_of_ble_eq_true rfl) (by intro b9 h9; simp at h9; first | (subst h9; show @LT.lt Nat _ _ _; omega) | (rcases h9 with h9 | h9 <;> (subst h9; show @LT.lt Nat _ _ _; omega)) | (rcases h9 with h9 | h9 | h9 <;> (subst h9; show @LT.lt Nat _ _ _; omega))) (by intro b9 h9; simp at h9; first | (subst h9; show @LT.lt Nat _ _ _; omega) | (rcases h9 with h9 | h9 <;> (subst h9; show @LT.lt Nat _ _ _; omega)) | (rcases h9 with h9 | h9 | h9 <;> (subst h9; show @LT.lt Nat _ _ _; omega))) (by decide) rfl (Nat.le_of_ble_eq_true rfl) (Nat.le_of_ble_eq_true rfl) (ct_X4 (q := 2) (by decide) (ksK (Or.inl rfl)) (ok_1.up (m := 3) (by decide)) (fun k => (ok_1.1 _ k (by decide)).1)) ?_
  have ok_2 := seaP_ok (q := 2) (i := 24) (j := 24) (n := 56) (ok_1.up (m := 3) (by decide)) (by decide) (Or.inr (by decide))
  refine n_putRF (n := 56) (b := 2) (pc := 26) (ci := 7) dX7_init_26 fl_X7_20 rfl rfl rfl rfl (by decide) (by decide) ?_
  have ok_3 := (ok_2.up (m := 56) (by decide)).ur (a := 0) (b := 2) (by decide) 2 (by decide)
  refine n_aload_n (pc := 29) dX7_init_29 rfl ?_
  refine n_new (n := 56) (pc := 30) (ci := 1) (c' := (56, 1789)) dX7_init_30 kl_X7_24 it_1 iz_1 (by decide) ok_3 (by decide) (by intro b9 h9; simp at h9; first | (subst h9; show @LT.lt Nat _ _ _; omega) | (rcases h9 with h9 | h9 <;> (subst h9; show @LT.lt Nat _ _ _; omega)) | (rcases h9 with h9 | h9 | h9 <;> (subst h9; show @LT.lt Nat _ _ _; omega))) (by intro b9 h9; simp at h9; first | (subst h9; show @LT.lt Nat _ _ _; omega) | (rcases h9 with h9 | h9 <;> (subst h9; show @LT.lt Nat _ _ _; omega)) | (rcases h9 with h9 | h9 | h9 <;> (subst h9; show @LT.lt Nat _ _ _; omega))) (by decide) rfl (Nat.le_of_ble_eq_true rfl) (Nat.le_of_ble_eq_true rfl) (by decide) ?_
  refine n_dup (pc := 33) dX7_init_33 rfl ?_
  refine n_callI mX1_init (n := 57) (n' := 58) (pc := 34) (m1 := 1) (s1 := 48) (c' := (57, 1837)) dX7_init_34 (Or.inr ⟨_, nl_X7_26⟩) ii_X1_init mo_X1_init rfl rfl ⟨by decide, by decide⟩ (Nat.le_of_ble_eq_true rfl) (by intro b9 h9; simp at h9; first | (subst h9; show @LT.lt Nat _ _ _; omega) | (rcases h9 with h9 | h9 <;> (subst h9; show @LT.lt Nat _ _ _; omega)) | (rcases h9 with h9 | h9 | h9 <;> (subst h9; show @LT.lt Nat _ _ _; omega))) (by intro b9 h9; simp at h9; first | (subst h9; show @LT.lt Nat _ _ _; omega) | (rcases h9 with h9 | h9 <;> (subst h9; show @LT.lt Nat _ _ _; omega)) | (rcases h9 with h9 | h9 | h9 <;> (subst h9; show @LT.lt Nat _ _ _; omega))) (by decide) rfl (Nat.le_of_ble_eq_true rfl) (Nat.le_of_ble_eq_true rfl) (ct_X1 (b := 56) (n := 57) (by decide) (by decide) (by decide) (by decide) (ok_3.up (m := 57) (by decide)) (fun k => (ok_3.1 _ k (by decide)).1)) ?_
  have ok_4 := (ok_3.up (m := 58) (by decide)).ur (a := 56) (b := 57) (by decide) 1 (by decide)
  refine n_putRF (n := 58) (b := 56) (pc := 37) (ci := 7) dX7_init_37 fl_X7_27 rfl rfl rfl rfl (by decide) (by decide) ?_
  have ok_5 := (ok_4.up (m := 58) (by decide)).ur (a := 0) (b := 56) (by decide) 3 (by decide)
  refine n_aload_n (pc := 40) dX7_init_40 rfl ?_
  refine n_bipush (v := 10) (pc := 41) dX7_init_41 (by decide) ?_
  refine n_anew (n := 58) (N := 10) (kn := 22) (c' := (58, 1847)) (pc := 43) dX7_init_43 kl_X7_17 (Or.inl ⟨rfl, rfl⟩) rfl (by decide) ok_5 (by decide) (by intro b9 h9; simp at h9; first | (subst h9; show @LT.lt Nat _ _ _; omega) | (rcases h9 with h9 | h9 <;> (subst h9; show @LT.lt Nat _ _ _; omega)) | (rcases h9 with h9 | h9 | h9 <;> (subst h9; show @LT.lt Nat _ _ _; omega))) (by intro b9 h9; simp at h9; first | (subst h9; show @LT.lt Nat _ _ _; omega) | (rcases h9 with h9 | h9 <;> (subst h9; show @LT.lt Nat _ _ _; omega)) | (rcases h9 with h9 | h9 | h9 <;> (subst h9; show @LT.lt Nat _ _ _; omega))) (by decide) rfl (Nat.le_of_ble_eq_true rfl) (Nat.le_of_ble_eq_true rfl) (by decide) ?_
  refine n_putRF (n := 59) (b := 58) (pc := 46) (ci := 7) dX7_init_46 fl_X7_31 rfl rfl rfl rfl (by decide) (by decide) ?_
  have ok_6 := (ok_5.up (m := 59) (by decide)).ur (a := 0) (b := 58) (by decide) 4 (by decide)
  refine n_aload_n (pc := 49) dX7_init_49 rfl ?_
  refine n_iconst (v := 0) (pc := 50) dX7_init_50 (by decide) ?_
  refine n_put0 (n := 59) (pc := 51) (ci := 7) dX7_init_51 fl_X7_35 rfl rfl (by decide) (by decide) ⟨rfl, rfl⟩ (hz 5) ?_
  refine n_aload_n (pc := 54) dX7_init_54 rfl ?_
  refine n_new (n := 59) (pc := 55) (ci := 3) (c' := (59, 1865)) dX7_init_55 kl_X7_38 it_3 iz_3 (by decide) ok_6 (by decide) (by intro b9 h9; simp at h9; first | (subst h9; show @LT.lt Nat _ _ _; omega) | (rcases h9 with h9 | h9 <;> (subst h9; show @LT.lt Nat _ _ _; omega)) | (rcases h9 with h9 | h9 | h9 <;> (subst h9; show @LT.lt Nat _ _ _; omega))) (by intro b9 h9; simp at h9; first | (subst h9; show @LT.lt Nat _ _ _; omega) | (rcases h9 with h9 | h9 <;> (subst h9; show @LT.lt Nat _ _ _; omega)) | (rcases h9 with h9 | h9 | h9 <;> (subst h9; show @LT.lt Nat _ _ _; omega))) (by decide) rfl (Nat.le_of_ble_eq_true rfl) (Nat.le_of_ble_eq_true rfl) (by decide) ?_
  refine n_dup (pc := 58) dX7_init_58 rfl ?_
  refine n_callI mX3_init (n := 60) (n' := 117) (pc := 59) (m1 := 57) (s1 := 637) (c' := (116, 2502)) dX7_init_59 (Or.inr ⟨_, nl_X7_40⟩) ii_X3_init mo_X3_init rfl rfl ⟨by decide, by decide⟩ (Nat.le_of_ble_eq_true rfl) (by intro b9 h9; simp at h9; first | (subst h9; show @LT.lt Nat _ _ _; omega) | (rcases h9 with h9 | h9 <;> (subst h9; show @LT.lt Nat _ _ _; omega)) | (rcases h9 with h9 | h9 | h9 <;> (subst h9; show @LT.lt Nat _ _ _; omega))) (by intro b9 h9; simp at h9; first | (subst h9; show @LT.lt Nat _ _ _; omega) | (rcases h9 with h9 | h9 <;> (subst h9; show @LT.lt Nat _ _ _; omega)) | (rcases h9 with h9 | h9 | h9 <;> (subst h9; show @LT.lt Nat _ _ _; omega))) (by decide) rfl (Nat.le_of_ble_eq_true rfl) (Nat.le_of_ble_eq_true rfl) (ct_X3 (ok_6.up (m := 60) (by decide)) (fun k => (ok_6.1 _ k (by decide)).1)) ?_
  have ok_7 := rdC_ok (ok_6.up (m := 60) (by decide))
  refine n_putRF (n := 117) (b := 59) (pc := 62) (ci := 7) dX7_init_62 fl_X7_41 rfl rfl rfl rfl (by decide) (by decide) ?_
  have ok_8 := (ok_7.up (m := 117) (by decide)).ur (a := 0) (b := 59) (by decide) 6 (by decide)
  refine n_aload_n (pc := 65) dX7_init_65 rfl ?_
  refine n_iconst (v := 0) (pc := 66) dX7_init_66 (by decide) ?_
  refine n_put0 (n := 117) (pc := 67) (ci := 7) dX7_init_67 fl_X7_45 rfl rfl (by decide) (by decide) ⟨rfl, rfl⟩ (uiz (a := 59) (k := 4) (v := -1) (by decide) (hz 7)) ?_
  refine n_aload_n (pc := 70) dX7_init_70 rfl ?_
  refine n_iconst (v := (-1)) (pc := 71) dX7_init_71 (by decide) ?_
  refine n_putI (n := 117) (pc := 72) (ci := 7) dX7_init_72 fl_X7_48 rfl rfl (by decide) (by decide) ⟨rfl, rfl⟩ ?_
  have ok_9 := ok_8.ui (a := 0) (by decide) 8 (-1)
  refine n_aload_n (pc := 75) dX7_init_75 rfl ?_
  refine n_new (n := 117) (pc := 76) (ci := 2) (c' := (117, 2507)) dX7_init_76 kl_X7_51 it_2 iz_2 (by decide) ok_9 (by decide) (by intro b9 h9; simp at h9; first | (subst h9; show @LT.lt Nat _ _ _; omega) | (rcases h9 with h9 | h9 <;> (subst h9; show @LT.lt Nat _ _ _; omega)) | (rcases h9 with h9 | h9 | h9 <;> (subst h9; show @LT.lt Nat _ _ _; omega))) (by intro b9 h9; simp at h9; first | (subst h9; show @LT.lt Nat _ _ _; omega) | (rcases h9 with h9 | h9 <;> (subst h9; show @LT.lt Nat _ _ _; omega)) | (rcases h9 with h9 | h9 | h9 <;> (subst h9; show @LT.lt Nat _ _ _; omega))) (by decide) rfl (Nat.le_of_ble_eq_true rfl) (Nat.le_of_ble_eq_true rfl) (by decide) ?_
  refine n_dup (pc := 79) dX7_init_79 rfl ?_
  refine n_callI mX2_init (n := 118) (n' := 175) (pc := 80) (m1 := 57) (s1 := 691) (c' := (174, 3198)) dX7_init_80 (Or.inr ⟨_, nl_X7_53⟩) ii_X2_init mo_X2_init rfl rfl ⟨by decide, by decide⟩ (Nat.le_of_ble_eq_true rfl) (by intro b9 h9; simp at h9; first | (subst h9; show @LT.lt Nat _ _ _; omega) | (rcases h9 with h9 | h9 <;> (subst h9; show @LT.lt Nat _ _ _; omega)) | (rcases h9 with h9 | h9 | h9 <;> (subst h9; show @LT.lt Nat _ _ _; omega))) (by intro b9 h9; simp at h9; first | (subst h9; show @LT.lt Nat _ _ _; omega) | (rcases h9 with h9 | h9 <;> (subst h9; show @LT.lt Nat _ _ _; omega)) | (rcases h9 with h9 | h9 | h9 <;> (subst h9; show @LT.lt Nat _ _ _; omega))) (by decide) rfl (Nat.le_of_ble_eq_true rfl) (Nat.le_of_ble_eq_true rfl) (ct_X2 (ok_9.up (m := 118) (by decide)) (fun k => (ok_9.1 _ k (by decide)).1)) ?_
  have ok_10 := plC_ok (ok_9.up (m := 118) (by decide))
  refine n_putRF (n := 175) (b := 117) (pc := 83) (ci := 7) dX7_init_83 fl_X7_54 rfl rfl rfl rfl (by decide) (by decide) ?_
  have ok_11 := (ok_10.up (m := 175) (by decide)).ur (a := 0) (b := 117) (by decide) 9 (by decide)
  refine n_aload_n (pc := 86) dX7_init_86 rfl ?_
  refine n_new (n := 175) (pc := 87) (ci := 6) (c' := (175, 3200)) dX7_init_87 kl_X7_58 it_6 iz_6 (by decide) ok_11 (by decide) (by intro b9 h9; simp at h9; first | (subst h9; show @LT.lt Nat _ _ _; omega) | (rcases h9 with h9 | h9 <;> (subst h9; show @LT.lt Nat _ _ _; omega)) | (rcases h9 with h9 | h9 | h9 <;> (subst h9; show @LT.lt Nat _ _ _; omega))) (by intro b9 h9; simp at h9; first | (subst h9; show @LT.lt Nat _ _ _; omega) | (rcases h9 with h9 | h9 <;> (subst h9; show @LT.lt Nat _ _ _; omega)) | (rcases h9 with h9 | h9 | h9 <;> (subst h9; show @LT.lt Nat _ _ _; omega))) (by decide) rfl (Nat.le_of_ble_eq_true rfl) (Nat.le_of_ble_eq_true rfl) (by decide) ?_
  refine n_dup (pc := 90) dX7_init_90 rfl ?_
  refine n_callI mX6_init (n := 176) (n' := 177) (pc := 91) (m1 := 1) (s1 := 2400) (c' := (176, 5600)) dX7_init_91 (Or.inr ⟨_, nl_X7_60⟩) ii_X6_init mo_X6_init rfl rfl ⟨by decide, by decide⟩ (Nat.le_of_ble_eq_true rfl) (by intro b9 h9; simp at h9; first | (subst h9; show @LT.lt Nat _ _ _; omega) | (rcases h9 with h9 | h9 <;> (subst h9; show @LT.lt Nat _ _ _; omega)) | (rcases h9 with h9 | h9 | h9 <;> (subst h9; show @LT.lt Nat _ _ _; omega))) (by intro b9 h9; simp at h9; first | (subst h9; show @LT.lt Nat _ _ _; omega) | (rcases h9 with h9 | h9 <;> (subst h9; show @LT.lt Nat _ _ _; omega)) | (rcases h9 with h9 | h9 | h9 <;> (subst h9; show @LT.lt Nat _ _ _; omega))) (by decide) rfl (Nat.le_of_ble_eq_true rfl) (Nat.le_of_ble_eq_true rfl) (ct_X6 (b := 175) (n := 176) (by decide) (by decide) (by decide) (by decide) (ok_11.up (m := 176) (by decide)) (fun k => (ok_11.1 _ k (by decide)).1)) ?_
  have ok_12 := (ok_11.up (m := 177) (by decide)).ur (a := 175) (b := 176) (by decide) 0 (by decide)
  refine n_putRF (n := 177) (b := 175) (pc := 94) (ci := 7) dX7_init_94 fl_X7_61 rfl rfl rfl rfl (by decide) (by decide) ?_
  have ok_13 := (ok_12.up (m := 177) (by decide)).ur (a := 0) (b := 175) (by decide) 10 (by decide)
  refine n_iconst (v := 0) (pc := 97) dX7_init_97 (by decide) ?_
  refine n_istore_n (pc := 98) dX7_init_98 (by decide) ?_
  refine n_iload_n (pc := 99) dX7_init_99 rfl ?_
  refine n_bipush (v := 10) (pc := 100) dX7_init_100 (by decide) ?_
  refine n_icmp_ge (pc := 102) (tgt := 124) dX7_init_102 (by decide) (fun z => absurd z (by decide)) (fun _ => ?_)
  refine n_aload_n (pc := 105) dX7_init_105 rfl ?_
  refine n_getR (n := 177) (b := 58) (pc := 106) (ci := 7) dX7_init_106 fl_X7_31 rfl (by decide) (by decide) (by rfl) ?_
  refine n_iload_n (pc := 109) dX7_init_109 rfl ?_
  refine n_new (n := 177) (pc := 110) (ci := 4) (c' := (177, 5610)) dX7_init_110 kl_X7_17 it_4 iz_4 (by decide) ok_13 (by decide) (by intro b9 h9; simp at h9; first | (subst h9; show @LT.lt Nat _ _ _; omega) | (rcases h9 with h9 | h9 <;> (subst h9; show @LT.lt Nat _ _ _; omega)) | (rcases h9 with h9 | h9 | h9 <;> (subst h9; show @LT.lt Nat _ _ _; omega))) (by intro b9 h9; simp at h9; first | (subst h9; show @LT.lt Nat _ _ _; omega) | (rcases h9 with h9 | h9 <;> (subst h9; show @LT.lt Nat _ _ _; omega)) | (rcases h9 with h9 | h9 | h9 <;> (subst h9; show @LT.lt Nat _ _ _; omega))) (by decide) rfl (Nat.le_of_ble_eq_true rfl) (Nat.le_of_ble_eq_true rfl) (by decide) ?_
  refine n_dup (pc := 113) dX7_init_113 rfl ?_
  refine n_callI mX4_init (n := 178) (n' := 231) (pc := 114) (m1 := 53) (s1 := 577) (c' := (230, 6187)) dX7_init_114 (Or.inl lk_X7_19) ii_X4_init mo_X4_init rfl rfl ⟨by decide, by decide⟩ (Nat.le_of_ble_eq_true rfl) (by intro b9 h9; simp at h9; first | (subst h9; show @LT.lt Nat _ _ _; omega) | (rcases h9 with h9 | h9 <;> (subst h9; show @LT.lt Nat _ _ _; omega)) | (rcases h9 with h9 | h9 | h9 <;> (subst h9; show @LT.lt Nat _ _ _; omega))) (by intro b9 h9; simp at h9; first | (subst h9; show @LT.lt Nat _ _ _; omega) | (rcases h9 with h9 | h9 <;> (subst h9; show @LT.lt Nat _ _ _; omega)) | (rcases h9 with h9 | h9 | h9 <;> (subst h9; show @LT.lt Nat _ _ _; omega))) (by decide) rfl (Nat.le_of_ble_eq_true rfl) (Nat.le_of_ble_eq_true rfl) (ct_X4 (q := 177) (by decide) (ksK (Or.inr (Or.inr (Or.inr ⟨0, by decide, rfl⟩)))) (ok_13.up (m := 178) (by decide)) (fun k => (ok_13.1 _ k (by decide)).1)) ?_
  have ok_14 := seaP_ok (q := 177) (i := 24) (j := 24) (n := 231) (ok_13.up (m := 178) (by decide)) (by decide) (Or.inr (by decide))
  refine n_aast (n := 231) (pc := 117) (ci := 22) (N := 10) (cj := 4) (nb := 0) (j := 0) dX7_init_117 (by decide) (by decide) (by decide) (by decide) rfl (by decide) (by decide) (iv0 0 10 (by decide) (by decide) (by decide)) (by decide) ?_
  have ok_15 := (ok_14.up (m := 231) (by decide)).ur (a := 58) (b := 177) (by decide) 0 (by decide)
  refine n_iinc (pc := 118) (w := 1) dX7_init_118 rfl (by decide) (by decide) ?_
  refine n_goto (pc := 121) (tgt := 99) dX7_init_121 (by decide) ?_
  refine n_iload_n (pc := 99) dX7_init_99 rfl ?_
  refine n_bipush (v := 10) (pc := 100) dX7_init_100 (by decide) ?_
  refine n_icmp_ge (pc := 102) (tgt := 124) dX7_init_102 (by decide) (fun z => absurd z (by decide)) (fun _ => ?_)
  refine n_aload_n (pc := 105) dX7_init_105 rfl ?_
  refine n_getR (n := 231) (b := 58) (pc := 106) (ci := 7) dX7_init_106 fl_X7_31 rfl (by decide) (by decide) (by rfl) ?_
  refine n_iload_n (pc := 109) dX7_init_109 rfl ?_
  refine n_new (n := 231) (pc := 110) (ci := 4) (c' := (231, 6197)) dX7_init_110 kl_X7_17 it_4 iz_4 (by decide) ok_15 (by decide) (by intro b9 h9; simp at h9; first | (subst h9; show @LT.lt Nat _ _ _; omega) | (rcases h9 with h9 | h9 <;> (subst h9; show @LT.lt Nat _ _ _; omega)) | (rcases h9 with h9 | h9 | h9 <;> (subst h9; show @LT.lt Nat _ _ _; omega))) (by intro b9 h9; simp at h9; first | (subst h9; show @LT.lt Nat _ _ _; omega) | (rcases h9 with h9 | h9 <;> (subst h9; show @LT.lt Nat _ _ _; omega)) | (rcases h9 with h9 | h9 | h9 <;> (subst h9; show @LT.lt Nat _ _ _; omega))) (by decide) rfl (Nat.le_of_ble_eq_true rfl) (Nat.le_of_ble_eq_true rfl) (by decide) ?_
  refine n_dup (pc := 113) dX7_init_113 rfl ?_
  refine n_callI mX4_init (n := 232) (n' := 285) (pc := 114) (m1 := 53) (s1 := 577) (c' := (284, 6774)) dX7_init_114 (Or.inl lk_X7_19) ii_X4_init mo_X4_init rfl rfl ⟨by decide, by decide⟩ (Nat.le_of_ble_eq_true rfl) (by intro b9 h9; simp at h9; first | (subst h9; show @LT.lt Nat _ _ _; omega) | (rcases h9 with h9 | h9 <;> (subst h9; show @LT.lt Nat _ _ _; omega)) | (rcases h9 with h9 | h9 | h9 <;> (subst h9; show @LT.lt Nat _ _ _; omega))) (by intro b9 h9; simp at h9; first | (subst h9; show @LT.lt Nat _ _ _; omega) | (rcases h9 with h9 | h9 <;> (subst h9; show @LT.lt Nat _ _ _; omega)) | (rcases h9 with h9 | h9 | h9 <;> (subst h9; show @LT.lt Nat _ _ _; omega))) (by decide) rfl (Nat.le_of_ble_eq_true rfl) (Nat.le_of_ble_eq_true rfl) (ct_X4 (q := 231) (by decide) (ksK (Or.inr (Or.inr (Or.inr ⟨1, by decide, rfl⟩)))) (ok_15.up (m := 232) (by decide)) (fun k => (ok_15.1 _ k (by decide)).1)) ?_
  have ok_16 := seaP_ok (q := 231) (i := 24) (j := 24) (n := 285) (ok_15.up (m := 232) (by decide)) (by decide) (Or.inr (by decide))
  refine n_aast (n := 285) (pc := 117) (ci := 22) (N := 10) (cj := 4) (nb := 0) (j := 1) dX7_init_117 (by decide) (by decide) (by decide) (by decide) rfl (by decide) (by decide) (iv0 1 10 (by decide) (by decide) (by decide)) (by decide) ?_
  have ok_17 := (ok_16.up (m := 285) (by decide)).ur (a := 58) (b := 231) (by decide) 1 (by decide)
  refine n_iinc (pc := 118) (w := 2) dX7_init_118 rfl (by decide) (by decide) ?_
  refine n_goto (pc := 121) (tgt := 99) dX7_init_121 (by decide) ?_
  refine n_iload_n (pc := 99) dX7_init_99 rfl ?_
  refine n_bipush (v := 10) (pc := 100) dX7_init_100 (by decide) ?_
  refine n_icmp_ge (pc := 102) (tgt := 124) dX7_init_102 (by decide) (fun z => absurd z (by decide)) (fun _ => ?_)
  refine n_aload_n (pc := 105) dX7_init_105 rfl ?_
  refine n_getR (n := 285) (b := 58) (pc := 106) (ci := 7) dX7_init_106 fl_X7_31 rfl (by decide) (by decide) (by rfl) ?_
  refine n_iload_n (pc := 109) dX7_init_109 rfl ?_
  refine n_new (n := 285) (pc := 110) (ci := 4) (c' := (285, 6784)) dX7_init_110 kl_X7_17 it_4 iz_4 (by decide) ok_17 (by decide) (by intro b9 h9; simp at h9; first | (subst h9; show @LT.lt Nat _ _ _; omega) | (rcases h9 with h9 | h9 <;> (subst h9; show @LT.lt Nat _ _ _; omega)) | (rcases h9 with h9 | h9 | h9 <;> (subst h9; show @LT.lt Nat _ _ _; omega))) (by intro b9 h9; simp at h9; first | (subst h9; show @LT.lt Nat _ _ _; omega) | (rcases h9 with h9 | h9 <;> (subst h9; show @LT.lt Nat _ _ _; omega)) | (rcases h9 with h9 | h9 | h9 <;> (subst h9; show @LT.lt Nat _ _ _; omega))) (by decide) rfl (Nat.le_of_ble_eq_true rfl) (Nat.le_of_ble_eq_true rfl) (by decide) ?_
  refine n_dup (pc := 113) dX7_init_113 rfl ?_
  refine n_callI mX4_init (n := 286) (n' := 339) (pc := 114) (m1 := 53) (s1 := 577) (c' := (338, 7361)) dX7_init_114 (Or.inl lk_X7_19) ii_X4_init mo_X4_init rfl rfl ⟨by decide, by decide⟩ (Nat.le_of_ble_eq_true rfl) (by intro b9 h9; simp at h9; first | (subst h9; show @LT.lt Nat _ _ _; omega) | (rcases h9 with h9 | h9 <;> (subst h9; show @LT.lt Nat _ _ _; omega)) | (rcases h9 with h9 | h9 | h9 <;> (subst h9; show @LT.lt Nat _ _ _; omega))) (by intro b9 h9; simp at h9; first | (subst h9; show @LT.lt Nat _ _ _; omega) | (rcases h9 with h9 | h9 <;> (subst h9; show @LT.lt Nat _ _ _; omega)) | (rcases h9 with h9 | h9 | h9 <;> (subst h9; show @LT.lt Nat _ _ _; omega))) (by decide) rfl (Nat.le_of_ble_eq_true rfl) (Nat.le_of_ble_eq_true rfl) (ct_X4 (q := 285) (by decide) (ksK (Or.inr (Or.inr (Or.inr ⟨2, by decide, rfl⟩)))) (ok_17.up (m := 286) (by decide)) (fun k => (ok_17.1 _ k (by decide)).1)) ?_
  have ok_18 := seaP_ok (q := 285) (i := 24) (j := 24) (n := 339) (ok_17.up (m := 286) (by decide)) (by decide) (Or.inr (by decide))
  refine n_aast (n := 339) (pc := 117) (ci := 22) (N := 10) (cj := 4) (nb := 0) (j := 2) dX7_init_117 (by decide) (by decide) (by decide) (by decide) rfl (by decide) (by decide) (iv0 2 10 (by decide) (by decide) (by decide)) (by decide) ?_
  have ok_19 := (ok_18.up (m := 339) (by decide)).ur (a := 58) (b := 285) (by decide) 2 (by decide)
  refine n_iinc (pc := 118) (w := 3) dX7_init_118 rfl (by decide) (by decide) ?_
  refine n_goto (pc := 121) (tgt := 99) dX7_init_121 (by decide) ?_
  refine n_iload_n (pc := 99) dX7_init_99 rfl ?_
  refine n_bipush (v := 10) (pc := 100) dX7_init_100 (by decide) ?_
  refine n_icmp_ge (pc := 102) (tgt := 124) dX7_init_102 (by decide) (fun z => absurd z (by decide)) (fun _ => ?_)
  refine n_aload_n (pc := 105) dX7_init_105 rfl ?_
  refine n_getR (n := 339) (b := 58) (pc := 106) (ci := 7) dX7_init_106 fl_X7_31 rfl (by decide) (by decide) (by rfl) ?_
  refine n_iload_n (pc := 109) dX7_init_109 rfl ?_
  refine n_new (n := 339) (pc := 110) (ci := 4) (c' := (339, 7371)) dX7_init_110 kl_X7_17 it_4 iz_4 (by decide) ok_19 (by decide) (by intro b9 h9; simp at h9; first | (subst h9; show @LT.lt Nat _ _ _; omega) | (rcases h9 with h9 | h9 <;> (subst h9; show @LT.lt Nat _ _ _; omega)) | (rcases h9 with h9 | h9 | h9 <;> (subst h9; show @LT.lt Nat _ _ _; omega))) (by intro b9 h9; simp at h9; first | (subst h9; show @LT.lt Nat _ _ _; omega) | (rcases h9 with h9 | h9 <;> (subst h9; show @LT.lt Nat _ _ _; omega)) | (rcases h9 with h9 | h9 | h9 <;> (subst h9; show @LT.lt Nat _ _ _; omega))) (by decide) rfl (Nat.le_of_ble_eq_true rfl) (Nat.le_of_ble_eq_true rfl) (by decide) ?_
  refine n_dup (pc := 113) dX7_init_113 rfl ?_
  refine n_callI mX4_init (n := 340) (n' := 393) (pc := 114) (m1 := 53) (s1 := 577) (c' := (392, 7948)) dX7_init_114 (Or.inl lk_X7_19) ii_X4_init mo_X4_init rfl rfl ⟨by decide, by decide⟩ (Nat.le_of_ble_eq_true rfl) (by intro b9 h9; simp at h9; first | (subst h9; show @LT.lt Nat _ _ _; omega) | (rcases h9 with h9 | h9 <;> (subst h9; show @LT.lt Nat _ _ _; omega)) | (rcases h9 with h9 | h9 | h9 <;> (subst h9; show @LT.lt Nat _ _ _; omega))) (by intro b9 h9; simp at h9; first | (subst h9; show @LT.lt Nat _ _ _; omega) | (rcases h9 with h9 | h9 <;> (subst h9; show @LT.lt Nat _ _ _; omega)) | (rcases h9 with h9 | h9 | h9 <;> (subst h9; show @LT.lt Nat _ _ _; omega))) (by decide) rfl (Nat.le_of_ble_eq_true rfl) (Nat.le_of_ble_eq_true rfl) (ct_X4 (q := 339) (by decide) (ksK (Or.inr (Or.inr (Or.inr ⟨3, by decide, rfl⟩)))) (ok_19.up (m := 340) (by decide)) (fun k => (ok_19.1 _ k (by decide)).1)) ?_
  have ok_20 := seaP_ok (q := 339) (i := 24) (j := 24) (n := 393) (ok_19.up (m := 340) (by decide)) (by decide) (Or.inr (by decide))
  refine n_aast (n := 393) (pc := 117) (ci := 22) (N := 10) (cj := 4) (nb := 0) (j := 3) dX7_init_117 (by decide) (by decide) (by decide) (by decide) rfl (by decide) (by decide) (iv0 3 10 (by decide) (by decide) (by decide)) (by decide) ?_
  have ok_21 := (ok_20.up (m := 393) (by decide)).ur (a := 58) (b := 339) (by decide) 3 (by decide)
  refine n_iinc (pc := 118) (w := 4) dX7_init_118 rfl (by decide) (by decide) ?_
  refine n_goto (pc := 121) (tgt := 99) dX7_init_121 (by decide) ?_
  refine n_iload_n (pc := 99) dX7_init_99 rfl ?_
  refine n_bipush (v := 10) (pc := 100) dX7_init_100 (by decide) ?_
  refine n_icmp_ge (pc := 102) (tgt := 124) dX7_init_102 (by decide) (fun z => absurd z (by decide)) (fun _ => ?_)
  refine n_aload_n (pc := 105) dX7_init_105 rfl ?_
  refine n_getR (n := 393) (b := 58) (pc := 106) (ci := 7) dX7_init_106 fl_X7_31 rfl (by decide) (by decide) (by rfl) ?_
  refine n_iload_n (pc := 109) dX7_init_109 rfl ?_
  refine n_new (n := 393) (pc := 110) (ci := 4) (c' := (393, 7958)) dX7_init_110 kl_X7_17 it_4 iz_4 (by decide) ok_21 (by decide) (by intro b9 h9; simp at h9; first | (subst h9; show @LT.lt Nat _ _ _; omega) | (rcases h9 with h9 | h9 <;> (subst h9; show @LT.lt Nat _ _ _; omega)) | (rcases h9 with h9 | h9 | h9 <;> (subst h9; show @LT.lt Nat _ _ _; omega))) (by intro b9 h9; simp at h9; first | (subst h9; show @LT.lt Nat _ _ _; omega) | (rcases h9 with h9 | h9 <;> (subst h9; show @LT.lt Nat _ _ _; omega)) | (rcases h9 with h9 | h9 | h9 <;> (subst h9; show @LT.lt Nat _ _ _; omega))) (by decide) rfl (Nat.le_of_ble_eq_true rfl) (Nat.le_of_ble_eq_true rfl) (by decide) ?_
  refine n_dup (pc := 113) dX7_init_113 rfl ?_
  refine n_callI mX4_init (n := 394) (n' := 447) (pc := 114) (m1 := 53) (s1 := 577) (c' := (446, 8535)) dX7_init_114 (Or.inl lk_X7_19) ii_X4_init mo_X4_init rfl rfl ⟨by decide, by decide⟩ (Nat.le_of_ble_eq_true rfl) (by intro b9 h9; simp at h9; first | (subst h9; show @LT.lt Nat _ _ _; omega) | (rcases h9 with h9 | h9 <;> (subst h9; show @LT.lt Nat _ _ _; omega)) | (rcases h9 with h9 | h9 | h9 <;> (subst h9; show @LT.lt Nat _ _ _; omega))) (by intro b9 h9; simp at h9; first | (subst h9; show @LT.lt Nat _ _ _; omega) | (rcases h9 with h9 | h9 <;> (subst h9; show @LT.lt Nat _ _ _; omega)) | (rcases h9 with h9 | h9 | h9 <;> (subst h9; show @LT.lt Nat _ _ _; omega))) (by decide) rfl (Nat.le_of_ble_eq_true rfl) (Nat.le_of_ble_eq_true rfl) (ct_X4 (q := 393) (by decide) (ksK (Or.inr (Or.inr (Or.inr ⟨4, by decide, rfl⟩)))) (ok_21.up (m := 394) (by decide)) (fun k => (ok_21.1 _ k (by decide)).1)) ?_
  have ok_22 := seaP_ok (q := 393) (i := 24) (j := 24) (n := 447) (ok_21.up (m := 394) (by decide)) (by decide) (Or.inr (by decide))
  refine n_aast (n := 447) (pc := 117) (ci := 22) (N := 10) (cj := 4) (nb := 0) (j := 4) dX7_init_117 (by decide) (by decide) (by decide) (by decide) rfl (by decide) (by decide) (iv0 4 10 (by decide) (by decide) (by decide)) (by decide) ?_
  have ok_23 := (ok_22.up (m := 447) (by decide)).ur (a := 58) (b := 393) (by decide) 4 (by decide)
  refine n_iinc (pc := 118) (w := 5) dX7_init_118 rfl (by decide) (by decide) ?_
  refine n_goto (pc := 121) (tgt := 99) dX7_init_121 (by decide) ?_
  refine n_iload_n (pc := 99) dX7_init_99 rfl ?_
  refine n_bipush (v := 10) (pc := 100) dX7_init_100 (by decide) ?_
  refine n_icmp_ge (pc := 102) (tgt := 124) dX7_init_102 (by decide) (fun z => absurd z (by decide)) (fun _ => ?_)
  refine n_aload_n (pc := 105) dX7_init_105 rfl ?_
  refine n_getR (n := 447) (b := 58) (pc := 106) (ci := 7) dX7_init_106 fl_X7_31 rfl (by decide) (by decide) (by rfl) ?_
  refine n_iload_n (pc := 109) dX7_init_109 rfl ?_
  refine n_new (n := 447) (pc := 110) (ci := 4) (c' := (447, 8545)) dX7_init_110 kl_X7_17 it_4 iz_4 (by decide) ok_23 (by decide) (by intro b9 h9; simp at h9; first | (subst h9; show @LT.lt Nat _ _ _; omega) | (rcases h9 with h9 | h9 <;> (subst h9; show @LT.lt Nat _ _ _; omega)) | (rcases h9 with h9 | h9 | h9 <;> (subst h9; show @LT.lt Nat _ _ _; omega))) (by intro b9 h9; simp at h9; first | (subst h9; show @LT.lt Nat _ _ _; omega) | (rcases h9 with h9 | h9 <;> (subst h9; show @LT.lt Nat _ _ _; omega)) | (rcases h9 with h9 | h9 | h9 <;> (subst h9; show @LT.lt Nat _ _ _; omega))) (by decide) rfl (Nat.le_of_ble_eq_true rfl) (Nat.le_of_ble_eq_true rfl) (by decide) ?_
  refine n_dup (pc := 113) dX7_init_113 rfl ?_
  refine n_callI mX4_init (n := 448) (n' := 501) (pc := 114) (m1 := 53) (s1 := 577) (c' := (500, 9122)) dX7_init_114 (Or.inl lk_X7_19) ii_X4_init mo_X4_init rfl rfl ⟨by decide, by decide⟩ (Nat.le_of_ble_eq_true rfl) (by intro b9 h9; simp at h9; first | (subst h9; show @LT.lt Nat _ _ _; omega) | (rcases h9 with h9 | h9 <;> (subst h9; show @LT.lt Nat _ _ _; omega)) | (rcases h9 with h9 | h9 | h9 <;> (subst h9; show @LT.lt Nat _ _ _; omega))) (by intro b9 h9; simp at h9; first | (subst h9; show @LT.lt Nat _ _ _; omega) | (rcases h9 with h9 | h9 <;> (subst h9; show @LT.lt Nat _ _ _; omega)) | (rcases h9 with h9 | h9 | h9 <;> (subst h9; show @LT.lt Nat _ _ _; omega))) (by decide) rfl (Nat.le_of_ble_eq_true rfl) (Nat.le_of_ble_eq_true rfl) (ct_X4 (q := 447) (by decide) (ksK (Or.inr (Or.inr (Or.inr ⟨5, by decide, rfl⟩)))) (ok_23.up (m := 448) (by decide)) (fun k => (ok_23.1 _ k (by decide)).1)) ?_
  have ok_24 := seaP_ok (q := 447) (i := 24) (j := 24) (n := 501) (ok_23.up (m := 448) (by decide)) (by decide) (Or.inr (by decide))
  refine n_aast (n := 501) (pc := 117) (ci := 22) (N := 10) (cj := 4) (nb := 0) (j := 5) dX7_init_117 (by decide) (by decide) (by decide) (by decide) rfl (by decide) (by decide) (iv0 5 10 (by decide) (by decide) (by decide)) (by decide) ?_
  have ok_25 := (ok_24.up (m := 501) (by decide)).ur (a := 58) (b := 447) (by decide) 5 (by decide)
  refine n_iinc (pc := 118) (w := 6) dX7_init_118 rfl (by decide) (by decide) ?_
  refine n_goto (pc := 121) (tgt := 99) dX7_init_121 (by decide) ?_
  refine n_iload_n (pc := 99) dX7_init_99 rfl ?_
  refine n_bipush (v := 10) (pc := 100) dX7_init_100 (by decide) ?_
  refine n_icmp_ge (pc := 102) (tgt := 124) dX7_init_102 (by decide) (fun z => absurd z (by decide)) (fun _ => ?_)
  refine n_aload_n (pc := 105) dX7_init_105 rfl ?_
  refine n_getR (n := 501) (b := 58) (pc := 106) (ci := 7) dX7_init_106 fl_X7_31 rfl (by decide) (by decide) (by rfl) ?_
  refine n_iload_n (pc := 109) dX7_init_109 rfl ?_
  refine n_new (n := 501) (pc := 110) (ci := 4) (c' := (501, 9132)) dX7_init_110 kl_X7_17 it_4 iz_4 (by decide) ok_25 (by decide) (by intro b9 h9; simp at h9; first | (subst h9; show @LT.lt Nat _ _ _; omega) | (rcases h9 with h9 | h9 <;> (subst h9; show @LT.lt Nat _ _ _; omega)) | (rcases h9 with h9 | h9 | h9 <;> (subst h9; show @LT.lt Nat _ _ _; omega))) (by intro b9 h9; simp at h9; first | (subst h9; show @LT.lt Nat _ _ _; omega) | (rcases h9 with h9 | h9 <;> (subst h9; show @LT.lt Nat _ _ _; omega)) | (rcases h9 with h9 | h9 | h9 <;> (subst h9; show @LT.lt Nat _ _ _; omega))) (by decide) rfl (Nat.le_of_ble_eq_true rfl) (Nat.le_of_ble_eq_true rfl) (by decide) ?_
  refine n_dup (pc := 113) dX7_init_113 rfl ?_
  refine n_callI mX4_init (n := 502) (n' := 555) (pc := 114) (m1 := 53) (s1 := 577) (c' := (554, 9709)) dX7_init_114 (Or.inl lk_X7_19) ii_X4_init mo_X4_init rfl rfl ⟨by decide, by decide⟩ (Nat.le_of_ble_eq_true rfl) (by intro b9 h9; simp at h9; first | (subst h9; show @LT.lt Nat _ _ _; omega) | (rcases h9 with h9 | h9 <;> (subst h9; show @LT.lt Nat _ _ _; omega)) | (rcases h9 with h9 | h9 | h9 <;> (subst h9; show @LT.lt Nat _ _ _; omega))) (by intro b9 h9; simp at h9; first | (subst h9; show @LT.lt Nat _ _ _; omega) | (rcases h9 with h9 | h9 <;> (subst h9; show @LT.lt Nat _ _ _; omega)) | (rcases h9 with h9 | h9 | h9 <;> (subst h9; show @LT.lt Nat _ _ _; omega))) (by decide) rfl (Nat.le_of_ble_eq_true rfl) (Nat.le_of_ble_eq_true rfl) (ct_X4 (q := 501) (by decide) (ksK (Or.inr (Or.inr (Or.inr ⟨6, by decide, rfl⟩)))) (ok_25.up (m := 502) (by decide)) (fun k => (ok_25.1 _ k (by decide)).1)) ?_
  have ok_26 := seaP_ok (q := 501) (i := 24) (j := 24) (n := 555) (ok_25.up (m := 502) (by decide)) (by decide) (Or.inr (by decide))
  refine n_aast (n := 555) (pc := 117) (ci := 22) (N := 10) (cj := 4) (nb := 0) (j := 6) dX7_init_117 (by decide) (by decide) (by decide) (by decide) rfl (by decide) (by decide) (iv0 6 10 (by decide) (by decide) (by decide)) (by decide) ?_
  have ok_27 := (ok_26.up (m := 555) (by decide)).ur (a := 58) (b := 501) (by decide) 6 (by decide)
  refine n_iinc (pc := 118) (w := 7) dX7_init_118 rfl (by decide) (by decide) ?_
  refine n_goto (pc := 121) (tgt := 99) dX7_init_121 (by decide) ?_
  refine n_iload_n (pc := 99) dX7_init_99 rfl ?_
  refine n_bipush (v := 10) (pc := 100) dX7_init_100 (by decide) ?_
  refine n_icmp_ge (pc := 102) (tgt := 124) dX7_init_102 (by decide) (fun z => absurd z (by decide)) (fun _ => ?_)
  refine n_aload_n (pc := 105) dX7_init_105 rfl ?_
  refine n_getR (n := 555) (b := 58) (pc := 106) (ci := 7) dX7_init_106 fl_X7_31 rfl (by decide) (by decide) (by rfl) ?_
  refine n_iload_n (pc := 109) dX7_init_109 rfl ?_
  refine n_new (n := 555) (pc := 110) (ci := 4) (c' := (555, 9719)) dX7_init_110 kl_X7_17 it_4 iz_4 (by decide) ok_27 (by decide) (by intro b9 h9; simp at h9; first | (subst h9; show @LT.lt Nat _ _ _; omega) | (rcases h9 with h9 | h9 <;> (subst h9; show @LT.lt Nat _ _ _; omega)) | (rcases h9 with h9 | h9 | h9 <;> (subst h9; show @LT.lt Nat _ _ _; omega))) (by intro b9 h9; simp at h9; first | (subst h9; show @LT.lt Nat _ _ _; omega) | (rcases h9 with h9 | h9 <;> (subst h9; show @LT.lt Nat _ _ _; omega)) | (rcases h9 with h9 | h9 | h9 <;> (subst h9; show @LT.lt Nat _ _ _; omega))) (by decide) rfl (Nat.le_of_ble_eq_true rfl) (Nat.le_of_ble_eq_true rfl) (by decide) ?_
  refine n_dup (pc := 113) dX7_init_113 rfl ?_
  refine n_callI mX4_init (n := 556) (n' := 609) (pc := 114) (m1 := 53) (s1 := 577) (c' := (608, 10296)) dX7_init_114 (Or.inl lk_X7_19) ii_X4_init mo_X4_init rfl rfl ⟨by decide, by decide⟩ (Nat.le_of_ble_eq_true rfl) (by intro b9 h9; simp at h9; first | (subst h9; show @LT.lt Nat _ _ _; omega) | (rcases h9 with h9 | h9 <;> (subst h9; show @LT.lt Nat _ _ _; omega)) | (rcases h9 with h9 | h9 | h9 <;> (subst h9; show @LT.lt Nat _ _ _; omega))) (by intro b9 h9; simp at h9; first | (subst h9; show @LT.lt Nat _ _ _; omega) | (rcases h9 with h9 | h9 <;> (subst h9; show @LT.lt Nat _ _ _; omega)) | (rcases h9 with h9 | h9 | h9 <;> (subst h9; show @LT.lt Nat _ _ _; omega))) (by decide) rfl (Nat.le_of_ble_eq_true rfl) (Nat.le_of_ble_eq_true rfl) (ct_X4 (q := 555) (by decide) (ksK (Or.inr (Or.inr (Or.inr ⟨7, by decide, rfl⟩)))) (ok_27.up (m := 556) (by decide)) (fun k => (ok_27.1 _ k (by decide)).1)) ?_
  have ok_28 := seaP_ok (q := 555) (i := 24) (j := 24) (n := 609) (ok_27.up (m := 556) (by decide)) (by decide) (Or.inr (by decide))
  refine n_aast (n := 609) (pc := 117) (ci := 22) (N := 10) (cj := 4) (nb := 0) (j := 7) dX7_init_117 (by decide) (by decide) (by decide) (by decide) rfl (by decide) (by decide) (iv0 7 10 (by decide) (by decide) (by decide)) (by decide) ?_
  have ok_29 := (ok_28.up (m := 609) (by decide)).ur (a := 58) (b := 555) (by decide) 7 (by decide)
  refine n_iinc (pc := 118) (w := 8) dX7_init_118 rfl (by decide) (by decide) ?_
  refine n_goto (pc := 121) (tgt := 99) dX7_init_121 (by decide) ?_
  refine n_iload_n (pc := 99) dX7_init_99 rfl ?_
  refine n_bipush (v := 10) (pc := 100) dX7_init_100 (by decide) ?_
  refine n_icmp_ge (pc := 102) (tgt := 124) dX7_init_102 (by decide) (fun z => absurd z (by decide)) (fun _ => ?_)
  refine n_aload_n (pc := 105) dX7_init_105 rfl ?_
  refine n_getR (n := 609) (b := 58) (pc := 106) (ci := 7) dX7_init_106 fl_X7_31 rfl (by decide) (by decide) (by rfl) ?_
  refine n_iload_n (pc := 109) dX7_init_109 rfl ?_
  refine n_new (n := 609) (pc := 110) (ci := 4) (c' := (609, 10306)) dX7_init_110 kl_X7_17 it_4 iz_4 (by decide) ok_29 (by decide) (by intro b9 h9; simp at h9; first | (subst h9; show @LT.lt Nat _ _ _; omega) | (rcases h9 with h9 | h9 <;> (subst h9; show @LT.lt Nat _ _ _; omega)) | (rcases h9 with h9 | h9 | h9 <;> (subst h9; show @LT.lt Nat _ _ _; omega))) (by intro b9 h9; simp at h9; first | (subst h9; show @LT.lt Nat _ _ _; omega) | (rcases h9 with h9 | h9 <;> (subst h9; show @LT.lt Nat _ _ _; omega)) | (rcases h9 with h9 | h9 | h9 <;> (subst h9; show @LT.lt Nat _ _ _; omega))) (by decide) rfl (Nat.le_of_ble_eq_true rfl) (Nat.le_of_ble_eq_true rfl) (by decide) ?_
  refine n_dup (pc := 113) dX7_init_113 rfl ?_
  refine n_callI mX4_init (n := 610) (n' := 663) (pc := 114) (m1 := 53) (s1 := 577) (c' := (662, 10883)) dX7_init_114 (Or.inl lk_X7_19) ii_X4_init mo_X4_init rfl rfl ⟨by decide, by decide⟩ (Nat.le_of_ble_eq_true rfl) (by intro b9 h9; simp at h9; first | (subst h9; show @LT.lt Nat _ _ _; omega) | (rcases h9 with h9 | h9 <;> (subst h9; show @LT.lt Nat _ _ _; omega)) | (rcases h9 with h9 | h9 | h9 <;> (subst h9; show @LT.lt Nat _ _ _; omega))) (by intro b9 h9; simp at h9; first | (subst h9; show @LT.lt Nat _ _ _; omega) | (rcases h9 with h9 | h9 <;> (subst h9; show @LT.lt Nat _ _ _; omega)) | (rcases h9 with h9 | h9 | h9 <;> (subst h9; show @LT.lt Nat _ _ _; omega))) (by decide) rfl (Nat.le_of_ble_eq_true rfl) (Nat.le_of_ble_eq_true rfl) (ct_X4 (q := 609) (by decide) (ksK (Or.inr (Or.inr (Or.inr ⟨8, by decide, rfl⟩)))) (ok_29.up (m := 610) (by decide)) (fun k => (ok_29.1 _ k (by decide)).1)) ?_
  have ok_30 := seaP_ok (q := 609) (i := 24) (j := 24) (n := 663) (ok_29.up (m := 610) (by decide)) (by decide) (Or.inr (by decide))
  refine n_aast (n := 663) (pc := 117) (ci := 22) (N := 10) (cj := 4) (nb := 0) (j := 8) dX7_init_117 (by decide) (by decide) (by decide) (by decide) rfl (by decide) (by decide) (iv0 8 10 (by decide) (by decide) (by decide)) (by decide) ?_
  have ok_31 := (ok_30.up (m := 663) (by decide)).ur (a := 58) (b := 609) (by decide) 8 (by decide)
  refine n_iinc (pc := 118) (w := 9) dX7_init_118 rfl (by decide) (by decide) ?_
  refine n_goto (pc := 121) (tgt := 99) dX7_init_121 (by decide) ?_
  refine n_iload_n (pc := 99) dX7_init_99 rfl ?_
  refine n_bipush (v := 10) (pc := 100) dX7_init_100 (by decide) ?_
  refine n_icmp_ge (pc := 102) (tgt := 124) dX7_init_102 (by decide) (fun z => absurd z (by decide)) (fun _ => ?_)
  refine n_aload_n (pc := 105) dX7_init_105 rfl ?_
  refine n_getR (n := 663) (b := 58) (pc := 106) (ci := 7) dX7_init_106 fl_X7_31 rfl (by decide) (by decide) (by rfl) ?_
  refine n_iload_n (pc := 109) dX7_init_109 rfl ?_
  refine n_new (n := 663) (pc := 110) (ci := 4) (c' := (663, 10893)) dX7_init_110 kl_X7_17 it_4 iz_4 (by decide) ok_31 (by decide) (by intro b9 h9; simp at h9; first | (subst h9; show @LT.lt Nat _ _ _; omega) | (rcases h9 with h9 | h9 <;> (subst h9; show @LT.lt Nat _ _ _; omega)) | (rcases h9 with h9 | h9 | h9 <;> (subst h9; show @LT.lt Nat _ _ _; omega))) (by intro b9 h9; simp at h9; first | (subst h9; show @LT.lt Nat _ _ _; omega) | (rcases h9 with h9 | h9 <;> (subst h9; show @LT.lt Nat _ _ _; omega)) | (rcases h9 with h9 | h9 | h9 <;> (subst h9; show @LT.lt Nat _ _ _; omega))) (by decide) rfl (Nat.le_of_ble_eq_true rfl) (Nat.le_of_ble_eq_true rfl) (by decide) ?_
  refine n_dup (pc := 113) dX7_init_113 rfl ?_
  refine n_callI mX4_init (n := 664) (n' := 717) (pc := 114) (m1 := 53) (s1 := 577) (c' := (716, 11470)) dX7_init_114 (Or.inl lk_X7_19) ii_X4_init mo_X4_init rfl rfl ⟨by decide, by decide⟩ (Nat.le_of_ble_eq_true rfl) (by intro b9 h9; simp at h9; first | (subst h9; show @LT.lt Nat _ _ _; omega) | (rcases h9 with h9 | h9 <;> (subst h9; show @LT.lt Nat _ _ _; omega)) | (rcases h9 with h9 | h9 | h9 <;> (subst h9; show @LT.lt Nat _ _ _; omega))) (by intro b9 h9; simp at h9; first | (subst h9; show @LT.lt Nat _ _ _; omega) | (rcases h9 with h9 | h9 <;> (subst h9; show @LT.lt Nat _ _ _; omega)) | (rcases h9 with h9 | h9 | h9 <;> (subst h9; show @LT.lt Nat _ _ _; omega))) (by decide) rfl (Nat.le_of_ble_eq_true rfl) (Nat.le_of_ble_eq_true rfl) (ct_X4 (q := 663) (by decide) (ksK (Or.inr (Or.inr (Or.inr ⟨9, by decide, rfl⟩)))) (ok_31.up (m := 664) (by decide)) (fun k => (ok_31.1 _ k (by decide)).1)) ?_
  have ok_32 := seaP_ok (q := 663) (i := 24) (j := 24) (n := 717) (ok_31.up (m := 664) (by decide)) (by decide) (Or.inr (by decide))
  refine n_aast (n := 717) (pc := 117) (ci := 22) (N := 10) (cj := 4) (nb := 0) (j := 9) dX7_init_117 (by decide) (by decide) (by decide) (by decide) rfl (by decide) (by decide) (iv0 9 10 (by decide) (by decide) (by decide)) (by decide) ?_
  have ok_33 := (ok_32.up (m := 717) (by decide)).ur (a := 58) (b := 663) (by decide) 9 (by decide)
  refine n_iinc (pc := 118) (w := 10) dX7_init_118 rfl (by decide) (by decide) ?_
  refine n_goto (pc := 121) (tgt := 99) dX7_init_121 (by decide) ?_
  refine n_iload_n (pc := 99) dX7_init_99 rfl ?_
  refine n_bipush (v := 10) (pc := 100) dX7_init_100 (by decide) ?_
  refine n_icmp_ge (pc := 102) (tgt := 124) dX7_init_102 (by decide) (fun _ => ?_) (fun z => absurd (by decide) z)
  exact n_ret (pc := 124) rfl rfl dX7_init_124 rfl
theorem clC_ok {x : Cn} (ok : Okx 1 x) : Okx 717 (clC x) := by
  have ok_1 := (ok.up (m := 2) (by decide)).ur (a := 0) (b := 1) (by decide) 0 (by decide)
  have ok_2 := seaP_ok (q := 2) (i := 24) (j := 24) (n := 56) (ok_1.up (m := 3) (by decide)) (by decide) (Or.inr (by decide))
  have ok_3 := (ok_2.up (m := 56) (by decide)).ur (a := 0) (b := 2) (by decide) 2 (by decide)
  have ok_4 := (ok_3.up (m := 58) (by decide)).ur (a := 56) (b := 57) (by decide) 1 (by decide)
  have ok_5 := (ok_4.up (m := 58) (by decide)).ur (a := 0) (b := 56) (by decide) 3 (by decide)
  have ok_6 := (ok_5.up (m := 59) (by decide)).ur (a := 0) (b := 58) (by decide) 4 (by decide)
  have ok_7 := rdC_ok (ok_6.up (m := 60) (by decide))
  have ok_8 := (ok_7.up (m := 117) (by decide)).ur (a := 0) (b := 59) (by decide) 6 (by decide)
  have ok_9 := ok_8.ui (a := 0) (by decide) 8 (-1)
  have ok_10 := plC_ok (ok_9.up (m := 118) (by decide))
  have ok_11 := (ok_10.up (m := 175) (by decide)).ur (a := 0) (b := 117) (by decide) 9 (by decide)
  have ok_12 := (ok_11.up (m := 177) (by decide)).ur (a := 175) (b := 176) (by decide) 0 (by decide)
  have ok_13 := (ok_12.up (m := 177) (by decide)).ur (a := 0) (b := 175) (by decide) 10 (by decide)
  have ok_14 := seaP_ok (q := 177) (i := 24) (j := 24) (n := 231) (ok_13.up (m := 178) (by decide)) (by decide) (Or.inr (by decide))
  have ok_15 := (ok_14.up (m := 231) (by decide)).ur (a := 58) (b := 177) (by decide) 0 (by decide)
  have ok_16 := seaP_ok (q := 231) (i := 24) (j := 24) (n := 285) (ok_15.up (m := 232) (by decide)) (by decide) (Or.inr (by decide))
  have ok_17 := (ok_16.up (m := 285) (by decide)).ur (a := 58) (b := 231) (by decide) 1 (by decide)
  have ok_18 := seaP_ok (q := 285) (i := 24) (j := 24) (n := 339) (ok_17.up (m := 286) (by decide)) (by decide) (Or.inr (by decide))
  have ok_19 := (ok_18.up (m := 339) (by decide)).ur (a := 58) (b := 285) (by decide) 2 (by decide)
  have ok_20 := seaP_ok (q := 339) (i := 24) (j := 24) (n := 393) (ok_19.up (m := 340) (by decide)) (by decide) (Or.inr (by decide))
  have ok_21 := (ok_20.up (m := 393) (by decide)).ur (a := 58) (b := 339) (by decide) 3 (by decide)
  have ok_22 := seaP_ok (q := 393) (i := 24) (j := 24) (n := 447) (ok_21.up (m := 394) (by decide)) (by decide) (Or.inr (by decide))
  have ok_23 := (ok_22.up (m := 447) (by decide)).ur (a := 58) (b := 393) (by decide) 4 (by decide)
  have ok_24 := seaP_ok (q := 447) (i := 24) (j := 24) (n := 501) (ok_23.up (m := 448) (by decide)) (by decide) (Or.inr (by decide))
  have ok_25 := (ok_24.up (m := 501) (by decide)).ur (a := 58) (b := 447) (by decide) 5 (by decide)
  have ok_26 := seaP_ok (q := 501) (i := 24) (j := 24) (n := 555) (ok_25.up (m := 502) (by decide)) (by decide) (Or.inr (by decide))
  have ok_27 := (ok_26.up (m := 555) (by decide)).ur (a := 58) (b := 501) (by decide) 6 (by decide)
  have ok_28 := seaP_ok (q := 555) (i := 24) (j := 24) (n := 609) (ok_27.up (m := 556) (by decide)) (by decide) (Or.inr (by decide))
  have ok_29 := (ok_28.up (m := 609) (by decide)).ur (a := 58) (b := 555) (by decide) 7 (by decide)
  have ok_30 := seaP_ok (q := 609) (i := 24) (j := 24) (n := 663) (ok_29.up (m := 610) (by decide)) (by decide) (Or.inr (by decide))
  have ok_31 := (ok_30.up (m := 663) (by decide)).ur (a := 58) (b := 609) (by decide) 8 (by decide)
  have ok_32 := seaP_ok (q := 663) (i := 24) (j := 24) (n := 717) (ok_31.up (m := 664) (by decide)) (by decide) (Or.inr (by decide))
  have ok_33 := (ok_32.up (m := 717) (by decide)).ur (a := 58) (b := 663) (by decide) 9 (by decide)
  exact ok_33
def moC (x : Cn) : Cn := (ur (ur (ur (ur (ur (ui (ur (ur (ur (ur x 717 1 (some 718)) 717 2 (some 719)) 717 3 (some 718)) 717 4 (some 720)) 717 12 (-1)) 717 15 (some 721)) 717 16 (some 722)) 717 17 (some 723)) 717 20 (some 724)) 717 21 (some 725))
theorem ct_X8 {x : Cn} (ok : Okx 718 x) (hz : ∀ k, x.1 717 k = 0) : mSpN mX8_init [.ref 717] (hp (718, kwf) x) 8 10471 (fun h' => h' = hp (726, kwf) (moC x)) := by
  refine n_of (by decide) (by simp [Value.category]) (Nat.le_of_ble_eq_true rfl) rfl ?_
  show GN mX8_init 8 10471 718 _ (0, 0) 0 [some (.ref 717)] [] _
  refine n_aload_n (pc := 0) dX8_init_0 rfl ?_
  refine n_objInit (pc := 1) dX8_init_1 lk_X8_1 oi_i oi_c ⟨by decide, by decide⟩ (Nat.le_of_ble_eq_true rfl) ?_
  refine n_aload_n (pc := 4) dX8_init_4 rfl ?_
  refine n_sipush (v := 518) (pc := 5) dX8_init_5 (by decide) ?_
  refine n_newa (n := 718) (N := 518) (kn := 20) (c' := (1, 518)) (pc := 8) dX8_init_8 (Or.inl ⟨rfl, rfl⟩) ac_i rfl (by decide) ok (by decide) (by intro b9 h9; simp at h9; first | (subst h9; show @LT.lt Nat _ _ _; omega) | (rcases h9 with h9 | h9 <;> (subst h9; show @LT.lt Nat _ _ _; omega)) | (rcases h9 with h9 | h9 | h9 <;> (subst h9; show @LT.lt Nat _ _ _; omega))) (by intro b9 h9; simp at h9; first | (subst h9; show @LT.lt Nat _ _ _; omega) | (rcases h9 with h9 | h9 <;> (subst h9; show @LT.lt Nat _ _ _; omega)) | (rcases h9 with h9 | h9 | h9 <;> (subst h9; show @LT.lt Nat _ _ _; omega))) (by decide) rfl (Nat.le_of_ble_eq_true rfl) (Nat.le_of_ble_eq_true rfl) (by decide) ?_
  refine n_putRF (n := 719) (b := 718) (pc := 10) (ci := 8) dX8_init_10 fl_X8_9 rfl rfl rfl rfl (by decide) (by decide) ?_
  have ok_1 := (ok.up (m := 719) (by decide)).ur (a := 717) (b := 718) (by decide) 1 (by decide)
  refine n_aload_n (pc := 13) dX8_init_13 rfl ?_
  refine n_sipush (v := 518) (pc := 14) dX8_init_14 (by decide) ?_
  refine n_newa (n := 719) (N := 518) (kn := 20) (c' := (2, 1036)) (pc := 17) dX8_init_17 (Or.inl ⟨rfl, rfl⟩) ac_i rfl (by decide) ok_1 (by decide) (by intro b9 h9; simp at h9; first | (subst h9; show @LT.lt Nat _ _ _; omega) | (rcases h9 with h9 | h9 <;> (subst h9; show @LT.lt Nat _ _ _; omega)) | (rcases h9 with h9 | h9 | h9 <;> (subst h9; show @LT.lt Nat _ _ _; omega))) (by intro b9 h9; simp at h9; first | (subst h9; show @LT.lt Nat _ _ _; omega) | (rcases h9 with h9 | h9 <;> (subst h9; show @LT.lt Nat _ _ _; omega)) | (rcases h9 with h9 | h9 | h9 <;> (subst h9; show @LT.lt Nat _ _ _; omega))) (by decide) rfl (Nat.le_of_ble_eq_true rfl) (Nat.le_of_ble_eq_true rfl) (by decide) ?_
  refine n_putRF (n := 720) (b := 719) (pc := 19) (ci := 8) dX8_init_19 fl_X8_13 rfl rfl rfl rfl (by decide) (by decide) ?_
  have ok_2 := (ok_1.up (m := 720) (by decide)).ur (a := 717) (b := 719) (by decide) 2 (by decide)
  refine n_aload_n (pc := 22) dX8_init_22 rfl ?_
  refine n_aload_n (pc := 23) dX8_init_23 rfl ?_
  refine n_getR (n := 720) (b := 718) (pc := 24) (ci := 8) dX8_init_24 fl_X8_9 rfl (by decide) (by decide) (by rfl) ?_
  refine n_putR (n := 720) (b := 718) (pc := 27) (ci := 8) dX8_init_27 fl_X8_16 rfl rfl (by decide) (by decide) ?_
  have ok_3 := (ok_2.up (m := 720) (by decide)).ur (a := 717) (b := 718) (by decide) 3 (by decide)
  refine n_aload_n (pc := 30) dX8_init_30 rfl ?_
  refine n_sipush (v := 1200) (pc := 31) dX8_init_31 (by decide) ?_
  refine n_newa (n := 720) (N := 1200) (kn := 21) (c' := (3, 2236)) (pc := 34) dX8_init_34 (Or.inr ⟨rfl, rfl⟩) ac_b rfl (by decide) ok_3 (by decide) (by intro b9 h9; simp at h9; first | (subst h9; show @LT.lt Nat _ _ _; omega) | (rcases h9 with h9 | h9 <;> (subst h9; show @LT.lt Nat _ _ _; omega)) | (rcases h9 with h9 | h9 | h9 <;> (subst h9; show @LT.lt Nat _ _ _; omega))) (by intro b9 h9; simp at h9; first | (subst h9; show @LT.lt Nat _ _ _; omega) | (rcases h9 with h9 | h9 <;> (subst h9; show @LT.lt Nat _ _ _; omega)) | (rcases h9 with h9 | h9 | h9 <;> (subst h9; show @LT.lt Nat _ _ _; omega))) (by decide) rfl (Nat.le_of_ble_eq_true rfl) (Nat.le_of_ble_eq_true rfl) (by decide) ?_
  refine n_putRF (n := 721) (b := 720) (pc := 36) (ci := 8) dX8_init_36 fl_X8_19 rfl rfl rfl rfl (by decide) (by decide) ?_
  have ok_4 := (ok_3.up (m := 721) (by decide)).ur (a := 717) (b := 720) (by decide) 4 (by decide)
  refine n_aload_n (pc := 39) dX8_init_39 rfl ?_
  refine n_iconst (v := (-1)) (pc := 40) dX8_init_40 (by decide) ?_
  refine n_putI (n := 721) (pc := 41) (ci := 8) dX8_init_41 fl_X8_23 rfl rfl (by decide) (by decide) ⟨rfl, rfl⟩ ?_
  have ok_5 := ok_4.ui (a := 717) (by decide) 12 (-1)
  refine n_aload_n (pc := 44) dX8_init_44 rfl ?_
  refine n_bipush (v := 7) (pc := 45) dX8_init_45 (by decide) ?_
  refine n_newa (n := 721) (N := 7) (kn := 20) (c' := (4, 2243)) (pc := 47) dX8_init_47 (Or.inl ⟨rfl, rfl⟩) ac_i rfl (by decide) ok_5 (by decide) (by intro b9 h9; simp at h9; first | (subst h9; show @LT.lt Nat _ _ _; omega) | (rcases h9 with h9 | h9 <;> (subst h9; show @LT.lt Nat _ _ _; omega)) | (rcases h9 with h9 | h9 | h9 <;> (subst h9; show @LT.lt Nat _ _ _; omega))) (by intro b9 h9; simp at h9; first | (subst h9; show @LT.lt Nat _ _ _; omega) | (rcases h9 with h9 | h9 <;> (subst h9; show @LT.lt Nat _ _ _; omega)) | (rcases h9 with h9 | h9 | h9 <;> (subst h9; show @LT.lt Nat _ _ _; omega))) (by decide) rfl (Nat.le_of_ble_eq_true rfl) (Nat.le_of_ble_eq_true rfl) (by decide) ?_
  refine n_putRF (n := 722) (b := 721) (pc := 49) (ci := 8) dX8_init_49 fl_X8_27 rfl rfl rfl rfl (by decide) (by decide) ?_
  have ok_6 := (ok_5.up (m := 722) (by decide)).ur (a := 717) (b := 721) (by decide) 15 (by decide)
  refine n_aload_n (pc := 52) dX8_init_52 rfl ?_
  refine n_bipush (v := 24) (pc := 53) dX8_init_53 (by decide) ?_
  refine n_newa (n := 722) (N := 24) (kn := 20) (c' := (5, 2267)) (pc := 55) dX8_init_55 (Or.inl ⟨rfl, rfl⟩) ac_i rfl (by decide) ok_6 (by decide) (by intro b9 h9; simp at h9; first | (subst h9; show @LT.lt Nat _ _ _; omega) | (rcases h9 with h9 | h9 <;> (subst h9; show @LT.lt Nat _ _ _; omega)) | (rcases h9 with h9 | h9 | h9 <;> (subst h9; show @LT.lt Nat _ _ _; omega))) (by intro b9 h9; simp at h9; first | (subst h9; show @LT.lt Nat _ _ _; omega) | (rcases h9 with h9 | h9 <;> (subst h9; show @LT.lt Nat _ _ _; omega)) | (rcases h9 with h9 | h9 | h9 <;> (subst h9; show @LT.lt Nat _ _ _; omega))) (by decide) rfl (Nat.le_of_ble_eq_true rfl) (Nat.le_of_ble_eq_true rfl) (by decide) ?_
  refine n_putRF (n := 723) (b := 722) (pc := 57) (ci := 8) dX8_init_57 fl_X8_30 rfl rfl rfl rfl (by decide) (by decide) ?_
  have ok_7 := (ok_6.up (m := 723) (by decide)).ur (a := 717) (b := 722) (by decide) 16 (by decide)
  refine n_aload_n (pc := 60) dX8_init_60 rfl ?_
  refine n_bipush (v := 24) (pc := 61) dX8_init_61 (by decide) ?_
  refine n_newa (n := 723) (N := 24) (kn := 20) (c' := (6, 2291)) (pc := 63) dX8_init_63 (Or.inl ⟨rfl, rfl⟩) ac_i rfl (by decide) ok_7 (by decide) (by intro b9 h9; simp at h9; first | (subst h9; show @LT.lt Nat _ _ _; omega) | (rcases h9 with h9 | h9 <;> (subst h9; show @LT.lt Nat _ _ _; omega)) | (rcases h9 with h9 | h9 | h9 <;> (subst h9; show @LT.lt Nat _ _ _; omega))) (by intro b9 h9; simp at h9; first | (subst h9; show @LT.lt Nat _ _ _; omega) | (rcases h9 with h9 | h9 <;> (subst h9; show @LT.lt Nat _ _ _; omega)) | (rcases h9 with h9 | h9 | h9 <;> (subst h9; show @LT.lt Nat _ _ _; omega))) (by decide) rfl (Nat.le_of_ble_eq_true rfl) (Nat.le_of_ble_eq_true rfl) (by decide) ?_
  refine n_putRF (n := 724) (b := 723) (pc := 65) (ci := 8) dX8_init_65 fl_X8_33 rfl rfl rfl rfl (by decide) (by decide) ?_
  have ok_8 := (ok_7.up (m := 724) (by decide)).ur (a := 717) (b := 723) (by decide) 17 (by decide)
  refine n_aload_n (pc := 68) dX8_init_68 rfl ?_
  refine n_sipush (v := 5180) (pc := 69) dX8_init_69 (by decide) ?_
  refine n_newa (n := 724) (N := 5180) (kn := 20) (c' := (7, 7471)) (pc := 72) dX8_init_72 (Or.inl ⟨rfl, rfl⟩) ac_i rfl (by decide) ok_8 (by decide) (by intro b9 h9; simp at h9; first | (subst h9; show @LT.lt Nat _ _ _; omega) | (rcases h9 with h9 | h9 <;> (subst h9; show @LT.lt Nat _ _ _; omega)) | (rcases h9 with h9 | h9 | h9 <;> (subst h9; show @LT.lt Nat _ _ _; omega))) (by intro b9 h9; simp at h9; first | (subst h9; show @LT.lt Nat _ _ _; omega) | (rcases h9 with h9 | h9 <;> (subst h9; show @LT.lt Nat _ _ _; omega)) | (rcases h9 with h9 | h9 | h9 <;> (subst h9; show @LT.lt Nat _ _ _; omega))) (by decide) rfl (Nat.le_of_ble_eq_true rfl) (Nat.le_of_ble_eq_true rfl) (by decide) ?_
  refine n_putRF (n := 725) (b := 724) (pc := 74) (ci := 8) dX8_init_74 fl_X8_36 rfl rfl rfl rfl (by decide) (by decide) ?_
  have ok_9 := (ok_8.up (m := 725) (by decide)).ur (a := 717) (b := 724) (by decide) 20 (by decide)
  refine n_aload_n (pc := 77) dX8_init_77 rfl ?_
  refine n_sipush (v := 3000) (pc := 78) dX8_init_78 (by decide) ?_
  refine n_newa (n := 725) (N := 3000) (kn := 21) (c' := (8, 10471)) (pc := 81) dX8_init_81 (Or.inr ⟨rfl, rfl⟩) ac_b rfl (by decide) ok_9 (by decide) (by intro b9 h9; simp at h9; first | (subst h9; show @LT.lt Nat _ _ _; omega) | (rcases h9 with h9 | h9 <;> (subst h9; show @LT.lt Nat _ _ _; omega)) | (rcases h9 with h9 | h9 | h9 <;> (subst h9; show @LT.lt Nat _ _ _; omega))) (by intro b9 h9; simp at h9; first | (subst h9; show @LT.lt Nat _ _ _; omega) | (rcases h9 with h9 | h9 <;> (subst h9; show @LT.lt Nat _ _ _; omega)) | (rcases h9 with h9 | h9 | h9 <;> (subst h9; show @LT.lt Nat _ _ _; omega))) (by decide) rfl (Nat.le_of_ble_eq_true rfl) (Nat.le_of_ble_eq_true rfl) (by decide) ?_
  refine n_putRF (n := 726) (b := 725) (pc := 83) (ci := 8) dX8_init_83 fl_X8_39 rfl rfl rfl rfl (by decide) (by decide) ?_
  have ok_10 := (ok_9.up (m := 726) (by decide)).ur (a := 717) (b := 725) (by decide) 21 (by decide)
  exact n_ret (pc := 86) rfl rfl dX8_init_86 rfl
theorem moC_ok {x : Cn} (ok : Okx 718 x) : Okx 726 (moC x) := by
  have ok_1 := (ok.up (m := 719) (by decide)).ur (a := 717) (b := 718) (by decide) 1 (by decide)
  have ok_2 := (ok_1.up (m := 720) (by decide)).ur (a := 717) (b := 719) (by decide) 2 (by decide)
  have ok_3 := (ok_2.up (m := 720) (by decide)).ur (a := 717) (b := 718) (by decide) 3 (by decide)
  have ok_4 := (ok_3.up (m := 721) (by decide)).ur (a := 717) (b := 720) (by decide) 4 (by decide)
  have ok_5 := ok_4.ui (a := 717) (by decide) 12 (-1)
  have ok_6 := (ok_5.up (m := 722) (by decide)).ur (a := 717) (b := 721) (by decide) 15 (by decide)
  have ok_7 := (ok_6.up (m := 723) (by decide)).ur (a := 717) (b := 722) (by decide) 16 (by decide)
  have ok_8 := (ok_7.up (m := 724) (by decide)).ur (a := 717) (b := 723) (by decide) 17 (by decide)
  have ok_9 := (ok_8.up (m := 725) (by decide)).ur (a := 717) (b := 724) (by decide) 20 (by decide)
  have ok_10 := (ok_9.up (m := 726) (by decide)).ur (a := 717) (b := 725) (by decide) 21 (by decide)
  exact ok_10
