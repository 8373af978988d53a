theorem oi_i : Cond.instanceMethod objectInit ∈ mTb := mTb_1 22 rfl rfl
theorem oi_c : Cond.code objectInit ⟨#[0xb1]⟩ 1 none ∈ mTb := mTb_at 147 (by decide +kernel) rfl
theorem ac_i : Cond.arrayClass (newarray.typeOf .int) ∈ mTb := mTb_1 102 rfl rfl
theorem ac_b : Cond.arrayClass (newarray.typeOf .byte) ∈ mTb := mTb_1 101 rfl rfl
theorem it_0 : Cond.instantiable (mCn 0) (mNF 0) ∈ mTb := mTb_1 103 rfl rfl
theorem iz_0 : Cond.initialized (mCn 0) ∈ mTb := mTb_1 4 rfl rfl
theorem it_1 : Cond.instantiable (mCn 1) (mNF 1) ∈ mTb := mTb_1 214 rfl rfl
theorem iz_1 : Cond.initialized (mCn 1) ∈ mTb := mTb_1 5 rfl rfl
theorem it_2 : Cond.instantiable (mCn 2) (mNF 2) ∈ mTb := mTb_2 61 rfl rfl
theorem iz_2 : Cond.initialized (mCn 2) ∈ mTb := mTb_1 7 rfl rfl
theorem it_3 : Cond.instantiable (mCn 3) (mNF 3) ∈ mTb := mTb_1 231 rfl rfl
theorem iz_3 : Cond.initialized (mCn 3) ∈ mTb := mTb_1 6 rfl rfl
theorem it_4 : Cond.instantiable (mCn 4) (mNF 4) ∈ mTb := mTb_1 25 rfl rfl
theorem iz_4 : Cond.initialized (mCn 4) ∈ mTb := mTb_1 2 rfl rfl
theorem it_5 : Cond.instantiable (mCn 5) (mNF 5) ∈ mTb := mTb_1 34 rfl rfl
theorem iz_5 : Cond.initialized (mCn 5) ∈ mTb := mTb_1 3 rfl rfl
theorem it_6 : Cond.instantiable (mCn 6) (mNF 6) ∈ mTb := mTb_2 88 rfl rfl
theorem iz_6 : Cond.initialized (mCn 6) ∈ mTb := mTb_1 8 rfl rfl
theorem it_7 : Cond.instantiable (mCn 7) (mNF 7) ∈ mTb := mTb_1 17 rfl rfl
theorem iz_7 : Cond.initialized (mCn 7) ∈ mTb := mTb_1 1 rfl rfl
theorem it_8 : Cond.instantiable (mCn 8) (mNF 8) ∈ mTb := mTb_5 199 rfl rfl
theorem iz_8 : Cond.initialized (mCn 8) ∈ mTb := mTb_1 9 rfl rfl
theorem kl_X7_17 : Cond.classLink RX7 17 RX4 ∈ mTb := mTb_1 24 rfl rfl
theorem kl_X7_24 : Cond.classLink RX7 24 RX1 ∈ mTb := mTb_1 213 rfl rfl
theorem kl_X7_38 : Cond.classLink RX7 38 RX3 ∈ mTb := mTb_1 230 rfl rfl
theorem kl_X7_51 : Cond.classLink RX7 51 RX2 ∈ mTb := mTb_2 60 rfl rfl
theorem kl_X7_58 : Cond.classLink RX7 58 RX6 ∈ mTb := mTb_2 87 rfl rfl
theorem kl_X2_9 : Cond.classLink RX2 9 RX4 ∈ mTb := mTb_2 66 rfl rfl
theorem kl_X3_9 : Cond.classLink RX3 9 RX4 ∈ mTb := mTb_1 236 rfl rfl
theorem kl_X3_18 : Cond.classLink RX3 18 RX1 ∈ mTb := mTb_1 238 rfl rfl
theorem kl_X4_34 : Cond.classLink RX4 34 RX5 ∈ mTb := mTb_1 30 rfl rfl
theorem kl_X4_40 : Cond.classLink RX4 40 RX0 ∈ mTb := mTb_1 32 rfl rfl
theorem kl_L_7 : Cond.classLink RL 7 RX7 ∈ mTb := mTb_1 16 rfl rfl
theorem kl_L_10 : Cond.classLink RL 10 RX8 ∈ mTb := mTb_5 198 rfl rfl
/-! contents that are empty from n on -/
def Okx (n : Nat) (x : Cn) : Prop := (∀ a k, n ≤ a → x.1 a k = 0 ∧ x.2 a k = none) ∧ ∀ a k b, x.2 a k = some b → b < n
theorem Okx.up {n m : Nat} {x : Cn} (h : Okx n x) (hm : n ≤ m) : Okx m x := ⟨fun a k ha => h.1 a k (Nat.le_trans hm ha), fun a k b hb => Nat.lt_of_lt_of_le (h.2 a k b hb) hm⟩
theorem Okx.ui {n a : Nat} {x : Cn} (h : Okx n x) (ha : a < n) (k : Nat) (v : Int32) : Okx n (ui x a k v) := ⟨fun b j hb => ⟨(if_neg (fun z => by omega)).trans (h.1 b j hb).1, (h.1 b j hb).2⟩, h.2⟩
theorem Okx.ur {n a b : Nat} {x : Cn} (h : Okx n x) (ha : a < n) (k : Nat) (hb : b < n) : Okx n (ur x a k (some b)) := by
  refine ⟨fun c j hc => ⟨(h.1 c j hc).1, (if_neg (fun z => by omega)).trans (h.1 c j hc).2⟩, fun c j d hd => ?_⟩
  have hd : (if c = a ∧ j = k then some b else x.2 c j) = some d := hd
  by_cases hq : c = a ∧ j = k
  · rw [if_pos hq] at hd
    cases hd
    exact hb
  · rw [if_neg hq] at hd
    exact h.2 c j d hd
theorem Okx.wf {n : Nat} {x : Cn} (h : Okx n x) : WFh (hp (n, kwf) x) := h.2
theorem nw_hp {n : Nat} {x : Cn} {q : Nat × Nat} (h : Okx n x) (hq : kwf n = q) : nw (hp (n, kwf) x) q = hp (n + 1, kwf) x := by
  unfold nw hp
  refine Prod.ext rfl (Prod.ext (funext fun a => ?_) (Prod.ext (funext fun a => funext fun k => ?_) (funext fun a => funext fun k => ?_)))
  · show (if a = n then q else kwf a) = kwf a
    by_cases ha : a = n
    · rw [if_pos ha, ha, hq]
    · rw [if_neg ha]
  · show (if a = n then 0 else x.1 a k) = x.1 a k
    by_cases ha : a = n
    · rw [if_pos ha, ha, (h.1 n k (Nat.le_refl _)).1]
    · rw [if_neg ha]
  · show (if a = n then none else x.2 a k) = x.2 a k
    by_cases ha : a = n
    · rw [if_pos ha, ha, (h.1 n k (Nat.le_refl _)).2]
    · rw [if_neg ha]
theorem ui_z {x : Cn} {a k : Nat} (h : x.1 a k = 0) : ui x a k 0 = x := by
  unfold ui
  refine Prod.ext (funext fun b => funext fun j => ?_) rfl
  show (if b = a ∧ j = k then 0 else x.1 b j) = x.1 b j
  by_cases hq : b = a ∧ j = k
  · rw [if_pos hq, hq.1, hq.2, h]
  · rw [if_neg hq]
theorem kdN {n a : Nat} {x : Cn} {q : Nat × Nat} (ha : a < n) (hq : kwf a = q) : kd (hp (n, kwf) x) a = some q := by
  unfold kd
  rw [if_pos (show a < (hp (n, kwf) x).1 from ha)]
  exact congrArg some hq
/-- a constructor's body from here on, whatever the addresses of the cells that it made -/
def GN (M : MR) (mc ms n0 : Nat) (P : HP → Prop) (c : Nat × Nat) (pc : Nat) (L : List (Option Value)) (st : List Value) (h : HP) : Prop := ∀ (B : BT) (ad0 ad : Nat → Nat), mCx B c ad M FF → B.2.2.2.1.cells = mc → B.2.2.2.1.slots = ms → (∀ (ad' : Nat → Nat) (h' : HP) (pc : Nat) (L : List (Option Value)), P h' → (∀ a, a < n0 ∨ mSB ≤ a → ad' a = ad0 a) → decode M.2.1 pc = .ok (.return_, 1) → mG B (mc, ms) ad' M.2.2.1 pc L [] h') → (∀ a, a < n0 ∨ mSB ≤ a → ad a = ad0 a) → mG B c ad M.2.2.1 pc L st h
theorem n_of {M : MR} {a : List Value} {h : HP} {mc ms : Nat} {P : HP → Prop} (hp : plainName M.1.cls = true) (hcat : ∀ v ∈ a, v.category = 1) (hn : a.length ≤ M.2.2.1) (hret : M.2.2.2.1 = none) (k : GN M mc ms h.1 P (0, 0) 0 (mEnL a M.2.2.1) [] h) : mSpN M a h mc ms P := mSpN_of hp hcat hn hret (fun B ad X e1 e2 kx => k B ad ad X e1 e2 kx (fun _ _ => rfl))
section NRU
variable {M : MR} {mc ms n0 : Nat} {P : HP → Prop} {c : Nat × Nat} {pc : Nat} {L : List (Option Value)} {st : List Value} {h : HP} {n : Nat} {x : Cn}
theorem n_aload_n {q : Fin 4} {a : Nat} (d : decode M.2.1 pc = .ok (.aload_n q, 1)) (hl : L[(q : Nat)]? = some (some (.ref a))) (k : GN M mc ms n0 P c (pc + 1) L (.ref a :: st) h) : GN M mc ms n0 P c pc L st h := fun B ad0 ad X e1 e2 kx ha => g_aload_n X d hl (k B ad0 ad X e1 e2 kx ha)
theorem n_iload_n {q : Fin 4} {v : Int32} (d : decode M.2.1 pc = .ok (.iload_n q, 1)) (hl : L[(q : Nat)]? = some (some (.int v))) (k : GN M mc ms n0 P c (pc + 1) L (.int v :: st) h) : GN M mc ms n0 P c pc L st h := fun B ad0 ad X e1 e2 kx ha => g_iload_n X d hl (k B ad0 ad X e1 e2 kx ha)
theorem n_istore_n {q : Fin 4} {v : Int32} (d : decode M.2.1 pc = .ok (.istore_n q, 1)) (hn : (q : Nat) < M.2.2.1) (k : GN M mc ms n0 P c (pc + 1) (L.set (q : Nat) (some (.int v))) st h) : GN M mc ms n0 P c pc L (.int v :: st) h := fun B ad0 ad X e1 e2 kx ha => g_istore_n X d hn (k B ad0 ad X e1 e2 kx ha)
theorem n_iconst {i : Int} {v : Int32} (d : decode M.2.1 pc = .ok (.iconst i, 1)) (hv : Int32.ofInt i = v) (k : GN M mc ms n0 P c (pc + 1) L (.int v :: st) h) : GN M mc ms n0 P c pc L st h := fun B ad0 ad X e1 e2 kx ha => g_iconst X d hv (k B ad0 ad X e1 e2 kx ha)
theorem n_bipush {i : Int} {v : Int32} (d : decode M.2.1 pc = .ok (.bipush i, 2)) (hv : (Int8.ofInt i).toInt32 = v) (k : GN M mc ms n0 P c (pc + 2) L (.int v :: st) h) : GN M mc ms n0 P c pc L st h := fun B ad0 ad X e1 e2 kx ha => g_bipush X d hv (k B ad0 ad X e1 e2 kx ha)
theorem n_sipush {i : Int} {v : Int32} (d : decode M.2.1 pc = .ok (.sipush i, 3)) (hv : (Int16.ofInt i).toInt32 = v) (k : GN M mc ms n0 P c (pc + 3) L (.int v :: st) h) : GN M mc ms n0 P c pc L st h := fun B ad0 ad X e1 e2 kx ha => g_sipush X d hv (k B ad0 ad X e1 e2 kx ha)
theorem n_iinc {i : Nat} {m : Int} {v w : Int32} (d : decode M.2.1 pc = .ok (.iinc i m, 3)) (hl : L[i]? = some (some (.int v))) (hv : v + Int32.ofInt m = w) (hn : i < M.2.2.1) (k : GN M mc ms n0 P c (pc + 3) (L.set i (some (.int w))) st h) : GN M mc ms n0 P c pc L st h := fun B ad0 ad X e1 e2 kx ha => g_iinc X d hl hv hn (k B ad0 ad X e1 e2 kx ha)
theorem n_dup {v : Value} (d : decode M.2.1 pc = .ok (.dup, 1)) (hv : v.category = 1) (k : GN M mc ms n0 P c (pc + 1) L (v :: v :: st) h) : GN M mc ms n0 P c pc L (v :: st) h := fun B ad0 ad X e1 e2 kx ha => g_dup X d hv (k B ad0 ad X e1 e2 kx ha)
theorem n_icmp_ge {v w : Int32} {off : Int} {tgt : Nat} (d : decode M.2.1 pc = .ok (.if_icmp .ge off, 3)) (ht : (pc : Int) + off = (tgt : Int)) (kt : w ≤ v → GN M mc ms n0 P c tgt L st h) (kf : ¬ w ≤ v → GN M mc ms n0 P c (pc + 3) L st h) : GN M mc ms n0 P c pc L (.int w :: .int v :: st) h := fun B ad0 ad X e1 e2 kx ha => g_icmp_ge X d ht (fun q => kt q B ad0 ad X e1 e2 kx ha) (fun q => kf q B ad0 ad X e1 e2 kx ha)
theorem n_goto {off : Int} {tgt : Nat} (d : decode M.2.1 pc = .ok (.goto off, 3)) (ht : (pc : Int) + off = (tgt : Int)) (k : GN M mc ms n0 P c tgt L st h) : GN M mc ms n0 P c pc L st h := fun B ad0 ad X e1 e2 kx ha => g_goto X d ht (k B ad0 ad X e1 e2 kx ha)
theorem n_objInit {i a : Nat} (d : decode M.2.1 pc = .ok (.invokespecial i, 3)) (hl : Cond.methodLink M.1.cls i objectInit ∈ mTb) (hi : Cond.instanceMethod objectInit ∈ mTb) (hcd : Cond.code objectInit ⟨#[0xb1]⟩ 1 none ∈ mTb) (hR : 1 ≤ M.2.2.2.2.1 ∧ 21 ≤ M.2.2.2.2.2) (hst : (st.map fun v => v.category).sum ≤ 8) (k : GN M mc ms n0 P c (pc + 3) L st h) : GN M mc ms n0 P c pc L (.ref a :: st) h := fun B ad0 ad X e1 e2 kx ha => g_objInit X d hl hi hcd hR hst (k B ad0 ad X e1 e2 kx ha)
theorem n_getR {a ci i k b : Nat} (d : decode M.2.1 pc = .ok (.getfield i, 3)) (F : mFld M.1.cls i ci k) (hi : mIs (mTy ci k) = false) (hb : a < n) (hk : kwf a = (ci, 0)) (hr : x.2 a k = some b) (q : GN M mc ms n0 P c (pc + 3) L (.ref b :: st) (hp (n, kwf) x)) : GN M mc ms n0 P c pc L (.ref a :: st) (hp (n, kwf) x) := fun B ad0 ad X e1 e2 kx ha => g_getR X d F hi (kdN hb hk) hr (q B ad0 ad X e1 e2 kx ha)
theorem n_put0 {a ci i k : Nat} (d : decode M.2.1 pc = .ok (.putfield i, 3)) (F : mFld M.1.cls i ci k) (hi : mIs (mTy ci k) = true) (hf : (mTt ci k).2.2.2 = false) (hb : a < n) (hk : kwf a = (ci, 0)) (hv : narrow (mTy ci k) (.int 0) = .int 0 ∧ fits (mTy ci k) (.int 0) = true) (hz : x.1 a k = 0) (q : GN M mc ms n0 P c (pc + 3) L st (hp (n, kwf) x)) : GN M mc ms n0 P c pc L (.int 0 :: .ref a :: st) (hp (n, kwf) x) := fun B ad0 ad X e1 e2 kx ha => g_putI X d F hi hf (kdN hb hk) hv (by have := q B ad0 ad X e1 e2 kx ha; rw [← ui_z hz] at this; exact this)
theorem n_putI {a ci i k : Nat} {v : Int32} (d : decode M.2.1 pc = .ok (.putfield i, 3)) (F : mFld M.1.cls i ci k) (hi : mIs (mTy ci k) = true) (hf : (mTt ci k).2.2.2 = false) (hb : a < n) (hk : kwf a = (ci, 0)) (hv : narrow (mTy ci k) (.int v) = .int v ∧ fits (mTy ci k) (.int v) = true) (q : GN M mc ms n0 P c (pc + 3) L st (hp (n, kwf) (ui x a k v))) : GN M mc ms n0 P c pc L (.int v :: .ref a :: st) (hp (n, kwf) x) := fun B ad0 ad X e1 e2 kx ha => g_putI X d F hi hf (kdN hb hk) hv (q B ad0 ad X e1 e2 kx ha)
theorem n_putR {a ci i k b : Nat} (d : decode M.2.1 pc = .ok (.putfield i, 3)) (F : mFld M.1.cls i ci k) (hi : mIs (mTy ci k) = false) (hf : (mTt ci k).2.2.2 = false) (hb : a < n) (hk : kwf a = (ci, 0)) (q : GN M mc ms n0 P c (pc + 3) L st (hp (n, kwf) (ur x a k (some b)))) : GN M mc ms n0 P c pc L (.ref b :: .ref a :: st) (hp (n, kwf) x) := fun B ad0 ad X e1 e2 kx ha => g_putR X d F hi hf (kdN hb hk) (q B ad0 ad X e1 e2 kx ha)
theorem n_putRF {a ci i k b : Nat} (d : decode M.2.1 pc = .ok (.putfield i, 3)) (F : mFld M.1.cls i ci k) (hi : mIs (mTy ci k) = false) (hf : (mTt ci k).2.2.2 = true) (hdc : (mTt ci k).1 = M.1.cls) (hin : M.1.name = "<init>") (hb : a < n) (hk : kwf a = (ci, 0)) (q : GN M mc ms n0 P c (pc + 3) L st (hp (n, kwf) (ur x a k (some b)))) : GN M mc ms n0 P c pc L (.ref b :: .ref a :: st) (hp (n, kwf) x) := fun B ad0 ad X e1 e2 kx ha => g_putRF X d F hi hf hdc hin (kdN hb hk) (q B ad0 ad X e1 e2 kx ha)
theorem n_aast {a ci N b cj nb : Nat} {i : Int32} {j : Nat} (d : decode M.2.1 pc = .ok (.aastore, 1)) (ha : a < n) (hka : kwf a = (ci, N)) (h22 : ¬ ci < 22) (hj : cj < 9) (hC : mAty ci = .object (mCn cj)) (hb : b < n) (hkb : kwf b = (cj, nb)) (hin : vp_in i N) (hij : i.toNatClampNeg = j) (q : GN M mc ms n0 P c (pc + 1) L st (hp (n, kwf) (ur x a j (some b)))) : GN M mc ms n0 P c pc L (.ref b :: .int i :: .ref a :: st) (hp (n, kwf) x) := fun B ad0 ad X e1 e2 kx ha0 => g_aast X d (kdN ha hka) h22 hj hC (kdN hb hkb) hin (by rw [hij]; exact q B ad0 ad X e1 e2 kx ha0)
theorem n_new {ci i : Nat} {c' : Nat × Nat} (d : decode M.2.1 pc = .ok (.new i, 3)) (hl : Cond.classLink M.1.cls i (mCn ci) ∈ mTb) (hi : Cond.instantiable (mCn ci) (mNF ci) ∈ mTb) (hz : Cond.initialized (mCn ci) ∈ mTb) (hci : ci < 9) (ok : Okx n x) (hsb : n < mSB) (hL : ∀ b, some (.ref b) ∈ L → b < n) (hS : ∀ b, Value.ref b ∈ st → b < n) (hn : n0 ≤ n) (hc' : c' = (c.1 + 1, c.2 + mNF ci)) (h1 : c'.1 ≤ mc) (h2 : c'.2 ≤ ms) (hq : kwf n = (ci, 0)) (k : GN M mc ms n0 P c' (pc + 3) L (.ref n :: st) (hp (n + 1, kwf) x)) : GN M mc ms n0 P c pc L st (hp (n, kwf) x) := by
  subst hc'
  intro B ad0 ad X e1 e2 kx ha
  have hc : c.1 + 1 ≤ B.2.2.2.1.cells ∧ c.2 + mNF ci ≤ B.2.2.2.1.slots := by rw [e1, e2]; exact ⟨h1, h2⟩
  refine g_new (h := hp (n, kwf) x) X d hl hi hz hci ok.wf hsb (fun b hb => Nat.ne_of_lt (hL b hb)) (fun b hb => Nat.ne_of_lt (hS b hb)) hc (fun ad' had => ?_)
  rw [nw_hp ok hq]
  exact k B ad0 ad' (mCx_ad X hc (fun a h => had a (show a ≠ n by omega))) e1 e2 kx (fun a h => (had a (show a ≠ n by omega)).trans (ha a h))
theorem n_newa {at9 : ArrayType} {kn N : Nat} {v : Int32} {c' : Nat × Nat} (d : decode M.2.1 pc = .ok (.newarray at9, 2)) (hat : (at9 = .int ∧ kn = 20) ∨ (at9 = .byte ∧ kn = 21)) (hwd : Cond.arrayClass (newarray.typeOf at9) ∈ mTb) (hv : v = nI N) (hN : N ≤ 100000) (ok : Okx n x) (hsb : n < mSB) (hL : ∀ b, some (.ref b) ∈ L → b < n) (hS : ∀ b, Value.ref b ∈ st → b < n) (hn : n0 ≤ n) (hc' : c' = (c.1 + 1, c.2 + N)) (h1 : c'.1 ≤ mc) (h2 : c'.2 ≤ ms) (hq : kwf n = (kn, N)) (k : GN M mc ms n0 P c' (pc + 2) L (.ref n :: st) (hp (n + 1, kwf) x)) : GN M mc ms n0 P c pc L (.int v :: st) (hp (n, kwf) x) := by
  subst hc'
  intro B ad0 ad X e1 e2 kx ha
  have hc : c.1 + 1 ≤ B.2.2.2.1.cells ∧ c.2 + N ≤ B.2.2.2.1.slots := by rw [e1, e2]; exact ⟨h1, h2⟩
  refine g_newa (h := hp (n, kwf) x) X d hat hwd hv hN ok.wf hsb (fun b hb => Nat.ne_of_lt (hL b hb)) (fun b hb => Nat.ne_of_lt (hS b hb)) hc (fun ad' had => ?_)
  rw [nw_hp ok hq]
  exact k B ad0 ad' (mCx_ad X hc (fun a h => had a (show a ≠ n by omega))) e1 e2 kx (fun a h => (had a (show a ≠ n by omega)).trans (ha a h))
theorem n_anew {C : String} {kn N i : Nat} {v : Int32} {c' : Nat × Nat} (d : decode M.2.1 pc = .ok (.anewarray i, 3)) (hl : Cond.classLink M.1.cls i C ∈ mTb) (hC : (C = RX4 ∧ kn = 22) ∨ (C = RX5 ∧ kn = 23) ∨ (C = RX0 ∧ kn = 24)) (hv : v = nI N) (hN : N ≤ 100000) (ok : Okx n x) (hsb : n < mSB) (hL : ∀ b, some (.ref b) ∈ L → b < n) (hS : ∀ b, Value.ref b ∈ st → b < n) (hn : n0 ≤ n) (hc' : c' = (c.1 + 1, c.2 + N)) (h1 : c'.1 ≤ mc) (h2 : c'.2 ≤ ms) (hq : kwf n = (kn, N)) (k : GN M mc ms n0 P c' (pc + 3) L (.ref n :: st) (hp (n + 1, kwf) x)) : GN M mc ms n0 P c pc L (.int v :: st) (hp (n, kwf) x) := by
  subst hc'
  intro B ad0 ad X e1 e2 kx ha
  have hc : c.1 + 1 ≤ B.2.2.2.1.cells ∧ c.2 + N ≤ B.2.2.2.1.slots := by rw [e1, e2]; exact ⟨h1, h2⟩
  refine g_anew (h := hp (n, kwf) x) X d hl hC hv hN ok.wf hsb (fun b hb => Nat.ne_of_lt (hL b hb)) (fun b hb => Nat.ne_of_lt (hS b hb)) hc (fun ad' had => ?_)
  rw [nw_hp ok hq]
  exact k B ad0 ad' (mCx_ad X hc (fun a h => had a (show a ≠ n by omega))) e1 e2 kx (fun a h => (had a (show a ≠ n by omega)).trans (ha a h))
theorem n_callI (N : MR) {idx a m1 s1 : Nat} {c' : Nat × Nat} (d : decode M.2.1 pc = .ok (.invokespecial idx, 3)) (hl : Cond.methodLink M.1.cls idx N.1 ∈ mTb ∨ ∃ host, (M.1.cls, idx, N.1, host) ∈ mNst) (hi : Cond.instanceMethod N.1 ∈ mTb) (mo : mMo N 0) (hnm : N.1.name = "<init>") (hret : N.2.2.2.1 = none) (hR : N.2.2.2.2.1 + 1 ≤ M.2.2.2.2.1 ∧ 8 + (N.2.2.1 + 11) + N.2.2.2.2.2 ≤ M.2.2.2.2.2) (hst : (st.map fun v => v.category).sum ≤ 8) (hL : ∀ b, some (.ref b) ∈ L → b < n) (hS : ∀ b, Value.ref b ∈ st → b < n) (hn : n0 ≤ n) (hc' : c' = (c.1 + m1, c.2 + s1)) (h1 : c'.1 ≤ mc) (h2 : c'.2 ≤ ms) {n' : Nat} {y : Cn}
    (k1 : mSpN N [.ref a] (hp (n, kwf) x) m1 s1 (fun h' => h' = hp (n', kwf) y)) (k : GN M mc ms n0 P c' (pc + 3) L st (hp (n', kwf) y)) : GN M mc ms n0 P c pc L (.ref a :: st) (hp (n, kwf) x) := by
  subst hc'
  intro B ad0 ad X e1 e2 kx ha
  have hc : c.1 + m1 ≤ B.2.2.2.1.cells ∧ c.2 + s1 ≤ B.2.2.2.1.slots := by rw [e1, e2]; exact ⟨h1, h2⟩
  refine g_callI N X d hl hi mo hnm hret hR hst hc (fun b hb => Or.inl (hL b hb)) (fun b hb => Or.inl (hS b hb)) (mSpN_mono k1 (fun h' eh ad' had => ?_))
  subst eh
  exact k B ad0 ad' (mCx_ad X hc (fun a h => had a (Or.inr h))) e1 e2 kx (fun a h => (had a (h.elim (fun q => Or.inl (Nat.lt_of_lt_of_le q hn)) Or.inr)).trans (ha a h))
theorem n_ret (hc : c = (mc, ms)) (hst : st = []) (d : decode M.2.1 pc = .ok (.return_, 1)) (hP : P h) : GN M mc ms n0 P c pc L st h := by
  subst hc
  subst hst
  exact fun B ad0 ad X e1 e2 kx ha => kx ad h pc L hP ha d
end NRU
theorem ct_X5 {n b : Nat} {x : Cn} (hb : b < n) (hk : kwf b = (5, 0)) (hz : ∀ k, x.1 b k = 0) : mSpN mX5_init [.ref b] (hp (n, kwf) x) 0 0 (fun h' => h' = hp (n, kwf) x) := by
  refine n_of (by decide) (by simp [Value.category]) (Nat.le_of_ble_eq_true rfl) rfl ?_
  show GN mX5_init 0 0 n _ (0, 0) 0 [some (.ref b)] [] _
  refine n_aload_n (pc := 0) dX5_init_0 rfl ?_
  refine n_objInit (pc := 1) dX5_init_1 lk_X5_3 oi_i oi_c ⟨by decide, by decide⟩ (Nat.le_of_ble_eq_true rfl) ?_
  refine n_aload_n (pc := 4) dX5_init_4 rfl ?_
  refine n_iconst (v := 0) (pc := 5) dX5_init_5 (by decide) ?_
  refine n_put0 (pc := 6) (ci := 5) dX5_init_6 fl_X5_9 rfl rfl hb hk ⟨rfl, rfl⟩ (hz _) ?_
  refine n_aload_n (pc := 9) dX5_init_9 rfl ?_
  refine n_iconst (v := 0) (pc := 10) dX5_init_10 (by decide) ?_
  refine n_put0 (pc := 11) (ci := 5) dX5_init_11 fl_X5_15 rfl rfl hb hk ⟨rfl, rfl⟩ (hz _) ?_
  refine n_aload_n (pc := 14) dX5_init_14 rfl ?_
  refine n_iconst (v := 0) (pc := 15) dX5_init_15 (by decide) ?_
  refine n_put0 (pc := 16) (ci := 5) dX5_init_16 fl_X5_18 rfl rfl hb hk ⟨rfl, rfl⟩ (hz _) ?_
  refine n_aload_n (pc := 19) dX5_init_19 rfl ?_
  refine n_iconst (v := 0) (pc := 20) dX5_init_20 (by decide) ?_
  refine n_put0 (pc := 21) (ci := 5) dX5_init_21 fl_X5_21 rfl rfl hb hk ⟨rfl, rfl⟩ (hz _) ?_
  refine n_aload_n (pc := 24) dX5_init_24 rfl ?_
  refine n_iconst (v := 0) (pc := 25) dX5_init_25 (by decide) ?_
  refine n_put0 (pc := 26) (ci := 5) dX5_init_26 fl_X5_24 rfl rfl hb hk ⟨rfl, rfl⟩ (hz _) ?_
  refine n_aload_n (pc := 29) dX5_init_29 rfl ?_
  refine n_iconst (v := 0) (pc := 30) dX5_init_30 (by decide) ?_
  refine n_put0 (pc := 31) (ci := 5) dX5_init_31 fl_X5_28 rfl rfl hb hk ⟨rfl, rfl⟩ (hz _) ?_
  refine n_aload_n (pc := 34) dX5_init_34 rfl ?_
  refine n_iconst (v := 0) (pc := 35) dX5_init_35 (by decide) ?_
  refine n_put0 (pc := 36) (ci := 5) dX5_init_36 fl_X5_31 rfl rfl hb hk ⟨rfl, rfl⟩ (hz _) ?_
  refine n_aload_n (pc := 39) dX5_init_39 rfl ?_
  refine n_iconst (v := 0) (pc := 40) dX5_init_40 (by decide) ?_
  refine n_put0 (pc := 41) (ci := 5) dX5_init_41 fl_X5_34 rfl rfl hb hk ⟨rfl, rfl⟩ (hz _) ?_
  refine n_aload_n (pc := 44) dX5_init_44 rfl ?_
  refine n_iconst (v := 0) (pc := 45) dX5_init_45 (by decide) ?_
  refine n_put0 (pc := 46) (ci := 5) dX5_init_46 fl_X5_37 rfl rfl hb hk ⟨rfl, rfl⟩ (hz _) ?_
  refine n_aload_n (pc := 49) dX5_init_49 rfl ?_
  refine n_iconst (v := 0) (pc := 50) dX5_init_50 (by decide) ?_
  refine n_put0 (pc := 51) (ci := 5) dX5_init_51 fl_X5_40 rfl rfl hb hk ⟨rfl, rfl⟩ (hz _) ?_
  refine n_aload_n (pc := 54) dX5_init_54 rfl ?_
  refine n_iconst (v := 0) (pc := 55) dX5_init_55 (by decide) ?_
  refine n_put0 (pc := 56) (ci := 5) dX5_init_56 fl_X5_43 rfl rfl hb hk ⟨rfl, rfl⟩ (hz _) ?_
  refine n_aload_n (pc := 59) dX5_init_59 rfl ?_
  refine n_iconst (v := 0) (pc := 60) dX5_init_60 (by decide) ?_
  refine n_put0 (pc := 61) (ci := 5) dX5_init_61 fl_X5_46 rfl rfl hb hk ⟨rfl, rfl⟩ (hz _) ?_
  exact n_ret (pc := 64) rfl rfl dX5_init_64 rfl
