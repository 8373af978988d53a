/-! the pictured heap: n cells, the kind of each (number, length), whole numbers and references by cell and place -/
abbrev HP : Type := Nat × (Nat → Nat × Nat) × (Nat → Nat → Int32) × (Nat → Nat → Option Nat)
def kd (h : HP) (a : Nat) : Option (Nat × Nat) := if a < h.1 then some (h.2.1 a) else none
def rI (h : HP) (a k : Nat) : Int32 := h.2.2.1 a k
def rR (h : HP) (a k : Nat) : Option Nat := h.2.2.2 a k
def wI (h : HP) (a k : Nat) (v : Int32) : HP := (h.1, h.2.1, fun b j => if b = a ∧ j = k then v else h.2.2.1 b j, h.2.2.2)
def wR (h : HP) (a k : Nat) (v : Option Nat) : HP := (h.1, h.2.1, h.2.2.1, fun b j => if b = a ∧ j = k then v else h.2.2.2 b j)
theorem kd_wI (h : HP) (a k : Nat) (v : Int32) (b : Nat) : kd (wI h a k v) b = kd h b := rfl
theorem kd_wR (h : HP) (a k : Nat) (v : Option Nat) (b : Nat) : kd (wR h a k v) b = kd h b := rfl
theorem rI_wI (h : HP) (a k : Nat) (v : Int32) (b j : Nat) : rI (wI h a k v) b j = if b = a ∧ j = k then v else rI h b j := rfl
theorem rR_wI (h : HP) (a k : Nat) (v : Int32) (b j : Nat) : rR (wI h a k v) b j = rR h b j := rfl
theorem rI_wR (h : HP) (a k : Nat) (v : Option Nat) (b j : Nat) : rI (wR h a k v) b j = rI h b j := rfl
theorem rR_wR (h : HP) (a k : Nat) (v : Option Nat) (b j : Nat) : rR (wR h a k v) b j = if b = a ∧ j = k then v else rR h b j := rfl
theorem kd_lt {h : HP} {a : Nat} {q : Nat × Nat} (e : kd h a = some q) : a < h.1 ∧ h.2.1 a = q := by
  unfold kd at e
  by_cases hl : a < h.1
  · rw [if_pos hl] at e
    exact ⟨hl, Option.some.inj e⟩
  · rw [if_neg hl] at e
    cases e
/-! kinds: 0 .. 8 the kinds of objects by vwCl, 20 int rows, 21 byte rows, 22 .. 24 rows of references -/
def mNF (ci : Nat) : Nat := match ci with
  | 0 => 7
  | 1 => 2
  | 2 => 5
  | 3 => 18
  | 4 => 10
  | 5 => 12
  | 6 => 2
  | 7 => 11
  | _ => 23
def mTy (ci : Nat) : Nat → FieldType := match ci with
  | 0 => tyX0
  | 1 => tyX1
  | 2 => tyX2
  | 3 => tyX3
  | 4 => tyX4
  | 5 => tyX5
  | 6 => tyX6
  | 7 => tyX7
  | _ => tyX8
def mIs (t : FieldType) : Bool := match t with
  | .object _ => false
  | .array _ => false
  | _ => true
def mAty (k : Nat) : FieldType := match k with
  | 20 => .int
  | 21 => .byte
  | 22 => .object RX4
  | 23 => .object RX5
  | _ => .object RX0
def mfv (ad : Nat → Nat) (h : HP) (ci a k : Nat) : Value := if mIs (mTy ci k) = true then .int (rI h a k) else va_rf ((rR h a k).map ad)
def mEnt (ad : Nat → Nat) (ca : Nat → ClassId) (h : HP) (a : Nat) : va_E :=
  if (h.2.1 a).1 < 9 then .inr ((h.2.1 a).1, (List.range (mNF (h.2.1 a).1)).map (mfv ad h (h.2.1 a).1 a))
  else if (h.2.1 a).1 < 22 then .inl (ca a, (h.2.1 a).2, .inl (rI h a))
  else .inl (ca a, (h.2.1 a).2, .inr (.inr (.inr (.inr (fun k => (rR h a k).map ad)))))
def mWl (ad : Nat → Nat) (ca : Nat → ClassId) (h : HP) : va_W := (List.range h.1).map (fun a => (ad a, mEnt ad ca h a))
theorem mWl_at {ad : Nat → Nat} {ca : Nat → ClassId} {h : HP} {a : Nat} (hl : a < h.1) : (mWl ad ca h)[a]? = some (ad a, mEnt ad ca h a) := by
  simp [mWl, hl]
theorem mWl_len {ad : Nat → Nat} {ca : Nat → ClassId} {h : HP} : (mWl ad ca h).length = h.1 := by simp [mWl]
theorem mWl_of {ad : Nat → Nat} {ca : Nat → ClassId} {h : HP} {k : Nat} {q : Nat × va_E} (hk : (mWl ad ca h)[k]? = some q) : k < h.1 ∧ q = (ad k, mEnt ad ca h k) := by
  have hl : k < h.1 := by
    have := (List.getElem?_eq_some_iff.mp hk).1
    rwa [mWl_len] at this
  exact ⟨hl, Option.some.inj (hk.symm.trans (mWl_at hl))⟩
theorem mEnt_obj {ad : Nat → Nat} {ca : Nat → ClassId} {h : HP} {a ci n : Nat} (e : kd h a = some (ci, n)) (hc : ci < 9) : mEnt ad ca h a = .inr (ci, (List.range (mNF ci)).map (mfv ad h ci a)) := by
  obtain ⟨-, e2⟩ := kd_lt e
  unfold mEnt
  rw [e2, if_pos hc]
theorem mEnt_int {ad : Nat → Nat} {ca : Nat → ClassId} {h : HP} {a ci n : Nat} (e : kd h a = some (ci, n)) (h1 : ¬ ci < 9) (h2 : ci < 22) : mEnt ad ca h a = .inl (ca a, n, .inl (rI h a)) := by
  obtain ⟨-, e2⟩ := kd_lt e
  unfold mEnt
  rw [e2, if_neg h1, if_pos h2]
theorem mEnt_ref {ad : Nat → Nat} {ca : Nat → ClassId} {h : HP} {a ci n : Nat} (e : kd h a = some (ci, n)) (h1 : ¬ ci < 22) : mEnt ad ca h a = .inl (ca a, n, .inr (.inr (.inr (.inr (fun k => (rR h a k).map ad))))) := by
  obtain ⟨-, e2⟩ := kd_lt e
  unfold mEnt
  rw [e2, if_neg (show ¬ ci < 9 by omega), if_neg h1]
theorem mEnt_wI {ad : Nat → Nat} {ca : Nat → ClassId} {h : HP} {a b k : Nat} {v : Int32} (hb : b ≠ a) : mEnt ad ca (wI h a k v) b = mEnt ad ca h b := by
  have e1 : rI (wI h a k v) b = rI h b := by funext j; rw [rI_wI, if_neg (fun q => hb q.1)]
  have e2 : rR (wI h a k v) b = rR h b := rfl
  have e3 : ∀ ci, mfv ad (wI h a k v) ci b = mfv ad h ci b := fun ci => by funext j; unfold mfv; rw [e1, e2]
  unfold mEnt
  rw [e1, e3]
  rfl
theorem mEnt_wR {ad : Nat → Nat} {ca : Nat → ClassId} {h : HP} {a b k : Nat} {v : Option Nat} (hb : b ≠ a) : mEnt ad ca (wR h a k v) b = mEnt ad ca h b := by
  have e1 : rI (wR h a k v) b = rI h b := rfl
  have e2 : rR (wR h a k v) b = rR h b := by funext j; rw [rR_wR, if_neg (fun q => hb q.1)]
  have e3 : ∀ ci, mfv ad (wR h a k v) ci b = mfv ad h ci b := fun ci => by funext j; unfold mfv; rw [e1, e2]
  unfold mEnt
  rw [e2, e3]
  rfl
theorem mWl_set {ad : Nat → Nat} {ca : Nat → ClassId} {h h' : HP} {a : Nat} {e : va_E} (hn : h'.1 = h.1) (hl : a < h.1) (h1 : mEnt ad ca h' a = e) (h2 : ∀ b, b ≠ a → mEnt ad ca h' b = mEnt ad ca h b) : mWl ad ca h' = (mWl ad ca h).set a (ad a, e) := by
  apply List.ext_getElem?
  intro j
  by_cases hj : j = a
  · subst hj
    rw [mWl_at (by rw [hn]; exact hl), h1, List.getElem?_set_self (by rw [mWl_len]; exact hl)]
  · rw [List.getElem?_set_ne (fun q => hj q.symm)]
    by_cases hlj : j < h.1
    · rw [mWl_at (by rw [hn]; exact hlj), mWl_at hlj, h2 j hj]
    · rw [List.getElem?_eq_none (by rw [mWl_len, hn]; omega), List.getElem?_eq_none (by rw [mWl_len]; omega)]
theorem mWl_obj {ad : Nat → Nat} {ca : Nat → ClassId} {h : HP} {a ci n k : Nat} {v : Int32} (e : kd h a = some (ci, n)) (hc : ci < 9) (hk : k < mNF ci) (hi : mIs (mTy ci k) = true) : mWl ad ca (wI h a k v) = (mWl ad ca h).set a (ad a, .inr (ci, ((List.range (mNF ci)).map (mfv ad h ci a)).set k (.int v))) := by
  refine mWl_set rfl (kd_lt e).1 ?_ (fun b hb => mEnt_wI hb)
  rw [mEnt_obj ((kd_wI h a k v a).trans e) hc]
  congr 2
  apply List.ext_getElem?
  intro j
  by_cases hj : j = k
  · subst hj
    rw [List.getElem?_set_self (by simpa using hk)]
    simp [hk, mfv, hi, rI_wI]
  · rw [List.getElem?_set_ne (fun q => hj q.symm)]
    by_cases hlj : j < mNF ci
    · simp [hlj, mfv, rI_wI, rR_wI, hj]
    · simp [hlj]
theorem mWl_objR {ad : Nat → Nat} {ca : Nat → ClassId} {h : HP} {a ci n k : Nat} {v : Option Nat} (e : kd h a = some (ci, n)) (hc : ci < 9) (hk : k < mNF ci) (hi : mIs (mTy ci k) = false) : mWl ad ca (wR h a k v) = (mWl ad ca h).set a (ad a, .inr (ci, ((List.range (mNF ci)).map (mfv ad h ci a)).set k (va_rf (v.map ad)))) := by
  refine mWl_set rfl (kd_lt e).1 ?_ (fun b hb => mEnt_wR hb)
  rw [mEnt_obj ((kd_wR h a k v a).trans e) hc]
  congr 2
  apply List.ext_getElem?
  intro j
  by_cases hj : j = k
  · subst hj
    rw [List.getElem?_set_self (by simpa using hk)]
    simp [hk, mfv, hi, rR_wR]
  · rw [List.getElem?_set_ne (fun q => hj q.symm)]
    by_cases hlj : j < mNF ci
    · simp [hlj, mfv, rI_wR, rR_wR, hj]
    · simp [hlj]
theorem mWl_arr {ad : Nat → Nat} {ca : Nat → ClassId} {h : HP} {a ci n k : Nat} {v : Int32} (e : kd h a = some (ci, n)) (h1 : ¬ ci < 9) (h2 : ci < 22) : mWl ad ca (wI h a k v) = (mWl ad ca h).set a (ad a, .inl (ca a, n, .inl (upd (rI h a) k v))) := by
  refine mWl_set rfl (kd_lt e).1 ?_ (fun b hb => mEnt_wI hb)
  rw [mEnt_int ((kd_wI h a k v a).trans e) h1 h2]
  congr 4
  funext j
  simp [rI_wI, upd]
theorem mWl_arrR {ad : Nat → Nat} {ca : Nat → ClassId} {h : HP} {a ci n k v : Nat} (e : kd h a = some (ci, n)) (h1 : ¬ ci < 22) : mWl ad ca (wR h a k (some v)) = (mWl ad ca h).set a (ad a, .inl (ca a, n, .inr (.inr (.inr (.inr (va_up (fun k => (rR h a k).map ad) k (some (ad v)))))))) := by
  refine mWl_set rfl (kd_lt e).1 ?_ (fun b hb => mEnt_wR hb)
  rw [mEnt_ref ((kd_wR h a k (some v) a).trans e) h1]
  congr 7
  funext j
  by_cases hj : j = k
  · simp [rR_wR, va_up, hj]
  · simp [rR_wR, va_up, hj]
/-! the picture of a machine's heap -/
def mRep (D : va_G) (A : Nat → Prop) (s : State) (ad : Nat → Nat) (h : HP) (H : Heap) : Prop := ∃ ca : Nat → ClassId, va_P D vwCl (mWl ad ca h) H ∧ va_D A (mWl ad ca h) ∧ ∀ a, a < h.1 → 9 ≤ (h.2.1 a).1 → ArrOfT s (ca a) (mAty (h.2.1 a).1) ∧ va_RA s (ca a) (mAty (h.2.1 a).1)
theorem mRep.moved {D : va_G} {A : Nat → Prop} {u U : State} {ad : Nat → Nat} {h : HP} {H : Heap} (hvm : u.vm.Alike U.vm) (r : mRep D A u ad h H) : mRep D A U ad h H := by
  obtain ⟨ca, h1, h2, h3⟩ := r
  exact ⟨ca, h1, h2, fun a q1 q2 => ⟨arrOfT_moved hvm (h3 a q1 q2).1, (h3 a q1 q2).2.moved hvm⟩⟩
theorem mRep.weaken {D : va_G} {A B : Nat → Prop} {s : State} {ad : Nat → Nat} {h : HP} {H : Heap} (r : mRep D A s ad h H) (hAB : ∀ q, A q → B q) : mRep D B s ad h H := by
  obtain ⟨ca, h1, h2, h3⟩ := r
  exact ⟨ca, h1, h2.weaken (fun _ _ _ q => hAB _ q), h3⟩
def mAH (ad : Nat → Nat) (h : HP) (sz : Nat) : Nat → Prop := fun q => (∃ a, a < h.1 ∧ q = ad a) ∨ sz ≤ q
theorem mRep.self {D : va_G} {A : Nat → Prop} {s : State} {ad : Nat → Nat} {h : HP} {H : Heap} (r : mRep D A s ad h H) (sz : Nat) : mRep D (mAH ad h sz) s ad h H := by
  obtain ⟨ca, h1, h2, h3⟩ := r
  refine ⟨ca, h1, ⟨h2.1, fun k q hk => ?_⟩, h3⟩
  obtain ⟨hl, rfl⟩ := mWl_of hk
  exact Or.inl ⟨k, hl, rfl⟩
theorem mRep.free {D : va_G} {A : Nat → Prop} {s : State} {ad : Nat → Nat} {h : HP} {H H0 : Heap} {locs : List Loc} (r : mRep D A s ad h H) (hS : va_S A H0 H locs) (hA : ∀ q, H0.size ≤ q → A q) : ∀ q, mAH ad h H.size q → A q := by
  obtain ⟨ca, h1, h2, h3⟩ := r
  rintro q (⟨a, hl, rfl⟩ | hq)
  · exact h2.2 a _ (mWl_at hl)
  · exact hA q (Nat.le_trans hS.1 hq)
