/-! methods that make cells -/
def mQN (D : va_G) (ad : Nat → Nat) (h : HP) (sz : Nat) (P : HP → Prop) : Array Value → State → Outcome → State → Prop := fun _ st o t => (∃ (h' : HP) (ad' : Nat → Nat), o = .returned none ∧ P h' ∧ (∀ a, a < h.1 ∨ mSB ≤ a → ad' a = ad a) ∧ mRep D (mAH ad h sz) t ad' h' t.heap) ∧ va_F (mAH ad h sz) st t
def mRmN (N : MR) (mc ms : Nat) : Room := { frames := N.2.2.2.2.1, cells := mc, slots := ms, locals := N.2.2.2.2.2 }
def mSpN (N : MR) (a : List Value) (h : HP) (mc ms : Nat) (P : HP → Prop) : Prop := ∀ (l : Launch) (D : va_G) (ad : Nat → Nat) (sz : Nat), Met l N.1 (mWs N) (mRmN N mc ms) (va_Pc (a.map (mcv ad)) (mPH D ad h sz)) (mQN D ad h sz P) mc ms (mAH ad h sz)
theorem mSpN_mono {M : MR} {a : List Value} {h : HP} {mc ms : Nat} {P P' : HP → Prop} (k : mSpN M a h mc ms P) (hP : ∀ h', P h' → P' h') : mSpN M a h mc ms P' := by
  intro l D ad sz p e ha hc hk s m args below hf happ hpre hz
  obtain ⟨k2, o, h1, h2, h3, ⟨⟨h', ad', e1, e2, e3⟩, e4⟩, e5⟩ := k l D ad sz p e ha hc hk s m args below hf happ hpre hz
  exact ⟨k2, o, h1, h2, h3, ⟨⟨h', ad', e1, hP h' e2, e3⟩, e4⟩, e5⟩
/-- a method that makes none -/
theorem mSpN_0 {M : MR} {a : List Value} {h : HP} {P : HP → Prop} (k : mSp M a h (fun v h' => v = none ∧ P h')) : mSpN M a h 0 0 P := by
  intro l D ad sz p e ha hc hk s m args below hf happ hpre hz
  obtain ⟨k2, o, h1, h2, h3, ⟨⟨v, h', e1, ⟨rfl, e2⟩, e3⟩, e4⟩, e5⟩ := k l D ad sz p e ha hc hk s m args below hf happ hpre hz
  exact ⟨k2, o, h1, h2, h3, ⟨⟨h', ad, e1, e2, fun _ _ => rfl, e3⟩, e4⟩, e5⟩
