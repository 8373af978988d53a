/-! calls -/
/-- what the tables say of a method that is called -/
def mMo (N : MR) (n : Nat) : Prop := Cond.initialized N.1.cls ∈ mTb ∧ Cond.code N.1 N.2.1 N.2.2.1 N.2.2.2.1 ∈ mTb ∧ (N.1.cls ≠ "java/lang/invoke/MethodHandle" ∧ N.1.cls ≠ "java/lang/invoke/VarHandle") ∧ (parseMethodDescriptor N.1.desc).map (fun d => d.parameters.length) = some n
def mRm (N : MR) : Room := { frames := N.2.2.2.2.1, cells := 0, slots := 0, locals := N.2.2.2.2.2 }
theorem mBlind {D : va_G} {ad : Nat → Nat} {h : HP} {sz : Nat} {av : List Value} : FrameBlind (va_Pc av (mPH D ad h sz)) := by
  intro a U g mk q
  obtain ⟨q0, q1, q2, q3, q4⟩ := q
  exact ⟨q0, q1, q2.moved (u := U) (U := U.calling g mk a) (Vm.Alike.refl U.vm), va_K.moved (u := U) (U := U.calling g mk a) (Vm.Alike.refl U.vm) q3, q4.same (u := U) (U := U.calling g mk a) rfl rfl⟩
theorem mGoodWs {N : MR} (hc : Cond.code N.1 N.2.1 N.2.2.1 N.2.2.2.1 ∈ mTb) : GoodIn mTb (mWs N) := mTb_good (fun w hw => by
  rcases List.mem_cons.mp hw with q | q
  · rw [q]
    exact hc
  · exact q)
section MCA
variable {p : Program} {l : Launch} {e : Env} {R : Room} {s : State} {m : MethodId} {args : Array Value} {below : List Frame} {meth : Method} {cd : Code} {H : Heap} {locs : List Loc} {cells slots : Nat} {Q : State → Prop}
theorem mCont {D : va_G} {A : Nat → Prop} {ad : Nat → Nat} {h : HP} {P' : MP} {av : Array Value} {pc : Nat} {ls : Array Slot} {st0 rest : List Value} (hr : va_Run p l e R s m args below meth cd H locs cells slots 0 0 (F0 m pc ls st0) rest (mQH D ad h H.size P' av) (mAH ad h H.size)) (hS : va_S A s.heap H locs) (hA : ∀ q, mAH ad h H.size q → A q)
    (kk : ∀ (v : Option Value) (h' : HP) (H1 : Heap) (locs1 : List Loc), P' v h' → mRep D A s ad h' H1 → va_S A s.heap H1 locs1 → W p l e R s m args below meth cd H1 locs1 cells slots Q (F0 m (pc + 3) ls ((v.map (mcv ad)).toList ++ rest))) : W p l e R s m args below meth cd H locs cells slots Q (F0 m pc ls st0) := by
  intro T hT X
  obtain ⟨v, st₀, t, T', L, h0, X', hL, e1, e2, ⟨⟨w, h', hv, hp, hb⟩, hz, hk⟩, st⟩ := hr T hT X
  cases hv
  rw [h0] at hz hk
  have hal : s.vm.Alike t.vm := by rw [← e2]; exact X'.warmed.alike
  obtain ⟨t2, a1, b1⟩ := kk w h' T'.heap (locs ++ L) hp (by rw [e1]; exact (hb.moved hal.symm).weaken hA)
    ⟨Nat.le_trans hS.1 (by rw [e1]; exact hz), fun q h1 h2 => by rw [e1, hk q (Nat.lt_of_lt_of_le h1 hS.1) (fun z => h2 (hA q z))]; exact hS.2.1 q h1 h2, fun q hq => by
      rcases List.mem_append.mp hq with h | h
      · exact hS.2.2 q h
      · exact hA _ (hL q h)⟩ T' rfl X'
  exact ⟨t2, st t2 a1, b1⟩
end MCA
