theorem mSpN_of {M : MR} {a : List Value} {h : HP} {mc ms : Nat} {P : HP → Prop} (hp : plainName M.1.cls = true) (hcat : ∀ v ∈ a, v.category = 1) (hn : a.length ≤ M.2.2.1) (hret : M.2.2.2.1 = none)
    (k : ∀ (B : BT) (ad : Nat → Nat), mCx B (0, 0) ad M FF → B.2.2.2.1.cells = mc → B.2.2.2.1.slots = ms → (∀ (ad' : Nat → Nat) (h' : HP) (pc : Nat) (L : List (Option Value)), P h' → (∀ a, a < h.1 ∨ mSB ≤ a → ad' a = ad a) → decode M.2.1 pc = .ok (.return_, 1) → mG B (mc, ms) ad' M.2.2.1 pc L [] h') → mG B (0, 0) ad M.2.2.1 0 (mEnL a M.2.2.1) [] h) : mSpN M a h mc ms P := by
  intro l D ad sz
  obtain ⟨y, cc, nL, ret, fr, lo⟩ := M
  refine Met.ofW (cc := cc) (maxL := nL) (ret := ret) hp rfl ?_
  intro p e s m args below meth c s₁ B hml hv
  obtain ⟨rfl, hsz, hR, hK, hS⟩ := hv
  have hlocks := B.notSynchronized
  subst hsz
  have hts := atoms_spec (ws := mWs (y, cc, nL, ret, fr, lo)) B.pre
  rw [lg_entry_eq]
  refine k (p, l, e, (headSpec (mWs (y, cc, nL, ret, fr, lo)) (mRmN (y, cc, nL, ret, fr, lo) mc ms)).room, s, m, (a.map (mcv ad)).toArray, below, meth, c, MQ below (mQN D ad h s.heap.size P) (a.map (mcv ad)).toArray s mc ms (mAH ad h s.heap.size), D, mAH ad h s.heap.size) ad
    ⟨B.exec, B.bytes, hml, findClass_of_methodNamed B.named, fun w hw => hts w (List.mem_cons_of_mem _ hw), hK, fun q hq => Or.inr hq, ⟨Nat.le_refl _, Nat.le_refl _, Nat.zero_le _, Nat.zero_le _⟩, hS, (name_of_methodNamed B.named B.method).1, fun _ _ _ _ _ _ z => absurd z (fun z => z)⟩ rfl rfl ?_ s.heap [] _ (hR.self _) va_S.rf (mLoc_entry hcat hn)
  intro ad' h' pc L hP had hd H locs ls hR' hS' hl
  exact W.vret B.exec B.bytes (B.returns.trans hret) (fun t ht hW => ⟨⟨h', ad', rfl, hP, had, by rw [ht]; exact hR'.moved hW.alike⟩, hS'.F ht⟩) hS'.2.2 hd
section MCN
variable {p : Program} {l : Launch} {e : Env} {R : Room} {s : State} {m : MethodId} {args : Array Value} {below : List Frame} {meth : Method} {cd : Code} {H : Heap} {locs : List Loc} {cells slots : Nat} {Q : State → Prop}
end MCN
