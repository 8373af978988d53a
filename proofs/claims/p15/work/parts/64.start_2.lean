/-- the classes at the start -/
theorem mK_start {s : State} {args : Array Value} (hts : ∀ w ∈ lw_tbl, w.before args s = true) : ∃ D : va_G, va_K D vwCl [] s := by
  have hm : ∀ w ∈ mTb, w.before args s = true := fun w hw => hts w (List.mem_filter.mp hw).1
  have hi : ∀ k, k < 9 → Cond.instantiable (mCn k) (mNF k) ∈ mTb := by
    intro k hk
    rcases (show k = 0 ∨ k = 1 ∨ k = 2 ∨ k = 3 ∨ k = 4 ∨ k = 5 ∨ k = 6 ∨ k = 7 ∨ k = 8 by omega) with rfl | rfl | rfl | rfl | rfl | rfl | rfl | rfl | rfl
    · exact it_0
    · exact it_1
    · exact it_2
    · exact it_3
    · exact it_4
    · exact it_5
    · exact it_6
    · exact it_7
    · exact it_8
  have h0 : ∀ k : Nat, ∃ t : ClassId × (Nat → Nat), k < 9 → u_Kn s (mCn k) (mTt k) (mNF k) t.1 t.2 := by
    intro k
    by_cases hk : k < 9
    · obtain ⟨c, i, h⟩ := u_known (ws := mTb) hm (mIn hk) (hm _ (hi k hk))
      exact ⟨(c, i), fun _ => h⟩
    · exact ⟨(0, fun _ => 0), fun h => absurd h hk⟩
  obtain ⟨f, hf⟩ := Classical.axiomOfChoice h0
  refine ⟨(fun k => (f k).1, fun k => (f k).2), fun k q hq => ?_, fun k q h => by simp at h⟩
  have hk : k < 9 := (List.getElem?_eq_some_iff.mp hq).1
  have := mCl_at hk
  rw [hq] at this
  cases this
  exact hf k hk
/-! the state behind both constructors -/
def x0 : Cn := (fun _ _ => 0, fun _ _ => none)
theorem x0_ok : Okx 0 x0 := ⟨fun _ _ _ => ⟨rfl, rfl⟩, fun _ _ _ h => by cases h⟩
def xS : Cn := moC (clC x0)
theorem xS_i (a k : Nat) : gi xS a k = if a = 717 ∧ k = 12 then -1 else if a = 0 ∧ k = 8 then -1 else if a = 59 ∧ k = 4 then -1 else 0 := rfl
theorem xS_z {a k : Nat} (h : ¬ (a = 717 ∧ k = 12)) (h1 : ¬ (a = 0 ∧ k = 8)) (h2 : ¬ (a = 59 ∧ k = 4)) : gi xS a k = 0 := by rw [xS_i, if_neg h, if_neg h1, if_neg h2]
theorem SRf_of {x : Cn} {q : Nat} (h : (gr x q 5 = some (q + 1) ∧ gr x q 6 = some (q + 2) ∧ gr x q 7 = some (q + 3) ∧ gr x q 8 = some (q + 4) ∧ gr x q 9 = some (q + 5)) ∧ (∀ s, s < 24 → gr x (q + 3) s = some (q + 6 + s) ∧ gr x (q + 4) s = some (q + 30 + s))) : SRf x q := by
  obtain ⟨⟨h5, h6, h7, h8, h9⟩, hs⟩ := h
  refine ⟨h5, h6, h7, h8, h9, fun s hl => ⟨s, hl, (hs s hl).1⟩, fun s t h1 h2 e => ?_, fun s hl => ⟨s, hl, (hs s hl).2⟩, fun s t h1 h2 e => ?_⟩
  · rw [(hs s h1).1, (hs t h2).1] at e
    have := Option.some.inj e
    omega
  · rw [(hs s h1).2, (hs t h2).2] at e
    have := Option.some.inj e
    omega
