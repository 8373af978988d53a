/-! class and reference agree -/
def CRf (x : Cn) : Prop := gr x 0 0 = some 1 ∧ gr x 0 2 = some 2 ∧ gr x 0 3 = some 56 ∧ gr x 0 4 = some 58 ∧ gr x 0 6 = some 59 ∧ gr x 0 9 = some 117 ∧ gr x 0 10 = some 175 ∧ gr x 56 1 = some 57 ∧ gr x 59 0 = some 60 ∧ gr x 59 1 = some 114 ∧ (gr x 59 5 = some 116 ∨ gr x 59 5 = some 1) ∧ gr x 114 1 = some 115 ∧ gr x 117 0 = some 118 ∧ gr x 117 1 = some 172 ∧ gr x 117 2 = some 173 ∧ gr x 117 3 = some 174 ∧ gr x 175 0 = some 176 ∧ SRf x 60 ∧ SRf x 118 ∧ (∀ j, j < 10 → SRf x (177 + 54 * j)) ∧ (∀ i, i < 10 → ∃ j, j < 10 ∧ gr x 58 i = some (177 + 54 * j)) ∧ ∀ i j, i < 10 → j < 10 → gr x 58 i = gr x 58 j → i = j
/-- names of carriers: six letters each, and one number of the row -/
def NMr (x : Cn) (nb : Nat) (T : TT) (C : Nat) : Prop := gi x nb 0 = nI C ∧ ∀ c, c < C → ∃ v, (0 < v ∧ v < 387420489) ∧ T (54 + c) = nI v ∧ ∀ i, i < 6 → gi x (nb + 1) (6 * c + i) = nI (v / 27 ^ (5 - i) % 27)
def HSr (x : Cn) (T : TT) (C : Nat) : Prop := ∃ n, n ≤ 10 ∧ gi x 717 19 = nI n ∧ gi x 0 5 = nI n ∧ ∀ j, j < n → ∃ q W S A N, gr x 58 j = some q ∧ SEA x q (fun i => gi x 724 (518 * j + i)) W C S A N ∧ ∀ c, c < C → gi x 724 (518 * j + (54 + c)) = T (54 + c)
def isB (v : Int32) : Prop := v.toInt8.toInt32 = v
def TPr (x : Cn) : Prop := ∃ n, n ≤ 1200 ∧ gi x 0 1 = nI n ∧ gi x 717 5 = nI n ∧ ∀ i, i < n → gi x 1 i = gi x 720 i ∧ isB (gi x 720 i)
def OUr (x : Cn) : Prop := ∃ n, n ≤ 2400 ∧ gi x 175 1 = nI n ∧ gi x 717 22 = nI n ∧ ∀ i, i < n → gi x 176 i = gi x 725 i
def Rel (x : Cn) : Prop := CRf x ∧ MRf x 718 ∧ (True ∧ True) ∧ TPr x ∧ OUr x ∧ ∃ W C S A N, SEA x 2 (gi x 718) W C S A N ∧ NMr x 56 (gi x 718) C ∧ HSr x (gi x 718) C
/-- cells that only a call's own work uses -/
def scr (a k : Nat) : Prop := a = 7 ∨ (59 ≤ a ∧ a ≤ 174) ∨ (∃ j, j < 10 ∧ a = 177 + 54 * j + 5) ∨ a = 719 ∨ a = 721 ∨ a = 722 ∨ a = 723 ∨ (a = 717 ∧ (k = 6 ∨ k = 7 ∨ k = 8 ∨ k = 9 ∨ k = 10 ∨ k = 13 ∨ k = 14 ∨ k = 18))
def Kp (x y : Cn) : Prop := y.2 = x.2 ∧ ∀ a k, ¬ scr a k → gi y a k = gi x a k
theorem Kp.rf (x : Cn) : Kp x x := ⟨rfl, fun _ _ _ => rfl⟩
theorem Kp.tr {x y z : Cn} (h : Kp x y) (g : Kp y z) : Kp x z := ⟨g.1.trans h.1, fun a k hk => (g.2 a k hk).trans (h.2 a k hk)⟩
theorem Kp.of {x y : Cn} {a : Nat} (h : EQx x y a) (ha : ∀ k, scr a k) : Kp x y := ⟨h.1, fun b k hk => h.2 b k (fun z => hk (by rw [z]; exact ha k))⟩
theorem SEA.keep {x y : Cn} {q : Nat} {T : TT} {W C S A N : Nat} (E : SEA x q T W C S A N) (h1 : y.2 = x.2) (h2 : ∀ a k, q ≤ a → a < q + 54 → a ≠ q + 5 → gi y a k = gi x a k) : SEA y q T W C S A N := by
  obtain ⟨e1, e2, ⟨v0, v1, v2, v3, v4, v5, v6, v7⟩, e4⟩ := E
  have hg : ∀ b k, gr y b k = gr x b k := fun b k => by unfold gr; rw [h1]
  have hr := e2
  obtain ⟨r1, r2, r3, r4, r5, r6, r7, r8, r9⟩ := e2
  refine ⟨e1, ?_, ⟨?_, ?_, ?_, ?_, ?_, ?_, ?_, ?_⟩, e4⟩
  · unfold SRf at hr ⊢
    simp only [hg]
    exact hr
  · rw [h2 q 0 (by omega) (by omega) (by omega)]; exact v0
  · rw [h2 q 1 (by omega) (by omega) (by omega)]; exact v1
  · rw [h2 q 2 (by omega) (by omega) (by omega)]; exact v2
  · rw [h2 q 3 (by omega) (by omega) (by omega)]; exact v3
  · rw [h2 q 4 (by omega) (by omega) (by omega)]; exact v4
  · intro hh h24
    rw [h2 (q + 1) hh (by omega) (by omega) (by omega), h2 (q + 2) hh (by omega) (by omega) (by omega)]
    exact v5 hh h24
  · intro s p hs hp
    rw [hg] at hp
    have h0 := v6 s p hs hp
    obtain ⟨j, hj, ej⟩ := r6 s (by have := e4.2.2.2.2.2.2.1; omega)
    have hpe : p = q + 6 + j := Option.some.inj (hp.symm.trans ej)
    exact ⟨fun k h3 h4 => by rw [h2 p k (by omega) (by omega) (by omega)]; exact h0.1 k h3 h4, by rw [h2 p 7 (by omega) (by omega) (by omega)]; exact h0.2⟩
  · intro s p hs hp
    rw [hg] at hp
    have h0 := v7 s p hs hp
    obtain ⟨j, hj, ej⟩ := r8 s (by have := e4.2.2.2.2.2.2.2.2.1; omega)
    have hpe : p = q + 30 + j := Option.some.inj (hp.symm.trans ej)
    exact fun k h3 => by rw [h2 p k (by omega) (by omega) (by omega)]; exact h0 k h3
theorem SRf.keep {x y : Cn} {q : Nat} (h : SRf x q) (e : y.2 = x.2) : SRf y q := by
  have hg : ∀ b k, gr y b k = gr x b k := fun b k => by unfold gr; rw [e]
  unfold SRf at h ⊢
  simp only [hg]
  exact h
theorem CRf.keep {x y : Cn} (h : CRf x) (e : y.2 = x.2) : CRf y := by
  have hg : ∀ b k, gr y b k = gr x b k := fun b k => by unfold gr; rw [e]
  unfold CRf SRf at h ⊢
  simp only [hg]
  exact h
theorem MRf.keep {x y : Cn} {t : Nat} (h : MRf x t) (e : y.2 = x.2) : MRf y t := by
  have hg : ∀ b k, gr y b k = gr x b k := fun b k => by unfold gr; rw [e]
  unfold MRf at h ⊢
  simp only [hg]
  exact h
theorem nscr {a k : Nat} (h : a < 7 ∨ (8 ≤ a ∧ a < 59) ∨ a = 175 ∨ a = 176 ∨ a = 718 ∨ a = 720 ∨ a = 724 ∨ a = 725 ∨ (a = 717 ∧ (k = 5 ∨ k = 11 ∨ k = 12 ∨ k = 19 ∨ k = 22))) : ¬ scr a k := by
  unfold scr
  rintro (z | z | ⟨j, hj, z⟩ | z | z | z | z | z) <;> omega
theorem Rel.keep {x y : Cn} (R : Rel x) (h : Kp x y) : Rel y := by
  obtain ⟨r1, r2, r3, ⟨n4, r4, r5, r6, r7⟩, ⟨n8, r8, r9, r10, r11⟩, W, C, S, A, N, r12, r13, n14, r14, r15, r16, r17⟩ := R
  have hg : ∀ b k, gr y b k = gr x b k := fun b k => by unfold gr; rw [h.1]
  have eT : gi y 718 = gi x 718 := by funext k; exact h.2 718 k (nscr (by omega))
  refine ⟨r1.keep h.1, r2.keep h.1, ?_, ⟨n4, r4, ?_, ?_, fun i hi => ?_⟩, ⟨n8, r8, ?_, ?_, fun i hi => ?_⟩, W, C, S, A, N, ?_, ⟨?_, fun c hc => ?_⟩, n14, r14, ?_, ?_, fun j hj => ?_⟩
  · exact r3
  · rw [h.2 0 1 (nscr (by omega))]; exact r5
  · rw [h.2 717 5 (nscr (by omega))]; exact r6
  · rw [h.2 1 i (nscr (by omega)), h.2 720 i (nscr (by omega))]; exact r7 i hi
  · rw [h.2 175 1 (nscr (by omega))]; exact r9
  · rw [h.2 717 22 (nscr (by omega))]; exact r10
  · rw [h.2 176 i (nscr (by omega)), h.2 725 i (nscr (by omega))]; exact r11 i hi
  · rw [eT]
    exact r12.keep h.1 (fun a k h1 h2 h3 => h.2 a k (nscr (by omega)))
  · rw [h.2 56 0 (nscr (by omega))]; exact r13.1
  · obtain ⟨v, v1, v2, v3⟩ := r13.2 c hc
    rw [eT]
    exact ⟨v, v1, v2, fun i hi => by rw [h.2 57 _ (nscr (by omega))]; exact v3 i hi⟩
  · rw [h.2 717 19 (nscr (by omega))]; exact r15
  · rw [h.2 0 5 (nscr (by omega))]; exact r16
  · obtain ⟨q, W2, S2, A2, N2, q1, q2, q3⟩ := r17 j hj
    obtain ⟨i, hi, ei⟩ := r1.2.2.2.2.2.2.2.2.2.2.2.2.2.2.2.2.2.2.2.2.1 j (by omega)
    have hq : q = 177 + 54 * i := Option.some.inj (q1.symm.trans ei)
    have eT2 : (fun i => gi y 724 (518 * j + i)) = fun i => gi x 724 (518 * j + i) := by funext k; exact h.2 724 _ (nscr (by omega))
    refine ⟨q, W2, S2, A2, N2, by rw [hg]; exact q1, ?_, fun c hc => ?_⟩
    · rw [eT2]
      refine q2.keep h.1 (fun a k h1 h2 h3 => h.2 a k ?_)
      unfold scr
      rintro (z | z | ⟨j2, hj2, z⟩ | z | z | z | z | z) <;> omega
    · rw [eT, h.2 724 _ (nscr (by omega))]
      exact q3 c hc
/-- what the two must do alike -/
def Both (mx mm : MR) (a : List Value) : Prop := ∀ x, Rel x → mSI mx (.ref 0 :: a) KW x (fun r y => mSI mm (.ref 717 :: a) KW y (fun r' z => r = r' ∧ Rel z))
/-- what both must keep -/
def BothK (mx mm : MR) (a : List Value) : Prop := ∀ x, Rel x → mSI mx (.ref 0 :: a) KW x (fun _ y => mSI mm (.ref 717 :: a) KW y (fun _ z => Rel z))
theorem Both.k {mx mm : MR} {a : List Value} (h : Both mx mm a) : BothK mx mm a := fun x R => mSI_mono (h x R) (fun _ _ q => mSI_mono q (fun _ _ w => w.2))
theorem k0 : kk KW 0 = some (7, 0) := by decide
theorem Rel.sea {x : Cn} (R : Rel x) : ∃ W C S A N, SEA x 2 (gi x 718) W C S A N ∧ NMr x 56 (gi x 718) C ∧ HSr x (gi x 718) C := R.2.2.2.2.2
theorem Rel.t2 {x : Cn} {W C S A N : Nat} (E : SEA x 2 (gi x 718) W C S A N) : gi x 718 0 = nI W ∧ gi x 718 1 = nI C ∧ gi x 718 2 = nI S ∧ gi x 718 3 = nI A ∧ gi x 718 4 = nI N := ⟨E.2.2.2.1, E.2.2.2.2.2.2.1, E.2.2.2.2.2.2.2.2.1, E.2.2.2.2.2.2.2.2.2.2.1, E.2.2.2.2.2.2.2.2.2.2.2.2.1⟩
