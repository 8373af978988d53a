/-! 66.lex1.lean.txt -/
section
/-! reading a TEXT: tokens, as both sides see them (b: the tape's bytes, n of them) -/
theorem k59 : kk KW 59 = some (3, 0) := by decide
theorem k720 : kk KW 720 = some (21, 1200) := by decide
theorem isB_ex {v : Int32} (h : isB v) : ∃ k, k < 256 ∧ v = (Int8.ofNat k).toInt32 := by
  refine ⟨v.toInt8.toBitVec.toNat, v.toInt8.toBitVec.isLt, ?_⟩
  have e : Int8.ofNat v.toInt8.toBitVec.toNat = v.toInt8 := by
    apply Int8.toBitVec_inj.mp
    show BitVec.ofNat 8 v.toInt8.toBitVec.toNat = v.toInt8.toBitVec
    rw [BitVec.ofNat_toNat, BitVec.setWidth_eq]
  rw [e]
  exact h.symm
def FB (v : Int32) : Prop := (v &&& 255 = 32 ↔ v = 32) ∧ (v &&& 255 = 10 ↔ v = 10) ∧ ((97 ≤ v &&& 255 ∧ v &&& 255 ≤ 122) ↔ (97 ≤ v ∧ v ≤ 122)) ∧ ((48 ≤ v &&& 255 ∧ v &&& 255 ≤ 57) ↔ (48 ≤ v ∧ v ≤ 57)) ∧ (v &&& 255 = 59 ↔ v = 59) ∧ (v &&& 255 = 45 ↔ v = 45) ∧ ¬ v &&& 255 = -1 ∧ ((48 ≤ v ∧ v ≤ 57) → v &&& 255 = v ∧ v = nI (48 + (v.toNatClampNeg - 48)) ∧ v.toNatClampNeg - 48 < 10) ∧ ((97 ≤ v ∧ v ≤ 122) → 97 ≤ v.toNatClampNeg ∧ v.toNatClampNeg ≤ 122 ∧ v = nI v.toNatClampNeg)
theorem FB_0 : ∀ k, k < 256 → ((Int8.ofNat k).toInt32 &&& 255 = 32 ↔ (Int8.ofNat k).toInt32 = 32) := by decide +kernel
theorem FB_1 : ∀ k, k < 256 → ((Int8.ofNat k).toInt32 &&& 255 = 10 ↔ (Int8.ofNat k).toInt32 = 10) := by decide +kernel
theorem FB_2 : ∀ k, k < 256 → ((97 ≤ (Int8.ofNat k).toInt32 &&& 255 ∧ (Int8.ofNat k).toInt32 &&& 255 ≤ 122) ↔ (97 ≤ (Int8.ofNat k).toInt32 ∧ (Int8.ofNat k).toInt32 ≤ 122)) := by decide +kernel
theorem FB_3 : ∀ k, k < 256 → ((48 ≤ (Int8.ofNat k).toInt32 &&& 255 ∧ (Int8.ofNat k).toInt32 &&& 255 ≤ 57) ↔ (48 ≤ (Int8.ofNat k).toInt32 ∧ (Int8.ofNat k).toInt32 ≤ 57)) := by decide +kernel
theorem FB_4 : ∀ k, k < 256 → ((Int8.ofNat k).toInt32 &&& 255 = 59 ↔ (Int8.ofNat k).toInt32 = 59) := by decide +kernel
theorem FB_5 : ∀ k, k < 256 → ((Int8.ofNat k).toInt32 &&& 255 = 45 ↔ (Int8.ofNat k).toInt32 = 45) := by decide +kernel
theorem FB_6 : ∀ k, k < 256 → (¬ (Int8.ofNat k).toInt32 &&& 255 = -1) := by decide +kernel
theorem FB_7 : ∀ k, k < 256 → ((48 ≤ (Int8.ofNat k).toInt32 ∧ (Int8.ofNat k).toInt32 ≤ 57) → (Int8.ofNat k).toInt32 &&& 255 = (Int8.ofNat k).toInt32 ∧ (Int8.ofNat k).toInt32 = nI (48 + ((Int8.ofNat k).toInt32.toNatClampNeg - 48)) ∧ (Int8.ofNat k).toInt32.toNatClampNeg - 48 < 10) := by decide +kernel
theorem FB_8 : ∀ k, k < 256 → ((97 ≤ (Int8.ofNat k).toInt32 ∧ (Int8.ofNat k).toInt32 ≤ 122) → 97 ≤ (Int8.ofNat k).toInt32.toNatClampNeg ∧ (Int8.ofNat k).toInt32.toNatClampNeg ≤ 122 ∧ (Int8.ofNat k).toInt32 = nI (Int8.ofNat k).toInt32.toNatClampNeg) := by decide +kernel
theorem FB_of {v : Int32} (h : isB v) : FB v := by
  obtain ⟨k, hk, rfl⟩ := isB_ex h
  exact ⟨FB_0 k hk, FB_1 k hk, FB_2 k hk, FB_3 k hk, FB_4 k hk, FB_5 k hk, FB_6 k hk, FB_7 k hk, FB_8 k hk⟩
def skB (b : TT) : Nat → Nat → Nat
  | 0, p => p
  | d + 1, p => if b p = 32 ∨ b p = 10 then skB b d (p + 1) else p
def scL (b : TT) : Nat → Nat → Nat
  | 0, p => p
  | d + 1, p => if 97 ≤ b p ∧ b p ≤ 122 then scL b d (p + 1) else p
def scD (b : TT) : Nat → Nat → Nat
  | 0, p => p
  | d + 1, p => if 48 ≤ b p ∧ b p ≤ 57 then scD b d (p + 1) else p
def nvD (b : TT) : Nat → Nat → Nat → Nat
  | 0, _, V => V
  | d + 1, p, V => if 48 ≤ b p ∧ b p ≤ 57 then nvD b d (p + 1) (10 * V + ((b p).toNatClampNeg - 48)) else V
theorem skB_b (b : TT) : ∀ d p, p ≤ skB b d p ∧ skB b d p ≤ p + d := by
  intro d
  induction d with
  | zero => intro p; exact ⟨Nat.le_refl _, Nat.le_refl _⟩
  | succ d ih =>
    intro p
    unfold skB
    by_cases h : b p = 32 ∨ b p = 10
    · rw [if_pos h]
      have := ih (p + 1)
      omega
    · rw [if_neg h]
      omega
theorem scL_b (b : TT) : ∀ d p, p ≤ scL b d p ∧ scL b d p ≤ p + d := by
  intro d
  induction d with
  | zero => intro p; exact ⟨Nat.le_refl _, Nat.le_refl _⟩
  | succ d ih =>
    intro p
    unfold scL
    by_cases h : 97 ≤ b p ∧ b p ≤ 122
    · rw [if_pos h]
      have := ih (p + 1)
      omega
    · rw [if_neg h]
      omega
theorem scL_l (b : TT) : ∀ d p i, p ≤ i → i < scL b d p → 97 ≤ b i ∧ b i ≤ 122 := by
  intro d
  induction d with
  | zero =>
    intro p i h1 h2
    unfold scL at h2
    omega
  | succ d ih =>
    intro p i h1 h2
    unfold scL at h2
    by_cases h : 97 ≤ b p ∧ b p ≤ 122
    · rw [if_pos h] at h2
      by_cases e : i = p
      · rw [e]; exact h
      · exact ih (p + 1) i (by omega) h2
    · rw [if_neg h] at h2
      omega
theorem scD_b (b : TT) : ∀ d p, p ≤ scD b d p ∧ scD b d p ≤ p + d := by
  intro d
  induction d with
  | zero => intro p; exact ⟨Nat.le_refl _, Nat.le_refl _⟩
  | succ d ih =>
    intro p
    unfold scD
    by_cases h : 48 ≤ b p ∧ b p ≤ 57
    · rw [if_pos h]
      have := ih (p + 1)
      omega
    · rw [if_neg h]
      omega
/-- a token: from, kind, to, number -/
def tS (b : TT) (n p : Nat) : Nat := skB b (n - p) p
def tK (b : TT) (n p : Nat) : Nat := if n ≤ tS b n p then 0 else if 97 ≤ b (tS b n p) ∧ b (tS b n p) ≤ 122 then 1 else if 48 ≤ b (tS b n p) ∧ b (tS b n p) ≤ 57 then 2 else 3
def tE (b : TT) (n p : Nat) : Nat := if tK b n p = 0 then tS b n p else if tK b n p = 1 then scL b (n - tS b n p) (tS b n p) else if tK b n p = 2 then scD b (n - tS b n p) (tS b n p) else tS b n p + 1
def tV (b : TT) (n p : Nat) : Nat := nvD b (n - tS b n p) (tS b n p) 0
theorem tS_b {b : TT} {n p : Nat} (h : p ≤ n) : p ≤ tS b n p ∧ tS b n p ≤ n := by
  have := skB_b b (n - p) p
  unfold tS
  omega
theorem tK_4 (b : TT) (n p : Nat) : tK b n p < 4 := by
  unfold tK
  (repeat' split) <;> omega
theorem tK_0 {b : TT} {n p : Nat} (h : p ≤ n) : tK b n p = 0 ↔ tS b n p = n := by
  have := tS_b (b := b) h
  unfold tK
  by_cases c : n ≤ tS b n p
  · rw [if_pos c]; omega
  · rw [if_neg c]
    constructor
    · intro z
      exfalso
      revert z
      (repeat' split) <;> omega
    · intro z; omega
theorem tE_b {b : TT} {n p : Nat} (h : p ≤ n) : tS b n p ≤ tE b n p ∧ tE b n p ≤ n ∧ (¬ tK b n p = 0 → tS b n p < tE b n p) := by
  have hs := tS_b (b := b) h
  have h1 := scL_b b (n - tS b n p) (tS b n p)
  have h2 := scD_b b (n - tS b n p) (tS b n p)
  have hk := tK_0 (b := b) h
  unfold tE
  by_cases c0 : tK b n p = 0
  · rw [if_pos c0]; omega
  · rw [if_neg c0]
    have hlt : tS b n p < n := by omega
    have hd : n - tS b n p = (n - tS b n p - 1) + 1 := by omega
    by_cases c1 : tK b n p = 1
    · rw [if_pos c1]
      have hl : 97 ≤ b (tS b n p) ∧ b (tS b n p) ≤ 122 := by
        unfold tK at c1
        rw [if_neg (by omega)] at c1
        by_cases z : 97 ≤ b (tS b n p) ∧ b (tS b n p) ≤ 122
        · exact z
        · rw [if_neg z] at c1
          exfalso
          revert c1
          (repeat' split) <;> omega
      refine ⟨h1.1, by omega, fun _ => ?_⟩
      rw [hd]
      unfold scL
      rw [if_pos hl]
      have := scL_b b (n - tS b n p - 1) (tS b n p + 1)
      omega
    · rw [if_neg c1]
      by_cases c2 : tK b n p = 2
      · rw [if_pos c2]
        have hl : 48 ≤ b (tS b n p) ∧ b (tS b n p) ≤ 57 := by
          unfold tK at c2
          rw [if_neg (by omega)] at c2
          by_cases z1 : 97 ≤ b (tS b n p) ∧ b (tS b n p) ≤ 122
          · rw [if_pos z1] at c2; omega
          · rw [if_neg z1] at c2
            by_cases z : 48 ≤ b (tS b n p) ∧ b (tS b n p) ≤ 57
            · exact z
            · rw [if_neg z] at c2; omega
        refine ⟨h2.1, by omega, fun _ => ?_⟩
        rw [hd]
        unfold scD
        rw [if_pos hl]
        have := scD_b b (n - tS b n p - 1) (tS b n p + 1)
        omega
      · rw [if_neg c2]; omega
/-! words -/
def mtb (b : TT) (e : Nat) : List Int32 → Nat → Bool
  | [], a => decide (a = e)
  | c :: l, a => (decide (a < e) && decide (b a = c)) && mtb b e l (a + 1)
theorem mtb_eq {b : TT} {e : Nat} : ∀ (l m : List Int32) (a : Nat), mtb b e l a = true → mtb b e m a = true → l = m := by
  intro l
  induction l with
  | nil =>
    intro m a h1 h2
    cases m with
    | nil => rfl
    | cons c m =>
      simp only [mtb, Bool.and_eq_true, decide_eq_true_eq] at h1 h2
      omega
  | cons c l ih =>
    intro m a h1 h2
    cases m with
    | nil =>
      simp only [mtb, Bool.and_eq_true, decide_eq_true_eq] at h1 h2
      omega
    | cons c' m =>
      simp only [mtb, Bool.and_eq_true, decide_eq_true_eq] at h1 h2
      rw [ih m (a + 1) h1.2 h2.2, ← h1.1.2, ← h2.1.2]
def wtl (b : TT) (s e : Nat) : List Int32 → Nat → Nat → Bool → Int32
  | [], _, _, _ => -1
  | c :: l, w, a, al => if c = 32 then (if al = true ∧ a = e then nI w else wtl b s e l (w + 1) s true) else wtl b s e l w (a + 1) (al && (decide (a < e) && decide (b a = c)))
def wix (b : TT) (s e : Nat) : List (List Int32) → Nat → Int32
  | [], _ => -1
  | w :: ws, k => if mtb b e w s = true then nI k else wix b s e ws (k + 1)
theorem wtl_w {b : TT} {s e : Nat} (l : List Int32) (k : Nat) : ∀ (w : List Int32) (a : Nat) (al : Bool), (∀ c ∈ w, ¬ c = 32) → wtl b s e (w ++ 32 :: l) k a al = if (al && mtb b e w a) = true then nI k else wtl b s e l (k + 1) s true := by
  intro w
  induction w with
  | nil =>
    intro a al _
    show (if (32 : Int32) = 32 then (if al = true ∧ a = e then nI k else wtl b s e l (k + 1) s true) else _) = _
    rw [if_pos rfl]
    simp only [mtb, Bool.and_eq_true, decide_eq_true_eq]
  | cons c w ih =>
    intro a al h
    show (if c = 32 then _ else wtl b s e (w ++ 32 :: l) k (a + 1) (al && (decide (a < e) && decide (b a = c)))) = _
    rw [if_neg (h c List.mem_cons_self), ih (a + 1) _ (fun d hd => h d (List.mem_cons_of_mem _ hd))]
    simp only [mtb, Bool.and_assoc]
def WL : List (List Int32) := [[109, 111, 110], [116, 117, 101], [119, 101, 100], [116, 104, 117], [102, 114, 105], [115, 97, 116], [115, 117, 110], [119, 101, 101, 107, 115], [108, 105, 109, 105, 116], [99, 97, 114, 114, 105, 101, 114], [115, 101, 114, 105, 101, 115], [97, 115, 107], [105, 110], [111, 117, 116], [110, 101, 119], [98, 121]]
def jnW : List (List Int32) → List Int32
  | [] => []
  | w :: ws => w ++ 32 :: jnW ws
theorem wtl_ws {b : TT} {s e : Nat} : ∀ (ws : List (List Int32)) (k : Nat), (∀ w ∈ ws, ∀ c ∈ w, ¬ c = 32) → wtl b s e (jnW ws) k s true = wix b s e ws k := by
  intro ws
  induction ws with
  | nil => intro k _; rfl
  | cons w ws ih =>
    intro k h
    unfold jnW wix
    rw [wtl_w _ _ w s true (h w List.mem_cons_self), ih (k + 1) (fun v hv => h v (List.mem_cons_of_mem _ hv)), Bool.true_and]
theorem WL_j : (mSq 0).2.2.2 = jnW WL := by decide +kernel
theorem WL_n : ∀ w ∈ WL, ∀ c ∈ w, ¬ c = 32 := by decide
theorem WL_len : WL.length = 16 := rfl
/-- a word's number -/
def wno (b : TT) (s e : Nat) : Int32 := wix b s e WL 0
theorem wix_hit {b : TT} {s e : Nat} : ∀ (ws : List (List Int32)) (k i : Nat), ws.Pairwise (fun a c => ¬ a = c) → (h : i < ws.length) → mtb b e (ws[i]) s = true → wix b s e ws k = nI (k + i) := by
  intro ws
  induction ws with
  | nil => intro k i _ h; exact absurd h (Nat.not_lt_zero i)
  | cons w ws ih =>
    intro k i hp h hm
    unfold wix
    cases i with
    | zero => rw [if_pos (show mtb b e w s = true from hm)]; rfl
    | succ i =>
      have hw : ¬ mtb b e w s = true := by
        intro z
        have := mtb_eq _ _ _ z hm
        have hp' := (List.pairwise_cons.mp hp).1 (ws[i]'(by simpa using h)) (List.getElem_mem _)
        exact hp' this
      rw [if_neg hw, ih (k + 1) i (List.pairwise_cons.mp hp).2 (by simpa using h) hm]
      congr 1
      omega
theorem wix_miss {b : TT} {s e : Nat} : ∀ (ws : List (List Int32)) (k : Nat), (∀ i, (h : i < ws.length) → ¬ mtb b e (ws[i]) s = true) → wix b s e ws k = -1 := by
  intro ws
  induction ws with
  | nil => intro k _; rfl
  | cons w ws ih =>
    intro k h
    unfold wix
    rw [if_neg (show ¬ mtb b e w s = true from h 0 (Nat.succ_pos _))]
    exact ih (k + 1) (fun i hi => h (i + 1) (by simpa using hi))
theorem WL_p : WL.Pairwise (fun a c => ¬ a = c) := by decide
theorem wno_i {b : TT} {s e i : Nat} (hi : i < 16) : wno b s e = nI i ↔ mtb b e (WL.getD i []) s = true := by
  have e1 : ∀ j, (h : j < 16) → WL.getD j [] = WL[j]'h := fun j h => by rw [List.getD_eq_getElem?_getD, List.getElem?_eq_getElem (show j < WL.length from h)]; rfl
  constructor
  · intro h
    by_cases c : ∃ j, ∃ h : j < 16, mtb b e (WL[j]'h) s = true
    · obtain ⟨j, hj, hm⟩ := c
      have := wix_hit (b := b) (s := s) (e := e) WL 0 j WL_p hj hm
      unfold wno at h
      rw [this, Nat.zero_add] at h
      have : j = i := (nI_eq (by omega) (by omega)).mp h
      subst this
      rw [e1 j hj]; exact hm
    · have := wix_miss (b := b) (s := s) (e := e) WL 0 (fun j hj hm => c ⟨j, hj, hm⟩)
      unfold wno at h
      rw [this] at h
      exact absurd h (fun z => absurd (show (-1 : Int32) < 0 by decide) (by rw [z]; exact nI_pos (by omega)))
  · intro h
    rw [e1 i hi] at h
    have := wix_hit (b := b) (s := s) (e := e) WL 0 i WL_p hi h
    rw [Nat.zero_add] at this
    exact this
theorem wno_c (b : TT) (s e : Nat) : wno b s e = -1 ∨ ∃ i, i < 16 ∧ wno b s e = nI i := by
  by_cases c : ∃ j, ∃ h : j < 16, mtb b e (WL[j]'h) s = true
  · obtain ⟨j, hj, hm⟩ := c
    have := wix_hit (b := b) (s := s) (e := e) WL 0 j WL_p hj hm
    rw [Nat.zero_add] at this
    exact Or.inr ⟨j, hj, this⟩
  · exact Or.inl (wix_miss WL 0 (fun j hj hm => c ⟨j, hj, hm⟩))
set_option maxHeartbeats 2000000 in
theorem v_X3_wordTold_0 {K : Sh} {x : Cn} {Q : Int32 → Cn → Prop} {b0 : Nat}  (k_b0 : kk K b0 = some (3, 0)) (K0 : GI mX3_wordTold 12 [some (.ref b0), some (.int 0), some (.int (gi x b0 7)), some (.int 1), some (.int 0), none] [] K x Q) : mSI mX3_wordTold [.ref b0] K x Q := by
  refine s_I (by decide) (by simp [Value.category]) (Nat.le_of_ble_eq_true rfl) ?_
  show mGM mX3_wordTold 0 [some (.ref b0), none, none, none, none, none] [] (hp K x) (PI K Q)
  refine r_iconst (pc := 0) (v := 0) dX3_wordTold_0 (by decide) ?_
  refine r_istore_n (pc := 1) dX3_wordTold_1 (by decide) ?_
  refine r_aload_n (pc := 2) (L := [some (.ref b0), some (.int 0), none, none, none, none]) dX3_wordTold_2 rfl ?_
  refine s_getI (pc := 3) dX3_wordTold_3 fl_X3_42 rfl k_b0 ?_
  refine r_istore_n (pc := 6) dX3_wordTold_6 (by decide) ?_
  refine r_iconst (pc := 7) (L := [some (.ref b0), some (.int 0), some (.int (gi x b0 7)), none, none, none]) (v := 1) dX3_wordTold_7 (by decide) ?_
  refine r_istore_n (pc := 8) dX3_wordTold_8 (by decide) ?_
  refine r_iconst (pc := 9) (L := [some (.ref b0), some (.int 0), some (.int (gi x b0 7)), some (.int 1), none, none]) (v := 0) dX3_wordTold_9 (by decide) ?_
  refine r_istore (pc := 10) dX3_wordTold_10 (by decide) ?_
  exact r_le (L' := [some (.ref b0), some (.int 0), some (.int (gi x b0 7)), some (.int 1), some (.int 0), none]) ⟨rfl, ⟨rfl, ⟨rfl, ⟨rfl, ⟨rfl, trivial⟩⟩⟩⟩⟩ K0
set_option maxHeartbeats 2000000 in
theorem v_X3_wordTold_12 {K : Sh} {x : Cn} {Q : Int32 → Cn → Prop} {b0 : Nat} {l1 : Int32} {l2 : Int32} {l3 : Int32} {l4 : Int32} {b0_5 : Nat} {n_b0_5 : Nat} (k_b0 : kk K b0 = some (3, 0)) (g_b0_5 : gr x b0 5 = some b0_5) (k_b0_5 : kk K b0_5 = some (21, n_b0_5)) (K0 : ((nI (mSq 0).2.2.2.length) ≤ l4 → (Q (-1) x)) ∧ (¬ (nI (mSq 0).2.2.2.length) ≤ l4 → (∃ n_2 : Nat, l4 = nI n_2 ∧ (n_2 < (mSq 0).2.2.2.length ∧ ((¬ ((mSq 0).2.2.2.getD n_2 0) = 32 → ((l3 = 0 → (GI mX3_wordTold 12 [some (.ref b0), some (.int l1), some (.int (l2 + 1)), some (.int 0), some (.int (l4 + 1)), none] [] K x Q)) ∧ (¬ l3 = 0 → (((gi x b0 8) ≤ l2 → (GI mX3_wordTold 12 [some (.ref b0), some (.int l1), some (.int (l2 + 1)), some (.int 0), some (.int (l4 + 1)), none] [] K x Q)) ∧ (¬ (gi x b0 8) ≤ l2 → (vp_in l2 n_b0_5 ∧ ((¬ (gi x b0_5 (l2 : Int32).toNatClampNeg) = ((mSq 0).2.2.2.getD n_2 0) → (GI mX3_wordTold 12 [some (.ref b0), some (.int l1), some (.int (l2 + 1)), some (.int 0), some (.int (l4 + 1)), none] [] K x Q)) ∧ ((gi x b0_5 (l2 : Int32).toNatClampNeg) = ((mSq 0).2.2.2.getD n_2 0) → (GI mX3_wordTold 12 [some (.ref b0), some (.int l1), some (.int (l2 + 1)), some (.int 1), some (.int (l4 + 1)), none] [] K x Q))))))))) ∧ (((mSq 0).2.2.2.getD n_2 0) = 32 → ((l3 = 0 → (GI mX3_wordTold 12 [some (.ref b0), some (.int (l1 + 1)), some (.int (gi x b0 7)), some (.int 1), some (.int (l4 + 1)), none] [] K x Q)) ∧ (¬ l3 = 0 → ((¬ l2 = (gi x b0 8) → (GI mX3_wordTold 12 [some (.ref b0), some (.int (l1 + 1)), some (.int (gi x b0 7)), some (.int 1), some (.int (l4 + 1)), none] [] K x Q)) ∧ (l2 = (gi x b0 8) → (Q l1 x))))))))))) : GI mX3_wordTold 12 [some (.ref b0), some (.int l1), some (.int l2), some (.int l3), some (.int l4), none] [] K x Q := by
  show mGM mX3_wordTold 12 [some (.ref b0), some (.int l1), some (.int l2), some (.int l3), some (.int l4), none] [] (hp K x) (PI K Q)
  refine r_iload (pc := 12) dX3_wordTold_12 rfl ?_
  refine r_ldcS (pc := 14) (j := 0) dX3_wordTold_14 rfl ?_
  refine s_VIs (pc := 16) mJ0_length_8abf5 (j := 0) (q := (mSq 0)) (As := []) dX3_wordTold_16 lk_X3_217 in_J0_length_8abf5 mo_J0_length_8abf5 (mSq_at (k := 0) (by decide)) rfl ⟨by decide, by decide⟩ (Nat.le_of_ble_eq_true rfl) (sp_len (mSq_at (k := 0) (by decide)) ?_)
  refine r_icmp_ge (pc := 19) (tgt := 103) dX3_wordTold_19 (by decide) (fun q => ?_) (fun q => ?_)
  · have K0 := K0.1 q
    refine r_iconst (pc := 103) (v := (-1)) dX3_wordTold_103 (by decide) ?_
    exact s_iret rfl dX3_wordTold_104 K0
  · have K0 := K0.2 q
    refine r_ldcS (pc := 22) (j := 0) dX3_wordTold_22 rfl ?_
    refine r_iload (pc := 24) dX3_wordTold_24 rfl ?_
    obtain ⟨n_2, en_2, un_2, K0⟩ := K0
    refine s_VIs (pc := 26) mJ0_charAt_5068e (j := 0) (q := (mSq 0)) (As := [.int l4]) dX3_wordTold_26 lk_X3_221 in_J0_charAt_5068e mo_J0_charAt_5068e (mSq_at (k := 0) (by decide)) rfl ⟨by decide, by decide⟩ (Nat.le_of_ble_eq_true rfl) (sp_chv (mSq_at (k := 0) (by decide)) en_2 un_2 ?_)
    refine r_istore (pc := 29) dX3_wordTold_29 (by decide) ?_
    refine r_iload (pc := 31) (L := [some (.ref b0), some (.int l1), some (.int l2), some (.int l3), some (.int l4), some (.int ((mSq 0).2.2.2.getD n_2 0))]) dX3_wordTold_31 rfl ?_
    refine r_bipush (pc := 33) (v := 32) dX3_wordTold_33 (by decide) ?_
    refine r_icmp_ne (pc := 35) (tgt := 65) dX3_wordTold_35 (by decide) (fun q => ?_) (fun q => ?_)
    · have K0 := K0.1 q
      refine r_iload_n (pc := 65) dX3_wordTold_65 rfl ?_
      refine r_if_eq (pc := 66) (tgt := 92) dX3_wordTold_66 (by decide) (fun q => ?_) (fun q => ?_)
      · have K0 := K0.1 q
        refine r_iconst (pc := 92) (v := 0) dX3_wordTold_92 (by decide) ?_
        refine r_istore_n (pc := 93) dX3_wordTold_93 (by decide) ?_
        refine r_iinc (pc := 94) (L := [some (.ref b0), some (.int l1), some (.int l2), some (.int 0), some (.int l4), some (.int ((mSq 0).2.2.2.getD n_2 0))]) (v := l2 + 1) dX3_wordTold_94 rfl rfl (by decide) ?_
        refine r_iinc (pc := 97) (L := [some (.ref b0), some (.int l1), some (.int (l2 + 1)), some (.int 0), some (.int l4), some (.int ((mSq 0).2.2.2.getD n_2 0))]) (v := l4 + 1) dX3_wordTold_97 rfl rfl (by decide) ?_
        refine r_goto (pc := 100) (L := [some (.ref b0), some (.int l1), some (.int (l2 + 1)), some (.int 0), some (.int (l4 + 1)), some (.int ((mSq 0).2.2.2.getD n_2 0))]) (tgt := 12) dX3_wordTold_100 (by decide) ?_
        exact r_le (L' := [some (.ref b0), some (.int l1), some (.int (l2 + 1)), some (.int 0), some (.int (l4 + 1)), none]) ⟨rfl, ⟨rfl, ⟨rfl, ⟨rfl, ⟨rfl, trivial⟩⟩⟩⟩⟩ K0
      · have K0 := K0.2 q
        refine r_iload_n (pc := 69) dX3_wordTold_69 rfl ?_
        refine r_aload_n (pc := 70) dX3_wordTold_70 rfl ?_
        refine s_getI (pc := 71) dX3_wordTold_71 fl_X3_45 rfl k_b0 ?_
        refine r_icmp_ge (pc := 74) (tgt := 92) dX3_wordTold_74 (by decide) (fun q => ?_) (fun q => ?_)
        · have K0 := K0.1 q
          refine r_iconst (pc := 92) (v := 0) dX3_wordTold_92 (by decide) ?_
          refine r_istore_n (pc := 93) dX3_wordTold_93 (by decide) ?_
          refine r_iinc (pc := 94) (L := [some (.ref b0), some (.int l1), some (.int l2), some (.int 0), some (.int l4), some (.int ((mSq 0).2.2.2.getD n_2 0))]) (v := l2 + 1) dX3_wordTold_94 rfl rfl (by decide) ?_
          refine r_iinc (pc := 97) (L := [some (.ref b0), some (.int l1), some (.int (l2 + 1)), some (.int 0), some (.int l4), some (.int ((mSq 0).2.2.2.getD n_2 0))]) (v := l4 + 1) dX3_wordTold_97 rfl rfl (by decide) ?_
          refine r_goto (pc := 100) (L := [some (.ref b0), some (.int l1), some (.int (l2 + 1)), some (.int 0), some (.int (l4 + 1)), some (.int ((mSq 0).2.2.2.getD n_2 0))]) (tgt := 12) dX3_wordTold_100 (by decide) ?_
          exact r_le (L' := [some (.ref b0), some (.int l1), some (.int (l2 + 1)), some (.int 0), some (.int (l4 + 1)), none]) ⟨rfl, ⟨rfl, ⟨rfl, ⟨rfl, ⟨rfl, trivial⟩⟩⟩⟩⟩ K0
        · have K0 := K0.2 q
          refine r_aload_n (pc := 77) dX3_wordTold_77 rfl ?_
          refine s_getR (pc := 78) dX3_wordTold_78 fl_X3_35 rfl k_b0 g_b0_5 ?_
          refine r_iload_n (pc := 81) dX3_wordTold_81 rfl ?_
          obtain ⟨i_6, K0⟩ := K0
          refine s_bald (pc := 82) dX3_wordTold_82 k_b0_5 i_6 ?_
          refine r_iload (pc := 83) dX3_wordTold_83 rfl ?_
          refine r_icmp_ne (pc := 85) (tgt := 92) dX3_wordTold_85 (by decide) (fun q => ?_) (fun q => ?_)
          · have K0 := K0.1 q
            refine r_iconst (pc := 92) (v := 0) dX3_wordTold_92 (by decide) ?_
            refine r_istore_n (pc := 93) dX3_wordTold_93 (by decide) ?_
            refine r_iinc (pc := 94) (L := [some (.ref b0), some (.int l1), some (.int l2), some (.int 0), some (.int l4), some (.int ((mSq 0).2.2.2.getD n_2 0))]) (v := l2 + 1) dX3_wordTold_94 rfl rfl (by decide) ?_
            refine r_iinc (pc := 97) (L := [some (.ref b0), some (.int l1), some (.int (l2 + 1)), some (.int 0), some (.int l4), some (.int ((mSq 0).2.2.2.getD n_2 0))]) (v := l4 + 1) dX3_wordTold_97 rfl rfl (by decide) ?_
            refine r_goto (pc := 100) (L := [some (.ref b0), some (.int l1), some (.int (l2 + 1)), some (.int 0), some (.int (l4 + 1)), some (.int ((mSq 0).2.2.2.getD n_2 0))]) (tgt := 12) dX3_wordTold_100 (by decide) ?_
            exact r_le (L' := [some (.ref b0), some (.int l1), some (.int (l2 + 1)), some (.int 0), some (.int (l4 + 1)), none]) ⟨rfl, ⟨rfl, ⟨rfl, ⟨rfl, ⟨rfl, trivial⟩⟩⟩⟩⟩ K0
          · have K0 := K0.2 q
            refine r_iconst (pc := 88) (v := 1) dX3_wordTold_88 (by decide) ?_
            refine r_goto (pc := 89) (tgt := 93) dX3_wordTold_89 (by decide) ?_
            refine r_istore_n (pc := 93) dX3_wordTold_93 (by decide) ?_
            refine r_iinc (pc := 94) (L := [some (.ref b0), some (.int l1), some (.int l2), some (.int 1), some (.int l4), some (.int ((mSq 0).2.2.2.getD n_2 0))]) (v := l2 + 1) dX3_wordTold_94 rfl rfl (by decide) ?_
            refine r_iinc (pc := 97) (L := [some (.ref b0), some (.int l1), some (.int (l2 + 1)), some (.int 1), some (.int l4), some (.int ((mSq 0).2.2.2.getD n_2 0))]) (v := l4 + 1) dX3_wordTold_97 rfl rfl (by decide) ?_
            refine r_goto (pc := 100) (L := [some (.ref b0), some (.int l1), some (.int (l2 + 1)), some (.int 1), some (.int (l4 + 1)), some (.int ((mSq 0).2.2.2.getD n_2 0))]) (tgt := 12) dX3_wordTold_100 (by decide) ?_
            exact r_le (L' := [some (.ref b0), some (.int l1), some (.int (l2 + 1)), some (.int 1), some (.int (l4 + 1)), none]) ⟨rfl, ⟨rfl, ⟨rfl, ⟨rfl, ⟨rfl, trivial⟩⟩⟩⟩⟩ K0
    · have K0 := K0.2 q
      refine r_iload_n (pc := 38) dX3_wordTold_38 rfl ?_
      refine r_if_eq (pc := 39) (tgt := 52) dX3_wordTold_39 (by decide) (fun q => ?_) (fun q => ?_)
      · have K0 := K0.1 q
        refine r_iinc (pc := 52) (v := l1 + 1) dX3_wordTold_52 rfl rfl (by decide) ?_
        refine r_aload_n (pc := 55) (L := [some (.ref b0), some (.int (l1 + 1)), some (.int l2), some (.int l3), some (.int l4), some (.int ((mSq 0).2.2.2.getD n_2 0))]) dX3_wordTold_55 rfl ?_
        refine s_getI (pc := 56) dX3_wordTold_56 fl_X3_42 rfl k_b0 ?_
        refine r_istore_n (pc := 59) dX3_wordTold_59 (by decide) ?_
        refine r_iconst (pc := 60) (L := [some (.ref b0), some (.int (l1 + 1)), some (.int (gi x b0 7)), some (.int l3), some (.int l4), some (.int ((mSq 0).2.2.2.getD n_2 0))]) (v := 1) dX3_wordTold_60 (by decide) ?_
        refine r_istore_n (pc := 61) dX3_wordTold_61 (by decide) ?_
        refine r_goto (pc := 62) (L := [some (.ref b0), some (.int (l1 + 1)), some (.int (gi x b0 7)), some (.int 1), some (.int l4), some (.int ((mSq 0).2.2.2.getD n_2 0))]) (tgt := 97) dX3_wordTold_62 (by decide) ?_
        refine r_iinc (pc := 97) (v := l4 + 1) dX3_wordTold_97 rfl rfl (by decide) ?_
        refine r_goto (pc := 100) (L := [some (.ref b0), some (.int (l1 + 1)), some (.int (gi x b0 7)), some (.int 1), some (.int (l4 + 1)), some (.int ((mSq 0).2.2.2.getD n_2 0))]) (tgt := 12) dX3_wordTold_100 (by decide) ?_
        exact r_le (L' := [some (.ref b0), some (.int (l1 + 1)), some (.int (gi x b0 7)), some (.int 1), some (.int (l4 + 1)), none]) ⟨rfl, ⟨rfl, ⟨rfl, ⟨rfl, ⟨rfl, trivial⟩⟩⟩⟩⟩ K0
      · have K0 := K0.2 q
        refine r_iload_n (pc := 42) dX3_wordTold_42 rfl ?_
        refine r_aload_n (pc := 43) dX3_wordTold_43 rfl ?_
        refine s_getI (pc := 44) dX3_wordTold_44 fl_X3_45 rfl k_b0 ?_
        refine r_icmp_ne (pc := 47) (tgt := 52) dX3_wordTold_47 (by decide) (fun q => ?_) (fun q => ?_)
        · have K0 := K0.1 q
          refine r_iinc (pc := 52) (v := l1 + 1) dX3_wordTold_52 rfl rfl (by decide) ?_
          refine r_aload_n (pc := 55) (L := [some (.ref b0), some (.int (l1 + 1)), some (.int l2), some (.int l3), some (.int l4), some (.int ((mSq 0).2.2.2.getD n_2 0))]) dX3_wordTold_55 rfl ?_
          refine s_getI (pc := 56) dX3_wordTold_56 fl_X3_42 rfl k_b0 ?_
          refine r_istore_n (pc := 59) dX3_wordTold_59 (by decide) ?_
          refine r_iconst (pc := 60) (L := [some (.ref b0), some (.int (l1 + 1)), some (.int (gi x b0 7)), some (.int l3), some (.int l4), some (.int ((mSq 0).2.2.2.getD n_2 0))]) (v := 1) dX3_wordTold_60 (by decide) ?_
          refine r_istore_n (pc := 61) dX3_wordTold_61 (by decide) ?_
          refine r_goto (pc := 62) (L := [some (.ref b0), some (.int (l1 + 1)), some (.int (gi x b0 7)), some (.int 1), some (.int l4), some (.int ((mSq 0).2.2.2.getD n_2 0))]) (tgt := 97) dX3_wordTold_62 (by decide) ?_
          refine r_iinc (pc := 97) (v := l4 + 1) dX3_wordTold_97 rfl rfl (by decide) ?_
          refine r_goto (pc := 100) (L := [some (.ref b0), some (.int (l1 + 1)), some (.int (gi x b0 7)), some (.int 1), some (.int (l4 + 1)), some (.int ((mSq 0).2.2.2.getD n_2 0))]) (tgt := 12) dX3_wordTold_100 (by decide) ?_
          exact r_le (L' := [some (.ref b0), some (.int (l1 + 1)), some (.int (gi x b0 7)), some (.int 1), some (.int (l4 + 1)), none]) ⟨rfl, ⟨rfl, ⟨rfl, ⟨rfl, ⟨rfl, trivial⟩⟩⟩⟩⟩ K0
        · have K0 := K0.2 q
          refine r_iload_n (pc := 50) dX3_wordTold_50 rfl ?_
          exact s_iret rfl dX3_wordTold_51 K0
section
theorem lp_X3_wordTold {x : Cn} {Q : Int32 → Cn → Prop} {b : TT} {n s e : Nat} (c : gr x 59 5 = some 1) (hn : n ≤ 1200) (hb : ∀ i, i < n → gi x 1 i = b i) (h7 : gi x 59 7 = nI s) (h8 : gi x 59 8 = nI e) (he : e ≤ n) (hs : s ≤ e) : ∀ (l : List Int32) (i w a : Nat) (al : Bool), (mSq 0).2.2.2.drop i = l → i ≤ 73 → w ≤ i → a ≤ s + i → Q (wtl b s e l w a al) x → GI mX3_wordTold 12 [some (.ref 59), some (.int (nI w)), some (.int (nI a)), some (.int (b2i (al = true))), some (.int (nI i)), none] [] KW x Q := by
  have hL : (mSq 0).2.2.2.length = 73 := by decide +kernel
  intro l
  induction l with
  | nil =>
    intro i w a al hd hi hw ha k
    have hi2 : 73 ≤ i := by have := List.drop_eq_nil_iff.mp hd; omega
    refine v_X3_wordTold_12 k59 c k1t ⟨fun _ => k, fun z => absurd (by rw [hL]; exact nI_le hi2 (by omega)) z⟩
  | cons ch l ih =>
    intro i w a al hd hi hw ha k
    have hlt : i < 73 := by
      rcases Nat.lt_or_ge i 73 with q | q
      · exact q
      · rw [List.drop_eq_nil_of_le (by omega)] at hd; cases hd
    have hch : (mSq 0).2.2.2.getD i 0 = ch := by
      rw [List.getD_eq_getElem?_getD, ← List.head?_drop, hd]; rfl
    have hd2 : (mSq 0).2.2.2.drop (i + 1) = l := by
      rw [← List.tail_drop, hd]; rfl
    refine v_X3_wordTold_12 k59 c k1t ⟨fun z => absurd z (by rw [hL]; exact nI_ge hlt (by omega)), fun _ => ⟨i, rfl, by omega, ?_⟩⟩
    rw [hch, h7, h8, ← nI_succ, ← nI_succ, ← nI_succ]
    have nz : ∀ {v : Bool}, b2i (v = true) = 0 ↔ v = false := fun {v} => by cases v <;> decide
    have tr : (1 : Int32) = b2i (true = true) := rfl
    have fl : (0 : Int32) = b2i (false = true) := rfl
    refine ⟨fun z32 => ?_, fun z32 => ?_⟩
    · have kk : Q (wtl b s e l w (a + 1) (al && (decide (a < e) && decide (b a = ch)))) x := by
        have k2 : Q (if ch = 32 then (if al = true ∧ a = e then nI w else wtl b s e l (w + 1) s true) else wtl b s e l w (a + 1) (al && (decide (a < e) && decide (b a = ch)))) x := k
        rw [if_neg z32] at k2
        exact k2
      refine ⟨fun z => ?_, fun z => ⟨fun z2 => ?_, fun z2 => ?_⟩⟩
      · have hal : al = false := nz.mp z
        subst hal
        have := ih (i + 1) w (a + 1) false hd2 (by omega) (by omega) (by omega) kk
        exact this
      · have hal : al = true := by cases al with | false => exact absurd rfl z | true => rfl
        subst hal
        have hae : ¬ a < e := by have := (nI_leI (by omega) (by omega)).mp z2; omega
        rw [decide_eq_false hae] at kk
        exact ih (i + 1) w (a + 1) false hd2 (by omega) (by omega) (by omega) kk
      · have hal : al = true := by cases al with | false => exact absurd rfl z | true => rfl
        subst hal
        have hae : a < e := by
          rcases Nat.lt_or_ge a e with q | q
          · exact q
          · exact absurd (nI_le q (by omega)) z2
        rw [decide_eq_true hae] at kk
        refine ⟨vp_in_nI (by omega) (by decide), ?_⟩
        rw [nI_clamp (by omega), hb a (by omega)]
        refine ⟨fun z3 => ?_, fun z3 => ?_⟩
        · rw [decide_eq_false z3] at kk
          exact ih (i + 1) w (a + 1) false hd2 (by omega) (by omega) (by omega) kk
        · rw [decide_eq_true z3] at kk
          exact ih (i + 1) w (a + 1) true hd2 (by omega) (by omega) (by omega) kk
    · have kk : Q (if al = true ∧ a = e then nI w else wtl b s e l (w + 1) s true) x := by
        have k2 : Q (if ch = 32 then (if al = true ∧ a = e then nI w else wtl b s e l (w + 1) s true) else wtl b s e l w (a + 1) (al && (decide (a < e) && decide (b a = ch)))) x := k
        rw [if_pos z32] at k2
        exact k2
      refine ⟨fun z => ?_, fun z => ⟨fun z2 => ?_, fun z2 => ?_⟩⟩
      · have hal : al = false := nz.mp z
        rw [if_neg (fun q => by rw [hal] at q; exact absurd q.1 (by decide))] at kk
        exact ih (i + 1) (w + 1) s true hd2 (by omega) (by omega) (by omega) kk
      · rw [if_neg (fun q => z2 (by rw [q.2]))] at kk
        exact ih (i + 1) (w + 1) s true hd2 (by omega) (by omega) (by omega) kk
      · have hal : al = true := by cases al with | false => exact absurd rfl z | true => rfl
        rw [if_pos ⟨hal, (nI_eq (by omega) (by omega)).mp z2⟩] at kk
        exact kk
theorem sp_X3_wordTold {x : Cn} {Q : Int32 → Cn → Prop} {b : TT} {n s e : Nat} (c : gr x 59 5 = some 1) (hn : n ≤ 1200) (hb : ∀ i, i < n → gi x 1 i = b i) (h7 : gi x 59 7 = nI s) (h8 : gi x 59 8 = nI e) (he : e ≤ n) (hs : s ≤ e) (k : Q (wno b s e) x) : mSI mX3_wordTold [.ref 59] KW x Q := by
  refine v_X3_wordTold_0 k59 ?_
  rw [h7]
  refine lp_X3_wordTold c hn hb h7 h8 he hs _ 0 0 s true rfl (by omega) (by omega) (by omega) ?_
  rw [List.drop_zero, WL_j, wtl_ws WL 0 WL_n]
  exact k

end
end
/-! 67.lex2.lean.txt -/
section
/-! the next token -/
def ATf (x y : Cn) : Prop := y.2 = x.2 ∧ ∀ a k, ¬ (a = 59 ∧ 7 ≤ k ∧ k ≤ 10) → gi y a k = gi x a k
theorem ATf.rf (x : Cn) : ATf x x := ⟨rfl, fun _ _ _ => rfl⟩
theorem ATf.tr {x y z : Cn} (h : ATf x y) (g : ATf y z) : ATf x z := ⟨g.1.trans h.1, fun a k hk => (g.2 a k hk).trans (h.2 a k hk)⟩
theorem ATf.u {x y : Cn} {k : Nat} {v : Int32} (h : ATf x y) (hk : 7 ≤ k ∧ k ≤ 10) : ATf x (ui y 59 k v) := ⟨h.1, fun a j hj => by rw [gi_ui, if_neg (by omega)]; exact h.2 a j hj⟩
def BTf (x y : Cn) : Prop := y.2 = x.2 ∧ ∀ a k, ¬ (a = 717 ∧ 7 ≤ k ∧ k ≤ 10) → gi y a k = gi x a k
theorem BTf.rf (x : Cn) : BTf x x := ⟨rfl, fun _ _ _ => rfl⟩
theorem BTf.tr {x y z : Cn} (h : BTf x y) (g : BTf y z) : BTf x z := ⟨g.1.trans h.1, fun a k hk => (g.2 a k hk).trans (h.2 a k hk)⟩
theorem BTf.u {x y : Cn} {k : Nat} {v : Int32} (h : BTf x y) (hk : 7 ≤ k ∧ k ≤ 10) : BTf x (ui y 717 k v) := ⟨h.1, fun a j hj => by rw [gi_ui, if_neg (by omega)]; exact h.2 a j hj⟩
/-- the landed one's token behind p -/
def CTk (y : Cn) (b : TT) (n p : Nat) : Prop := gi y 59 7 = nI (tS b n p) ∧ gi y 59 8 = nI (tE b n p) ∧ gi y 59 9 = nI (tK b n p) ∧ (tK b n p = 1 → gi y 59 10 = wno b (tS b n p) (tE b n p)) ∧ (tK b n p = 2 → gi y 59 10 = nI (min (tV b n p) 100000)) ∧ (tK b n p = 3 → gi y 59 10 = b (tS b n p))
/-- the reference's -/
def RTk (y : Cn) (b : TT) (n p : Nat) : Prop := gi y 717 8 = nI (tS b n p) ∧ gi y 717 7 = nI (tE b n p) ∧ gi y 717 9 = nI (tK b n p) ∧ (tK b n p = 2 → gi y 717 10 = nI (min (tV b n p) 9999)) ∧ (tK b n p = 3 → gi y 717 10 = b (tS b n p) &&& 255)
theorem cap1 {V d : Nat} (hd : d < 10) : (if (100000 : Int32) < ((nI (min V 100000) * 10) + nI (48 + d)) - 48 then 100000 else ((nI (min V 100000) * 10) + nI (48 + d)) - 48) = nI (min (10 * V + d) 100000) := by
  have e : ((nI (min V 100000) * 10) + nI (48 + d)) - 48 = nI (min V 100000 * 10 + d) := by
    rw [show (10 : Int32) = nI 10 by decide, pk_mul, nI_add, show min V 100000 * 10 + (48 + d) = (min V 100000 * 10 + d) + 48 by omega, ← nI_add, show (48 : Int32) = nI 48 by decide, Int32.add_sub_cancel]
  rw [e, show (100000 : Int32) = nI 100000 by decide]
  have hm : min V 100000 ≤ 100000 := Nat.min_le_right _ _
  by_cases h : 100000 < min V 100000 * 10 + d
  · rw [if_pos (nI_lt h (by omega))]
    congr 1
    omega
  · rw [if_neg (fun z => h ((nI_ltI (by omega) (by omega)).mp z))]
    congr 1
    omega
theorem cap2 {V d : Nat} (hd : d < 10) : (if ((10 * nI (min V 9999)) + nI (48 + d)) - 48 < 9999 then ((10 * nI (min V 9999)) + nI (48 + d)) - 48 else 9999) = nI (min (10 * V + d) 9999) := by
  have e : ((10 * nI (min V 9999)) + nI (48 + d)) - 48 = nI (10 * min V 9999 + d) := by
    rw [show (10 : Int32) = nI 10 by decide, pk_mul, nI_add, show 10 * min V 9999 + (48 + d) = (10 * min V 9999 + d) + 48 by omega, ← nI_add, show (48 : Int32) = nI 48 by decide, Int32.add_sub_cancel]
  rw [e, show (9999 : Int32) = nI 9999 by decide]
  have hm : min V 9999 ≤ 9999 := Nat.min_le_right _ _
  by_cases h : 10 * min V 9999 + d < 9999
  · rw [if_pos (nI_lt h (by omega))]
    congr 1
    omega
  · rw [if_neg (fun z => h ((nI_ltI (by omega) (by omega)).mp z))]
    congr 1
    omega
set_option maxHeartbeats 2000000 in
theorem v_X3_advance_0 {K : Sh} {x : Cn} {Q : Cn → Prop} {b0 : Nat}  (k_b0 : kk K b0 = some (3, 0)) (K0 : GV mX3_advance 8 [some (.ref b0)] [] K (ui x b0 7 (gi x b0 8)) Q) : mSV mX3_advance [.ref b0] K x Q := by
  refine s_V (by decide) (by simp [Value.category]) (Nat.le_of_ble_eq_true rfl) ?_
  show mGM mX3_advance 0 [some (.ref b0)] [] (hp K x) (PV K Q)
  refine r_aload_n (pc := 0) dX3_advance_0 rfl ?_
  refine r_aload_n (pc := 1) dX3_advance_1 rfl ?_
  refine s_getI (pc := 2) dX3_advance_2 fl_X3_45 rfl k_b0 ?_
  refine s_putI (pc := 5) dX3_advance_5 fl_X3_42 rfl rfl k_b0 ?_
  exact r_le (L' := [some (.ref b0)]) ⟨rfl, trivial⟩ K0
set_option maxHeartbeats 2000000 in
theorem v_X3_advance_8 {K : Sh} {x : Cn} {Q : Cn → Prop} {b0 : Nat} {b0_5 : Nat} {n_b0_5 : Nat} (k_b0 : kk K b0 = some (3, 0)) (g_b0_5 : gr x b0 5 = some b0_5) (k_b0_5 : kk K b0_5 = some (21, n_b0_5)) (K0 : ((gi x b0 6) ≤ (gi x b0 7) → (GV mX3_advance 60 [some (.ref b0)] [] K x Q)) ∧ (¬ (gi x b0 6) ≤ (gi x b0 7) → (vp_in (gi x b0 7) n_b0_5 ∧ (((gi x b0_5 ((gi x b0 7) : Int32).toNatClampNeg) = 32 → (GV mX3_advance 8 [some (.ref b0)] [] K (ui x b0 7 ((gi x b0 7) + 1)) Q)) ∧ (¬ (gi x b0_5 ((gi x b0 7) : Int32).toNatClampNeg) = 32 → ((¬ (gi x b0_5 ((gi x b0 7) : Int32).toNatClampNeg) = 10 → (GV mX3_advance 60 [some (.ref b0)] [] K x Q)) ∧ ((gi x b0_5 ((gi x b0 7) : Int32).toNatClampNeg) = 10 → (GV mX3_advance 8 [some (.ref b0)] [] K (ui x b0 7 ((gi x b0 7) + 1)) Q)))))))) : GV mX3_advance 8 [some (.ref b0)] [] K x Q := by
  show mGM mX3_advance 8 [some (.ref b0)] [] (hp K x) (PV K Q)
  refine r_aload_n (pc := 8) dX3_advance_8 rfl ?_
  refine s_getI (pc := 9) dX3_advance_9 fl_X3_42 rfl k_b0 ?_
  refine r_aload_n (pc := 12) dX3_advance_12 rfl ?_
  refine s_getI (pc := 13) dX3_advance_13 fl_X3_39 rfl k_b0 ?_
  refine r_icmp_ge (pc := 16) (tgt := 60) dX3_advance_16 (by decide) (fun q => ?_) (fun q => ?_)
  · have K0 := K0.1 q
    exact r_le (L' := [some (.ref b0)]) ⟨rfl, trivial⟩ K0
  · have K0 := K0.2 q
    refine r_aload_n (pc := 19) dX3_advance_19 rfl ?_
    refine s_getR (pc := 20) dX3_advance_20 fl_X3_35 rfl k_b0 g_b0_5 ?_
    refine r_aload_n (pc := 23) dX3_advance_23 rfl ?_
    refine s_getI (pc := 24) dX3_advance_24 fl_X3_42 rfl k_b0 ?_
    obtain ⟨i_2, K0⟩ := K0
    refine s_bald (pc := 27) dX3_advance_27 k_b0_5 i_2 ?_
    refine r_bipush (pc := 28) (v := 32) dX3_advance_28 (by decide) ?_
    refine r_icmp_eq (pc := 30) (tgt := 47) dX3_advance_30 (by decide) (fun q => ?_) (fun q => ?_)
    · have K0 := K0.1 q
      refine r_aload_n (pc := 47) dX3_advance_47 rfl ?_
      refine r_dup (pc := 48) dX3_advance_48 rfl ?_
      refine s_getI (pc := 49) dX3_advance_49 fl_X3_42 rfl k_b0 ?_
      refine r_iconst (pc := 52) (v := 1) dX3_advance_52 (by decide) ?_
      refine r_iadd (pc := 53) dX3_advance_53 ?_
      refine s_putI (pc := 54) dX3_advance_54 fl_X3_42 rfl rfl k_b0 ?_
      refine r_goto (pc := 57) (tgt := 8) dX3_advance_57 (by decide) ?_
      exact r_le (L' := [some (.ref b0)]) ⟨rfl, trivial⟩ K0
    · have K0 := K0.2 q
      refine r_aload_n (pc := 33) dX3_advance_33 rfl ?_
      refine s_getR (pc := 34) dX3_advance_34 fl_X3_35 rfl k_b0 g_b0_5 ?_
      refine r_aload_n (pc := 37) dX3_advance_37 rfl ?_
      refine s_getI (pc := 38) dX3_advance_38 fl_X3_42 rfl k_b0 ?_
      refine s_bald (pc := 41) dX3_advance_41 k_b0_5 i_2 ?_
      refine r_bipush (pc := 42) (v := 10) dX3_advance_42 (by decide) ?_
      refine r_icmp_ne (pc := 44) (tgt := 60) dX3_advance_44 (by decide) (fun q => ?_) (fun q => ?_)
      · have K0 := K0.1 q
        exact r_le (L' := [some (.ref b0)]) ⟨rfl, trivial⟩ K0
      · have K0 := K0.2 q
        refine r_aload_n (pc := 47) dX3_advance_47 rfl ?_
        refine r_dup (pc := 48) dX3_advance_48 rfl ?_
        refine s_getI (pc := 49) dX3_advance_49 fl_X3_42 rfl k_b0 ?_
        refine r_iconst (pc := 52) (v := 1) dX3_advance_52 (by decide) ?_
        refine r_iadd (pc := 53) dX3_advance_53 ?_
        refine s_putI (pc := 54) dX3_advance_54 fl_X3_42 rfl rfl k_b0 ?_
        refine r_goto (pc := 57) (tgt := 8) dX3_advance_57 (by decide) ?_
        exact r_le (L' := [some (.ref b0)]) ⟨rfl, trivial⟩ K0
set_option maxHeartbeats 2000000 in
theorem v_X3_advance_60 {K : Sh} {x : Cn} {Q : Cn → Prop} {b0 : Nat}  (k_b0 : kk K b0 = some (3, 0)) (K0 : ((gi (ui (ui x b0 8 (gi x b0 7)) b0 10 0) b0 7) < (gi (ui (ui x b0 8 (gi x b0 7)) b0 10 0) b0 6) → (GV mX3_advance 92 [some (.ref b0)] [] K (ui (ui x b0 8 (gi x b0 7)) b0 10 0) Q)) ∧ (¬ (gi (ui (ui x b0 8 (gi x b0 7)) b0 10 0) b0 7) < (gi (ui (ui x b0 8 (gi x b0 7)) b0 10 0) b0 6) → (Q (ui (ui (ui x b0 8 (gi x b0 7)) b0 10 0) b0 9 0)))) : GV mX3_advance 60 [some (.ref b0)] [] K x Q := by
  show mGM mX3_advance 60 [some (.ref b0)] [] (hp K x) (PV K Q)
  refine r_aload_n (pc := 60) dX3_advance_60 rfl ?_
  refine r_aload_n (pc := 61) dX3_advance_61 rfl ?_
  refine s_getI (pc := 62) dX3_advance_62 fl_X3_42 rfl k_b0 ?_
  refine s_putI (pc := 65) dX3_advance_65 fl_X3_45 rfl rfl k_b0 ?_
  refine r_aload_n (pc := 68) dX3_advance_68 rfl ?_
  refine r_iconst (pc := 69) (v := 0) dX3_advance_69 (by decide) ?_
  refine s_putI (pc := 70) dX3_advance_70 fl_X3_51 rfl rfl k_b0 ?_
  refine r_aload_n (pc := 73) dX3_advance_73 rfl ?_
  refine s_getI (pc := 74) dX3_advance_74 fl_X3_42 rfl k_b0 ?_
  refine r_aload_n (pc := 77) dX3_advance_77 rfl ?_
  refine s_getI (pc := 78) dX3_advance_78 fl_X3_39 rfl k_b0 ?_
  refine r_icmp_lt (pc := 81) (tgt := 92) dX3_advance_81 (by decide) (fun q => ?_) (fun q => ?_)
  · have K0 := K0.1 q
    exact r_le (L' := [some (.ref b0)]) ⟨rfl, trivial⟩ K0
  · have K0 := K0.2 q
    refine r_aload_n (pc := 84) dX3_advance_84 rfl ?_
    refine r_iconst (pc := 85) (v := 0) dX3_advance_85 (by decide) ?_
    refine s_putI (pc := 86) dX3_advance_86 fl_X3_48 rfl rfl k_b0 ?_
    refine r_goto (pc := 89) (tgt := 278) dX3_advance_89 (by decide) ?_
    exact s_ret rfl dX3_advance_278 K0
set_option maxHeartbeats 2000000 in
theorem v_X3_advance_92 {K : Sh} {x : Cn} {Q : Cn → Prop} {b0 : Nat} {b0_5 : Nat} {n_b0_5 : Nat} (k_b0 : kk K b0 = some (3, 0)) (g_b0_5 : gr x b0 5 = some b0_5) (k_b0_5 : kk K b0_5 = some (21, n_b0_5)) (K0 : vp_in (gi x b0 7) n_b0_5 ∧ ((¬ (97 ≤ (gi x b0_5 ((gi x b0 7) : Int32).toNatClampNeg) ∧ (gi x b0_5 ((gi x b0 7) : Int32).toNatClampNeg) ≤ 122) → ((¬ (48 ≤ (gi x b0_5 ((gi x b0 7) : Int32).toNatClampNeg) ∧ (gi x b0_5 ((gi x b0 7) : Int32).toNatClampNeg) ≤ 57) → (vp_in (gi (ui x b0 9 3) b0 7) n_b0_5 ∧ (∀ r_5 : Int32, r_5 = gi (ui (ui x b0 9 3) b0 10 (gi (ui x b0 9 3) b0_5 ((gi (ui x b0 9 3) b0 7) : Int32).toNatClampNeg)) b0 8 → (Q (ui (ui (ui x b0 9 3) b0 10 (gi (ui x b0 9 3) b0_5 ((gi (ui x b0 9 3) b0 7) : Int32).toNatClampNeg)) b0 8 (r_5 + 1)))))) ∧ ((48 ≤ (gi x b0_5 ((gi x b0 7) : Int32).toNatClampNeg) ∧ (gi x b0_5 ((gi x b0 7) : Int32).toNatClampNeg) ≤ 57) → (GV mX3_advance 182 [some (.ref b0)] [] K (ui x b0 9 2) Q)))) ∧ ((97 ≤ (gi x b0_5 ((gi x b0 7) : Int32).toNatClampNeg) ∧ (gi x b0_5 ((gi x b0 7) : Int32).toNatClampNeg) ≤ 122) → (GV mX3_advance 112 [some (.ref b0)] [] K (ui x b0 9 1) Q)))) : GV mX3_advance 92 [some (.ref b0)] [] K x Q := by
  show mGM mX3_advance 92 [some (.ref b0)] [] (hp K x) (PV K Q)
  refine r_aload_n (pc := 92) dX3_advance_92 rfl ?_
  refine s_getR (pc := 93) dX3_advance_93 fl_X3_35 rfl k_b0 g_b0_5 ?_
  refine r_aload_n (pc := 96) dX3_advance_96 rfl ?_
  refine s_getI (pc := 97) dX3_advance_97 fl_X3_42 rfl k_b0 ?_
  obtain ⟨i_1, K0⟩ := K0
  refine s_bald (pc := 100) dX3_advance_100 k_b0_5 i_1 ?_
  refine s_SNI (pc := 101) mX7_isLetter (As := [.int (gi x b0_5 ((gi x b0 7) : Int32).toNatClampNeg)]) dX3_advance_101 nl_X3_204 st_X7_isLetter mo_X7_isLetter ⟨by decide, by decide⟩ (Nat.le_of_ble_eq_true rfl) (sp_X7_isLetter  ?_)
  refine r_if_eq (pc := 104) (tgt := 162) dX3_advance_104 (by decide) (fun q => ?_) (fun q => ?_)
  · have q := (b2i_z _).mp q
    have K0 := K0.1 q
    refine r_aload_n (pc := 162) dX3_advance_162 rfl ?_
    refine s_getR (pc := 163) dX3_advance_163 fl_X3_35 rfl k_b0 g_b0_5 ?_
    refine r_aload_n (pc := 166) dX3_advance_166 rfl ?_
    refine s_getI (pc := 167) dX3_advance_167 fl_X3_42 rfl k_b0 ?_
    refine s_bald (pc := 170) dX3_advance_170 k_b0_5 i_1 ?_
    refine s_SNI (pc := 171) mX7_isDigit (As := [.int (gi x b0_5 ((gi x b0 7) : Int32).toNatClampNeg)]) dX3_advance_171 nl_X3_211 st_X7_isDigit mo_X7_isDigit ⟨by decide, by decide⟩ (Nat.le_of_ble_eq_true rfl) (sp_X7_isDigit  ?_)
    refine r_if_eq (pc := 174) (tgt := 250) dX3_advance_174 (by decide) (fun q => ?_) (fun q => ?_)
    · have q := (b2i_z _).mp q
      have K0 := K0.1 q
      refine r_aload_n (pc := 250) dX3_advance_250 rfl ?_
      refine r_iconst (pc := 251) (v := 3) dX3_advance_251 (by decide) ?_
      refine s_putI (pc := 252) dX3_advance_252 fl_X3_48 rfl rfl k_b0 ?_
      refine r_aload_n (pc := 255) dX3_advance_255 rfl ?_
      refine r_aload_n (pc := 256) dX3_advance_256 rfl ?_
      refine s_getR (pc := 257) dX3_advance_257 fl_X3_35 rfl k_b0 g_b0_5 ?_
      refine r_aload_n (pc := 260) dX3_advance_260 rfl ?_
      refine s_getI (pc := 261) dX3_advance_261 fl_X3_42 rfl k_b0 ?_
      obtain ⟨i_4, K0⟩ := K0
      refine s_bald (pc := 264) dX3_advance_264 k_b0_5 i_4 ?_
      refine s_putI (pc := 265) dX3_advance_265 fl_X3_51 rfl rfl k_b0 ?_
      refine r_aload_n (pc := 268) dX3_advance_268 rfl ?_
      refine r_dup (pc := 269) dX3_advance_269 rfl ?_
      refine s_getI (pc := 270) dX3_advance_270 fl_X3_45 rfl k_b0 ?_
      obtain ⟨r_5, w_6⟩ : ∃ z : Int32, z = gi (ui (ui x b0 9 3) b0 10 (gi (ui x b0 9 3) b0_5 ((gi (ui x b0 9 3) b0 7) : Int32).toNatClampNeg)) b0 8 := ⟨_, rfl⟩
      rw [← w_6]
      have K0 := K0 r_5 w_6
      refine r_iconst (pc := 273) (v := 1) dX3_advance_273 (by decide) ?_
      refine r_iadd (pc := 274) dX3_advance_274 ?_
      refine s_putI (pc := 275) dX3_advance_275 fl_X3_45 rfl rfl k_b0 ?_
      exact s_ret rfl dX3_advance_278 K0
    · have q := b2i_nz q
      have K0 := K0.2 q
      refine r_aload_n (pc := 177) dX3_advance_177 rfl ?_
      refine r_iconst (pc := 178) (v := 2) dX3_advance_178 (by decide) ?_
      refine s_putI (pc := 179) dX3_advance_179 fl_X3_48 rfl rfl k_b0 ?_
      exact r_le (L' := [some (.ref b0)]) ⟨rfl, trivial⟩ K0
  · have q := b2i_nz q
    have K0 := K0.2 q
    refine r_aload_n (pc := 107) dX3_advance_107 rfl ?_
    refine r_iconst (pc := 108) (v := 1) dX3_advance_108 (by decide) ?_
    refine s_putI (pc := 109) dX3_advance_109 fl_X3_48 rfl rfl k_b0 ?_
    exact r_le (L' := [some (.ref b0)]) ⟨rfl, trivial⟩ K0
set_option maxHeartbeats 2000000 in
theorem v_X3_advance_112 {K : Sh} {x : Cn} {Q : Cn → Prop} {b0 : Nat} {b0_5 : Nat} {n_b0_5 : Nat} (k_b0 : kk K b0 = some (3, 0)) (g_b0_5 : gr x b0 5 = some b0_5) (k_b0_5 : kk K b0_5 = some (21, n_b0_5)) (K0 : ((gi x b0 6) ≤ (gi x b0 8) → (mSI mX3_wordTold [.ref b0] K x (fun r_3 y_2 => Q (ui y_2 b0 10 r_3)))) ∧ (¬ (gi x b0 6) ≤ (gi x b0 8) → (vp_in (gi x b0 8) n_b0_5 ∧ ((¬ (97 ≤ (gi x b0_5 ((gi x b0 8) : Int32).toNatClampNeg) ∧ (gi x b0_5 ((gi x b0 8) : Int32).toNatClampNeg) ≤ 122) → (mSI mX3_wordTold [.ref b0] K x (fun r_7 y_6 => Q (ui y_6 b0 10 r_7)))) ∧ ((97 ≤ (gi x b0_5 ((gi x b0 8) : Int32).toNatClampNeg) ∧ (gi x b0_5 ((gi x b0 8) : Int32).toNatClampNeg) ≤ 122) → (GV mX3_advance 112 [some (.ref b0)] [] K (ui x b0 8 ((gi x b0 8) + 1)) Q)))))) : GV mX3_advance 112 [some (.ref b0)] [] K x Q := by
  show mGM mX3_advance 112 [some (.ref b0)] [] (hp K x) (PV K Q)
  refine r_aload_n (pc := 112) dX3_advance_112 rfl ?_
  refine s_getI (pc := 113) dX3_advance_113 fl_X3_45 rfl k_b0 ?_
  refine r_aload_n (pc := 116) dX3_advance_116 rfl ?_
  refine s_getI (pc := 117) dX3_advance_117 fl_X3_39 rfl k_b0 ?_
  refine r_icmp_ge (pc := 120) (tgt := 151) dX3_advance_120 (by decide) (fun q => ?_) (fun q => ?_)
  · have K0 := K0.1 q
    refine r_aload_n (pc := 151) dX3_advance_151 rfl ?_
    refine r_aload_n (pc := 152) dX3_advance_152 rfl ?_
    refine s_VI (pc := 153) mX3_wordTold (ci := 3) (a := b0) (As := []) dX3_advance_153 lk_X3_207 in_X3_wordTold mo_X3_wordTold ⟨by decide, rfl⟩ ⟨by decide, by decide⟩ (Nat.le_of_ble_eq_true rfl) k_b0 (mSI_mono K0 (fun r_3 y_2 K0 => ?_))
    refine s_putI (pc := 156) dX3_advance_156 fl_X3_51 rfl rfl k_b0 ?_
    refine r_goto (pc := 159) (tgt := 278) dX3_advance_159 (by decide) ?_
    exact s_ret rfl dX3_advance_278 K0
  · have K0 := K0.2 q
    refine r_aload_n (pc := 123) dX3_advance_123 rfl ?_
    refine s_getR (pc := 124) dX3_advance_124 fl_X3_35 rfl k_b0 g_b0_5 ?_
    refine r_aload_n (pc := 127) dX3_advance_127 rfl ?_
    refine s_getI (pc := 128) dX3_advance_128 fl_X3_45 rfl k_b0 ?_
    obtain ⟨i_4, K0⟩ := K0
    refine s_bald (pc := 131) dX3_advance_131 k_b0_5 i_4 ?_
    refine s_SNI (pc := 132) mX7_isLetter (As := [.int (gi x b0_5 ((gi x b0 8) : Int32).toNatClampNeg)]) dX3_advance_132 nl_X3_204 st_X7_isLetter mo_X7_isLetter ⟨by decide, by decide⟩ (Nat.le_of_ble_eq_true rfl) (sp_X7_isLetter  ?_)
    refine r_if_eq (pc := 135) (tgt := 151) dX3_advance_135 (by decide) (fun q => ?_) (fun q => ?_)
    · have q := (b2i_z _).mp q
      have K0 := K0.1 q
      refine r_aload_n (pc := 151) dX3_advance_151 rfl ?_
      refine r_aload_n (pc := 152) dX3_advance_152 rfl ?_
      refine s_VI (pc := 153) mX3_wordTold (ci := 3) (a := b0) (As := []) dX3_advance_153 lk_X3_207 in_X3_wordTold mo_X3_wordTold ⟨by decide, rfl⟩ ⟨by decide, by decide⟩ (Nat.le_of_ble_eq_true rfl) k_b0 (mSI_mono K0 (fun r_7 y_6 K0 => ?_))
      refine s_putI (pc := 156) dX3_advance_156 fl_X3_51 rfl rfl k_b0 ?_
      refine r_goto (pc := 159) (tgt := 278) dX3_advance_159 (by decide) ?_
      exact s_ret rfl dX3_advance_278 K0
    · have q := b2i_nz q
      have K0 := K0.2 q
      refine r_aload_n (pc := 138) dX3_advance_138 rfl ?_
      refine r_dup (pc := 139) dX3_advance_139 rfl ?_
      refine s_getI (pc := 140) dX3_advance_140 fl_X3_45 rfl k_b0 ?_
      refine r_iconst (pc := 143) (v := 1) dX3_advance_143 (by decide) ?_
      refine r_iadd (pc := 144) dX3_advance_144 ?_
      refine s_putI (pc := 145) dX3_advance_145 fl_X3_45 rfl rfl k_b0 ?_
      refine r_goto (pc := 148) (tgt := 112) dX3_advance_148 (by decide) ?_
      exact r_le (L' := [some (.ref b0)]) ⟨rfl, trivial⟩ K0
set_option maxHeartbeats 2000000 in
theorem v_X3_advance_182 {K : Sh} {x : Cn} {Q : Cn → Prop} {b0 : Nat} {b0_5 : Nat} {n_b0_5 : Nat} (k_b0 : kk K b0 = some (3, 0)) (g_b0_5 : gr x b0 5 = some b0_5) (k_b0_5 : kk K b0_5 = some (21, n_b0_5)) (K0 : ((gi x b0 6) ≤ (gi x b0 8) → (Q x)) ∧ (¬ (gi x b0 6) ≤ (gi x b0 8) → (vp_in (gi x b0 8) n_b0_5 ∧ ((¬ (48 ≤ (gi x b0_5 ((gi x b0 8) : Int32).toNatClampNeg) ∧ (gi x b0_5 ((gi x b0 8) : Int32).toNatClampNeg) ≤ 57) → (Q x)) ∧ ((48 ≤ (gi x b0_5 ((gi x b0 8) : Int32).toNatClampNeg) ∧ (gi x b0_5 ((gi x b0 8) : Int32).toNatClampNeg) ≤ 57) → (∀ r_4 : Int32, r_4 = gi (ui x b0 10 (if 100000 < ((((gi x b0 10) * 10) + (gi x b0_5 ((gi x b0 8) : Int32).toNatClampNeg)) - 48) then 100000 else ((((gi x b0 10) * 10) + (gi x b0_5 ((gi x b0 8) : Int32).toNatClampNeg)) - 48))) b0 8 → (GV mX3_advance 182 [some (.ref b0)] [] K (ui (ui x b0 10 (if 100000 < ((((gi x b0 10) * 10) + (gi x b0_5 ((gi x b0 8) : Int32).toNatClampNeg)) - 48) then 100000 else ((((gi x b0 10) * 10) + (gi x b0_5 ((gi x b0 8) : Int32).toNatClampNeg)) - 48))) b0 8 (r_4 + 1)) Q))))))) : GV mX3_advance 182 [some (.ref b0)] [] K x Q := by
  show mGM mX3_advance 182 [some (.ref b0)] [] (hp K x) (PV K Q)
  refine r_aload_n (pc := 182) dX3_advance_182 rfl ?_
  refine s_getI (pc := 183) dX3_advance_183 fl_X3_45 rfl k_b0 ?_
  refine r_aload_n (pc := 186) dX3_advance_186 rfl ?_
  refine s_getI (pc := 187) dX3_advance_187 fl_X3_39 rfl k_b0 ?_
  refine r_icmp_ge (pc := 190) (tgt := 278) dX3_advance_190 (by decide) (fun q => ?_) (fun q => ?_)
  · have K0 := K0.1 q
    exact s_ret rfl dX3_advance_278 K0
  · have K0 := K0.2 q
    refine r_aload_n (pc := 193) dX3_advance_193 rfl ?_
    refine s_getR (pc := 194) dX3_advance_194 fl_X3_35 rfl k_b0 g_b0_5 ?_
    refine r_aload_n (pc := 197) dX3_advance_197 rfl ?_
    refine s_getI (pc := 198) dX3_advance_198 fl_X3_45 rfl k_b0 ?_
    obtain ⟨i_2, K0⟩ := K0
    refine s_bald (pc := 201) dX3_advance_201 k_b0_5 i_2 ?_
    refine s_SNI (pc := 202) mX7_isDigit (As := [.int (gi x b0_5 ((gi x b0 8) : Int32).toNatClampNeg)]) dX3_advance_202 nl_X3_211 st_X7_isDigit mo_X7_isDigit ⟨by decide, by decide⟩ (Nat.le_of_ble_eq_true rfl) (sp_X7_isDigit  ?_)
    refine r_if_eq (pc := 205) (tgt := 278) dX3_advance_205 (by decide) (fun q => ?_) (fun q => ?_)
    · have q := (b2i_z _).mp q
      have K0 := K0.1 q
      exact s_ret rfl dX3_advance_278 K0
    · have q := b2i_nz q
      have K0 := K0.2 q
      refine r_aload_n (pc := 208) dX3_advance_208 rfl ?_
      refine r_aload_n (pc := 209) dX3_advance_209 rfl ?_
      refine s_getI (pc := 210) dX3_advance_210 fl_X3_51 rfl k_b0 ?_
      refine r_bipush (pc := 213) (v := 10) dX3_advance_213 (by decide) ?_
      refine r_imul (pc := 215) dX3_advance_215 ?_
      refine r_aload_n (pc := 216) dX3_advance_216 rfl ?_
      refine s_getR (pc := 217) dX3_advance_217 fl_X3_35 rfl k_b0 g_b0_5 ?_
      refine r_aload_n (pc := 220) dX3_advance_220 rfl ?_
      refine s_getI (pc := 221) dX3_advance_221 fl_X3_45 rfl k_b0 ?_
      refine s_bald (pc := 224) dX3_advance_224 k_b0_5 i_2 ?_
      refine r_iadd (pc := 225) dX3_advance_225 ?_
      refine r_bipush (pc := 226) (v := 48) dX3_advance_226 (by decide) ?_
      refine r_isub (pc := 228) dX3_advance_228 ?_
      refine r_ldc (pc := 229) (v := 100000) dX3_advance_229 cn_X3_214 ?_
      refine r_mmin (pc := 231) dX3_advance_231 lk_X3_75 mw_min ⟨by decide, by decide⟩ (Nat.le_of_ble_eq_true rfl) ?_
      refine s_putI (pc := 234) dX3_advance_234 fl_X3_51 rfl rfl k_b0 ?_
      refine r_aload_n (pc := 237) dX3_advance_237 rfl ?_
      refine r_dup (pc := 238) dX3_advance_238 rfl ?_
      refine s_getI (pc := 239) dX3_advance_239 fl_X3_45 rfl k_b0 ?_
      obtain ⟨r_4, w_5⟩ : ∃ z : Int32, z = gi (ui x b0 10 (if 100000 < ((((gi x b0 10) * 10) + (gi x b0_5 ((gi x b0 8) : Int32).toNatClampNeg)) - 48) then 100000 else ((((gi x b0 10) * 10) + (gi x b0_5 ((gi x b0 8) : Int32).toNatClampNeg)) - 48))) b0 8 := ⟨_, rfl⟩
      rw [← w_5]
      have K0 := K0 r_4 w_5
      refine r_iconst (pc := 242) (v := 1) dX3_advance_242 (by decide) ?_
      refine r_iadd (pc := 243) dX3_advance_243 ?_
      refine s_putI (pc := 244) dX3_advance_244 fl_X3_45 rfl rfl k_b0 ?_
      refine r_goto (pc := 247) (tgt := 182) dX3_advance_247 (by decide) ?_
      exact r_le (L' := [some (.ref b0)]) ⟨rfl, trivial⟩ K0
section
variable {x : Cn} {Q : Cn → Prop} {b : TT} {n : Nat}
variable {x : Cn} {Q : Cn → Prop} {b : TT} {n : Nat}
theorem lp_X3_advance_8 (c : gr x 59 5 = some 1) (hn : n ≤ 1200) (hb : ∀ i, i < n → gi x 1 i = b i) (h6 : gi x 59 6 = nI n) : ∀ d q y, q + d = n → ATf x y → gi y 59 7 = nI q → (∀ y, ATf x y → gi y 59 7 = nI (skB b d q) → GV mX3_advance 60 [some (.ref 59)] [] KW y Q) → GV mX3_advance 8 [some (.ref 59)] [] KW y Q := by
  intro d
  induction d with
  | zero =>
    intro q y hq f h7 k
    have v6 : gi y 59 6 = nI n := (f.2 59 6 (by omega)).trans h6
    refine v_X3_advance_8 k59 (by unfold gr; rw [f.1]; exact c) k1t ?_
    rw [v6, h7]
    exact ⟨fun _ => k y f h7, fun z => absurd (nI_le (by omega) (by omega)) z⟩
  | succ d ih =>
    intro q y hq f h7 k
    have v6 : gi y 59 6 = nI n := (f.2 59 6 (by omega)).trans h6
    have vb : gi y 1 q = b q := (f.2 1 q (by omega)).trans (hb q (by omega))
    have go : (b q = 32 ∨ b q = 10) → GV mX3_advance 8 [some (.ref 59)] [] KW (ui y 59 7 (nI q + 1)) Q := by
      intro z
      refine ih (q + 1) _ (by omega) (f.u (by omega)) (by rw [gi_ui, if_pos ⟨rfl, rfl⟩, nI_succ]) (fun w fw hw => k w fw ?_)
      unfold skB
      rw [if_pos z]
      exact hw
    have st : ¬ (b q = 32 ∨ b q = 10) → GV mX3_advance 60 [some (.ref 59)] [] KW y Q := by
      intro z
      refine k y f ?_
      unfold skB
      rw [if_neg z]
      exact h7
    refine v_X3_advance_8 k59 (by unfold gr; rw [f.1]; exact c) k1t ?_
    rw [v6, h7, nI_clamp (by omega), vb]
    exact ⟨fun z => absurd z (nI_ge (by omega) (by omega)), fun _ => ⟨vp_in_nI (by omega) (by decide), fun z => go (Or.inl z), fun z => ⟨fun z2 => st (fun w => w.elim z z2), fun z2 => go (Or.inr z2)⟩⟩⟩
theorem lp_X3_advance_112 {s : Nat} (c : gr x 59 5 = some 1) (hn : n ≤ 1200) (hb : ∀ i, i < n → gi x 1 i = b i) (h6 : gi x 59 6 = nI n) : ∀ d q y, q + d = n → s ≤ q → ATf x y → gi y 59 7 = nI s → gi y 59 8 = nI q → gi y 59 9 = 1 → (∀ y, ATf x y → gi y 59 7 = nI s → gi y 59 8 = nI (scL b d q) → gi y 59 9 = 1 → gi y 59 10 = wno b s (scL b d q) → Q y) → GV mX3_advance 112 [some (.ref 59)] [] KW y Q := by
  have fin : ∀ q y, q ≤ n → s ≤ q → ATf x y → gi y 59 7 = nI s → gi y 59 8 = nI q → gi y 59 9 = 1 → (∀ y, ATf x y → gi y 59 7 = nI s → gi y 59 8 = nI q → gi y 59 9 = 1 → gi y 59 10 = wno b s q → Q y) → mSI mX3_wordTold [.ref 59] KW y (fun r z => Q (ui z 59 10 r)) := by
    intro q y hq hs f h7 h8 h9 k
    refine sp_X3_wordTold (b := b) (n := n) (s := s) (e := q) (by unfold gr; rw [f.1]; exact c) hn (fun i hi => (f.2 1 i (by omega)).trans (hb i hi)) h7 h8 hq hs ?_
    exact k _ (f.u (by omega)) (by rw [gi_ui, if_neg (by omega)]; exact h7) (by rw [gi_ui, if_neg (by omega)]; exact h8) (by rw [gi_ui, if_neg (by omega)]; exact h9) (by rw [gi_ui, if_pos ⟨rfl, rfl⟩])
  intro d
  induction d with
  | zero =>
    intro q y hq hs f h7 h8 h9 k
    have v6 : gi y 59 6 = nI n := (f.2 59 6 (by omega)).trans h6
    refine v_X3_advance_112 k59 (by unfold gr; rw [f.1]; exact c) k1t ?_
    rw [v6, h8]
    exact ⟨fun _ => fin q y (by omega) hs f h7 h8 h9 k, fun z => absurd (nI_le (by omega) (by omega)) z⟩
  | succ d ih =>
    intro q y hq hs f h7 h8 h9 k
    have v6 : gi y 59 6 = nI n := (f.2 59 6 (by omega)).trans h6
    have vb : gi y 1 q = b q := (f.2 1 q (by omega)).trans (hb q (by omega))
    refine v_X3_advance_112 k59 (by unfold gr; rw [f.1]; exact c) k1t ?_
    rw [v6, h8, nI_clamp (by omega), vb]
    refine ⟨fun z => absurd z (nI_ge (by omega) (by omega)), fun _ => ⟨vp_in_nI (by omega) (by decide), fun z => ?_, fun z => ?_⟩⟩
    · refine fin q y (by omega) hs f h7 h8 h9 (fun w f1 f2 f3 f4 f5 => ?_)
      have e : scL b (d + 1) q = q := by unfold scL; rw [if_neg z]
      rw [e] at k
      exact k w f1 f2 f3 f4 f5
    · have e : scL b (d + 1) q = scL b d (q + 1) := by
        show (if 97 ≤ b q ∧ b q ≤ 122 then scL b d (q + 1) else q) = _
        rw [if_pos z]
      rw [e] at k
      exact ih (q + 1) _ (by omega) (by omega) (f.u (by omega)) (by rw [gi_ui, if_neg (by omega)]; exact h7) (by rw [gi_ui, if_pos ⟨rfl, rfl⟩, nI_succ]) (by rw [gi_ui, if_neg (by omega)]; exact h9) k
theorem lp_X3_advance_182 {s : Nat} (c : gr x 59 5 = some 1) (hn : n ≤ 1200) (hb : ∀ i, i < n → gi x 1 i = b i) (hB : ∀ i, i < n → isB (b i)) (h6 : gi x 59 6 = nI n) : ∀ d q V y, q + d = n → ATf x y → gi y 59 7 = nI s → gi y 59 8 = nI q → gi y 59 9 = 2 → gi y 59 10 = nI (min V 100000) → (∀ y, ATf x y → gi y 59 7 = nI s → gi y 59 8 = nI (scD b d q) → gi y 59 9 = 2 → gi y 59 10 = nI (min (nvD b d q V) 100000) → Q y) → GV mX3_advance 182 [some (.ref 59)] [] KW y Q := by
  intro d
  induction d with
  | zero =>
    intro q V y hq f h7 h8 h9 h10 k
    have v6 : gi y 59 6 = nI n := (f.2 59 6 (by omega)).trans h6
    refine v_X3_advance_182 k59 (by unfold gr; rw [f.1]; exact c) k1t ?_
    rw [v6, h8]
    exact ⟨fun _ => k y f h7 h8 h9 h10, fun z => absurd (nI_le (by omega) (by omega)) z⟩
  | succ d ih =>
    intro q V y hq f h7 h8 h9 h10 k
    have v6 : gi y 59 6 = nI n := (f.2 59 6 (by omega)).trans h6
    have vb : gi y 1 q = b q := (f.2 1 q (by omega)).trans (hb q (by omega))
    refine v_X3_advance_182 k59 (by unfold gr; rw [f.1]; exact c) k1t ?_
    rw [v6, h8, nI_clamp (by omega), vb]
    refine ⟨fun z => absurd z (nI_ge (by omega) (by omega)), fun _ => ⟨vp_in_nI (by omega) (by decide), fun z => ?_, fun z r hr => ?_⟩⟩
    · have e1 : scD b (d + 1) q = q := by unfold scD; rw [if_neg z]
      have e2 : nvD b (d + 1) q V = V := by unfold nvD; rw [if_neg z]
      rw [e1, e2] at k
      exact k y f h7 h8 h9 h10
    · have e1 : scD b (d + 1) q = scD b d (q + 1) := by
        show (if 48 ≤ b q ∧ b q ≤ 57 then scD b d (q + 1) else q) = _
        rw [if_pos z]
      have e2 : nvD b (d + 1) q V = nvD b d (q + 1) (10 * V + ((b q).toNatClampNeg - 48)) := by
        show (if 48 ≤ b q ∧ b q ≤ 57 then nvD b d (q + 1) (10 * V + ((b q).toNatClampNeg - 48)) else V) = _
        rw [if_pos z]
      rw [e1, e2] at k
      have hd := (FB_of (hB q (by omega))).2.2.2.2.2.2.2.1 z
      have hc := cap1 (V := V) hd.2.2
      rw [← hd.2.1] at hc
      rw [h10] at hr ⊢
      rw [hc] at hr ⊢
      rw [gi_ui, if_neg (by omega), h8] at hr
      rw [hr]
      exact ih (q + 1) _ _ (by omega) ((f.u (by omega)).u (by omega)) (by rw [gi_ui, if_neg (by omega), gi_ui, if_neg (by omega)]; exact h7) (by rw [gi_ui, if_pos ⟨rfl, rfl⟩, nI_succ]) (by rw [gi_ui, if_neg (by omega), gi_ui, if_neg (by omega)]; exact h9) (by rw [gi_ui, if_neg (by omega), gi_ui, if_pos ⟨rfl, rfl⟩]) k
theorem sp_X3_advance {x : Cn} {Q : Cn → Prop} {b : TT} {n p : Nat} (c : gr x 59 5 = some 1) (hn : n ≤ 1200) (hb : ∀ i, i < n → gi x 1 i = b i) (hB : ∀ i, i < n → isB (b i)) (h6 : gi x 59 6 = nI n) (h8 : gi x 59 8 = nI p) (hp : p ≤ n) (k : ∀ y, ATf x y → CTk y b n p → Q y) : mSV mX3_advance [.ref 59] KW x Q := by
  have hs := tS_b (b := b) hp
  refine v_X3_advance_0 k59 ?_
  refine lp_X3_advance_8 c hn hb h6 (n - p) p _ (by omega) ((ATf.rf x).u (by omega)) (by rw [gi_ui, if_pos ⟨rfl, rfl⟩]; exact h8) (fun y fy hy => ?_)
  have hy : gi y 59 7 = nI (tS b n p) := hy
  have y6 : gi y 59 6 = nI n := (fy.2 59 6 (by omega)).trans h6
  refine v_X3_advance_60 k59 ?_
  rw [hy]
  have u7 : gi (ui (ui y 59 8 (nI (tS b n p))) 59 10 0) 59 7 = nI (tS b n p) := by rw [gi_ui, if_neg (by omega), gi_ui, if_neg (by omega)]; exact hy
  have u6 : gi (ui (ui y 59 8 (nI (tS b n p))) 59 10 0) 59 6 = nI n := by rw [gi_ui, if_neg (by omega), gi_ui, if_neg (by omega)]; exact y6
  have u8 : gi (ui (ui y 59 8 (nI (tS b n p))) 59 10 0) 59 8 = nI (tS b n p) := by rw [gi_ui, if_neg (by omega), gi_ui, if_pos ⟨rfl, rfl⟩]
  have u10 : gi (ui (ui y 59 8 (nI (tS b n p))) 59 10 0) 59 10 = nI (min 0 100000) := by rw [gi_ui, if_pos ⟨rfl, rfl⟩]; rfl
  have fu : ATf x (ui (ui y 59 8 (nI (tS b n p))) 59 10 0) := (fy.u (by omega)).u (by omega)
  rw [u6, u7]
  generalize ui (ui y 59 8 (nI (tS b n p))) 59 10 0 = u at u6 u7 u8 u10 fu
  refine ⟨fun z => ?_, fun z => ?_⟩
  · have hlt : tS b n p < n := (nI_ltI (by omega) (by omega)).mp z
    have ub : gi u 1 (tS b n p) = b (tS b n p) := (fu.2 1 _ (by omega)).trans (hb _ hlt)
    refine v_X3_advance_92 k59 (by unfold gr; rw [fu.1]; exact c) k1t ?_
    have w7 : gi (ui u 59 9 3) 59 7 = nI (tS b n p) := by rw [gi_ui, if_neg (by omega)]; exact u7
    have wb : gi (ui u 59 9 3) 1 (tS b n p) = b (tS b n p) := by rw [gi_ui, if_neg (by omega)]; exact ub
    rw [w7, u7, nI_clamp (by omega), ub, wb]
    refine ⟨vp_in_nI (by omega) (by decide), fun z1 => ⟨fun z2 => ⟨vp_in_nI (by omega) (by decide), fun r hr => ?_⟩, fun z2 => ?_⟩, fun z1 => ?_⟩
    · have hK : tK b n p = 3 := by unfold tK; rw [if_neg (by omega), if_neg z1, if_neg z2]
      have hE : tE b n p = tS b n p + 1 := by unfold tE; rw [hK]; rfl
      rw [gi_ui, if_neg (by omega), gi_ui, if_neg (by omega), u8] at hr
      rw [hr]
      refine k _ (((fu.u (by omega)).u (by omega)).u (by omega)) ⟨?_, ?_, ?_, fun h => by omega, fun h => by omega, fun _ => ?_⟩
      · rw [gi_ui, if_neg (by omega), gi_ui, if_neg (by omega), gi_ui, if_neg (by omega)]; exact u7
      · rw [gi_ui, if_pos ⟨rfl, rfl⟩, hE, nI_succ]
      · rw [gi_ui, if_neg (by omega), gi_ui, if_neg (by omega), gi_ui, if_pos ⟨rfl, rfl⟩, hK]; rfl
      · rw [gi_ui, if_neg (by omega), gi_ui, if_pos ⟨rfl, rfl⟩]
    · have hK : tK b n p = 2 := by unfold tK; rw [if_neg (by omega), if_neg z1, if_pos z2]
      have hE : tE b n p = scD b (n - tS b n p) (tS b n p) := by unfold tE; rw [hK]; rfl
      refine lp_X3_advance_182 c hn hb hB h6 (n - tS b n p) (tS b n p) 0 _ (by omega) (fu.u (by omega)) (by rw [gi_ui, if_neg (by omega)]; exact u7) (by rw [gi_ui, if_neg (by omega)]; exact u8) (by rw [gi_ui, if_pos ⟨rfl, rfl⟩]) (by rw [gi_ui, if_neg (by omega)]; exact u10) (fun w f1 f2 f3 f4 f5 => k w f1 ⟨f2, by rw [f3, hE], by rw [f4, hK]; rfl, fun h => by omega, fun _ => f5, fun h => by omega⟩)
    · have hK : tK b n p = 1 := by unfold tK; rw [if_neg (by omega), if_pos z1]
      have hE : tE b n p = scL b (n - tS b n p) (tS b n p) := by unfold tE; rw [hK]; rfl
      refine lp_X3_advance_112 c hn hb h6 (n - tS b n p) (tS b n p) _ (by omega) (Nat.le_refl _) (fu.u (by omega)) (by rw [gi_ui, if_neg (by omega)]; exact u7) (by rw [gi_ui, if_neg (by omega)]; exact u8) (by rw [gi_ui, if_pos ⟨rfl, rfl⟩]) (fun w f1 f2 f3 f4 f5 => k w f1 ⟨f2, by rw [f3, hE], by rw [f4, hK]; rfl, fun _ => by rw [f5, hE], fun h => by omega, fun h => by omega⟩)
  · have hge : n ≤ tS b n p := by
      rcases Nat.lt_or_ge (tS b n p) n with q | q
      · exact absurd (nI_lt q (by omega)) z
      · exact q
    have hK : tK b n p = 0 := by unfold tK; rw [if_pos hge]
    have hE : tE b n p = tS b n p := by unfold tE; rw [hK]; rfl
    exact k _ (fu.u (by omega)) ⟨by rw [gi_ui, if_neg (by omega)]; exact u7, by rw [gi_ui, if_neg (by omega), u8, hE], by rw [gi_ui, if_pos ⟨rfl, rfl⟩, hK]; rfl, fun h => by omega, fun h => by omega, fun h => by omega⟩
def inS (k n : Int32) (N : Nat) : Prop := k < n → vp_in k N
def f_see (b : TT) (n k : Int32) : Int32 := if k < n then b k.toNatClampNeg &&& 255 else -1
end
set_option maxHeartbeats 2000000 in
theorem v_X8_see_0 {K : Sh} {x : Cn} {Q : Int32 → Cn → Prop} {b0 : Nat} {l1 : Int32} {b0_4 : Nat} {n_b0_4 : Nat} (k_b0 : kk K b0 = some (8, 0)) (g_b0_4 : gr x b0 4 = some b0_4) (k_b0_4 : kk K b0_4 = some (21, n_b0_4)) (K0 : ((gi x b0 6) ≤ l1 → (Q (-1) x)) ∧ (¬ (gi x b0 6) ≤ l1 → (vp_in l1 n_b0_4 ∧ (Q ((gi x b0_4 (l1 : Int32).toNatClampNeg) &&& 255) x)))) : mSI mX8_see [.ref b0, .int l1] K x Q := by
  refine s_I (by decide) (by simp [Value.category]) (Nat.le_of_ble_eq_true rfl) ?_
  show mGM mX8_see 0 [some (.ref b0), some (.int l1)] [] (hp K x) (PI K Q)
  refine r_iload_n (pc := 0) dX8_see_0 rfl ?_
  refine r_aload_n (pc := 1) dX8_see_1 rfl ?_
  refine s_getI (pc := 2) dX8_see_2 fl_X8_107 rfl k_b0 ?_
  refine r_icmp_ge (pc := 5) (tgt := 21) dX8_see_5 (by decide) (fun q => ?_) (fun q => ?_)
  · have K0 := K0.1 q
    refine r_iconst (pc := 21) (v := (-1)) dX8_see_21 (by decide) ?_
    exact s_iret rfl dX8_see_22 K0
  · have K0 := K0.2 q
    refine r_aload_n (pc := 8) dX8_see_8 rfl ?_
    refine s_getR (pc := 9) dX8_see_9 fl_X8_19 rfl k_b0 g_b0_4 ?_
    refine r_iload_n (pc := 12) dX8_see_12 rfl ?_
    obtain ⟨i_2, K0⟩ := K0
    refine s_bald (pc := 13) dX8_see_13 k_b0_4 i_2 ?_
    refine r_sipush (pc := 14) (v := 255) dX8_see_14 (by decide) ?_
    refine r_iand (pc := 17) dX8_see_17 ?_
    refine r_goto (pc := 18) (tgt := 22) dX8_see_18 (by decide) ?_
    exact s_iret rfl dX8_see_22 K0
section
variable {x : Cn} {Q : Cn → Prop} {b : TT} {n : Nat}
variable {x : Cn} {Q : Cn → Prop} {b : TT} {n : Nat}
theorem sp_X8_see {K : Sh} {x : Cn} {Q : Int32 → Cn → Prop} {a t N : Nat} {v : Int32} (h1 : kk K a = some (8, 0)) (h2 : gr x a 4 = some t) (h3 : kk K t = some (21, N)) (h4 : inS v (gi x a 6) N) (k : Q (f_see (gi x t) (gi x a 6) v) x) : mSI mX8_see [.ref a, .int v] K x Q := by
  refine v_X8_see_0 h1 h2 h3 ⟨fun z => ?_, fun z => ⟨h4 (Int32.not_le.mp z), ?_⟩⟩
  · unfold f_see at k
    rw [if_neg (Int32.not_lt.mpr z)] at k
    exact k
  · unfold f_see at k
    rw [if_pos (Int32.not_le.mp z)] at k
    exact k
theorem f_see_in {b : TT} {n q : Nat} (h : q < n) (hn : n < 2 ^ 31) : f_see b (nI n) (nI q) = b q &&& 255 := by unfold f_see; rw [if_pos (nI_lt h hn), nI_clamp (by omega)]
theorem f_see_out {b : TT} {n q : Nat} (h : n ≤ q) (hn : q < 2 ^ 31) : f_see b (nI n) (nI q) = -1 := by unfold f_see; rw [if_neg (fun z => absurd ((nI_ltI (by omega) (by omega)).mp z) (by omega))]
theorem inS_n {n q : Nat} (hn : n ≤ 1200) (hq : q < 2 ^ 31) : inS (nI q) (nI n) 1200 := fun z => vp_in_nI (by have := (nI_ltI (by omega) (by omega)).mp z; omega) (by decide)
end
set_option maxHeartbeats 2000000 in
theorem v_X8_advance_0 {K : Sh} {x : Cn} {Q : Cn → Prop} {b0 : Nat} {b0_4 : Nat} {n_b0_4 : Nat} (k_b0 : kk K b0 = some (8, 0)) (g_b0_4 : gr x b0 4 = some b0_4) (k_b0_4 : kk K b0_4 = some (21, n_b0_4)) (K0 : (inS (gi x b0 7) (gi x b0 6) n_b0_4) ∧ (((f_see (gi x b0_4) (gi x b0 6) (gi x b0 7)) = 32 → (GV mX8_advance 0 [some (.ref b0), none] [] K (ui x b0 7 ((gi x b0 7) + 1)) Q)) ∧ (¬ (f_see (gi x b0_4) (gi x b0 6) (gi x b0 7)) = 32 → ((¬ (f_see (gi x b0_4) (gi x b0 6) (gi x b0 7)) = 10 → (GV mX8_advance 39 [some (.ref b0), none] [] K x Q)) ∧ ((f_see (gi x b0_4) (gi x b0 6) (gi x b0 7)) = 10 → (GV mX8_advance 0 [some (.ref b0), none] [] K (ui x b0 7 ((gi x b0 7) + 1)) Q)))))) : mSV mX8_advance [.ref b0] K x Q := by
  refine s_V (by decide) (by simp [Value.category]) (Nat.le_of_ble_eq_true rfl) ?_
  show mGM mX8_advance 0 [some (.ref b0), none] [] (hp K x) (PV K Q)
  refine r_aload_n (pc := 0) dX8_advance_0 rfl ?_
  refine r_aload_n (pc := 1) dX8_advance_1 rfl ?_
  refine s_getI (pc := 2) dX8_advance_2 fl_X8_110 rfl k_b0 ?_
  obtain ⟨p_1, K0⟩ := K0
  refine s_VI (pc := 5) mX8_see (ci := 8) (a := b0) (As := [.int (gi x b0 7)]) dX8_advance_5 lk_X8_113 in_X8_see mo_X8_see ⟨by decide, rfl⟩ ⟨by decide, by decide⟩ (Nat.le_of_ble_eq_true rfl) k_b0 (sp_X8_see k_b0 g_b0_4 k_b0_4 p_1 ?_)
  refine r_bipush (pc := 8) (v := 32) dX8_advance_8 (by decide) ?_
  refine r_icmp_eq (pc := 10) (tgt := 26) dX8_advance_10 (by decide) (fun q => ?_) (fun q => ?_)
  · have K0 := K0.1 q
    refine r_aload_n (pc := 26) dX8_advance_26 rfl ?_
    refine r_dup (pc := 27) dX8_advance_27 rfl ?_
    refine s_getI (pc := 28) dX8_advance_28 fl_X8_110 rfl k_b0 ?_
    refine r_iconst (pc := 31) (v := 1) dX8_advance_31 (by decide) ?_
    refine r_iadd (pc := 32) dX8_advance_32 ?_
    refine s_putI (pc := 33) dX8_advance_33 fl_X8_110 rfl rfl k_b0 ?_
    refine r_goto (pc := 36) (tgt := 0) dX8_advance_36 (by decide) ?_
    exact r_le (L' := [some (.ref b0), none]) ⟨rfl, trivial⟩ K0
  · have K0 := K0.2 q
    refine r_aload_n (pc := 13) dX8_advance_13 rfl ?_
    refine r_aload_n (pc := 14) dX8_advance_14 rfl ?_
    refine s_getI (pc := 15) dX8_advance_15 fl_X8_110 rfl k_b0 ?_
    refine s_VI (pc := 18) mX8_see (ci := 8) (a := b0) (As := [.int (gi x b0 7)]) dX8_advance_18 lk_X8_113 in_X8_see mo_X8_see ⟨by decide, rfl⟩ ⟨by decide, by decide⟩ (Nat.le_of_ble_eq_true rfl) k_b0 (sp_X8_see k_b0 g_b0_4 k_b0_4 p_1 ?_)
    refine r_bipush (pc := 21) (v := 10) dX8_advance_21 (by decide) ?_
    refine r_icmp_ne (pc := 23) (tgt := 39) dX8_advance_23 (by decide) (fun q => ?_) (fun q => ?_)
    · have K0 := K0.1 q
      exact r_le (L' := [some (.ref b0), none]) ⟨rfl, trivial⟩ K0
    · have K0 := K0.2 q
      refine r_aload_n (pc := 26) dX8_advance_26 rfl ?_
      refine r_dup (pc := 27) dX8_advance_27 rfl ?_
      refine s_getI (pc := 28) dX8_advance_28 fl_X8_110 rfl k_b0 ?_
      refine r_iconst (pc := 31) (v := 1) dX8_advance_31 (by decide) ?_
      refine r_iadd (pc := 32) dX8_advance_32 ?_
      refine s_putI (pc := 33) dX8_advance_33 fl_X8_110 rfl rfl k_b0 ?_
      refine r_goto (pc := 36) (tgt := 0) dX8_advance_36 (by decide) ?_
      exact r_le (L' := [some (.ref b0), none]) ⟨rfl, trivial⟩ K0
set_option maxHeartbeats 2000000 in
theorem v_X8_advance_0g {K : Sh} {x : Cn} {Q : Cn → Prop} {b0 : Nat} {b0_4 : Nat} {n_b0_4 : Nat} (k_b0 : kk K b0 = some (8, 0)) (g_b0_4 : gr x b0 4 = some b0_4) (k_b0_4 : kk K b0_4 = some (21, n_b0_4)) (K0 : (inS (gi x b0 7) (gi x b0 6) n_b0_4) ∧ (((f_see (gi x b0_4) (gi x b0 6) (gi x b0 7)) = 32 → (GV mX8_advance 0 [some (.ref b0), none] [] K (ui x b0 7 ((gi x b0 7) + 1)) Q)) ∧ (¬ (f_see (gi x b0_4) (gi x b0 6) (gi x b0 7)) = 32 → ((¬ (f_see (gi x b0_4) (gi x b0 6) (gi x b0 7)) = 10 → (GV mX8_advance 39 [some (.ref b0), none] [] K x Q)) ∧ ((f_see (gi x b0_4) (gi x b0 6) (gi x b0 7)) = 10 → (GV mX8_advance 0 [some (.ref b0), none] [] K (ui x b0 7 ((gi x b0 7) + 1)) Q)))))) : GV mX8_advance 0 [some (.ref b0), none] [] K x Q := by
  show mGM mX8_advance 0 [some (.ref b0), none] [] (hp K x) (PV K Q)
  refine r_aload_n (pc := 0) dX8_advance_0 rfl ?_
  refine r_aload_n (pc := 1) dX8_advance_1 rfl ?_
  refine s_getI (pc := 2) dX8_advance_2 fl_X8_110 rfl k_b0 ?_
  obtain ⟨p_1, K0⟩ := K0
  refine s_VI (pc := 5) mX8_see (ci := 8) (a := b0) (As := [.int (gi x b0 7)]) dX8_advance_5 lk_X8_113 in_X8_see mo_X8_see ⟨by decide, rfl⟩ ⟨by decide, by decide⟩ (Nat.le_of_ble_eq_true rfl) k_b0 (sp_X8_see k_b0 g_b0_4 k_b0_4 p_1 ?_)
  refine r_bipush (pc := 8) (v := 32) dX8_advance_8 (by decide) ?_
  refine r_icmp_eq (pc := 10) (tgt := 26) dX8_advance_10 (by decide) (fun q => ?_) (fun q => ?_)
  · have K0 := K0.1 q
    refine r_aload_n (pc := 26) dX8_advance_26 rfl ?_
    refine r_dup (pc := 27) dX8_advance_27 rfl ?_
    refine s_getI (pc := 28) dX8_advance_28 fl_X8_110 rfl k_b0 ?_
    refine r_iconst (pc := 31) (v := 1) dX8_advance_31 (by decide) ?_
    refine r_iadd (pc := 32) dX8_advance_32 ?_
    refine s_putI (pc := 33) dX8_advance_33 fl_X8_110 rfl rfl k_b0 ?_
    refine r_goto (pc := 36) (tgt := 0) dX8_advance_36 (by decide) ?_
    exact r_le (L' := [some (.ref b0), none]) ⟨rfl, trivial⟩ K0
  · have K0 := K0.2 q
    refine r_aload_n (pc := 13) dX8_advance_13 rfl ?_
    refine r_aload_n (pc := 14) dX8_advance_14 rfl ?_
    refine s_getI (pc := 15) dX8_advance_15 fl_X8_110 rfl k_b0 ?_
    refine s_VI (pc := 18) mX8_see (ci := 8) (a := b0) (As := [.int (gi x b0 7)]) dX8_advance_18 lk_X8_113 in_X8_see mo_X8_see ⟨by decide, rfl⟩ ⟨by decide, by decide⟩ (Nat.le_of_ble_eq_true rfl) k_b0 (sp_X8_see k_b0 g_b0_4 k_b0_4 p_1 ?_)
    refine r_bipush (pc := 21) (v := 10) dX8_advance_21 (by decide) ?_
    refine r_icmp_ne (pc := 23) (tgt := 39) dX8_advance_23 (by decide) (fun q => ?_) (fun q => ?_)
    · have K0 := K0.1 q
      exact r_le (L' := [some (.ref b0), none]) ⟨rfl, trivial⟩ K0
    · have K0 := K0.2 q
      refine r_aload_n (pc := 26) dX8_advance_26 rfl ?_
      refine r_dup (pc := 27) dX8_advance_27 rfl ?_
      refine s_getI (pc := 28) dX8_advance_28 fl_X8_110 rfl k_b0 ?_
      refine r_iconst (pc := 31) (v := 1) dX8_advance_31 (by decide) ?_
      refine r_iadd (pc := 32) dX8_advance_32 ?_
      refine s_putI (pc := 33) dX8_advance_33 fl_X8_110 rfl rfl k_b0 ?_
      refine r_goto (pc := 36) (tgt := 0) dX8_advance_36 (by decide) ?_
      exact r_le (L' := [some (.ref b0), none]) ⟨rfl, trivial⟩ K0
set_option maxHeartbeats 2000000 in
theorem v_X8_advance_39 {K : Sh} {x : Cn} {Q : Cn → Prop} {b0 : Nat} {b0_4 : Nat} {n_b0_4 : Nat} (k_b0 : kk K b0 = some (8, 0)) (g_b0_4 : gr x b0 4 = some b0_4) (k_b0_4 : kk K b0_4 = some (21, n_b0_4)) (K0 : (inS (gi (ui x b0 8 (gi x b0 7)) b0 7) (gi (ui x b0 8 (gi x b0 7)) b0 6) n_b0_4) ∧ (∀ r_2 : Int32, r_2 = (f_see (gi (ui x b0 8 (gi x b0 7)) b0_4) (gi (ui x b0 8 (gi x b0 7)) b0 6) (gi (ui x b0 8 (gi x b0 7)) b0 7)) → ((¬ r_2 = (-1) → (GV mX8_advance 69 [some (.ref b0), some (.int r_2)] [] K (ui x b0 8 (gi x b0 7)) Q)) ∧ (r_2 = (-1) → (Q (ui (ui x b0 8 (gi x b0 7)) b0 9 0)))))) : GV mX8_advance 39 [some (.ref b0), none] [] K x Q := by
  show mGM mX8_advance 39 [some (.ref b0), none] [] (hp K x) (PV K Q)
  refine r_aload_n (pc := 39) dX8_advance_39 rfl ?_
  refine r_aload_n (pc := 40) dX8_advance_40 rfl ?_
  refine s_getI (pc := 41) dX8_advance_41 fl_X8_110 rfl k_b0 ?_
  refine s_putI (pc := 44) dX8_advance_44 fl_X8_116 rfl rfl k_b0 ?_
  refine r_aload_n (pc := 47) dX8_advance_47 rfl ?_
  refine r_aload_n (pc := 48) dX8_advance_48 rfl ?_
  refine s_getI (pc := 49) dX8_advance_49 fl_X8_110 rfl k_b0 ?_
  obtain ⟨p_1, K0⟩ := K0
  refine s_VI (pc := 52) mX8_see (ci := 8) (a := b0) (As := [.int (gi (ui x b0 8 (gi x b0 7)) b0 7)]) dX8_advance_52 lk_X8_113 in_X8_see mo_X8_see ⟨by decide, rfl⟩ ⟨by decide, by decide⟩ (Nat.le_of_ble_eq_true rfl) k_b0 (sp_X8_see k_b0 g_b0_4 k_b0_4 p_1 ?_)
  obtain ⟨r_2, w_3⟩ : ∃ z : Int32, z = (f_see (gi (ui x b0 8 (gi x b0 7)) b0_4) (gi (ui x b0 8 (gi x b0 7)) b0 6) (gi (ui x b0 8 (gi x b0 7)) b0 7)) := ⟨_, rfl⟩
  rw [← w_3]
  have K0 := K0 r_2 w_3
  refine r_istore_n (pc := 55) dX8_advance_55 (by decide) ?_
  refine r_iload_n (pc := 56) (L := [some (.ref b0), some (.int r_2)]) dX8_advance_56 rfl ?_
  refine r_iconst (pc := 57) (v := (-1)) dX8_advance_57 (by decide) ?_
  refine r_icmp_ne (pc := 58) (tgt := 69) dX8_advance_58 (by decide) (fun q => ?_) (fun q => ?_)
  · have K0 := K0.1 q
    exact r_le (L' := [some (.ref b0), some (.int r_2)]) ⟨rfl, ⟨rfl, trivial⟩⟩ K0
  · have K0 := K0.2 q
    refine r_aload_n (pc := 61) dX8_advance_61 rfl ?_
    refine r_iconst (pc := 62) (v := 0) dX8_advance_62 (by decide) ?_
    refine s_putI (pc := 63) dX8_advance_63 fl_X8_119 rfl rfl k_b0 ?_
    refine r_goto (pc := 66) (tgt := 235) dX8_advance_66 (by decide) ?_
    exact s_ret rfl dX8_advance_235 K0
set_option maxHeartbeats 2000000 in
theorem v_X8_advance_69 {K : Sh} {x : Cn} {Q : Cn → Prop} {b0 : Nat} {l1 : Int32}   (K0 : (¬ (97 ≤ l1 ∧ l1 ≤ 122) → (GV mX8_advance 125 [some (.ref b0), some (.int l1)] [] K x Q)) ∧ ((97 ≤ l1 ∧ l1 ≤ 122) → (GV mX8_advance 83 [some (.ref b0), some (.int l1)] [] K x Q))) : GV mX8_advance 69 [some (.ref b0), some (.int l1)] [] K x Q := by
  show mGM mX8_advance 69 [some (.ref b0), some (.int l1)] [] (hp K x) (PV K Q)
  refine r_iload_n (pc := 69) dX8_advance_69 rfl ?_
  refine r_i2l (pc := 70) dX8_advance_70 ?_
  refine r_ldc2 (pc := 71) (v := 97) dX8_advance_71 cn_X8_122 ?_
  refine r_ldc2 (pc := 74) (v := 122) dX8_advance_74 cn_X8_124 ?_
  refine s_SI (pc := 77) mX8_in (As := [.long ((l1 : Int32).toInt64), .long 97, .long 122]) dX8_advance_77 lk_X8_45 st_X8_in mo_X8_in ⟨by decide, by decide⟩ (Nat.le_of_ble_eq_true rfl) (sq_X8_in (v := l1) (lo := 97) (hi := 122) rfl (by decide) (by decide) ?_)
  refine r_if_eq (pc := 80) (tgt := 125) dX8_advance_80 (by decide) (fun q => ?_) (fun q => ?_)
  · have q := (b2i_z _).mp q
    have K0 := K0.1 q
    exact r_le (L' := [some (.ref b0), some (.int l1)]) ⟨rfl, ⟨rfl, trivial⟩⟩ K0
  · have q := b2i_nz q
    have K0 := K0.2 q
    exact r_le (L' := [some (.ref b0), some (.int l1)]) ⟨rfl, ⟨rfl, trivial⟩⟩ K0
set_option maxHeartbeats 2000000 in
theorem v_X8_advance_83 {K : Sh} {x : Cn} {Q : Cn → Prop} {b0 : Nat} {l1 : Int32} {b0_4 : Nat} {n_b0_4 : Nat} (k_b0 : kk K b0 = some (8, 0)) (g_b0_4 : gr x b0 4 = some b0_4) (k_b0_4 : kk K b0_4 = some (21, n_b0_4)) (K0 : (inS (gi x b0 7) (gi x b0 6) n_b0_4) ∧ ((¬ (97 ≤ (f_see (gi x b0_4) (gi x b0 6) (gi x b0 7)) ∧ (f_see (gi x b0_4) (gi x b0 6) (gi x b0 7)) ≤ 122) → (Q (ui x b0 9 1))) ∧ ((97 ≤ (f_see (gi x b0_4) (gi x b0 6) (gi x b0 7)) ∧ (f_see (gi x b0_4) (gi x b0 6) (gi x b0 7)) ≤ 122) → (GV mX8_advance 83 [some (.ref b0), some (.int l1)] [] K (ui x b0 7 ((gi x b0 7) + 1)) Q)))) : GV mX8_advance 83 [some (.ref b0), some (.int l1)] [] K x Q := by
  show mGM mX8_advance 83 [some (.ref b0), some (.int l1)] [] (hp K x) (PV K Q)
  refine r_aload_n (pc := 83) dX8_advance_83 rfl ?_
  refine r_aload_n (pc := 84) dX8_advance_84 rfl ?_
  refine s_getI (pc := 85) dX8_advance_85 fl_X8_110 rfl k_b0 ?_
  obtain ⟨p_1, K0⟩ := K0
  refine s_VI (pc := 88) mX8_see (ci := 8) (a := b0) (As := [.int (gi x b0 7)]) dX8_advance_88 lk_X8_113 in_X8_see mo_X8_see ⟨by decide, rfl⟩ ⟨by decide, by decide⟩ (Nat.le_of_ble_eq_true rfl) k_b0 (sp_X8_see k_b0 g_b0_4 k_b0_4 p_1 ?_)
  refine r_i2l (pc := 91) dX8_advance_91 ?_
  refine r_ldc2 (pc := 92) (v := 97) dX8_advance_92 cn_X8_122 ?_
  refine r_ldc2 (pc := 95) (v := 122) dX8_advance_95 cn_X8_124 ?_
  refine s_SI (pc := 98) mX8_in (As := [.long (((f_see (gi x b0_4) (gi x b0 6) (gi x b0 7)) : Int32).toInt64), .long 97, .long 122]) dX8_advance_98 lk_X8_45 st_X8_in mo_X8_in ⟨by decide, by decide⟩ (Nat.le_of_ble_eq_true rfl) (sq_X8_in (v := (f_see (gi x b0_4) (gi x b0 6) (gi x b0 7))) (lo := 97) (hi := 122) rfl (by decide) (by decide) ?_)
  refine r_if_eq (pc := 101) (tgt := 117) dX8_advance_101 (by decide) (fun q => ?_) (fun q => ?_)
  · have q := (b2i_z _).mp q
    have K0 := K0.1 q
    refine r_aload_n (pc := 117) dX8_advance_117 rfl ?_
    refine r_iconst (pc := 118) (v := 1) dX8_advance_118 (by decide) ?_
    refine s_putI (pc := 119) dX8_advance_119 fl_X8_119 rfl rfl k_b0 ?_
    refine r_goto (pc := 122) (tgt := 235) dX8_advance_122 (by decide) ?_
    exact s_ret rfl dX8_advance_235 K0
  · have q := b2i_nz q
    have K0 := K0.2 q
    refine r_aload_n (pc := 104) dX8_advance_104 rfl ?_
    refine r_dup (pc := 105) dX8_advance_105 rfl ?_
    refine s_getI (pc := 106) dX8_advance_106 fl_X8_110 rfl k_b0 ?_
    refine r_iconst (pc := 109) (v := 1) dX8_advance_109 (by decide) ?_
    refine r_iadd (pc := 110) dX8_advance_110 ?_
    refine s_putI (pc := 111) dX8_advance_111 fl_X8_110 rfl rfl k_b0 ?_
    refine r_goto (pc := 114) (tgt := 83) dX8_advance_114 (by decide) ?_
    exact r_le (L' := [some (.ref b0), some (.int l1)]) ⟨rfl, ⟨rfl, trivial⟩⟩ K0
set_option maxHeartbeats 2000000 in
theorem v_X8_advance_125 {K : Sh} {x : Cn} {Q : Cn → Prop} {b0 : Nat} {l1 : Int32}  (k_b0 : kk K b0 = some (8, 0)) (K0 : (¬ (48 ≤ l1 ∧ l1 ≤ 57) → (Q (ui (ui (ui x b0 9 3) b0 10 l1) b0 7 ((gi (ui (ui x b0 9 3) b0 10 l1) b0 7) + 1)))) ∧ ((48 ≤ l1 ∧ l1 ≤ 57) → (GV mX8_advance 144 [some (.ref b0), some (.int l1)] [] K (ui x b0 10 0) Q))) : GV mX8_advance 125 [some (.ref b0), some (.int l1)] [] K x Q := by
  show mGM mX8_advance 125 [some (.ref b0), some (.int l1)] [] (hp K x) (PV K Q)
  refine r_iload_n (pc := 125) dX8_advance_125 rfl ?_
  refine r_i2l (pc := 126) dX8_advance_126 ?_
  refine r_ldc2 (pc := 127) (v := 48) dX8_advance_127 cn_X8_126 ?_
  refine r_ldc2 (pc := 130) (v := 57) dX8_advance_130 cn_X8_128 ?_
  refine s_SI (pc := 133) mX8_in (As := [.long ((l1 : Int32).toInt64), .long 48, .long 57]) dX8_advance_133 lk_X8_45 st_X8_in mo_X8_in ⟨by decide, by decide⟩ (Nat.le_of_ble_eq_true rfl) (sq_X8_in (v := l1) (lo := 48) (hi := 57) rfl (by decide) (by decide) ?_)
  refine r_if_eq (pc := 136) (tgt := 215) dX8_advance_136 (by decide) (fun q => ?_) (fun q => ?_)
  · have q := (b2i_z _).mp q
    have K0 := K0.1 q
    refine r_aload_n (pc := 215) dX8_advance_215 rfl ?_
    refine r_iconst (pc := 216) (v := 3) dX8_advance_216 (by decide) ?_
    refine s_putI (pc := 217) dX8_advance_217 fl_X8_119 rfl rfl k_b0 ?_
    refine r_aload_n (pc := 220) dX8_advance_220 rfl ?_
    refine r_iload_n (pc := 221) dX8_advance_221 rfl ?_
    refine s_putI (pc := 222) dX8_advance_222 fl_X8_130 rfl rfl k_b0 ?_
    refine r_aload_n (pc := 225) dX8_advance_225 rfl ?_
    refine r_dup (pc := 226) dX8_advance_226 rfl ?_
    refine s_getI (pc := 227) dX8_advance_227 fl_X8_110 rfl k_b0 ?_
    refine r_iconst (pc := 230) (v := 1) dX8_advance_230 (by decide) ?_
    refine r_iadd (pc := 231) dX8_advance_231 ?_
    refine s_putI (pc := 232) dX8_advance_232 fl_X8_110 rfl rfl k_b0 ?_
    exact s_ret rfl dX8_advance_235 K0
  · have q := b2i_nz q
    have K0 := K0.2 q
    refine r_aload_n (pc := 139) dX8_advance_139 rfl ?_
    refine r_iconst (pc := 140) (v := 0) dX8_advance_140 (by decide) ?_
    refine s_putI (pc := 141) dX8_advance_141 fl_X8_130 rfl rfl k_b0 ?_
    exact r_le (L' := [some (.ref b0), some (.int l1)]) ⟨rfl, ⟨rfl, trivial⟩⟩ K0
set_option maxHeartbeats 2000000 in
theorem v_X8_advance_144 {K : Sh} {x : Cn} {Q : Cn → Prop} {b0 : Nat} {l1 : Int32} {b0_4 : Nat} {n_b0_4 : Nat} (k_b0 : kk K b0 = some (8, 0)) (g_b0_4 : gr x b0 4 = some b0_4) (k_b0_4 : kk K b0_4 = some (21, n_b0_4)) (K0 : (inS (gi x b0 7) (gi x b0 6) n_b0_4) ∧ ((¬ (48 ≤ (f_see (gi x b0_4) (gi x b0 6) (gi x b0 7)) ∧ (f_see (gi x b0_4) (gi x b0 6) (gi x b0 7)) ≤ 57) → (Q (ui x b0 9 2))) ∧ ((48 ≤ (f_see (gi x b0_4) (gi x b0 6) (gi x b0 7)) ∧ (f_see (gi x b0_4) (gi x b0 6) (gi x b0 7)) ≤ 57) → (∀ r_3 : Int32, r_3 = gi (ui x b0 10 (if (((10 * (gi x b0 10)) + (f_see (gi x b0_4) (gi x b0 6) (gi x b0 7))) - 48) < 9999 then (((10 * (gi x b0 10)) + (f_see (gi x b0_4) (gi x b0 6) (gi x b0 7))) - 48) else 9999)) b0 7 → (GV mX8_advance 144 [some (.ref b0), some (.int l1)] [] K (ui (ui x b0 10 (if (((10 * (gi x b0 10)) + (f_see (gi x b0_4) (gi x b0 6) (gi x b0 7))) - 48) < 9999 then (((10 * (gi x b0 10)) + (f_see (gi x b0_4) (gi x b0 6) (gi x b0 7))) - 48) else 9999)) b0 7 (r_3 + 1)) Q))))) : GV mX8_advance 144 [some (.ref b0), some (.int l1)] [] K x Q := by
  show mGM mX8_advance 144 [some (.ref b0), some (.int l1)] [] (hp K x) (PV K Q)
  refine r_aload_n (pc := 144) dX8_advance_144 rfl ?_
  refine r_aload_n (pc := 145) dX8_advance_145 rfl ?_
  refine s_getI (pc := 146) dX8_advance_146 fl_X8_110 rfl k_b0 ?_
  obtain ⟨p_1, K0⟩ := K0
  refine s_VI (pc := 149) mX8_see (ci := 8) (a := b0) (As := [.int (gi x b0 7)]) dX8_advance_149 lk_X8_113 in_X8_see mo_X8_see ⟨by decide, rfl⟩ ⟨by decide, by decide⟩ (Nat.le_of_ble_eq_true rfl) k_b0 (sp_X8_see k_b0 g_b0_4 k_b0_4 p_1 ?_)
  refine r_i2l (pc := 152) dX8_advance_152 ?_
  refine r_ldc2 (pc := 153) (v := 48) dX8_advance_153 cn_X8_126 ?_
  refine r_ldc2 (pc := 156) (v := 57) dX8_advance_156 cn_X8_128 ?_
  refine s_SI (pc := 159) mX8_in (As := [.long (((f_see (gi x b0_4) (gi x b0 6) (gi x b0 7)) : Int32).toInt64), .long 48, .long 57]) dX8_advance_159 lk_X8_45 st_X8_in mo_X8_in ⟨by decide, by decide⟩ (Nat.le_of_ble_eq_true rfl) (sq_X8_in (v := (f_see (gi x b0_4) (gi x b0 6) (gi x b0 7))) (lo := 48) (hi := 57) rfl (by decide) (by decide) ?_)
  refine r_if_eq (pc := 162) (tgt := 207) dX8_advance_162 (by decide) (fun q => ?_) (fun q => ?_)
  · have q := (b2i_z _).mp q
    have K0 := K0.1 q
    refine r_aload_n (pc := 207) dX8_advance_207 rfl ?_
    refine r_iconst (pc := 208) (v := 2) dX8_advance_208 (by decide) ?_
    refine s_putI (pc := 209) dX8_advance_209 fl_X8_119 rfl rfl k_b0 ?_
    refine r_goto (pc := 212) (tgt := 235) dX8_advance_212 (by decide) ?_
    exact s_ret rfl dX8_advance_235 K0
  · have q := b2i_nz q
    have K0 := K0.2 q
    refine r_aload_n (pc := 165) dX8_advance_165 rfl ?_
    refine r_sipush (pc := 166) (v := 9999) dX8_advance_166 (by decide) ?_
    refine r_bipush (pc := 169) (v := 10) dX8_advance_169 (by decide) ?_
    refine r_aload_n (pc := 171) dX8_advance_171 rfl ?_
    refine s_getI (pc := 172) dX8_advance_172 fl_X8_130 rfl k_b0 ?_
    refine r_imul (pc := 175) dX8_advance_175 ?_
    refine r_aload_n (pc := 176) dX8_advance_176 rfl ?_
    refine r_aload_n (pc := 177) dX8_advance_177 rfl ?_
    refine s_getI (pc := 178) dX8_advance_178 fl_X8_110 rfl k_b0 ?_
    refine s_VI (pc := 181) mX8_see (ci := 8) (a := b0) (As := [.int (gi x b0 7)]) dX8_advance_181 lk_X8_113 in_X8_see mo_X8_see ⟨by decide, rfl⟩ ⟨by decide, by decide⟩ (Nat.le_of_ble_eq_true rfl) k_b0 (sp_X8_see k_b0 g_b0_4 k_b0_4 p_1 ?_)
    refine r_iadd (pc := 184) dX8_advance_184 ?_
    refine r_bipush (pc := 185) (v := 48) dX8_advance_185 (by decide) ?_
    refine r_isub (pc := 187) dX8_advance_187 ?_
    refine r_mmin (pc := 188) dX8_advance_188 lk_X8_133 mw_min ⟨by decide, by decide⟩ (Nat.le_of_ble_eq_true rfl) ?_
    refine s_putI (pc := 191) dX8_advance_191 fl_X8_130 rfl rfl k_b0 ?_
    refine r_aload_n (pc := 194) dX8_advance_194 rfl ?_
    refine r_dup (pc := 195) dX8_advance_195 rfl ?_
    refine s_getI (pc := 196) dX8_advance_196 fl_X8_110 rfl k_b0 ?_
    obtain ⟨r_3, w_4⟩ : ∃ z : Int32, z = gi (ui x b0 10 (if (((10 * (gi x b0 10)) + (f_see (gi x b0_4) (gi x b0 6) (gi x b0 7))) - 48) < 9999 then (((10 * (gi x b0 10)) + (f_see (gi x b0_4) (gi x b0 6) (gi x b0 7))) - 48) else 9999)) b0 7 := ⟨_, rfl⟩
    rw [← w_4]
    have K0 := K0 r_3 w_4
    refine r_iconst (pc := 199) (v := 1) dX8_advance_199 (by decide) ?_
    refine r_iadd (pc := 200) dX8_advance_200 ?_
    refine s_putI (pc := 201) dX8_advance_201 fl_X8_110 rfl rfl k_b0 ?_
    refine r_goto (pc := 204) (tgt := 144) dX8_advance_204 (by decide) ?_
    exact r_le (L' := [some (.ref b0), some (.int l1)]) ⟨rfl, ⟨rfl, trivial⟩⟩ K0
section
variable {x : Cn} {Q : Cn → Prop} {b : TT} {n : Nat}
variable {x : Cn} {Q : Cn → Prop} {b : TT} {n : Nat}
theorem lp_X8_advance_0 (c : gr x 717 4 = some 720) (hn : n ≤ 1200) (hb : gi x 720 = b) (hB : ∀ i, i < n → isB (b i)) (h6 : gi x 717 6 = nI n) : ∀ d q y, q + d = n → BTf x y → gi y 717 7 = nI q → (∀ y, BTf x y → gi y 717 7 = nI (skB b d q) → GV mX8_advance 39 [some (.ref 717), none] [] KW y Q) → GV mX8_advance 0 [some (.ref 717), none] [] KW y Q := by
  intro d
  induction d with
  | zero =>
    intro q y hq f h7 k
    have v6 : gi y 717 6 = nI n := (f.2 717 6 (by omega)).trans h6
    refine v_X8_advance_0g km (by unfold gr; rw [f.1]; exact c) k720 ?_
    rw [v6, h7, f_see_out (by omega) (by omega)]
    exact ⟨inS_n hn (by omega), fun z => absurd z (by decide), fun _ => ⟨fun _ => k y f h7, fun z => absurd z (by decide)⟩⟩
  | succ d ih =>
    intro q y hq f h7 k
    have v6 : gi y 717 6 = nI n := (f.2 717 6 (by omega)).trans h6
    have vb : gi y 720 = b := (funext fun i => f.2 720 i (by omega)).trans hb
    have go : (b q = 32 ∨ b q = 10) → GV mX8_advance 0 [some (.ref 717), none] [] KW (ui y 717 7 (nI q + 1)) Q := by
      intro z
      refine ih (q + 1) _ (by omega) (f.u (by omega)) (by rw [gi_ui, if_pos ⟨rfl, rfl⟩, nI_succ]) (fun w fw hw => k w fw ?_)
      unfold skB
      rw [if_pos z]
      exact hw
    have st : ¬ (b q = 32 ∨ b q = 10) → GV mX8_advance 39 [some (.ref 717), none] [] KW y Q := by
      intro z
      refine k y f ?_
      unfold skB
      rw [if_neg z]
      exact h7
    have fb := FB_of (hB q (by omega))
    refine v_X8_advance_0g km (by unfold gr; rw [f.1]; exact c) k720 ?_
    rw [v6, h7, vb, f_see_in (by omega) (by omega), fb.1, fb.2.1]
    exact ⟨inS_n hn (by omega), fun z => go (Or.inl z), fun z => ⟨fun z2 => st (fun w => w.elim z z2), fun z2 => go (Or.inr z2)⟩⟩
theorem lp_X8_advance_83 {s : Nat} {l1 : Int32} (c : gr x 717 4 = some 720) (hn : n ≤ 1200) (hb : gi x 720 = b) (hB : ∀ i, i < n → isB (b i)) (h6 : gi x 717 6 = nI n) : ∀ d q y, q + d = n → BTf x y → gi y 717 8 = nI s → gi y 717 7 = nI q → (∀ y, BTf x y → gi y 717 8 = nI s → gi y 717 7 = nI (scL b d q) → gi y 717 9 = 1 → Q y) → GV mX8_advance 83 [some (.ref 717), some (.int l1)] [] KW y Q := by
  intro d
  induction d with
  | zero =>
    intro q y hq f h8 h7 k
    have v6 : gi y 717 6 = nI n := (f.2 717 6 (by omega)).trans h6
    refine v_X8_advance_83 km (by unfold gr; rw [f.1]; exact c) k720 ?_
    rw [v6, h7, f_see_out (by omega) (by omega)]
    exact ⟨inS_n hn (by omega), fun _ => k _ (f.u (by omega)) (by rw [gi_ui, if_neg (by omega)]; exact h8) (by rw [gi_ui, if_neg (by omega)]; exact h7) (by rw [gi_ui, if_pos ⟨rfl, rfl⟩]), fun z => absurd z.1 (by decide)⟩
  | succ d ih =>
    intro q y hq f h8 h7 k
    have v6 : gi y 717 6 = nI n := (f.2 717 6 (by omega)).trans h6
    have vb : gi y 720 = b := (funext fun i => f.2 720 i (by omega)).trans hb
    have fb := FB_of (hB q (by omega))
    refine v_X8_advance_83 km (by unfold gr; rw [f.1]; exact c) k720 ?_
    rw [v6, h7, vb, f_see_in (by omega) (by omega), fb.2.2.1]
    refine ⟨inS_n hn (by omega), fun z => ?_, fun z => ?_⟩
    · have e : scL b (d + 1) q = q := by unfold scL; rw [if_neg z]
      rw [e] at k
      exact k _ (f.u (by omega)) (by rw [gi_ui, if_neg (by omega)]; exact h8) (by rw [gi_ui, if_neg (by omega)]; exact h7) (by rw [gi_ui, if_pos ⟨rfl, rfl⟩])
    · have e : scL b (d + 1) q = scL b d (q + 1) := by
        show (if 97 ≤ b q ∧ b q ≤ 122 then scL b d (q + 1) else q) = _
        rw [if_pos z]
      rw [e] at k
      exact ih (q + 1) _ (by omega) (f.u (by omega)) (by rw [gi_ui, if_neg (by omega)]; exact h8) (by rw [gi_ui, if_pos ⟨rfl, rfl⟩, nI_succ]) k
theorem lp_X8_advance_144 {s : Nat} {l1 : Int32} (c : gr x 717 4 = some 720) (hn : n ≤ 1200) (hb : gi x 720 = b) (hB : ∀ i, i < n → isB (b i)) (h6 : gi x 717 6 = nI n) : ∀ d q V y, q + d = n → BTf x y → gi y 717 8 = nI s → gi y 717 7 = nI q → gi y 717 10 = nI (min V 9999) → (∀ y, BTf x y → gi y 717 8 = nI s → gi y 717 7 = nI (scD b d q) → gi y 717 9 = 2 → gi y 717 10 = nI (min (nvD b d q V) 9999) → Q y) → GV mX8_advance 144 [some (.ref 717), some (.int l1)] [] KW y Q := by
  intro d
  induction d with
  | zero =>
    intro q V y hq f h8 h7 h10 k
    have v6 : gi y 717 6 = nI n := (f.2 717 6 (by omega)).trans h6
    refine v_X8_advance_144 km (by unfold gr; rw [f.1]; exact c) k720 ?_
    rw [v6, h7, f_see_out (by omega) (by omega)]
    exact ⟨inS_n hn (by omega), fun _ => k _ (f.u (by omega)) (by rw [gi_ui, if_neg (by omega)]; exact h8) (by rw [gi_ui, if_neg (by omega)]; exact h7) (by rw [gi_ui, if_pos ⟨rfl, rfl⟩]) (by rw [gi_ui, if_neg (by omega)]; exact h10), fun z => absurd z.1 (by decide)⟩
  | succ d ih =>
    intro q V y hq f h8 h7 h10 k
    have v6 : gi y 717 6 = nI n := (f.2 717 6 (by omega)).trans h6
    have vb : gi y 720 = b := (funext fun i => f.2 720 i (by omega)).trans hb
    have fb := FB_of (hB q (by omega))
    refine v_X8_advance_144 km (by unfold gr; rw [f.1]; exact c) k720 ?_
    rw [v6, h7, vb, f_see_in (by omega) (by omega), fb.2.2.2.1]
    refine ⟨inS_n hn (by omega), fun z => ?_, fun z r hr => ?_⟩
    · have e1 : scD b (d + 1) q = q := by unfold scD; rw [if_neg z]
      have e2 : nvD b (d + 1) q V = V := by unfold nvD; rw [if_neg z]
      rw [e1, e2] at k
      exact k _ (f.u (by omega)) (by rw [gi_ui, if_neg (by omega)]; exact h8) (by rw [gi_ui, if_neg (by omega)]; exact h7) (by rw [gi_ui, if_pos ⟨rfl, rfl⟩]) (by rw [gi_ui, if_neg (by omega)]; exact h10)
    · have e1 : scD b (d + 1) q = scD b d (q + 1) := by
        show (if 48 ≤ b q ∧ b q ≤ 57 then scD b d (q + 1) else q) = _
        rw [if_pos z]
      have e2 : nvD b (d + 1) q V = nvD b d (q + 1) (10 * V + ((b q).toNatClampNeg - 48)) := by
        show (if 48 ≤ b q ∧ b q ≤ 57 then nvD b d (q + 1) (10 * V + ((b q).toNatClampNeg - 48)) else V) = _
        rw [if_pos z]
      rw [e1, e2] at k
      have hd := fb.2.2.2.2.2.2.2.1 z
      have hc := cap2 (V := V) hd.2.2
      rw [← hd.2.1] at hc
      rw [hd.1, h10] at hr ⊢
      rw [hc] at hr ⊢
      rw [gi_ui, if_neg (by omega), h7] at hr
      rw [hr]
      exact ih (q + 1) _ _ (by omega) ((f.u (by omega)).u (by omega)) (by rw [gi_ui, if_neg (by omega), gi_ui, if_neg (by omega)]; exact h8) (by rw [gi_ui, if_pos ⟨rfl, rfl⟩, nI_succ]) (by rw [gi_ui, if_neg (by omega), gi_ui, if_pos ⟨rfl, rfl⟩]) k
theorem sp_X8_advance {x : Cn} {Q : Cn → Prop} {b : TT} {n p : Nat} (c : gr x 717 4 = some 720) (hn : n ≤ 1200) (hb : gi x 720 = b) (hB : ∀ i, i < n → isB (b i)) (h6 : gi x 717 6 = nI n) (h7 : gi x 717 7 = nI p) (hp : p ≤ n) (k : ∀ y, BTf x y → RTk y b n p → Q y) : mSV mX8_advance [.ref 717] KW x Q := by
  have hs := tS_b (b := b) hp
  refine s_V (by decide) (by simp [Value.category]) (Nat.le_of_ble_eq_true rfl) ?_
  show GV mX8_advance 0 [some (.ref 717), none] [] KW x Q
  refine lp_X8_advance_0 c hn hb hB h6 (n - p) p x (by omega) (BTf.rf x) h7 (fun y fy hy => ?_)
  have hy : gi y 717 7 = nI (tS b n p) := hy
  have y6 : gi y 717 6 = nI n := (fy.2 717 6 (by omega)).trans h6
  refine v_X8_advance_39 km (by unfold gr; rw [fy.1]; exact c) k720 ?_
  rw [hy]
  have u7 : gi (ui y 717 8 (nI (tS b n p))) 717 7 = nI (tS b n p) := by rw [gi_ui, if_neg (by omega)]; exact hy
  have u6 : gi (ui y 717 8 (nI (tS b n p))) 717 6 = nI n := by rw [gi_ui, if_neg (by omega)]; exact y6
  have u8 : gi (ui y 717 8 (nI (tS b n p))) 717 8 = nI (tS b n p) := by rw [gi_ui, if_pos ⟨rfl, rfl⟩]
  have fu : BTf x (ui y 717 8 (nI (tS b n p))) := fy.u (by omega)
  have ub : gi (ui y 717 8 (nI (tS b n p))) 720 = b := (funext fun i => fu.2 720 i (by omega)).trans hb
  rw [u6, u7, ub]
  generalize ui y 717 8 (nI (tS b n p)) = u at u6 u7 u8 ub fu
  refine ⟨inS_n hn (by omega), fun r hr => ⟨fun z => ?_, fun z => ?_⟩⟩
  · have hlt : tS b n p < n := by
      rcases Nat.lt_or_ge (tS b n p) n with q | q
      · exact q
      · rw [f_see_out q (by omega)] at hr; exact absurd hr z
    rw [f_see_in hlt (by omega)] at hr
    have fb := FB_of (hB _ hlt)
    subst hr
    refine v_X8_advance_69 ?_
    rw [fb.2.2.1]
    refine ⟨fun z1 => v_X8_advance_125 km ?_, fun z1 => ?_⟩
    · rw [fb.2.2.2.1]
      refine ⟨fun z2 => ?_, fun z2 => ?_⟩
      · have hK : tK b n p = 3 := by unfold tK; rw [if_neg (by omega), if_neg z1, if_neg z2]
        have hE : tE b n p = tS b n p + 1 := by unfold tE; rw [hK]; rfl
        refine k _ (((fu.u (by omega)).u (by omega)).u (by omega)) ⟨?_, ?_, ?_, fun h => by omega, fun _ => ?_⟩
        · rw [gi_ui, if_neg (by omega), gi_ui, if_neg (by omega), gi_ui, if_neg (by omega)]; exact u8
        · rw [gi_ui, if_pos ⟨rfl, rfl⟩, gi_ui, if_neg (by omega), gi_ui, if_neg (by omega), u7, hE, nI_succ]
        · rw [gi_ui, if_neg (by omega), gi_ui, if_neg (by omega), gi_ui, if_pos ⟨rfl, rfl⟩, hK]; rfl
        · rw [gi_ui, if_neg (by omega), gi_ui, if_pos ⟨rfl, rfl⟩]
      · have hK : tK b n p = 2 := by unfold tK; rw [if_neg (by omega), if_neg z1, if_pos z2]
        have hE : tE b n p = scD b (n - tS b n p) (tS b n p) := by unfold tE; rw [hK]; rfl
        exact lp_X8_advance_144 c hn hb hB h6 (n - tS b n p) (tS b n p) 0 _ (by omega) (fu.u (by omega)) (by rw [gi_ui, if_neg (by omega)]; exact u8) (by rw [gi_ui, if_neg (by omega)]; exact u7) (by rw [gi_ui, if_pos ⟨rfl, rfl⟩]; rfl) (fun w f1 f2 f3 f4 f5 => k w f1 ⟨f2, by rw [f3, hE], by rw [f4, hK]; rfl, fun _ => f5, fun h => by omega⟩)
    · have hK : tK b n p = 1 := by unfold tK; rw [if_neg (by omega), if_pos z1]
      have hE : tE b n p = scL b (n - tS b n p) (tS b n p) := by unfold tE; rw [hK]; rfl
      exact lp_X8_advance_83 c hn hb hB h6 (n - tS b n p) (tS b n p) _ (by omega) fu u8 u7 (fun w f1 f2 f3 f4 => k w f1 ⟨f2, by rw [f3, hE], by rw [f4, hK]; rfl, fun h => by omega, fun h => by omega⟩)
  · have hge : n ≤ tS b n p := by
      rcases Nat.lt_or_ge (tS b n p) n with q | q
      · rw [f_see_in q (by omega)] at hr
        exact absurd (hr.symm.trans z) (FB_of (hB _ q)).2.2.2.2.2.2.1
      · exact q
    have hK : tK b n p = 0 := by unfold tK; rw [if_pos hge]
    have hE : tE b n p = tS b n p := by unfold tE; rw [hK]; rfl
    exact k _ (fu.u (by omega)) ⟨by rw [gi_ui, if_neg (by omega)]; exact u8, by rw [gi_ui, if_neg (by omega), u7, hE], by rw [gi_ui, if_pos ⟨rfl, rfl⟩, hK]; rfl, fun h => by omega, fun h => by omega⟩

end
end
/-! 68.read1.lean.txt -/
section
/-! what a token is, in words; how a line is read, landed side -/
def iw (b : TT) (n p i : Nat) : Prop := tK b n p = 1 ∧ wno b (tS b n p) (tE b n p) = nI i
def sg (b : TT) (n p : Nat) (v : Int32) : Prop := tK b n p = 3 ∧ b (tS b n p) = v
def nb (b : TT) (n p lo hi : Nat) : Prop := tK b n p = 2 ∧ lo ≤ tV b n p ∧ tV b n p ≤ hi
def nmd (b : TT) (n p : Nat) : Prop := tK b n p = 1 ∧ wno b (tS b n p) (tE b n p) = -1 ∧ tE b n p - tS b n p ≤ 6
def nxt (b : TT) (n : Nat) : Nat → Nat → Nat
  | 0, p => p
  | k + 1, p => tE b n (nxt b n k p)
theorem nxt_le {b : TT} {n : Nat} : ∀ {k p : Nat}, p ≤ n → nxt b n k p ≤ n := by
  intro k
  induction k with
  | zero => intro p h; exact h
  | succ k ih => intro p h; exact (tE_b (ih h)).2.1
theorem nxt_ge {b : TT} {n : Nat} : ∀ {k p : Nat}, p ≤ n → p ≤ nxt b n k p := by
  intro k
  induction k with
  | zero => intro p h; exact Nat.le_refl _
  | succ k ih =>
    intro p h
    have h1 := ih h
    have h2 := nxt_le (k := k) (b := b) h
    have h3 := tS_b (b := b) h2
    have h4 := tE_b (b := b) h2
    show p ≤ tE b n (nxt b n k p)
    omega
theorem nxt_gt {b : TT} {n k p : Nat} (h : p ≤ n) (hk : ¬ tK b n p = 0) : p < nxt b n (k + 1) p := by
  induction k with
  | zero =>
    have h3 := tS_b (b := b) h
    have h4 := (tE_b (b := b) h).2.2 hk
    show p < tE b n p
    omega
  | succ k ih =>
    have h2 := nxt_le (k := k + 1) (b := b) h
    have h3 := tS_b (b := b) h2
    have h4 := tE_b (b := b) h2
    show p < tE b n (nxt b n (k + 1) p)
    omega
theorem nI_sb {e s : Nat} (h : s ≤ e) : nI e - nI s = nI (e - s) := by
  obtain ⟨d, rfl⟩ := Nat.exists_eq_add_of_le h
  rw [show s + d - s = d by omega, ← nI_add, Int32.add_comm, Int32.add_sub_cancel]
def SCf (x y : Cn) : Prop := y.2 = x.2 ∧ ∀ a k, ¬ (59 ≤ a ∧ a ≤ 115) ∨ (a = 59 ∧ k = 2) → gi y a k = gi x a k
theorem SCf.rf (x : Cn) : SCf x x := ⟨rfl, fun _ _ _ => rfl⟩
theorem SCf.tr {x y z : Cn} (h : SCf x y) (g : SCf y z) : SCf x z := ⟨g.1.trans h.1, fun a k hk => (g.2 a k hk).trans (h.2 a k hk)⟩
theorem SCf.u {x y : Cn} {a k : Nat} {v : Int32} (h : SCf x y) (ha : (59 ≤ a ∧ a ≤ 115) ∧ ¬ (a = 59 ∧ k = 2)) : SCf x (ui y a k v) := ⟨h.1, fun c j hj => by rw [gi_ui, if_neg (by omega)]; exact h.2 c j hj⟩
theorem ATf.sc {x y : Cn} (h : ATf x y) : SCf x y := ⟨h.1, fun a k hk => h.2 a k (by omega)⟩
def FLf (x y : Cn) : Prop := y.2 = x.2 ∧ ∀ a k, ¬ (a = 59 ∧ (k = 3 ∨ k = 4)) → gi y a k = gi x a k
theorem FLf.sc {x y : Cn} (h : FLf x y) : SCf x y := ⟨h.1, fun a k hk => h.2 a k (by omega)⟩
theorem EQx.sc {x y : Cn} {a : Nat} (h : EQx x y a) (ha : 60 ≤ a ∧ a ≤ 115) : SCf x y := ⟨h.1, fun c k hk => h.2 c k (by omega)⟩
/-- what stays while a TEXT is read -/
def RB (y : Cn) (b : TT) (n : Nat) : Prop := n ≤ 1200 ∧ gi y 59 6 = nI n ∧ (∀ i, i < n → gi y 1 i = b i) ∧ (∀ i, i < n → isB (b i)) ∧ gr y 59 0 = some 60 ∧ gr y 59 1 = some 114 ∧ gr y 59 5 = some 1 ∧ gr y 114 1 = some 115
theorem RB.mv {x y : Cn} {b : TT} {n : Nat} (h : RB x b n) (h1 : y.2 = x.2) (h2 : ∀ a k, ¬ (59 ≤ a ∧ a ≤ 115) ∨ (a = 59 ∧ k = 6) → gi y a k = gi x a k) : RB y b n := by
  have hg : ∀ b k, gr y b k = gr x b k := fun b k => by unfold gr; rw [h1]
  obtain ⟨e1, e2, e3, e4, e5, e6, e7, e8⟩ := h
  exact ⟨e1, (h2 59 6 (by omega)).trans e2, fun i hi => (h2 1 i (by omega)).trans (e3 i hi), e4, (hg _ _).trans e5, (hg _ _).trans e6, (hg _ _).trans e7, (hg _ _).trans e8⟩
theorem RB.at {x y : Cn} {b : TT} {n : Nat} (h : RB x b n) (f : ATf x y) : RB y b n := h.mv f.1 (fun a k q => f.2 a k (by omega))
theorem RB.u {x : Cn} {b : TT} {n a k : Nat} {v : Int32} (h : RB x b n) (ha : 59 ≤ a ∧ a ≤ 115) (hk : ¬ (a = 59 ∧ k = 6)) : RB (ui x a k v) b n := h.mv rfl (fun c j q => by rw [gi_ui, if_neg (by omega)])
theorem CTk.mv {x y : Cn} {b : TT} {n p : Nat} (h : CTk x b n p) (h2 : ∀ k, 7 ≤ k → k ≤ 10 → gi y 59 k = gi x 59 k) : CTk y b n p := by
  obtain ⟨e1, e2, e3, e4, e5, e6⟩ := h
  exact ⟨(h2 7 (by omega) (by omega)).trans e1, (h2 8 (by omega) (by omega)).trans e2, (h2 9 (by omega) (by omega)).trans e3, fun z => (h2 10 (by omega) (by omega)).trans (e4 z), fun z => (h2 10 (by omega) (by omega)).trans (e5 z), fun z => (h2 10 (by omega) (by omega)).trans (e6 z)⟩
theorem CTk.u {x : Cn} {b : TT} {n p a k : Nat} {v : Int32} (h : CTk x b n p) (hk : ¬ (a = 59 ∧ 7 ≤ k ∧ k ≤ 10)) : CTk (ui x a k v) b n p := h.mv (fun j h1 h2 => by rw [gi_ui, if_neg (by omega)])
theorem CTk.k {y : Cn} {b : TT} {n p : Nat} (t : CTk y b n p) (j : Nat) (hj : j < 100) : gi y 59 9 = nI j ↔ tK b n p = j := by
  have := tK_4 b n p
  rw [t.2.2.1]
  exact nI_eq (by omega) (by omega)
theorem CTk.w {y : Cn} {b : TT} {n p : Nat} (t : CTk y b n p) (i : Nat) : (gi y 59 9 = 1 ∧ gi y 59 10 = nI i) ↔ iw b n p i := by
  have e : gi y 59 9 = 1 ↔ tK b n p = 1 := t.k 1 (by omega)
  unfold iw
  rw [e]
  constructor
  · intro h; exact ⟨h.1, (t.2.2.2.1 h.1).symm.trans h.2⟩
  · intro h; exact ⟨h.1, (t.2.2.2.1 h.1).trans h.2⟩
theorem CTk.s {y : Cn} {b : TT} {n p : Nat} (t : CTk y b n p) (v : Int32) : (gi y 59 9 = 3 ∧ gi y 59 10 = v) ↔ sg b n p v := by
  have e : gi y 59 9 = 3 ↔ tK b n p = 3 := t.k 3 (by omega)
  unfold sg
  rw [e]
  constructor
  · intro h; exact ⟨h.1, (t.2.2.2.2.2 h.1).symm.trans h.2⟩
  · intro h; exact ⟨h.1, (t.2.2.2.2.2 h.1).trans h.2⟩
theorem CTk.nm {y : Cn} {b : TT} {n p : Nat} (t : CTk y b n p) (hp : p ≤ n) (hn : n ≤ 1200) : (gi y 59 9 = 1 ∧ gi y 59 10 = -1 ∧ gi y 59 8 - gi y 59 7 ≤ 6) ↔ nmd b n p := by
  have e : gi y 59 9 = 1 ↔ tK b n p = 1 := t.k 1 (by omega)
  have hE := tE_b (b := b) hp
  have e2 : gi y 59 8 - gi y 59 7 ≤ 6 ↔ tE b n p - tS b n p ≤ 6 := by
    rw [t.1, t.2.1, nI_sb hE.1]
    exact nI_leI (a := tE b n p - tS b n p) (b := 6) (by omega) (by omega)
  unfold nmd
  rw [e, e2]
  constructor
  · intro h; exact ⟨h.1, (t.2.2.2.1 h.1).symm.trans h.2.1, h.2.2⟩
  · intro h; exact ⟨h.1, (t.2.2.2.1 h.1).trans h.2.1, h.2.2⟩
theorem ad_c {x : Cn} {Q : Cn → Prop} {b : TT} {n p : Nat} (B : RB x b n) (t : CTk x b n p) (hp : p ≤ n) (k : ∀ y, ATf x y → RB y b n → CTk y b n (tE b n p) → Q y) : mSV mX3_advance [.ref 59] KW x Q :=
  sp_X3_advance (p := tE b n p) B.2.2.2.2.2.2.1 B.1 B.2.2.1 B.2.2.2.1 B.2.1 t.2.1 (tE_b hp).2.1 (fun y f t' => k y f (B.at f) t')
set_option maxHeartbeats 2000000 in
theorem v_X3_fail_0 {K : Sh} {x : Cn} {Q : Int32 → Cn → Prop} {b0 : Nat} {l1 : Int32}  (k_b0 : kk K b0 = some (3, 0)) (K0 : Q 0 (ui (ui x b0 3 l1) b0 4 (gi (ui x b0 3 l1) b0 7))) : mSI mX3_fail [.ref b0, .int l1] K x Q := by
  refine s_I (by decide) (by simp [Value.category]) (Nat.le_of_ble_eq_true rfl) ?_
  show mGM mX3_fail 0 [some (.ref b0), some (.int l1)] [] (hp K x) (PI K Q)
  refine r_aload_n (pc := 0) dX3_fail_0 rfl ?_
  refine r_iload_n (pc := 1) dX3_fail_1 rfl ?_
  refine s_putI (pc := 2) dX3_fail_2 fl_X3_29 rfl rfl k_b0 ?_
  refine r_aload_n (pc := 5) dX3_fail_5 rfl ?_
  refine r_aload_n (pc := 6) dX3_fail_6 rfl ?_
  refine s_getI (pc := 7) dX3_fail_7 fl_X3_42 rfl k_b0 ?_
  refine s_putI (pc := 10) dX3_fail_10 fl_X3_32 rfl rfl k_b0 ?_
  refine r_iconst (pc := 13) (v := 0) dX3_fail_13 (by decide) ?_
  exact s_zret rfl (by decide) dX3_fail_14 K0
section
theorem sp_X3_fail {x : Cn} {Q : Int32 → Cn → Prop} {v : Int32} (k : ∀ y, FLf x y → Q 0 y) : mSI mX3_fail [.ref 59, .int v] KW x Q :=
  v_X3_fail_0 k59 (k _ ⟨rfl, fun a j hj => by rw [gi_ui, if_neg (by omega), gi_ui, if_neg (by omega)]⟩)
end
set_option maxHeartbeats 2000000 in
theorem v_X3_isWord_0 {K : Sh} {x : Cn} {Q : Int32 → Cn → Prop} {b0 : Nat} {l1 : Int32}  (k_b0 : kk K b0 = some (3, 0)) (K0 : (¬ (gi x b0 9) = 1 → (Q 0 x)) ∧ ((gi x b0 9) = 1 → ((¬ (gi x b0 10) = l1 → (Q 0 x)) ∧ ((gi x b0 10) = l1 → (Q 1 x))))) : mSI mX3_isWord [.ref b0, .int l1] K x Q := by
  refine s_I (by decide) (by simp [Value.category]) (Nat.le_of_ble_eq_true rfl) ?_
  show mGM mX3_isWord 0 [some (.ref b0), some (.int l1)] [] (hp K x) (PI K Q)
  refine r_aload_n (pc := 0) dX3_isWord_0 rfl ?_
  refine s_getI (pc := 1) dX3_isWord_1 fl_X3_48 rfl k_b0 ?_
  refine r_iconst (pc := 4) (v := 1) dX3_isWord_4 (by decide) ?_
  refine r_icmp_ne (pc := 5) (tgt := 20) dX3_isWord_5 (by decide) (fun q => ?_) (fun q => ?_)
  · have K0 := K0.1 q
    refine r_iconst (pc := 20) (v := 0) dX3_isWord_20 (by decide) ?_
    exact s_zret rfl (by decide) dX3_isWord_21 K0
  · have K0 := K0.2 q
    refine r_aload_n (pc := 8) dX3_isWord_8 rfl ?_
    refine s_getI (pc := 9) dX3_isWord_9 fl_X3_51 rfl k_b0 ?_
    refine r_iload_n (pc := 12) dX3_isWord_12 rfl ?_
    refine r_icmp_ne (pc := 13) (tgt := 20) dX3_isWord_13 (by decide) (fun q => ?_) (fun q => ?_)
    · have K0 := K0.1 q
      refine r_iconst (pc := 20) (v := 0) dX3_isWord_20 (by decide) ?_
      exact s_zret rfl (by decide) dX3_isWord_21 K0
    · have K0 := K0.2 q
      refine r_iconst (pc := 16) (v := 1) dX3_isWord_16 (by decide) ?_
      refine r_goto (pc := 17) (tgt := 21) dX3_isWord_17 (by decide) ?_
      exact s_zret rfl (by decide) dX3_isWord_21 K0
section
theorem sp_X3_isWord {K : Sh} {x : Cn} {Q : Int32 → Cn → Prop} {a : Nat} {v : Int32} (h : kk K a = some (3, 0)) (k : Q (b2i (gi x a 9 = 1 ∧ gi x a 10 = v)) x) : mSI mX3_isWord [.ref a, .int v] K x Q := by
  refine v_X3_isWord_0 h ⟨fun z => ?_, fun z => ⟨fun z2 => ?_, fun z2 => ?_⟩⟩
  · rw [b2i_f (fun w => z w.1)] at k; exact k
  · rw [b2i_f (fun w => z2 w.2)] at k; exact k
  · rw [b2i_t ⟨z, z2⟩] at k; exact k
end
set_option maxHeartbeats 2000000 in
theorem v_X3_isSign_0 {K : Sh} {x : Cn} {Q : Int32 → Cn → Prop} {b0 : Nat} {l1 : Int32}  (k_b0 : kk K b0 = some (3, 0)) (K0 : (¬ (gi x b0 9) = 3 → (Q 0 x)) ∧ ((gi x b0 9) = 3 → ((¬ (gi x b0 10) = l1 → (Q 0 x)) ∧ ((gi x b0 10) = l1 → (Q 1 x))))) : mSI mX3_isSign [.ref b0, .int l1] K x Q := by
  refine s_I (by decide) (by simp [Value.category]) (Nat.le_of_ble_eq_true rfl) ?_
  show mGM mX3_isSign 0 [some (.ref b0), some (.int l1)] [] (hp K x) (PI K Q)
  refine r_aload_n (pc := 0) dX3_isSign_0 rfl ?_
  refine s_getI (pc := 1) dX3_isSign_1 fl_X3_48 rfl k_b0 ?_
  refine r_iconst (pc := 4) (v := 3) dX3_isSign_4 (by decide) ?_
  refine r_icmp_ne (pc := 5) (tgt := 20) dX3_isSign_5 (by decide) (fun q => ?_) (fun q => ?_)
  · have K0 := K0.1 q
    refine r_iconst (pc := 20) (v := 0) dX3_isSign_20 (by decide) ?_
    exact s_zret rfl (by decide) dX3_isSign_21 K0
  · have K0 := K0.2 q
    refine r_aload_n (pc := 8) dX3_isSign_8 rfl ?_
    refine s_getI (pc := 9) dX3_isSign_9 fl_X3_51 rfl k_b0 ?_
    refine r_iload_n (pc := 12) dX3_isSign_12 rfl ?_
    refine r_icmp_ne (pc := 13) (tgt := 20) dX3_isSign_13 (by decide) (fun q => ?_) (fun q => ?_)
    · have K0 := K0.1 q
      refine r_iconst (pc := 20) (v := 0) dX3_isSign_20 (by decide) ?_
      exact s_zret rfl (by decide) dX3_isSign_21 K0
    · have K0 := K0.2 q
      refine r_iconst (pc := 16) (v := 1) dX3_isSign_16 (by decide) ?_
      refine r_goto (pc := 17) (tgt := 21) dX3_isSign_17 (by decide) ?_
      exact s_zret rfl (by decide) dX3_isSign_21 K0
section
theorem sp_X3_isSign {K : Sh} {x : Cn} {Q : Int32 → Cn → Prop} {a : Nat} {v : Int32} (h : kk K a = some (3, 0)) (k : Q (b2i (gi x a 9 = 3 ∧ gi x a 10 = v)) x) : mSI mX3_isSign [.ref a, .int v] K x Q := by
  refine v_X3_isSign_0 h ⟨fun z => ?_, fun z => ⟨fun z2 => ?_, fun z2 => ?_⟩⟩
  · rw [b2i_f (fun w => z w.1)] at k; exact k
  · rw [b2i_f (fun w => z2 w.2)] at k; exact k
  · rw [b2i_t ⟨z, z2⟩] at k; exact k
end
set_option maxHeartbeats 2000000 in
theorem v_X3_isName_0 {K : Sh} {x : Cn} {Q : Int32 → Cn → Prop} {b0 : Nat}  (k_b0 : kk K b0 = some (3, 0)) (K0 : (¬ (gi x b0 9) = 1 → (Q 0 x)) ∧ ((gi x b0 9) = 1 → ((¬ (gi x b0 10) = (-1) → (Q 0 x)) ∧ ((gi x b0 10) = (-1) → ((6 < ((gi x b0 8) - (gi x b0 7)) → (Q 0 x)) ∧ (¬ 6 < ((gi x b0 8) - (gi x b0 7)) → (Q 1 x))))))) : mSI mX3_isName [.ref b0] K x Q := by
  refine s_I (by decide) (by simp [Value.category]) (Nat.le_of_ble_eq_true rfl) ?_
  show mGM mX3_isName 0 [some (.ref b0)] [] (hp K x) (PI K Q)
  refine r_aload_n (pc := 0) dX3_isName_0 rfl ?_
  refine s_getI (pc := 1) dX3_isName_1 fl_X3_48 rfl k_b0 ?_
  refine r_iconst (pc := 4) (v := 1) dX3_isName_4 (by decide) ?_
  refine r_icmp_ne (pc := 5) (tgt := 34) dX3_isName_5 (by decide) (fun q => ?_) (fun q => ?_)
  · have K0 := K0.1 q
    refine r_iconst (pc := 34) (v := 0) dX3_isName_34 (by decide) ?_
    exact s_zret rfl (by decide) dX3_isName_35 K0
  · have K0 := K0.2 q
    refine r_aload_n (pc := 8) dX3_isName_8 rfl ?_
    refine s_getI (pc := 9) dX3_isName_9 fl_X3_51 rfl k_b0 ?_
    refine r_iconst (pc := 12) (v := (-1)) dX3_isName_12 (by decide) ?_
    refine r_icmp_ne (pc := 13) (tgt := 34) dX3_isName_13 (by decide) (fun q => ?_) (fun q => ?_)
    · have K0 := K0.1 q
      refine r_iconst (pc := 34) (v := 0) dX3_isName_34 (by decide) ?_
      exact s_zret rfl (by decide) dX3_isName_35 K0
    · have K0 := K0.2 q
      refine r_aload_n (pc := 16) dX3_isName_16 rfl ?_
      refine s_getI (pc := 17) dX3_isName_17 fl_X3_45 rfl k_b0 ?_
      refine r_aload_n (pc := 20) dX3_isName_20 rfl ?_
      refine s_getI (pc := 21) dX3_isName_21 fl_X3_42 rfl k_b0 ?_
      refine r_isub (pc := 24) dX3_isName_24 ?_
      refine r_bipush (pc := 25) (v := 6) dX3_isName_25 (by decide) ?_
      refine r_icmp_gt (pc := 27) (tgt := 34) dX3_isName_27 (by decide) (fun q => ?_) (fun q => ?_)
      · have K0 := K0.1 q
        refine r_iconst (pc := 34) (v := 0) dX3_isName_34 (by decide) ?_
        exact s_zret rfl (by decide) dX3_isName_35 K0
      · have K0 := K0.2 q
        refine r_iconst (pc := 30) (v := 1) dX3_isName_30 (by decide) ?_
        refine r_goto (pc := 31) (tgt := 35) dX3_isName_31 (by decide) ?_
        exact s_zret rfl (by decide) dX3_isName_35 K0
section
theorem sp_X3_isName {K : Sh} {x : Cn} {Q : Int32 → Cn → Prop} {a : Nat} (h : kk K a = some (3, 0)) (k : Q (b2i (gi x a 9 = 1 ∧ gi x a 10 = -1 ∧ gi x a 8 - gi x a 7 ≤ 6)) x) : mSI mX3_isName [.ref a] K x Q := by
  refine v_X3_isName_0 h ⟨fun z => ?_, fun z => ⟨fun z2 => ?_, fun z2 => ⟨fun z3 => ?_, fun z3 => ?_⟩⟩⟩
  · rw [b2i_f (fun w => z w.1)] at k; exact k
  · rw [b2i_f (fun w => z2 w.2.1)] at k; exact k
  · rw [b2i_f (fun w => absurd z3 (Int32.not_lt.mpr w.2.2))] at k; exact k
  · rw [b2i_t ⟨z, z2, Int32.not_lt.mp z3⟩] at k; exact k
end
set_option maxHeartbeats 2000000 in
theorem v_X3_isNumber_0 {K : Sh} {x : Cn} {Q : Int32 → Cn → Prop} {b0 : Nat} {l1 : Int32} {l2 : Int32}  (k_b0 : kk K b0 = some (3, 0)) (K0 : ((gi x b0 9) = 2 → (((l1 ≤ (gi x b0 10) ∧ (gi x b0 10) ≤ l2) → (Q 1 x)) ∧ (¬ (l1 ≤ (gi x b0 10) ∧ (gi x b0 10) ≤ l2) → (mSI mX3_fail [.ref b0, .int 2] K x (fun r_4 y_3 => (r_4 = 0 → (Q 0 y_3)) ∧ (¬ r_4 = 0 → (Q 1 y_3))))))) ∧ (¬ (gi x b0 9) = 2 → (mSI mX3_fail [.ref b0, .int 1] K x (fun r_7 y_6 => (r_7 = 0 ∨ r_7 = 1) ∧ (Q r_7 y_6))))) : mSI mX3_isNumber [.ref b0, .int l1, .int l2] K x Q := by
  refine s_I (by decide) (by simp [Value.category]) (Nat.le_of_ble_eq_true rfl) ?_
  show mGM mX3_isNumber 0 [some (.ref b0), some (.int l1), some (.int l2)] [] (hp K x) (PI K Q)
  refine r_aload_n (pc := 0) dX3_isNumber_0 rfl ?_
  refine s_getI (pc := 1) dX3_isNumber_1 fl_X3_48 rfl k_b0 ?_
  refine r_iconst (pc := 4) (v := 2) dX3_isNumber_4 (by decide) ?_
  refine r_icmp_eq (pc := 5) (tgt := 14) dX3_isNumber_5 (by decide) (fun q => ?_) (fun q => ?_)
  · have K0 := K0.1 q
    refine r_aload_n (pc := 14) dX3_isNumber_14 rfl ?_
    refine s_getI (pc := 15) dX3_isNumber_15 fl_X3_51 rfl k_b0 ?_
    refine r_iload_n (pc := 18) dX3_isNumber_18 rfl ?_
    refine r_iload_n (pc := 19) dX3_isNumber_19 rfl ?_
    refine s_SNI (pc := 20) mX7_isWithin (As := [.int (gi x b0 10), .int l1, .int l2]) dX3_isNumber_20 nl_X3_200 st_X7_isWithin mo_X7_isWithin ⟨by decide, by decide⟩ (Nat.le_of_ble_eq_true rfl) (sp_X7_isWithin  ?_)
    refine r_if_ne (pc := 23) (tgt := 34) dX3_isNumber_23 (by decide) (fun q => ?_) (fun q => ?_)
    · have q := b2i_nz q
      have K0 := K0.1 q
      refine r_iconst (pc := 34) (v := 1) dX3_isNumber_34 (by decide) ?_
      refine r_goto (pc := 35) (tgt := 39) dX3_isNumber_35 (by decide) ?_
      exact s_zret rfl (by decide) dX3_isNumber_39 K0
    · have q := (b2i_z _).mp q
      have K0 := K0.2 q
      refine r_aload_n (pc := 26) dX3_isNumber_26 rfl ?_
      refine r_iconst (pc := 27) (v := 2) dX3_isNumber_27 (by decide) ?_
      refine s_VI (pc := 28) mX3_fail (ci := 3) (a := b0) (As := [.int 2]) dX3_isNumber_28 lk_X3_125 in_X3_fail mo_X3_fail ⟨by decide, rfl⟩ ⟨by decide, by decide⟩ (Nat.le_of_ble_eq_true rfl) k_b0 (mSI_mono K0 (fun r_4 y_3 K0 => ?_))
      refine r_if_eq (pc := 31) (tgt := 38) dX3_isNumber_31 (by decide) (fun q => ?_) (fun q => ?_)
      · have K0 := K0.1 q
        refine r_iconst (pc := 38) (v := 0) dX3_isNumber_38 (by decide) ?_
        exact s_zret rfl (by decide) dX3_isNumber_39 K0
      · have K0 := K0.2 q
        refine r_iconst (pc := 34) (v := 1) dX3_isNumber_34 (by decide) ?_
        refine r_goto (pc := 35) (tgt := 39) dX3_isNumber_35 (by decide) ?_
        exact s_zret rfl (by decide) dX3_isNumber_39 K0
  · have K0 := K0.2 q
    refine r_aload_n (pc := 8) dX3_isNumber_8 rfl ?_
    refine r_iconst (pc := 9) (v := 1) dX3_isNumber_9 (by decide) ?_
    refine s_VI (pc := 10) mX3_fail (ci := 3) (a := b0) (As := [.int 1]) dX3_isNumber_10 lk_X3_125 in_X3_fail mo_X3_fail ⟨by decide, rfl⟩ ⟨by decide, by decide⟩ (Nat.le_of_ble_eq_true rfl) k_b0 (mSI_mono K0 (fun r_7 y_6 K0 => ?_))
    obtain ⟨p_8, K0⟩ := K0
    exact s_zret rfl p_8 dX3_isNumber_13 K0
section
theorem sp_X3_isNumber {x : Cn} {Q : Int32 → Cn → Prop} {b : TT} {n p lo hi : Nat} (t : CTk x b n p) (hlo : lo < 300000) (hhi : hi < 100000) (k1 : nb b n p lo hi → Q 1 x) (k0 : ¬ nb b n p lo hi → ∀ y, FLf x y → Q 0 y) : mSI mX3_isNumber [.ref 59, .int (nI lo), .int (nI hi)] KW x Q := by
  have e : gi x 59 9 = 2 ↔ tK b n p = 2 := t.k 2 (by omega)
  refine v_X3_isNumber_0 k59 ⟨fun z => ?_, fun z => sp_X3_fail (fun y f => ⟨Or.inl rfl, k0 (fun w => z (e.mpr w.1)) y f⟩)⟩
  have h2 := e.mp z
  have hv := t.2.2.2.2.1 h2
  have hm : min (tV b n p) 100000 ≤ 100000 := Nat.min_le_right _ _
  have ei : (nI lo ≤ gi x 59 10 ∧ gi x 59 10 ≤ nI hi) ↔ (lo ≤ tV b n p ∧ tV b n p ≤ hi) := by
    rw [hv, nI_leI (by omega) (by omega), nI_leI (by omega) (by omega)]
    omega
  refine ⟨fun w => k1 ⟨h2, ei.mp w⟩, fun w => sp_X3_fail (fun y f => ⟨fun _ => k0 (fun q => w (ei.mpr q.2)) y f, fun q => absurd rfl q⟩)⟩
end
set_option maxHeartbeats 2000000 in
theorem v_X3_takeWord_0 {K : Sh} {x : Cn} {Q : Int32 → Cn → Prop} {b0 : Nat} {l1 : Int32}  (k_b0 : kk K b0 = some (3, 0)) (K0 : ((gi x b0 9 = 1 ∧ gi x b0 10 = l1) → (mSV mX3_advance [.ref b0] K x (fun y_2 => Q 1 y_2))) ∧ (¬ (gi x b0 9 = 1 ∧ gi x b0 10 = l1) → (mSI mX3_fail [.ref b0, .int 1] K x (fun r_4 y_3 => (r_4 = 0 ∨ r_4 = 1) ∧ (Q r_4 y_3))))) : mSI mX3_takeWord [.ref b0, .int l1] K x Q := by
  refine s_I (by decide) (by simp [Value.category]) (Nat.le_of_ble_eq_true rfl) ?_
  show mGM mX3_takeWord 0 [some (.ref b0), some (.int l1)] [] (hp K x) (PI K Q)
  refine r_aload_n (pc := 0) dX3_takeWord_0 rfl ?_
  refine r_iload_n (pc := 1) dX3_takeWord_1 rfl ?_
  refine s_VI (pc := 2) mX3_isWord (ci := 3) (a := b0) (As := [.int l1]) dX3_takeWord_2 lk_X3_110 in_X3_isWord mo_X3_isWord ⟨by decide, rfl⟩ ⟨by decide, by decide⟩ (Nat.le_of_ble_eq_true rfl) k_b0 (sp_X3_isWord k_b0 ?_)
  refine r_if_ne (pc := 5) (tgt := 14) dX3_takeWord_5 (by decide) (fun q => ?_) (fun q => ?_)
  · have q := b2i_nz q
    have K0 := K0.1 q
    refine r_aload_n (pc := 14) dX3_takeWord_14 rfl ?_
    refine s_VV (pc := 15) mX3_advance (ci := 3) (a := b0) (As := []) dX3_takeWord_15 lk_X3_87 in_X3_advance mo_X3_advance ⟨by decide, rfl⟩ ⟨by decide, by decide⟩ (Nat.le_of_ble_eq_true rfl) k_b0 (mSV_mono K0 (fun y_2 K0 => ?_))
    refine r_iconst (pc := 18) (v := 1) dX3_takeWord_18 (by decide) ?_
    exact s_zret rfl (by decide) dX3_takeWord_19 K0
  · have q := (b2i_z _).mp q
    have K0 := K0.2 q
    refine r_aload_n (pc := 8) dX3_takeWord_8 rfl ?_
    refine r_iconst (pc := 9) (v := 1) dX3_takeWord_9 (by decide) ?_
    refine s_VI (pc := 10) mX3_fail (ci := 3) (a := b0) (As := [.int 1]) dX3_takeWord_10 lk_X3_125 in_X3_fail mo_X3_fail ⟨by decide, rfl⟩ ⟨by decide, by decide⟩ (Nat.le_of_ble_eq_true rfl) k_b0 (mSI_mono K0 (fun r_4 y_3 K0 => ?_))
    obtain ⟨p_5, K0⟩ := K0
    exact s_zret rfl p_5 dX3_takeWord_13 K0
section
theorem sp_X3_takeWord {x : Cn} {Q : Int32 → Cn → Prop} {b : TT} {n p i : Nat} (B : RB x b n) (t : CTk x b n p) (hp : p ≤ n) (k1 : iw b n p i → ∀ y, ATf x y → RB y b n → CTk y b n (tE b n p) → Q 1 y) (k0 : ¬ iw b n p i → ∀ y, FLf x y → Q 0 y) : mSI mX3_takeWord [.ref 59, .int (nI i)] KW x Q :=
  v_X3_takeWord_0 k59 ⟨fun z => ad_c B t hp (k1 ((t.w i).mp z)), fun z => sp_X3_fail (fun y f => ⟨Or.inl rfl, k0 (fun w => z ((t.w i).mpr w)) y f⟩)⟩
end
set_option maxHeartbeats 2000000 in
theorem v_X3_takeSign_0 {K : Sh} {x : Cn} {Q : Int32 → Cn → Prop} {b0 : Nat} {l1 : Int32}  (k_b0 : kk K b0 = some (3, 0)) (K0 : ((gi x b0 9 = 3 ∧ gi x b0 10 = l1) → (mSV mX3_advance [.ref b0] K x (fun y_2 => Q 1 y_2))) ∧ (¬ (gi x b0 9 = 3 ∧ gi x b0 10 = l1) → (mSI mX3_fail [.ref b0, .int 1] K x (fun r_4 y_3 => (r_4 = 0 ∨ r_4 = 1) ∧ (Q r_4 y_3))))) : mSI mX3_takeSign [.ref b0, .int l1] K x Q := by
  refine s_I (by decide) (by simp [Value.category]) (Nat.le_of_ble_eq_true rfl) ?_
  show mGM mX3_takeSign 0 [some (.ref b0), some (.int l1)] [] (hp K x) (PI K Q)
  refine r_aload_n (pc := 0) dX3_takeSign_0 rfl ?_
  refine r_iload_n (pc := 1) dX3_takeSign_1 rfl ?_
  refine s_VI (pc := 2) mX3_isSign (ci := 3) (a := b0) (As := [.int l1]) dX3_takeSign_2 lk_X3_158 in_X3_isSign mo_X3_isSign ⟨by decide, rfl⟩ ⟨by decide, by decide⟩ (Nat.le_of_ble_eq_true rfl) k_b0 (sp_X3_isSign k_b0 ?_)
  refine r_if_ne (pc := 5) (tgt := 14) dX3_takeSign_5 (by decide) (fun q => ?_) (fun q => ?_)
  · have q := b2i_nz q
    have K0 := K0.1 q
    refine r_aload_n (pc := 14) dX3_takeSign_14 rfl ?_
    refine s_VV (pc := 15) mX3_advance (ci := 3) (a := b0) (As := []) dX3_takeSign_15 lk_X3_87 in_X3_advance mo_X3_advance ⟨by decide, rfl⟩ ⟨by decide, by decide⟩ (Nat.le_of_ble_eq_true rfl) k_b0 (mSV_mono K0 (fun y_2 K0 => ?_))
    refine r_iconst (pc := 18) (v := 1) dX3_takeSign_18 (by decide) ?_
    exact s_zret rfl (by decide) dX3_takeSign_19 K0
  · have q := (b2i_z _).mp q
    have K0 := K0.2 q
    refine r_aload_n (pc := 8) dX3_takeSign_8 rfl ?_
    refine r_iconst (pc := 9) (v := 1) dX3_takeSign_9 (by decide) ?_
    refine s_VI (pc := 10) mX3_fail (ci := 3) (a := b0) (As := [.int 1]) dX3_takeSign_10 lk_X3_125 in_X3_fail mo_X3_fail ⟨by decide, rfl⟩ ⟨by decide, by decide⟩ (Nat.le_of_ble_eq_true rfl) k_b0 (mSI_mono K0 (fun r_4 y_3 K0 => ?_))
    obtain ⟨p_5, K0⟩ := K0
    exact s_zret rfl p_5 dX3_takeSign_13 K0
section
theorem sp_X3_takeSign {x : Cn} {Q : Int32 → Cn → Prop} {b : TT} {n p : Nat} {v : Int32} (B : RB x b n) (t : CTk x b n p) (hp : p ≤ n) (k1 : sg b n p v → ∀ y, ATf x y → RB y b n → CTk y b n (tE b n p) → Q 1 y) (k0 : ¬ sg b n p v → ∀ y, FLf x y → Q 0 y) : mSI mX3_takeSign [.ref 59, .int v] KW x Q :=
  v_X3_takeSign_0 k59 ⟨fun z => ad_c B t hp (k1 ((t.s v).mp z)), fun z => sp_X3_fail (fun y f => ⟨Or.inl rfl, k0 (fun w => z ((t.s v).mpr w)) y f⟩)⟩
/-- the landed one in the midst of a TEXT: p, T, the hours limited, weeks, carriers, series, asks -/
def CS (y : Cn) (b : TT) (n p : Nat) (T : TT) (lim : Int32) (W C S A : Nat) : Prop := RB y b n ∧ CTk y b n p ∧ p ≤ n ∧ gi y 59 11 = lim ∧ SEA y 60 T W C S A 0 ∧ NMr y 114 T C
theorem CS.mv {x y : Cn} {b : TT} {n p p' : Nat} {T : TT} {lim : Int32} {W C S A : Nat} (c : CS x b n p T lim W C S A) (h1 : y.2 = x.2) (h2 : ∀ a k, ¬ (a = 59 ∧ k ≠ 6 ∧ k ≠ 11) → gi y a k = gi x a k) (t : CTk y b n p') (hp : p' ≤ n) : CS y b n p' T lim W C S A :=
  ⟨c.1.mv h1 (fun a k q => h2 a k (by omega)), t, hp, (h2 59 11 (by omega)).trans c.2.2.2.1, c.2.2.2.2.1.keep h1 (fun a k q1 q2 _ => h2 a k (by omega)), c.2.2.2.2.2.keep (h2 114 0 (by omega)) (fun i => h2 115 i (by omega)) (fun _ _ => rfl)⟩
theorem CS.at {x y : Cn} {b : TT} {n p p' : Nat} {T : TT} {lim : Int32} {W C S A : Nat} (c : CS x b n p T lim W C S A) (f : ATf x y) (t : CTk y b n p') (hp : p' ≤ n) : CS y b n p' T lim W C S A := c.mv f.1 (fun a k q => f.2 a k (by omega)) t hp
theorem CS.u {x : Cn} {b : TT} {n p k : Nat} {T : TT} {lim v : Int32} {W C S A : Nat} (c : CS x b n p T lim W C S A) (hk : k ≠ 6 ∧ k ≠ 11 ∧ ¬ (7 ≤ k ∧ k ≤ 10)) : CS (ui x 59 k v) b n p T lim W C S A := c.mv rfl (fun a j q => by rw [gi_ui, if_neg (by omega)]) (c.2.1.u (by omega)) c.2.2.1
theorem CS.s2 {x : Cn} {b : TT} {n p : Nat} {T : TT} {lim : Int32} {W C S A : Nat} (c : CS x b n p T lim W C S A) : gi x 60 0 = nI W ∧ gi x 60 3 = nI S ∧ gi x 60 4 = nI A ∧ gi x 114 0 = nI C := by
  obtain ⟨-, -, -, -, ⟨-, -, ⟨v0, -, -, v3, v4, -⟩, w0, -, -, -, -, w2, -, w3, -⟩, nm, -⟩ := c
  exact ⟨v0.trans w0, v3.trans w2, v4.trans w3, nm⟩
theorem k60 : kk KW 60 = some (4, 0) := by decide
theorem k114 : kk KW 114 = some (1, 0) := by decide
theorem k115 : kk KW 115 = some (20, 48) := by decide
theorem SEA.lim {y : Cn} {W C S A N h p q s : Nat} {T : TT} (E : SEA y s T W C S A N) (hh : h < 24) (hp : p ≤ 10) (hq : q ≤ 10) : SEA (ui (ui y (s + 1) h (nI p)) (s + 2) h (nI q)) s (lmT T h (nI p) (nI q)) W C S A N := by
  obtain ⟨e1, e2, ⟨v0, v1, v2, v3, v4, v5, v6, v7⟩, w1, w2, w3, w4, w5, w6, w7, w8, w9, w10, w11, w12, w13, w14⟩ := E
  obtain ⟨r1, r2, r3, r4, r5, r6, r7, r8, r9⟩ := id e2
  have eo : ∀ b k, b ≠ s + 1 → b ≠ s + 2 → gi (ui (ui y (s + 1) h (nI p)) (s + 2) h (nI q)) b k = gi y b k := fun b k c1 c2 => by rw [gi_ui, if_neg (fun z => c2 z.1), gi_ui, if_neg (fun z => c1 z.1)]
  have eT : ∀ i, i ≠ 6 + 2 * h → i ≠ 7 + 2 * h → lmT T h (nI p) (nI q) i = T i := fun i c1 c2 => by unfold lmT; rw [uT_ne _ _ c2, uT_ne _ _ c1]
  have e6 : lmT T h (nI p) (nI q) (6 + 2 * h) = nI p := by unfold lmT; rw [uT_ne _ _ (by omega), uT_at]
  have e7 : lmT T h (nI p) (nI q) (7 + 2 * h) = nI q := by unfold lmT; rw [uT_at]
  refine ⟨e1, e2.keep rfl, ⟨?_, ?_, ?_, ?_, ?_, ?_, ?_, ?_⟩, ?_⟩
  · rw [eo s 0 (by omega) (by omega), eT 0 (by omega) (by omega)]; exact v0
  · rw [eo s 1 (by omega) (by omega), eT 4 (by omega) (by omega)]; exact v1
  · rw [eo s 2 (by omega) (by omega), eT 5 (by omega) (by omega)]; exact v2
  · rw [eo s 3 (by omega) (by omega), eT 2 (by omega) (by omega)]; exact v3
  · rw [eo s 4 (by omega) (by omega), eT 3 (by omega) (by omega)]; exact v4
  · intro i hi
    by_cases c : i = h
    · subst c
      rw [e6, e7]
      exact ⟨by rw [gi_ui, if_neg (by omega), gi_ui, if_pos ⟨rfl, rfl⟩], by rw [gi_ui, if_pos ⟨rfl, rfl⟩]⟩
    · rw [eT _ (by omega) (by omega), eT _ (by omega) (by omega), gi_ui, if_neg (by omega), gi_ui, if_neg (by omega), gi_ui, if_neg (by omega), gi_ui, if_neg (by omega)]
      exact v5 i hi
  · intro i u hi hu
    obtain ⟨j, hj, ej⟩ := r6 i (by omega)
    have hu' : gr y (s + 3) i = some u := hu
    have eu : u = s + 6 + j := Option.some.inj (hu'.symm.trans ej)
    have := v6 i u hi hu
    exact this.cg (fun k _ => eo u k (by omega) (by omega)) (fun k hk => eT _ (by omega) (by omega))
  · intro i u hi hu
    obtain ⟨j, hj, ej⟩ := r8 i (by omega)
    have hu' : gr y (s + 4) i = some u := hu
    have eu : u = s + 30 + j := Option.some.inj (hu'.symm.trans ej)
    have := v7 i u hi hu
    exact this.cg (fun k _ => eo u k (by omega) (by omega)) (fun k hk => eT _ (by omega) (by omega))
  · refine ⟨by rw [eT 0 (by omega) (by omega)]; exact w1, w2, w3, by rw [eT 1 (by omega) (by omega)]; exact w4, w5, by rw [eT 2 (by omega) (by omega)]; exact w6, w7, by rw [eT 3 (by omega) (by omega)]; exact w8, w9, by rw [eT 4 (by omega) (by omega)]; exact w10, w11, fun i hi => ?_, fun i hi => (w13 i hi).cg (fun k hk => eT _ (by omega) (by omega)), fun i hi => (w14 i hi).cg (fun k hk => eT _ (by omega) (by omega))⟩
    by_cases c : i = h
    · subst c
      exact ⟨p, q, hp, hq, e6, e7⟩
    · rw [eT _ (by omega) (by omega), eT _ (by omega) (by omega)]
      exact w12 i hi
/-! the line of weeks -/
def okW (b : TT) (n p : Nat) : Prop := iw b n p 7 ∧ nb b n (nxt b n 1 p) 5 30 ∧ sg b n (nxt b n 2 p) 59
/-- the row ahead of all lines -/
def T00 (j : TT) : TT := fun i => if i < 518 then (if 6 ≤ i ∧ i < 54 then 4 else 0) else j i
theorem T00_4 {j : TT} {i : Nat} (h : 6 ≤ i ∧ i < 54) : T00 j i = 4 := by unfold T00; rw [if_pos (by omega), if_pos h]
theorem T00_0 {j : TT} {i : Nat} (h : i < 6 ∨ (54 ≤ i ∧ i < 518)) : T00 j i = 0 := by unfold T00; rw [if_pos (by omega), if_neg (by omega)]
theorem SEA.wk {x : Cn} {W : Nat} {j : TT} (E : SEA x 60 (T00 j) 0 0 0 0 0) (h1 : 5 ≤ W) (h2 : W ≤ 30) : SEA (ui x 60 0 (nI W)) 60 (uT (T00 j) 0 (nI W)) W 0 0 0 0 := by
  obtain ⟨e1, e2, ⟨v0, v1, v2, v3, v4, v5, v6, v7⟩, -⟩ := E
  have eT : ∀ i, i ≠ 0 → uT (T00 j) 0 (nI W) i = T00 j i := fun i c => uT_ne _ _ c
  refine ⟨e1, e2.keep rfl, ⟨?_, ?_, ?_, ?_, ?_, fun h hh => ?_, fun s p hs => absurd hs (by omega), fun s p hs => absurd hs (by omega)⟩, uT_at _ _ _, Or.inr h1, h2, ?_, by omega, ?_, by omega, ?_, by omega, ?_, by omega, fun h hh => ⟨4, 4, by omega, by omega, ?_, ?_⟩, fun s hs => absurd hs (by omega), fun s hs => absurd hs (by omega)⟩
  · rw [gi_ui, if_pos ⟨rfl, rfl⟩, uT_at]
  · rw [gi_ui, if_neg (by omega), eT 4 (by omega)]; exact v1
  · rw [gi_ui, if_neg (by omega), eT 5 (by omega)]; exact v2
  · rw [gi_ui, if_neg (by omega), eT 2 (by omega)]; exact v3
  · rw [gi_ui, if_neg (by omega), eT 3 (by omega)]; exact v4
  · rw [gi_ui, if_neg (by omega), gi_ui, if_neg (by omega), eT _ (by omega), eT _ (by omega)]; exact v5 h hh
  · rw [eT 1 (by omega)]; exact T00_0 (by omega)
  · rw [eT 2 (by omega)]; exact T00_0 (by omega)
  · rw [eT 3 (by omega)]; exact T00_0 (by omega)
  · rw [eT 4 (by omega)]; exact T00_0 (by omega)
  · rw [eT _ (by omega)]; exact T00_4 (by omega)
  · rw [eT _ (by omega)]; exact T00_4 (by omega)
end
set_option maxHeartbeats 2000000 in
theorem v_X3_readWeeks_0 {K : Sh} {x : Cn} {Q : Int32 → Cn → Prop} {b0 : Nat}  (k_b0 : kk K b0 = some (3, 0)) (K0 : mSI mX3_takeWord [.ref b0, .int 7] K x (fun r_2 y_1 => (r_2 = 0 → (Q 0 y_1)) ∧ (¬ r_2 = 0 → (mSI mX3_isNumber [.ref b0, .int 5, .int 30] K y_1 (fun r_5 y_4 => (¬ r_5 = 0 → (∃ c_7 : Nat, gr y_4 b0 0 = some c_7 ∧ (kk K c_7 = some (4, 0) ∧ (mSV mX3_advance [.ref b0] K (ui y_4 c_7 0 (gi y_4 b0 10)) (fun y_10 => mSI mX3_takeSign [.ref b0, .int 59] K y_10 (fun r_12 y_11 => (r_12 = 0 ∨ r_12 = 1) ∧ (Q r_12 y_11))))))) ∧ (r_5 = 0 → (Q 0 y_4))))))) : mSI mX3_readWeeks [.ref b0] K x Q := by
  refine s_I (by decide) (by simp [Value.category]) (Nat.le_of_ble_eq_true rfl) ?_
  show mGM mX3_readWeeks 0 [some (.ref b0)] [] (hp K x) (PI K Q)
  refine r_aload_n (pc := 0) dX3_readWeeks_0 rfl ?_
  refine r_bipush (pc := 1) (v := 7) dX3_readWeeks_1 (by decide) ?_
  refine s_VI (pc := 3) mX3_takeWord (ci := 3) (a := b0) (As := [.int 7]) dX3_readWeeks_3 lk_X3_97 in_X3_takeWord mo_X3_takeWord ⟨by decide, rfl⟩ ⟨by decide, by decide⟩ (Nat.le_of_ble_eq_true rfl) k_b0 (mSI_mono K0 (fun r_2 y_1 K0 => ?_))
  refine r_if_eq (pc := 6) (tgt := 19) dX3_readWeeks_6 (by decide) (fun q => ?_) (fun q => ?_)
  · have K0 := K0.1 q
    refine r_iconst (pc := 19) (v := 0) dX3_readWeeks_19 (by decide) ?_
    exact s_zret rfl (by decide) dX3_readWeeks_20 K0
  · have K0 := K0.2 q
    refine r_aload_n (pc := 9) dX3_readWeeks_9 rfl ?_
    refine r_iconst (pc := 10) (v := 5) dX3_readWeeks_10 (by decide) ?_
    refine r_bipush (pc := 11) (v := 30) dX3_readWeeks_11 (by decide) ?_
    refine s_VI (pc := 13) mX3_isNumber (ci := 3) (a := b0) (As := [.int 5, .int 30]) dX3_readWeeks_13 lk_X3_101 in_X3_isNumber mo_X3_isNumber ⟨by decide, rfl⟩ ⟨by decide, by decide⟩ (Nat.le_of_ble_eq_true rfl) k_b0 (mSI_mono K0 (fun r_5 y_4 K0 => ?_))
    refine r_if_ne (pc := 16) (tgt := 21) dX3_readWeeks_16 (by decide) (fun q => ?_) (fun q => ?_)
    · have K0 := K0.1 q
      refine r_aload_n (pc := 21) dX3_readWeeks_21 rfl ?_
      obtain ⟨c_7, g_8, K0⟩ := K0
      refine s_getR (pc := 22) dX3_readWeeks_22 fl_X3_12 rfl k_b0 g_8 ?_
      refine r_aload_n (pc := 25) dX3_readWeeks_25 rfl ?_
      refine s_getI (pc := 26) dX3_readWeeks_26 fl_X3_51 rfl k_b0 ?_
      obtain ⟨e_9, K0⟩ := K0
      refine s_putI (pc := 29) dX3_readWeeks_29 fl_X3_105 rfl rfl e_9 ?_
      refine r_aload_n (pc := 32) dX3_readWeeks_32 rfl ?_
      refine s_VV (pc := 33) mX3_advance (ci := 3) (a := b0) (As := []) dX3_readWeeks_33 lk_X3_87 in_X3_advance mo_X3_advance ⟨by decide, rfl⟩ ⟨by decide, by decide⟩ (Nat.le_of_ble_eq_true rfl) k_b0 (mSV_mono K0 (fun y_10 K0 => ?_))
      refine r_aload_n (pc := 36) dX3_readWeeks_36 rfl ?_
      refine r_bipush (pc := 37) (v := 59) dX3_readWeeks_37 (by decide) ?_
      refine s_VI (pc := 39) mX3_takeSign (ci := 3) (a := b0) (As := [.int 59]) dX3_readWeeks_39 lk_X3_106 in_X3_takeSign mo_X3_takeSign ⟨by decide, rfl⟩ ⟨by decide, by decide⟩ (Nat.le_of_ble_eq_true rfl) k_b0 (mSI_mono K0 (fun r_12 y_11 K0 => ?_))
      obtain ⟨p_13, K0⟩ := K0
      exact s_zret rfl p_13 dX3_readWeeks_42 K0
    · have K0 := K0.2 q
      refine r_iconst (pc := 19) (v := 0) dX3_readWeeks_19 (by decide) ?_
      exact s_zret rfl (by decide) dX3_readWeeks_20 K0
section
theorem sp_X3_readWeeks {x : Cn} {Q : Int32 → Cn → Prop} {b j : TT} {n p : Nat} (B : RB x b n) (t : CTk x b n p) (hp : p ≤ n) (h11 : gi x 59 11 = 0) (E : SEA x 60 (T00 j) 0 0 0 0 0) (h0 : gi x 114 0 = 0) (k1 : okW b n p → ∀ y, SCf x y → CS y b n (nxt b n 3 p) (uT (T00 j) 0 (nI (tV b n (nxt b n 1 p)))) 0 (tV b n (nxt b n 1 p)) 0 0 0 → Q 1 y) (k0 : ¬ okW b n p → ∀ y, SCf x y → Q 0 y) : mSI mX3_readWeeks [.ref 59] KW x Q := by
  have q1 : tE b n p ≤ n := nxt_le (k := 1) hp
  have q2 : tE b n (tE b n p) ≤ n := nxt_le (k := 2) hp
  refine v_X3_readWeeks_0 k59 (sp_X3_takeWord (i := 7) B t hp (fun o1 y f1 B1 t1 => ⟨fun z => absurd z (by decide), fun _ => ?_⟩) (fun o1 y f => ⟨fun _ => k0 (fun o => o1 o.1) y f.sc, fun z => absurd rfl z⟩))
  refine sp_X3_isNumber (lo := 5) (hi := 30) t1 (by omega) (by omega) (fun o2 => ⟨fun _ => ⟨60, B1.2.2.2.2.1, k60, ?_⟩, fun z => absurd z (by decide)⟩) (fun o2 y2 f2 => ⟨fun z => absurd rfl z, fun _ => k0 (fun o => o2 o.2.1) y2 (f1.sc.tr f2.sc)⟩)
  have hW : min (tV b n (tE b n p)) 100000 = tV b n (tE b n p) := by have := o2.2.2; omega
  have hv := t1.2.2.2.2.1 o2.1
  rw [hW] at hv
  rw [hv]
  have f2 : SCf x (ui y 60 0 (nI (tV b n (tE b n p)))) := f1.sc.u (by omega)
  have E1 : SEA y 60 (T00 j) 0 0 0 0 0 := E.keep f1.1 (fun a k _ _ _ => f1.2 a k (by omega))
  have E2 := E1.wk (W := tV b n (tE b n p)) o2.2.1 o2.2.2
  have B2 : RB (ui y 60 0 (nI (tV b n (tE b n p)))) b n := B1.u (by omega) (by omega)
  have t2 : CTk (ui y 60 0 (nI (tV b n (tE b n p)))) b n (tE b n p) := t1.u (by omega)
  have y11 : gi (ui y 60 0 (nI (tV b n (tE b n p)))) 59 11 = 0 := by rw [gi_ui, if_neg (by omega)]; exact (f1.2 59 11 (by omega)).trans h11
  have y114 : gi (ui y 60 0 (nI (tV b n (tE b n p)))) 114 0 = 0 := by rw [gi_ui, if_neg (by omega)]; exact (f1.2 114 0 (by omega)).trans h0
  generalize ui y 60 0 (nI (tV b n (tE b n p))) = u at f2 E2 B2 t2 y11 y114
  have c2 : CS u b n (tE b n p) (uT (T00 j) 0 (nI (tV b n (tE b n p)))) 0 (tV b n (tE b n p)) 0 0 0 := ⟨B2, t2, q1, y11, E2, ⟨y114, fun c hc => absurd hc (by omega)⟩⟩
  refine ad_c B2 t2 q1 (fun y3 f3 B3 t3 => ?_)
  refine sp_X3_takeSign B3 t3 q2 (fun o3 y4 f4 B4 t4 => ⟨Or.inr rfl, ?_⟩) (fun o3 y4 f4 => ⟨Or.inl rfl, k0 (fun o => o3 o.2.2) y4 ((f2.tr f3.sc).tr f4.sc)⟩)
  exact k1 ⟨o1, o2, o3⟩ y4 ((f2.tr f3.sc).tr f4.sc) (((c2.at f3 t3 q2).at f4 t4 (nxt_le (k := 3) hp)))
/-! a limit's line -/
def okL (b : TT) (n p : Nat) (lim : Int32) (S : Nat) : Prop := S = 0 ∧ nb b n (nxt b n 1 p) 0 23 ∧ ¬ tb lim (tV b n (nxt b n 1 p)) = true ∧ nb b n (nxt b n 2 p) 0 9 ∧ iw b n (nxt b n 3 p) 12 ∧ nb b n (nxt b n 4 p) 0 (tV b n (nxt b n 2 p)) ∧ sg b n (nxt b n 5 p) 59
def lmL (b : TT) (n p : Nat) (lim : Int32) : Int32 := lim ||| (1 <<< (nI (tV b n (nxt b n 1 p)) &&& 31))
def lTT (b : TT) (n p : Nat) (T : TT) : TT := lmT T (tV b n (nxt b n 1 p)) (nI (tV b n (nxt b n 2 p))) (nI (tV b n (nxt b n 4 p)))
theorem mn5 {V m : Nat} (h : V ≤ m) (hm : m ≤ 9000) : min V 100000 = V ∧ min V 9999 = V := by omega
end
set_option maxHeartbeats 2000000 in
theorem v_X3_readLimit_0 {K : Sh} {x : Cn} {Q : Int32 → Cn → Prop} {b0 : Nat} {b0_0 : Nat} (k_b0 : kk K b0 = some (3, 0)) (g_b0_0 : gr x b0 0 = some b0_0) (k_b0_0 : kk K b0_0 = some (4, 0)) (K0 : ((gi x b0_0 3) ≤ 0 → (mSV mX3_advance [.ref b0] K x (fun y_2 => mSI mX3_isNumber [.ref b0, .int 0, .int 23] K y_2 (fun r_4 y_3 => (¬ r_4 = 0 → ((¬ (f_bit (gi y_3 b0 11) (gi y_3 b0 10)) → (mSV mX3_advance [.ref b0] K (ui y_3 b0 11 ((gi y_3 b0 11) ||| (1 <<< ((gi y_3 b0 10) &&& 31)))) (fun y_7 => mSI mX3_isNumber [.ref b0, .int 0, .int 9] K y_7 (fun r_9 y_8 => (¬ r_9 = 0 → (mSV mX3_advance [.ref b0] K y_8 (fun y_11 => mSI mX3_takeWord [.ref b0, .int 12] K y_11 (fun r_13 y_12 => (r_13 = 0 → (Q 0 y_12)) ∧ (¬ r_13 = 0 → (mSI mX3_isNumber [.ref b0, .int 0, .int (gi y_8 b0 10)] K y_12 (fun r_16 y_15 => (¬ r_16 = 0 → (gr y_15 b0 0 = some b0_0 ∧ (∃ c_19 : Nat, gr y_15 b0_0 5 = some c_19 ∧ (∃ n_22 : Nat, kk K c_19 = some (20, n_22) ∧ (vp_in (gi y_3 b0 10) n_22 ∧ (∃ c_24 : Nat, gr y_15 b0_0 6 = some c_24 ∧ (∀ r_26 : Int32, r_26 = gi (ui y_15 c_19 ((gi y_3 b0 10) : Int32).toNatClampNeg (gi y_8 b0 10)) b0 10 → (∃ n_29 : Nat, kk K c_24 = some (20, n_29) ∧ (vp_in (gi y_3 b0 10) n_29 ∧ (mSV mX3_advance [.ref b0] K (ui (ui y_15 c_19 ((gi y_3 b0 10) : Int32).toNatClampNeg (gi y_8 b0 10)) c_24 ((gi y_3 b0 10) : Int32).toNatClampNeg r_26) (fun y_31 => mSI mX3_takeSign [.ref b0, .int 59] K y_31 (fun r_33 y_32 => (r_33 = 0 ∨ r_33 = 1) ∧ (Q r_33 y_32))))))))))))) ∧ (r_16 = 0 → (Q 0 y_15))))))))) ∧ (r_9 = 0 → (Q 0 y_8)))))) ∧ ((f_bit (gi y_3 b0 11) (gi y_3 b0 10)) → (mSI mX3_fail [.ref b0, .int 3] K y_3 (fun r_36 y_35 => (r_36 = 0 ∨ r_36 = 1) ∧ (Q r_36 y_35)))))) ∧ (r_4 = 0 → (Q 0 y_3)))))) ∧ (¬ (gi x b0_0 3) ≤ 0 → (mSI mX3_fail [.ref b0, .int 5] K x (fun r_39 y_38 => (r_39 = 0 ∨ r_39 = 1) ∧ (Q r_39 y_38))))) : mSI mX3_readLimit [.ref b0] K x Q := by
  refine s_I (by decide) (by simp [Value.category]) (Nat.le_of_ble_eq_true rfl) ?_
  show mGM mX3_readLimit 0 [some (.ref b0), none, none] [] (hp K x) (PI K Q)
  refine r_aload_n (pc := 0) dX3_readLimit_0 rfl ?_
  refine s_getR (pc := 1) dX3_readLimit_1 fl_X3_12 rfl k_b0 g_b0_0 ?_
  refine s_getI (pc := 4) dX3_readLimit_4 fl_X3_128 rfl k_b0_0 ?_
  refine r_if_le (pc := 7) (tgt := 16) dX3_readLimit_7 (by decide) (fun q => ?_) (fun q => ?_)
  · have K0 := K0.1 q
    refine r_aload_n (pc := 16) dX3_readLimit_16 rfl ?_
    refine s_VV (pc := 17) mX3_advance (ci := 3) (a := b0) (As := []) dX3_readLimit_17 lk_X3_87 in_X3_advance mo_X3_advance ⟨by decide, rfl⟩ ⟨by decide, by decide⟩ (Nat.le_of_ble_eq_true rfl) k_b0 (mSV_mono K0 (fun y_2 K0 => ?_))
    refine r_aload_n (pc := 20) dX3_readLimit_20 rfl ?_
    refine r_iconst (pc := 21) (v := 0) dX3_readLimit_21 (by decide) ?_
    refine r_bipush (pc := 22) (v := 23) dX3_readLimit_22 (by decide) ?_
    refine s_VI (pc := 24) mX3_isNumber (ci := 3) (a := b0) (As := [.int 0, .int 23]) dX3_readLimit_24 lk_X3_101 in_X3_isNumber mo_X3_isNumber ⟨by decide, rfl⟩ ⟨by decide, by decide⟩ (Nat.le_of_ble_eq_true rfl) k_b0 (mSI_mono K0 (fun r_4 y_3 K0 => ?_))
    refine r_if_ne (pc := 27) (tgt := 32) dX3_readLimit_27 (by decide) (fun q => ?_) (fun q => ?_)
    · have K0 := K0.1 q
      refine r_aload_n (pc := 32) dX3_readLimit_32 rfl ?_
      refine s_getI (pc := 33) dX3_readLimit_33 fl_X3_51 rfl k_b0 ?_
      refine r_istore_n (pc := 36) dX3_readLimit_36 (by decide) ?_
      refine r_aload_n (pc := 37) (L := [some (.ref b0), some (.int (gi y_3 b0 10)), none]) dX3_readLimit_37 rfl ?_
      refine s_getI (pc := 38) dX3_readLimit_38 fl_X3_54 rfl k_b0 ?_
      refine r_iload_n (pc := 41) dX3_readLimit_41 rfl ?_
      refine s_SNI (pc := 42) mX7_hasBit (As := [.int (gi y_3 b0 11), .int (gi y_3 b0 10)]) dX3_readLimit_42 nl_X3_131 st_X7_hasBit mo_X7_hasBit ⟨by decide, by decide⟩ (Nat.le_of_ble_eq_true rfl) (sp_X7_hasBit  ?_)
      refine r_if_eq (pc := 45) (tgt := 54) dX3_readLimit_45 (by decide) (fun q => ?_) (fun q => ?_)
      · have q := (b2i_z _).mp q
        have K0 := K0.1 q
        refine r_aload_n (pc := 54) dX3_readLimit_54 rfl ?_
        refine r_dup (pc := 55) dX3_readLimit_55 rfl ?_
        refine s_getI (pc := 56) dX3_readLimit_56 fl_X3_54 rfl k_b0 ?_
        refine r_iconst (pc := 59) (v := 1) dX3_readLimit_59 (by decide) ?_
        refine r_iload_n (pc := 60) dX3_readLimit_60 rfl ?_
        refine r_ishl (pc := 61) dX3_readLimit_61 ?_
        refine r_ior (pc := 62) dX3_readLimit_62 ?_
        refine s_putI (pc := 63) dX3_readLimit_63 fl_X3_54 rfl rfl k_b0 ?_
        refine r_aload_n (pc := 66) dX3_readLimit_66 rfl ?_
        refine s_VV (pc := 67) mX3_advance (ci := 3) (a := b0) (As := []) dX3_readLimit_67 lk_X3_87 in_X3_advance mo_X3_advance ⟨by decide, rfl⟩ ⟨by decide, by decide⟩ (Nat.le_of_ble_eq_true rfl) k_b0 (mSV_mono K0 (fun y_7 K0 => ?_))
        refine r_aload_n (pc := 70) dX3_readLimit_70 rfl ?_
        refine r_iconst (pc := 71) (v := 0) dX3_readLimit_71 (by decide) ?_
        refine r_bipush (pc := 72) (v := 9) dX3_readLimit_72 (by decide) ?_
        refine s_VI (pc := 74) mX3_isNumber (ci := 3) (a := b0) (As := [.int 0, .int 9]) dX3_readLimit_74 lk_X3_101 in_X3_isNumber mo_X3_isNumber ⟨by decide, rfl⟩ ⟨by decide, by decide⟩ (Nat.le_of_ble_eq_true rfl) k_b0 (mSI_mono K0 (fun r_9 y_8 K0 => ?_))
        refine r_if_ne (pc := 77) (tgt := 82) dX3_readLimit_77 (by decide) (fun q => ?_) (fun q => ?_)
        · have K0 := K0.1 q
          refine r_aload_n (pc := 82) dX3_readLimit_82 rfl ?_
          refine s_getI (pc := 83) dX3_readLimit_83 fl_X3_51 rfl k_b0 ?_
          refine r_istore_n (pc := 86) dX3_readLimit_86 (by decide) ?_
          refine r_aload_n (pc := 87) (L := [some (.ref b0), some (.int (gi y_3 b0 10)), some (.int (gi y_8 b0 10))]) dX3_readLimit_87 rfl ?_
          refine s_VV (pc := 88) mX3_advance (ci := 3) (a := b0) (As := []) dX3_readLimit_88 lk_X3_87 in_X3_advance mo_X3_advance ⟨by decide, rfl⟩ ⟨by decide, by decide⟩ (Nat.le_of_ble_eq_true rfl) k_b0 (mSV_mono K0 (fun y_11 K0 => ?_))
          refine r_aload_n (pc := 91) dX3_readLimit_91 rfl ?_
          refine r_bipush (pc := 92) (v := 12) dX3_readLimit_92 (by decide) ?_
          refine s_VI (pc := 94) mX3_takeWord (ci := 3) (a := b0) (As := [.int 12]) dX3_readLimit_94 lk_X3_97 in_X3_takeWord mo_X3_takeWord ⟨by decide, rfl⟩ ⟨by decide, by decide⟩ (Nat.le_of_ble_eq_true rfl) k_b0 (mSI_mono K0 (fun r_13 y_12 K0 => ?_))
          refine r_if_eq (pc := 97) (tgt := 109) dX3_readLimit_97 (by decide) (fun q => ?_) (fun q => ?_)
          · have K0 := K0.1 q
            refine r_iconst (pc := 109) (v := 0) dX3_readLimit_109 (by decide) ?_
            exact s_zret rfl (by decide) dX3_readLimit_110 K0
          · have K0 := K0.2 q
            refine r_aload_n (pc := 100) dX3_readLimit_100 rfl ?_
            refine r_iconst (pc := 101) (v := 0) dX3_readLimit_101 (by decide) ?_
            refine r_iload_n (pc := 102) dX3_readLimit_102 rfl ?_
            refine s_VI (pc := 103) mX3_isNumber (ci := 3) (a := b0) (As := [.int 0, .int (gi y_8 b0 10)]) dX3_readLimit_103 lk_X3_101 in_X3_isNumber mo_X3_isNumber ⟨by decide, rfl⟩ ⟨by decide, by decide⟩ (Nat.le_of_ble_eq_true rfl) k_b0 (mSI_mono K0 (fun r_16 y_15 K0 => ?_))
            refine r_if_ne (pc := 106) (tgt := 111) dX3_readLimit_106 (by decide) (fun q => ?_) (fun q => ?_)
            · have K0 := K0.1 q
              refine r_aload_n (pc := 111) dX3_readLimit_111 rfl ?_
              obtain ⟨g_18, K0⟩ := K0
              refine s_getR (pc := 112) dX3_readLimit_112 fl_X3_12 rfl k_b0 g_18 ?_
              obtain ⟨c_19, g_20, K0⟩ := K0
              refine s_getR (pc := 115) dX3_readLimit_115 fl_X3_134 rfl k_b0_0 g_20 ?_
              refine r_iload_n (pc := 118) dX3_readLimit_118 rfl ?_
              refine r_iload_n (pc := 119) dX3_readLimit_119 rfl ?_
              obtain ⟨n_22, e_21, K0⟩ := K0
              obtain ⟨i_23, K0⟩ := K0
              refine s_iast (pc := 120) dX3_readLimit_120 e_21 i_23 ?_
              refine r_aload_n (pc := 121) dX3_readLimit_121 rfl ?_
              refine s_getR (pc := 122) dX3_readLimit_122 fl_X3_12 rfl k_b0 g_18 ?_
              obtain ⟨c_24, g_25, K0⟩ := K0
              refine s_getR (pc := 125) dX3_readLimit_125 fl_X3_138 rfl k_b0_0 g_25 ?_
              refine r_iload_n (pc := 128) dX3_readLimit_128 rfl ?_
              refine r_aload_n (pc := 129) dX3_readLimit_129 rfl ?_
              refine s_getI (pc := 130) dX3_readLimit_130 fl_X3_51 rfl k_b0 ?_
              obtain ⟨r_26, w_27⟩ : ∃ z : Int32, z = gi (ui y_15 c_19 ((gi y_3 b0 10) : Int32).toNatClampNeg (gi y_8 b0 10)) b0 10 := ⟨_, rfl⟩
              rw [← w_27]
              have K0 := K0 r_26 w_27
              obtain ⟨n_29, e_28, K0⟩ := K0
              obtain ⟨i_30, K0⟩ := K0
              refine s_iast (pc := 133) dX3_readLimit_133 e_28 i_30 ?_
              refine r_aload_n (pc := 134) dX3_readLimit_134 rfl ?_
              refine s_VV (pc := 135) mX3_advance (ci := 3) (a := b0) (As := []) dX3_readLimit_135 lk_X3_87 in_X3_advance mo_X3_advance ⟨by decide, rfl⟩ ⟨by decide, by decide⟩ (Nat.le_of_ble_eq_true rfl) k_b0 (mSV_mono K0 (fun y_31 K0 => ?_))
              refine r_aload_n (pc := 138) dX3_readLimit_138 rfl ?_
              refine r_bipush (pc := 139) (v := 59) dX3_readLimit_139 (by decide) ?_
              refine s_VI (pc := 141) mX3_takeSign (ci := 3) (a := b0) (As := [.int 59]) dX3_readLimit_141 lk_X3_106 in_X3_takeSign mo_X3_takeSign ⟨by decide, rfl⟩ ⟨by decide, by decide⟩ (Nat.le_of_ble_eq_true rfl) k_b0 (mSI_mono K0 (fun r_33 y_32 K0 => ?_))
              obtain ⟨p_34, K0⟩ := K0
              exact s_zret rfl p_34 dX3_readLimit_144 K0
            · have K0 := K0.2 q
              refine r_iconst (pc := 109) (v := 0) dX3_readLimit_109 (by decide) ?_
              exact s_zret rfl (by decide) dX3_readLimit_110 K0
        · have K0 := K0.2 q
          refine r_iconst (pc := 80) (v := 0) dX3_readLimit_80 (by decide) ?_
          exact s_zret rfl (by decide) dX3_readLimit_81 K0
      · have q := b2i_nz q
        have K0 := K0.2 q
        refine r_aload_n (pc := 48) dX3_readLimit_48 rfl ?_
        refine r_iconst (pc := 49) (v := 3) dX3_readLimit_49 (by decide) ?_
        refine s_VI (pc := 50) mX3_fail (ci := 3) (a := b0) (As := [.int 3]) dX3_readLimit_50 lk_X3_125 in_X3_fail mo_X3_fail ⟨by decide, rfl⟩ ⟨by decide, by decide⟩ (Nat.le_of_ble_eq_true rfl) k_b0 (mSI_mono K0 (fun r_36 y_35 K0 => ?_))
        obtain ⟨p_37, K0⟩ := K0
        exact s_zret rfl p_37 dX3_readLimit_53 K0
    · have K0 := K0.2 q
      refine r_iconst (pc := 30) (v := 0) dX3_readLimit_30 (by decide) ?_
      exact s_zret rfl (by decide) dX3_readLimit_31 K0
  · have K0 := K0.2 q
    refine r_aload_n (pc := 10) dX3_readLimit_10 rfl ?_
    refine r_iconst (pc := 11) (v := 5) dX3_readLimit_11 (by decide) ?_
    refine s_VI (pc := 12) mX3_fail (ci := 3) (a := b0) (As := [.int 5]) dX3_readLimit_12 lk_X3_125 in_X3_fail mo_X3_fail ⟨by decide, rfl⟩ ⟨by decide, by decide⟩ (Nat.le_of_ble_eq_true rfl) k_b0 (mSI_mono K0 (fun r_39 y_38 K0 => ?_))
    obtain ⟨p_40, K0⟩ := K0
    exact s_zret rfl p_40 dX3_readLimit_15 K0
section
theorem sp_X3_readLimit {x : Cn} {Q : Int32 → Cn → Prop} {b : TT} {n p : Nat} {T : TT} {lim : Int32} {W C S A : Nat} (c : CS x b n p T lim W C S A) (k1 : okL b n p lim S → ∀ y, SCf x y → CS y b n (nxt b n 6 p) (lTT b n p T) (lmL b n p lim) W C S A → Q 1 y) (k0 : ¬ okL b n p lim S → ∀ y, SCf x y → Q 0 y) : mSI mX3_readLimit [.ref 59] KW x Q := by
  have hp := c.2.2.1
  have q1 : nxt b n 1 p ≤ n := nxt_le hp
  have q2 : nxt b n 2 p ≤ n := nxt_le hp
  have q3 : nxt b n 3 p ≤ n := nxt_le hp
  have q4 : nxt b n 4 p ≤ n := nxt_le hp
  have q5 : nxt b n 5 p ≤ n := nxt_le hp
  have q6 : nxt b n 6 p ≤ n := nxt_le hp
  have hS : S ≤ 24 := c.2.2.2.2.1.2.2.2.2.2.2.2.2.2.1
  refine v_X3_readLimit_0 k59 c.1.2.2.2.2.1 k60 ?_
  rw [c.s2.2.1]
  have eS : nI S ≤ 0 ↔ S = 0 := by
    rw [show (0 : Int32) = nI 0 from rfl, nI_leI (by omega) (by omega)]
    omega
  refine ⟨fun z => ?_, fun z => sp_X3_fail (fun y f => ⟨Or.inl rfl, k0 (fun o => z (eS.mpr o.1)) y f.sc⟩)⟩
  have o0 := eS.mp z
  refine ad_c c.1 c.2.1 hp (fun y1 f1 B1 t1 => ?_)
  have c1 := c.at f1 t1 q1
  refine sp_X3_isNumber (lo := 0) (hi := 23) t1 (by omega) (by omega) (fun o1 => ⟨fun _ => ?_, fun z => absurd z (by decide)⟩) (fun o1 y2 f2 => ⟨fun z => absurd rfl z, fun _ => k0 (fun o => o1 o.2.1) y2 (f1.sc.tr f2.sc)⟩)
  have hv1 := t1.2.2.2.2.1 o1.1
  rw [(mn5 o1.2.2 (by omega)).1] at hv1
  have h23 : tV b n (tE b n p) ≤ 23 := o1.2.2
  rw [hv1, c1.2.2.2.1, f_bit_tb lim (show tV b n (tE b n p) < 32 by omega), nI_clamp (show tV b n (tE b n p) < 2 ^ 31 by omega)]
  refine ⟨fun o2 => ?_, fun o2 => sp_X3_fail (fun y f => ⟨Or.inl rfl, k0 (fun o => o.2.2.1 o2) y (f1.sc.tr f.sc)⟩)⟩
  have B1' : RB (ui y1 59 11 (lim ||| (1 <<< (nI (tV b n (tE b n p)) &&& 31)))) b n := B1.u (by omega) (by omega)
  have t1' : CTk (ui y1 59 11 (lim ||| (1 <<< (nI (tV b n (tE b n p)) &&& 31)))) b n (tE b n p) := t1.u (by omega)
  have f1' : SCf x (ui y1 59 11 (lim ||| (1 <<< (nI (tV b n (tE b n p)) &&& 31)))) := f1.sc.u (by omega)
  have c1' : CS (ui y1 59 11 (lim ||| (1 <<< (nI (tV b n (tE b n p)) &&& 31)))) b n (tE b n p) T (lmL b n p lim) W C S A :=
    ⟨B1', t1', q1, by rw [gi_ui, if_pos ⟨rfl, rfl⟩]; rfl, c1.2.2.2.2.1.keep rfl (fun a k q1 q2 _ => by rw [gi_ui, if_neg (by omega)]), c1.2.2.2.2.2.keep (by rw [gi_ui, if_neg (by omega)]) (fun i => by rw [gi_ui, if_neg (by omega)]) (fun _ _ => rfl)⟩
  generalize ui y1 59 11 (lim ||| (1 <<< (nI (tV b n (tE b n p)) &&& 31))) = u1 at B1' t1' f1' c1'
  refine ad_c B1' t1' q1 (fun y2 f2 B2 t2 => ?_)
  have c2 := c1'.at f2 t2 q2
  refine sp_X3_isNumber (lo := 0) (hi := 9) t2 (by omega) (by omega) (fun o3 => ⟨fun _ => ?_, fun z => absurd z (by decide)⟩) (fun o3 y3 f3 => ⟨fun z => absurd rfl z, fun _ => k0 (fun o => o3 o.2.2.2.1) y3 ((f1'.tr f2.sc).tr f3.sc)⟩)
  have hv2 := t2.2.2.2.2.1 o3.1
  rw [(mn5 o3.2.2 (by omega)).1] at hv2
  have h9 : tV b n (tE b n (tE b n p)) ≤ 9 := o3.2.2
  rw [hv2]
  refine ad_c B2 t2 q2 (fun y3 f3 B3 t3 => ?_)
  have c3 := c2.at f3 t3 q3
  refine sp_X3_takeWord (i := 12) B3 t3 q3 (fun o4 y4 f4 B4 t4 => ⟨fun z => absurd z (by decide), fun _ => ?_⟩) (fun o4 y4 f4 => ⟨fun _ => k0 (fun o => o4 o.2.2.2.2.1) y4 (((f1'.tr f2.sc).tr f3.sc).tr f4.sc), fun z => absurd rfl z⟩)
  have c4 := c3.at f4 t4 q4
  have g4 : SCf x y4 := ((f1'.tr f2.sc).tr f3.sc).tr f4.sc
  refine sp_X3_isNumber (lo := 0) t4 (by omega) (show tV b n (tE b n (tE b n p)) < 100000 by omega) (fun o5 => ⟨fun _ => ⟨B4.2.2.2.2.1, 61, c4.2.2.2.2.1.2.1.1, 24, by decide, vp_in_nI (by omega) (by decide), 62, c4.2.2.2.2.1.2.1.2.1, fun r hr => ⟨24, by decide, vp_in_nI (by omega) (by decide), ?_⟩⟩, fun z => absurd z (by decide)⟩) (fun o5 y5 f5 => ⟨fun z => absurd rfl z, fun _ => k0 (fun o => o5 o.2.2.2.2.2.1) y5 (g4.tr f5.sc)⟩)
  have hv4 := t4.2.2.2.2.1 o5.1
  have h49 : tV b n (tE b n (tE b n (tE b n (tE b n p)))) ≤ 9 := Nat.le_trans o5.2.2 h9
  rw [(mn5 h49 (by omega)).1] at hv4
  rw [gi_ui, if_neg (by omega), hv4] at hr
  rw [hr]
  have h23' : tV b n (nxt b n 1 p) ≤ 23 := h23
  have E5 := c4.2.2.2.2.1.lim (h := tV b n (nxt b n 1 p)) (p := tV b n (nxt b n 2 p)) (q := tV b n (nxt b n 4 p)) (show tV b n (tE b n p) < 24 by omega) (Nat.le_trans h9 (by omega)) (Nat.le_trans h49 (by omega))
  have c5 : CS (ui (ui y4 61 (tV b n (nxt b n 1 p)) (nI (tV b n (nxt b n 2 p)))) 62 (tV b n (nxt b n 1 p)) (nI (tV b n (nxt b n 4 p)))) b n (nxt b n 4 p) (lTT b n p T) (lmL b n p lim) W C S A :=
    ⟨(B4.u (by omega) (by omega)).u (by omega) (by omega), (t4.u (by omega)).u (by omega), q4, by rw [gi_ui, if_neg (by omega), gi_ui, if_neg (by omega)]; exact c4.2.2.2.1, E5, c4.2.2.2.2.2.keep (by rw [gi_ui, if_neg (by omega), gi_ui, if_neg (by omega)]) (fun i => by rw [gi_ui, if_neg (by omega), gi_ui, if_neg (by omega)]) (fun i hi => by unfold lTT lmT; rw [uT_ne _ _ (show 54 + i ≠ 7 + 2 * tV b n (nxt b n 1 p) by omega), uT_ne _ _ (show 54 + i ≠ 6 + 2 * tV b n (nxt b n 1 p) by omega)])⟩
  have g5 : SCf x (ui (ui y4 61 (tV b n (nxt b n 1 p)) (nI (tV b n (nxt b n 2 p)))) 62 (tV b n (nxt b n 1 p)) (nI (tV b n (nxt b n 4 p)))) := (g4.u (by omega)).u (by omega)
  refine ad_c c5.1 c5.2.1 q4 (fun y6 f6 B6 t6 => ?_)
  have c6 := c5.at f6 t6 q5
  refine sp_X3_takeSign B6 t6 q5 (fun o6 y7 f7 B7 t7 => ⟨Or.inr rfl, ?_⟩) (fun o6 y7 f7 => ⟨Or.inl rfl, k0 (fun o => o6 o.2.2.2.2.2.2) y7 ((g5.tr f6.sc).tr f7.sc)⟩)
  exact k1 ⟨o0, o1, o2, o3, o4, o5, o6⟩ y7 ((g5.tr f6.sc).tr f7.sc) (c6.at f7 t7 q6)

end
end
/-! 69.read2.lean.txt -/
section
/-! carriers, places, spans: landed side -/
theorem pkv_cg {b b' : TT} {s e : Nat} (h : ∀ i, s ≤ i → i < e → b i = b' i) : pkv b s e = pkv b' s e := by
  have hd : ∀ i, bd b s e i = bd b' s e i := by
    intro i
    unfold bd
    by_cases c : s + i < e
    · rw [if_pos c, if_pos c, h (s + i) (by omega) c]
    · rw [if_neg c, if_neg c]
  rw [pkv_6, pkv_6, hd, hd, hd, hd, hd, hd]
theorem tk_ltr {b : TT} {n p : Nat} (hB : ∀ i, i < n → isB (b i)) (hp : p ≤ n) (h : tK b n p = 1) : ltr b (tS b n p) (tE b n p) := by
  intro i h1 h2
  have he := tE_b (b := b) hp
  have e : tE b n p = scL b (n - tS b n p) (tS b n p) := by unfold tE; rw [h]; rfl
  rw [e] at h2
  have := scL_l b _ _ i h1 h2
  rw [← e] at h2
  obtain ⟨m1, m2, m3⟩ := (FB_of (hB i (by omega))).2.2.2.2.2.2.2.2 this
  exact ⟨_, m1, m2, m3⟩
theorem ltr_cg {b b' : TT} {s e : Nat} (h : ∀ i, s ≤ i → i < e → b' i = b i) (l : ltr b s e) : ltr b' s e := fun i h1 h2 => by
  obtain ⟨m, m1, m2, m3⟩ := l i h1 h2
  exact ⟨m, m1, m2, (h i h1 h2).trans m3⟩
def vnm (b : TT) (n p : Nat) : Nat := pkv b (tS b n p) (tE b n p)
theorem vnm_b {b : TT} {n p : Nat} (hB : ∀ i, i < n → isB (b i)) (hp : p ≤ n) (h : tK b n p = 1) : 0 < vnm b n p ∧ vnm b n p < 387420489 := by
  have l := tk_ltr hB hp h
  refine ⟨?_, pkv_lt l⟩
  have he := (tE_b (b := b) hp).2.2 (by omega)
  have h0 : 1 ≤ bd b (tS b n p) (tE b n p) 0 := by
    unfold bd
    rw [if_pos (by omega)]
    obtain ⟨m, m1, m2, m3⟩ := l (tS b n p + 0) (by omega) (by omega)
    rw [m3, nI_clamp (by omega)]
    omega
  unfold vnm
  rw [pkv_6]
  omega
theorem fnd_c (T : TT) (C v : Nat) : fnd T C v = -1 ∨ ∃ c, c < C ∧ fnd T C v = nI c := by
  have key : ∀ d s, s + d = C → (lpR (stN T v) (fun _ => -1) d s () = -1 ∨ ∃ c, c < C ∧ lpR (stN T v) (fun _ => -1) d s () = nI c) := by
    intro d
    induction d with
    | zero => intro s _; exact Or.inl rfl
    | succ d ih =>
      intro s hs
      by_cases h : T (54 + s) = nI v
      · right
        refine ⟨s, by omega, ?_⟩
        simp only [lpR, stN, if_pos h]
      · have e : lpR (stN T v) (fun _ => -1) (d + 1) s () = lpR (stN T v) (fun _ => -1) d (s + 1) () := by
          simp only [lpR, stN, if_neg h]
        rw [e]
        exact ih (s + 1) (by omega)
  exact key C 0 (by omega)
def caT (T : TT) (C v : Nat) : TT := uT (uT T (54 + C) (nI v)) 1 (nI (C + 1))
theorem SEA.tc {x : Cn} {q : Nat} {T T' : TT} {W C C' S A N : Nat} (E : SEA x q T W C S A N) (h : ∀ i, i ≠ 1 → ¬ (54 ≤ i ∧ i < 62) → T' i = T i) (h1 : T' 1 = nI C') (hC : C ≤ C' ∧ C' ≤ 8) (hW : 5 ≤ W) : SEA x q T' W C' S A N := by
  obtain ⟨e1, e2, ⟨v0, v1, v2, v3, v4, v5, v6, v7⟩, w1, w2, w3, w4, w5, w6, w7, w8, w9, w10, w11, w12, w13, w14⟩ := E
  have hs : ∀ s k, so T' s k = so T s k := fun s k => h _ (by omega) (by omega)
  have ha : ∀ a k, ao T' a k = ao T a k := fun a k => h _ (by omega) (by omega)
  refine ⟨e1, e2, ⟨v0.trans (h 0 (by omega) (by omega)).symm, v1.trans (h 4 (by omega) (by omega)).symm, v2.trans (h 5 (by omega) (by omega)).symm, v3.trans (h 2 (by omega) (by omega)).symm, v4.trans (h 3 (by omega) (by omega)).symm, fun i hi => ?_, fun s p z1 z2 => (v6 s p z1 z2).cg (fun _ _ => rfl) (fun k _ => hs s k), fun a p z1 z2 => (v7 a p z1 z2).cg (fun _ _ => rfl) (fun k _ => ha a k)⟩, (h 0 (by omega) (by omega)).trans w1, Or.inr hW, w3, h1, hC.2, (h 2 (by omega) (by omega)).trans w6, w7, (h 3 (by omega) (by omega)).trans w8, w9, (h 4 (by omega) (by omega)).trans w10, w11, fun i hi => ?_, fun s z => ?_, fun a z => ?_⟩
  · rw [h _ (by omega) (by omega), h _ (by omega) (by omega)]; exact v5 i hi
  · rw [h _ (by omega) (by omega), h _ (by omega) (by omega)]; exact w12 i hi
  · have := (w13 s z).cg (T' := T') (fun k _ => hs s k)
    obtain ⟨⟨c, c1, c2⟩, r⟩ := this
    exact ⟨⟨c, by omega, c2⟩, r⟩
  · have := (w14 a z).cg (T' := T') (fun k _ => ha a k)
    obtain ⟨⟨c, c1, c2⟩, r⟩ := this
    exact ⟨⟨c, by omega, c2⟩, r⟩
def NAf (x y : Cn) (C : Nat) : Prop := y.2 = x.2 ∧ ∀ a k, ¬ (a = 115 ∧ 6 * C ≤ k ∧ k < 6 * C + 6) → ¬ (a = 114 ∧ k = 0) → gi y a k = gi x a k
set_option maxHeartbeats 2000000 in
theorem v_X1_add_0 {K : Sh} {x : Cn} {Q : Cn → Prop} {b0 : Nat} {b1 : Nat} {l2 : Int32} {l3 : Int32}  (k_b0 : kk K b0 = some (1, 0)) (K0 : GV mX1_add 14 [some (.ref b0), some (.ref b1), some (.int l2), some (.int l3), some (.int (if 7 < (gi x b0 0) then 7 else (gi x b0 0))), some (.int 0), none] [] K x Q) : mSV mX1_add [.ref b0, .ref b1, .int l2, .int l3] K x Q := by
  refine s_V (by decide) (by simp [Value.category]) (Nat.le_of_ble_eq_true rfl) ?_
  show mGM mX1_add 0 [some (.ref b0), some (.ref b1), some (.int l2), some (.int l3), none, none, none] [] (hp K x) (PV K Q)
  refine r_aload_n (pc := 0) dX1_add_0 rfl ?_
  refine s_getI (pc := 1) dX1_add_1 fl_X1_9 rfl k_b0 ?_
  refine r_bipush (pc := 4) (v := 7) dX1_add_4 (by decide) ?_
  refine r_mmin (pc := 6) dX1_add_6 lk_X1_23 mw_min ⟨by decide, by decide⟩ (Nat.le_of_ble_eq_true rfl) ?_
  refine r_istore (pc := 9) dX1_add_9 (by decide) ?_
  refine r_iconst (pc := 11) (L := [some (.ref b0), some (.ref b1), some (.int l2), some (.int l3), some (.int (if 7 < (gi x b0 0) then 7 else (gi x b0 0))), none, none]) (v := 0) dX1_add_11 (by decide) ?_
  refine r_istore (pc := 12) dX1_add_12 (by decide) ?_
  exact r_le (L' := [some (.ref b0), some (.ref b1), some (.int l2), some (.int l3), some (.int (if 7 < (gi x b0 0) then 7 else (gi x b0 0))), some (.int 0), none]) ⟨rfl, ⟨rfl, ⟨rfl, ⟨rfl, ⟨rfl, ⟨rfl, trivial⟩⟩⟩⟩⟩⟩ K0
set_option maxHeartbeats 2000000 in
theorem v_X1_add_14 {K : Sh} {x : Cn} {Q : Cn → Prop} {b0 : Nat} {b1 : Nat} {l2 : Int32} {l3 : Int32} {l4 : Int32} {l5 : Int32} {b0_1 : Nat} {n_b0_1 : Nat} {n_b1 : Nat} (k_b0 : kk K b0 = some (1, 0)) (g_b0_1 : gr x b0 1 = some b0_1) (k_b0_1 : kk K b0_1 = some (20, n_b0_1)) (k_b1 : kk K b1 = some (21, n_b1)) (K0 : (6 ≤ l5 → (Q (ui x b0 0 (l4 + 1)))) ∧ (¬ 6 ≤ l5 → ((l3 ≤ (l2 + l5) → (vp_in ((l4 * 6) + l5) n_b0_1 ∧ (GV mX1_add 14 [some (.ref b0), some (.ref b1), some (.int l2), some (.int l3), some (.int l4), some (.int (l5 + 1)), none] [] K (ui x b0_1 (((l4 * 6) + l5) : Int32).toNatClampNeg 0) Q))) ∧ (¬ l3 ≤ (l2 + l5) → (vp_in (l2 + l5) n_b1 ∧ (vp_in ((l4 * 6) + l5) n_b0_1 ∧ (GV mX1_add 14 [some (.ref b0), some (.ref b1), some (.int l2), some (.int l3), some (.int l4), some (.int (l5 + 1)), none] [] K (ui x b0_1 (((l4 * 6) + l5) : Int32).toNatClampNeg (((gi x b1 ((l2 + l5) : Int32).toNatClampNeg) - 97) + 1)) Q))))))) : GV mX1_add 14 [some (.ref b0), some (.ref b1), some (.int l2), some (.int l3), some (.int l4), some (.int l5), none] [] K x Q := by
  show mGM mX1_add 14 [some (.ref b0), some (.ref b1), some (.int l2), some (.int l3), some (.int l4), some (.int l5), none] [] (hp K x) (PV K Q)
  refine r_iload (pc := 14) dX1_add_14 rfl ?_
  refine r_bipush (pc := 16) (v := 6) dX1_add_16 (by decide) ?_
  refine r_icmp_ge (pc := 18) (tgt := 67) dX1_add_18 (by decide) (fun q => ?_) (fun q => ?_)
  · have K0 := K0.1 q
    refine r_aload_n (pc := 67) dX1_add_67 rfl ?_
    refine r_iload (pc := 68) dX1_add_68 rfl ?_
    refine r_iconst (pc := 70) (v := 1) dX1_add_70 (by decide) ?_
    refine r_iadd (pc := 71) dX1_add_71 ?_
    refine s_putI (pc := 72) dX1_add_72 fl_X1_9 rfl rfl k_b0 ?_
    exact s_ret rfl dX1_add_75 K0
  · have K0 := K0.2 q
    refine r_iload_n (pc := 21) dX1_add_21 rfl ?_
    refine r_iload (pc := 22) dX1_add_22 rfl ?_
    refine r_iadd (pc := 24) dX1_add_24 ?_
    refine r_iload_n (pc := 25) dX1_add_25 rfl ?_
    refine r_icmp_ge (pc := 26) (tgt := 43) dX1_add_26 (by decide) (fun q => ?_) (fun q => ?_)
    · have K0 := K0.1 q
      refine r_iconst (pc := 43) (v := 0) dX1_add_43 (by decide) ?_
      refine r_istore (pc := 44) dX1_add_44 (by decide) ?_
      refine r_aload_n (pc := 46) (L := [some (.ref b0), some (.ref b1), some (.int l2), some (.int l3), some (.int l4), some (.int l5), some (.int 0)]) dX1_add_46 rfl ?_
      refine s_getR (pc := 47) dX1_add_47 fl_X1_15 rfl k_b0 g_b0_1 ?_
      refine r_iload (pc := 50) dX1_add_50 rfl ?_
      refine r_bipush (pc := 52) (v := 6) dX1_add_52 (by decide) ?_
      refine r_imul (pc := 54) dX1_add_54 ?_
      refine r_iload (pc := 55) dX1_add_55 rfl ?_
      refine r_iadd (pc := 57) dX1_add_57 ?_
      refine r_iload (pc := 58) dX1_add_58 rfl ?_
      obtain ⟨i_3, K0⟩ := K0
      refine s_iast (pc := 60) dX1_add_60 k_b0_1 i_3 ?_
      refine r_iinc (pc := 61) (v := l5 + 1) dX1_add_61 rfl rfl (by decide) ?_
      refine r_goto (pc := 64) (L := [some (.ref b0), some (.ref b1), some (.int l2), some (.int l3), some (.int l4), some (.int (l5 + 1)), some (.int 0)]) (tgt := 14) dX1_add_64 (by decide) ?_
      exact r_le (L' := [some (.ref b0), some (.ref b1), some (.int l2), some (.int l3), some (.int l4), some (.int (l5 + 1)), none]) ⟨rfl, ⟨rfl, ⟨rfl, ⟨rfl, ⟨rfl, ⟨rfl, trivial⟩⟩⟩⟩⟩⟩ K0
    · have K0 := K0.2 q
      refine r_aload_n (pc := 29) dX1_add_29 rfl ?_
      refine r_iload_n (pc := 30) dX1_add_30 rfl ?_
      refine r_iload (pc := 31) dX1_add_31 rfl ?_
      refine r_iadd (pc := 33) dX1_add_33 ?_
      obtain ⟨i_4, K0⟩ := K0
      refine s_bald (pc := 34) dX1_add_34 k_b1 i_4 ?_
      refine r_bipush (pc := 35) (v := 97) dX1_add_35 (by decide) ?_
      refine r_isub (pc := 37) dX1_add_37 ?_
      refine r_iconst (pc := 38) (v := 1) dX1_add_38 (by decide) ?_
      refine r_iadd (pc := 39) dX1_add_39 ?_
      refine r_goto (pc := 40) (tgt := 44) dX1_add_40 (by decide) ?_
      refine r_istore (pc := 44) dX1_add_44 (by decide) ?_
      refine r_aload_n (pc := 46) (L := [some (.ref b0), some (.ref b1), some (.int l2), some (.int l3), some (.int l4), some (.int l5), some (.int (((gi x b1 ((l2 + l5) : Int32).toNatClampNeg) - 97) + 1))]) dX1_add_46 rfl ?_
      refine s_getR (pc := 47) dX1_add_47 fl_X1_15 rfl k_b0 g_b0_1 ?_
      refine r_iload (pc := 50) dX1_add_50 rfl ?_
      refine r_bipush (pc := 52) (v := 6) dX1_add_52 (by decide) ?_
      refine r_imul (pc := 54) dX1_add_54 ?_
      refine r_iload (pc := 55) dX1_add_55 rfl ?_
      refine r_iadd (pc := 57) dX1_add_57 ?_
      refine r_iload (pc := 58) dX1_add_58 rfl ?_
      obtain ⟨i_5, K0⟩ := K0
      refine s_iast (pc := 60) dX1_add_60 k_b0_1 i_5 ?_
      refine r_iinc (pc := 61) (v := l5 + 1) dX1_add_61 rfl rfl (by decide) ?_
      refine r_goto (pc := 64) (L := [some (.ref b0), some (.ref b1), some (.int l2), some (.int l3), some (.int l4), some (.int (l5 + 1)), some (.int (((gi x b1 ((l2 + l5) : Int32).toNatClampNeg) - 97) + 1))]) (tgt := 14) dX1_add_64 (by decide) ?_
      exact r_le (L' := [some (.ref b0), some (.ref b1), some (.int l2), some (.int l3), some (.int l4), some (.int (l5 + 1)), none]) ⟨rfl, ⟨rfl, ⟨rfl, ⟨rfl, ⟨rfl, ⟨rfl, trivial⟩⟩⟩⟩⟩⟩ K0
section
theorem lp_X1_add {x : Cn} {Q : Cn → Prop} {b : TT} {C s e : Nat} (g : gr x 114 1 = some 115) (hC : C < 8) (hb : ∀ i, s ≤ i → i < e → gi x 1 i = b i) (l : ltr b s e) (hs : s ≤ e) (he : e ≤ 1200) (k : ∀ y, NAf x y C → gi y 114 0 = nI (C + 1) → (∀ i, i < 6 → gi y 115 (6 * C + i) = nI (bd b s e i)) → Q y) : ∀ d i y, i + d = 6 → NAf x y C → (∀ j, j < i → gi y 115 (6 * C + j) = nI (bd b s e j)) → GV mX1_add 14 [some (.ref 114), some (.ref 1), some (.int (nI s)), some (.int (nI e)), some (.int (nI C)), some (.int (nI i)), none] [] KW y Q := by
  intro d
  induction d with
  | zero =>
    intro i y hi f hj
    refine v_X1_add_14 k114 (by unfold gr; rw [f.1]; exact g) k115 k1t ⟨fun _ => ?_, fun z => absurd (nI_le (a := 6) (b := i) (by omega) (by omega)) z⟩
    rw [← nI_succ]
    refine k _ ⟨f.1, fun a j h1 h2 => by rw [gi_ui, if_neg h2]; exact f.2 a j h1 h2⟩ (by rw [gi_ui, if_pos ⟨rfl, rfl⟩]) (fun j h => by rw [gi_ui, if_neg (by omega)]; exact hj j (by omega))
  | succ d ih =>
    intro i y hi f hj
    have ix : (nI C * 6) + nI i = nI (6 * C + i) := by rw [show (6 : Int32) = nI 6 from rfl, pk_mul, nI_add, Nat.mul_comm]
    refine v_X1_add_14 k114 (by unfold gr; rw [f.1]; exact g) k115 k1t ?_
    rw [ix, nI_add, nI_clamp (n := 6 * C + i) (by omega), nI_clamp (n := s + i) (by omega), ← nI_succ i]
    have go : ∀ v, v = nI (bd b s e i) → GV mX1_add 14 [some (.ref 114), some (.ref 1), some (.int (nI s)), some (.int (nI e)), some (.int (nI C)), some (.int (nI (i + 1))), none] [] KW (ui y 115 (6 * C + i) v) Q := by
      intro v hv
      refine ih (i + 1) _ (by omega) ⟨f.1, fun a j h1 h2 => by rw [gi_ui, if_neg (by omega)]; exact f.2 a j h1 h2⟩ (fun j h => ?_)
      by_cases c : j = i
      · rw [c, gi_ui, if_pos ⟨rfl, rfl⟩, hv]
      · rw [gi_ui, if_neg (by omega)]; exact hj j (by omega)
    refine ⟨fun z => absurd z (nI_ge (a := i) (b := 6) (by omega) (by omega)), fun _ => ⟨fun z => ⟨vp_in_nI (by omega) (by decide), go 0 ?_⟩, fun z => ?_⟩⟩
    · have : e ≤ s + i := (nI_leI (by omega) (by omega)).mp z
      unfold bd
      rw [if_neg (by omega)]
      rfl
    · have hlt : s + i < e := by
        rcases Nat.lt_or_ge (s + i) e with q | q
        · exact q
        · exact absurd (nI_le q (by omega)) z
      refine ⟨vp_in_nI (by omega) (by decide), vp_in_nI (by omega) (by decide), go _ ?_⟩
      obtain ⟨m, m1, m2, m3⟩ := l (s + i) (by omega) hlt
      rw [f.2 1 (s + i) (by omega) (by omega), hb (s + i) (by omega) hlt, m3, let_v m1 m2]
      unfold bd
      rw [if_pos hlt, m3, nI_clamp (by omega)]
theorem sp_X1_add {x : Cn} {Q : Cn → Prop} {b : TT} {C s e : Nat} (g : gr x 114 1 = some 115) (h0 : gi x 114 0 = nI C) (hC : C < 8) (hb : ∀ i, s ≤ i → i < e → gi x 1 i = b i) (l : ltr b s e) (hs : s ≤ e) (he : e ≤ 1200) (k : ∀ y, NAf x y C → gi y 114 0 = nI (C + 1) → (∀ i, i < 6 → gi y 115 (6 * C + i) = nI (bd b s e i)) → Q y) : mSV mX1_add [.ref 114, .ref 1, .int (nI s), .int (nI e)] KW x Q := by
  refine v_X1_add_0 k114 ?_
  have e7 : (if 7 < gi x 114 0 then 7 else gi x 114 0) = nI C := by
    rw [h0, if_neg (show ¬ (7 : Int32) < nI C from fun z => absurd ((nI_ltI (a := 7) (b := C) (by omega) (by omega)).mp z) (by omega))]
  rw [e7]
  exact lp_X1_add g hC hb l hs he k 6 0 x (by omega) ⟨rfl, fun _ _ _ _ => rfl⟩ (fun j h => absurd h (by omega))
def okC (b : TT) (n p : Nat) (T : TT) (C : Nat) : Prop := C < 8 ∧ nmd b n (nxt b n 1 p) ∧ fnd T C (vnm b n (nxt b n 1 p)) = -1 ∧ sg b n (nxt b n 2 p) 59
end
set_option maxHeartbeats 2000000 in
theorem v_X3_readCarrier_0 {K : Sh} {x : Cn} {Q : Int32 → Cn → Prop} {b0 : Nat} {b0_1 : Nat} (k_b0 : kk K b0 = some (3, 0)) (g_b0_1 : gr x b0 1 = some b0_1) (k_b0_1 : kk K b0_1 = some (1, 0)) (K0 : ((gi x b0_1 0) < 8 → (mSV mX3_advance [.ref b0] K x (fun y_2 => ((gi y_2 b0 9 = 1 ∧ gi y_2 b0 10 = -1 ∧ gi y_2 b0 8 - gi y_2 b0 7 ≤ 6) → (gr y_2 b0 1 = some b0_1 ∧ (∃ c_5 : Nat, gr y_2 b0 5 = some c_5 ∧ (mSI mX1_carrierNamed [.ref b0_1, .ref c_5, .int (gi y_2 b0 7), .int (gi y_2 b0 8)] K y_2 (fun r_8 y_7 => (r_8 = (-1) → (gr y_7 b0 1 = some b0_1 ∧ (∃ c_11 : Nat, gr y_7 b0 5 = some c_11 ∧ (mSV mX1_add [.ref b0_1, .ref c_11, .int (gi y_7 b0 7), .int (gi y_7 b0 8)] K y_7 (fun y_13 => mSV mX3_advance [.ref b0] K y_13 (fun y_14 => mSI mX3_takeSign [.ref b0, .int 59] K y_14 (fun r_16 y_15 => (r_16 = 0 ∨ r_16 = 1) ∧ (Q r_16 y_15)))))))) ∧ (¬ r_8 = (-1) → (mSI mX3_fail [.ref b0, .int 3] K y_7 (fun r_19 y_18 => (r_19 = 0 ∨ r_19 = 1) ∧ (Q r_19 y_18))))))))) ∧ (¬ (gi y_2 b0 9 = 1 ∧ gi y_2 b0 10 = -1 ∧ gi y_2 b0 8 - gi y_2 b0 7 ≤ 6) → (mSI mX3_fail [.ref b0, .int 1] K y_2 (fun r_22 y_21 => (r_22 = 0 ∨ r_22 = 1) ∧ (Q r_22 y_21))))))) ∧ (¬ (gi x b0_1 0) < 8 → (mSI mX3_fail [.ref b0, .int 5] K x (fun r_25 y_24 => (r_25 = 0 ∨ r_25 = 1) ∧ (Q r_25 y_24))))) : mSI mX3_readCarrier [.ref b0] K x Q := by
  refine s_I (by decide) (by simp [Value.category]) (Nat.le_of_ble_eq_true rfl) ?_
  show mGM mX3_readCarrier 0 [some (.ref b0)] [] (hp K x) (PI K Q)
  refine r_aload_n (pc := 0) dX3_readCarrier_0 rfl ?_
  refine s_getR (pc := 1) dX3_readCarrier_1 fl_X3_21 rfl k_b0 g_b0_1 ?_
  refine s_getI (pc := 4) dX3_readCarrier_4 fl_X3_84 rfl k_b0_1 ?_
  refine r_bipush (pc := 7) (v := 8) dX3_readCarrier_7 (by decide) ?_
  refine r_icmp_lt (pc := 9) (tgt := 18) dX3_readCarrier_9 (by decide) (fun q => ?_) (fun q => ?_)
  · have K0 := K0.1 q
    refine r_aload_n (pc := 18) dX3_readCarrier_18 rfl ?_
    refine s_VV (pc := 19) mX3_advance (ci := 3) (a := b0) (As := []) dX3_readCarrier_19 lk_X3_87 in_X3_advance mo_X3_advance ⟨by decide, rfl⟩ ⟨by decide, by decide⟩ (Nat.le_of_ble_eq_true rfl) k_b0 (mSV_mono K0 (fun y_2 K0 => ?_))
    refine r_aload_n (pc := 22) dX3_readCarrier_22 rfl ?_
    refine s_VI (pc := 23) mX3_isName (ci := 3) (a := b0) (As := []) dX3_readCarrier_23 lk_X3_141 in_X3_isName mo_X3_isName ⟨by decide, rfl⟩ ⟨by decide, by decide⟩ (Nat.le_of_ble_eq_true rfl) k_b0 (sp_X3_isName k_b0 ?_)
    refine r_if_ne (pc := 26) (tgt := 35) dX3_readCarrier_26 (by decide) (fun q => ?_) (fun q => ?_)
    · have q := b2i_nz q
      have K0 := K0.1 q
      refine r_aload_n (pc := 35) dX3_readCarrier_35 rfl ?_
      obtain ⟨g_4, K0⟩ := K0
      refine s_getR (pc := 36) dX3_readCarrier_36 fl_X3_21 rfl k_b0 g_4 ?_
      refine r_aload_n (pc := 39) dX3_readCarrier_39 rfl ?_
      obtain ⟨c_5, g_6, K0⟩ := K0
      refine s_getR (pc := 40) dX3_readCarrier_40 fl_X3_35 rfl k_b0 g_6 ?_
      refine r_aload_n (pc := 43) dX3_readCarrier_43 rfl ?_
      refine s_getI (pc := 44) dX3_readCarrier_44 fl_X3_42 rfl k_b0 ?_
      refine r_aload_n (pc := 47) dX3_readCarrier_47 rfl ?_
      refine s_getI (pc := 48) dX3_readCarrier_48 fl_X3_45 rfl k_b0 ?_
      refine s_VI (pc := 51) mX1_carrierNamed (ci := 1) (a := b0_1) (As := [.ref c_5, .int (gi y_2 b0 7), .int (gi y_2 b0 8)]) dX3_readCarrier_51 lk_X3_144 in_X1_carrierNamed mo_X1_carrierNamed ⟨by decide, rfl⟩ ⟨by decide, by decide⟩ (Nat.le_of_ble_eq_true rfl) k_b0_1 (mSI_mono K0 (fun r_8 y_7 K0 => ?_))
      refine r_iconst (pc := 54) (v := (-1)) dX3_readCarrier_54 (by decide) ?_
      refine r_icmp_eq (pc := 55) (tgt := 64) dX3_readCarrier_55 (by decide) (fun q => ?_) (fun q => ?_)
      · have K0 := K0.1 q
        refine r_aload_n (pc := 64) dX3_readCarrier_64 rfl ?_
        obtain ⟨g_10, K0⟩ := K0
        refine s_getR (pc := 65) dX3_readCarrier_65 fl_X3_21 rfl k_b0 g_10 ?_
        refine r_aload_n (pc := 68) dX3_readCarrier_68 rfl ?_
        obtain ⟨c_11, g_12, K0⟩ := K0
        refine s_getR (pc := 69) dX3_readCarrier_69 fl_X3_35 rfl k_b0 g_12 ?_
        refine r_aload_n (pc := 72) dX3_readCarrier_72 rfl ?_
        refine s_getI (pc := 73) dX3_readCarrier_73 fl_X3_42 rfl k_b0 ?_
        refine r_aload_n (pc := 76) dX3_readCarrier_76 rfl ?_
        refine s_getI (pc := 77) dX3_readCarrier_77 fl_X3_45 rfl k_b0 ?_
        refine s_VV (pc := 80) mX1_add (ci := 1) (a := b0_1) (As := [.ref c_11, .int (gi y_7 b0 7), .int (gi y_7 b0 8)]) dX3_readCarrier_80 lk_X3_148 in_X1_add mo_X1_add ⟨by decide, rfl⟩ ⟨by decide, by decide⟩ (Nat.le_of_ble_eq_true rfl) k_b0_1 (mSV_mono K0 (fun y_13 K0 => ?_))
        refine r_aload_n (pc := 83) dX3_readCarrier_83 rfl ?_
        refine s_VV (pc := 84) mX3_advance (ci := 3) (a := b0) (As := []) dX3_readCarrier_84 lk_X3_87 in_X3_advance mo_X3_advance ⟨by decide, rfl⟩ ⟨by decide, by decide⟩ (Nat.le_of_ble_eq_true rfl) k_b0 (mSV_mono K0 (fun y_14 K0 => ?_))
        refine r_aload_n (pc := 87) dX3_readCarrier_87 rfl ?_
        refine r_bipush (pc := 88) (v := 59) dX3_readCarrier_88 (by decide) ?_
        refine s_VI (pc := 90) mX3_takeSign (ci := 3) (a := b0) (As := [.int 59]) dX3_readCarrier_90 lk_X3_106 in_X3_takeSign mo_X3_takeSign ⟨by decide, rfl⟩ ⟨by decide, by decide⟩ (Nat.le_of_ble_eq_true rfl) k_b0 (mSI_mono K0 (fun r_16 y_15 K0 => ?_))
        obtain ⟨p_17, K0⟩ := K0
        exact s_zret rfl p_17 dX3_readCarrier_93 K0
      · have K0 := K0.2 q
        refine r_aload_n (pc := 58) dX3_readCarrier_58 rfl ?_
        refine r_iconst (pc := 59) (v := 3) dX3_readCarrier_59 (by decide) ?_
        refine s_VI (pc := 60) mX3_fail (ci := 3) (a := b0) (As := [.int 3]) dX3_readCarrier_60 lk_X3_125 in_X3_fail mo_X3_fail ⟨by decide, rfl⟩ ⟨by decide, by decide⟩ (Nat.le_of_ble_eq_true rfl) k_b0 (mSI_mono K0 (fun r_19 y_18 K0 => ?_))
        obtain ⟨p_20, K0⟩ := K0
        exact s_zret rfl p_20 dX3_readCarrier_63 K0
    · have q := (b2i_z _).mp q
      have K0 := K0.2 q
      refine r_aload_n (pc := 29) dX3_readCarrier_29 rfl ?_
      refine r_iconst (pc := 30) (v := 1) dX3_readCarrier_30 (by decide) ?_
      refine s_VI (pc := 31) mX3_fail (ci := 3) (a := b0) (As := [.int 1]) dX3_readCarrier_31 lk_X3_125 in_X3_fail mo_X3_fail ⟨by decide, rfl⟩ ⟨by decide, by decide⟩ (Nat.le_of_ble_eq_true rfl) k_b0 (mSI_mono K0 (fun r_22 y_21 K0 => ?_))
      obtain ⟨p_23, K0⟩ := K0
      exact s_zret rfl p_23 dX3_readCarrier_34 K0
  · have K0 := K0.2 q
    refine r_aload_n (pc := 12) dX3_readCarrier_12 rfl ?_
    refine r_iconst (pc := 13) (v := 5) dX3_readCarrier_13 (by decide) ?_
    refine s_VI (pc := 14) mX3_fail (ci := 3) (a := b0) (As := [.int 5]) dX3_readCarrier_14 lk_X3_125 in_X3_fail mo_X3_fail ⟨by decide, rfl⟩ ⟨by decide, by decide⟩ (Nat.le_of_ble_eq_true rfl) k_b0 (mSI_mono K0 (fun r_25 y_24 K0 => ?_))
    obtain ⟨p_26, K0⟩ := K0
    exact s_zret rfl p_26 dX3_readCarrier_17 K0
section
theorem sp_X3_readCarrier {x : Cn} {Q : Int32 → Cn → Prop} {b : TT} {n p : Nat} {T : TT} {lim : Int32} {W C S A : Nat} (hW : 5 ≤ W) (c : CS x b n p T lim W C S A) (k1 : okC b n p T C → ∀ y, SCf x y → CS y b n (nxt b n 3 p) (caT T C (vnm b n (nxt b n 1 p))) lim W (C + 1) S A → Q 1 y) (k0 : ¬ okC b n p T C → ∀ y, SCf x y → Q 0 y) : mSI mX3_readCarrier [.ref 59] KW x Q := by
  have hp := c.2.2.1
  have q1 : nxt b n 1 p ≤ n := nxt_le hp
  have q2 : nxt b n 2 p ≤ n := nxt_le hp
  have q3 : nxt b n 3 p ≤ n := nxt_le hp
  have hC : C ≤ 8 := c.2.2.2.2.1.2.2.2.2.2.2.2.1
  have hn := c.1.1
  refine v_X3_readCarrier_0 k59 c.1.2.2.2.2.2.1 k114 ?_
  rw [c.s2.2.2.2]
  have eC : nI C < 8 ↔ C < 8 := nI_ltI (a := C) (b := 8) (by omega) (by omega)
  refine ⟨fun z => ?_, fun z => sp_X3_fail (fun y f => ⟨Or.inl rfl, k0 (fun o => z (eC.mpr o.1)) y f.sc⟩)⟩
  have o0 := eC.mp z
  refine ad_c c.1 c.2.1 hp (fun y1 f1 B1 t1 => ?_)
  have c1 := c.at f1 t1 q1
  rw [t1.nm q1 hn]
  refine ⟨fun o1 => ⟨B1.2.2.2.2.2.1, 1, B1.2.2.2.2.2.2.1, ?_⟩, fun o1 => sp_X3_fail (fun y f => ⟨Or.inl rfl, k0 (fun o => o1 o.2.1) y (f1.sc.tr f.sc)⟩)⟩
  have hE := tE_b (b := b) q1
  have l := tk_ltr B1.2.2.2.1 q1 o1.1
  have hb1 : ∀ i, tS b n (tE b n p) ≤ i → i < tE b n (tE b n p) → gi y1 1 i = b i := fun i _ h2 => B1.2.2.1 i (Nat.lt_of_lt_of_le h2 hE.2.1)
  have ev : pkv (gi y1 1) (tS b n (tE b n p)) (tE b n (tE b n p)) = vnm b n (tE b n p) := pkv_cg hb1
  rw [t1.1, t1.2.1]
  refine sp_X1_carrierNamed (nb := 114) (bt := 1) (nB := 1200) (T := T) (C := C) k114 B1.2.2.2.2.2.2.2 k115 k1t hC c1.2.2.2.2.2 (ltr_cg hb1 l) (Nat.le_trans hE.2.1 hn) hE.1 (by omega) ?_
  rw [ev]
  refine ⟨fun o2 => ⟨B1.2.2.2.2.2.1, 1, B1.2.2.2.2.2.2.1, ?_⟩, fun o2 => sp_X3_fail (fun y f => ⟨Or.inl rfl, k0 (fun o => o2 o.2.2.1) y (f1.sc.tr f.sc)⟩)⟩
  rw [t1.1, t1.2.1]
  refine sp_X1_add (b := b) (C := C) B1.2.2.2.2.2.2.2 c1.s2.2.2.2 o0 hb1 l hE.1 (Nat.le_trans hE.2.1 hn) (fun y2 f2 h2 h3 => ?_)
  have g2 : SCf x y2 := f1.sc.tr ⟨f2.1, fun a k h => f2.2 a k (by omega) (by omega)⟩
  have t2 : CTk y2 b n (tE b n p) := t1.mv (fun k _ _ => f2.2 59 k (by omega) (by omega))
  have c2 : CS y2 b n (tE b n p) (caT T C (vnm b n (tE b n p))) lim W (C + 1) S A := by
    refine ⟨B1.mv f2.1 (fun a k h => f2.2 a k (by omega) (by omega)), t2, q1, (f2.2 59 11 (by omega) (by omega)).trans c1.2.2.2.1, ?_, h2, fun i hi => ?_⟩
    · refine (c1.2.2.2.2.1.keep f2.1 (fun a k z1 z2 _ => f2.2 a k (by omega) (by omega))).tc (fun i h1 h2 => ?_) (by unfold caT; rw [uT_at]) ⟨by omega, by omega⟩ hW
      unfold caT
      rw [uT_ne _ _ h1, uT_ne _ _ (by omega)]
    · by_cases ci : i = C
      · subst ci
        refine ⟨vnm b n (tE b n p), vnm_b B1.2.2.2.1 q1 o1.1, ?_, fun j hj => ?_⟩
        · unfold caT
          rw [uT_ne _ _ (by omega), uT_at]
        · rw [h3 j hj]
          exact congrArg nI (pkv_dg l j hj).symm
      · obtain ⟨v, v1, v2, v3⟩ := c1.2.2.2.2.2.2 i (by omega)
        refine ⟨v, v1, ?_, fun j hj => by rw [f2.2 115 _ (by omega) (by omega)]; exact v3 j hj⟩
        unfold caT
        rw [uT_ne _ _ (by omega), uT_ne _ _ (by omega)]
        exact v2
  refine ad_c c2.1 t2 q1 (fun y3 f3 B3 t3 => ?_)
  refine sp_X3_takeSign B3 t3 q2 (fun o3 y4 f4 B4 t4 => ⟨Or.inr rfl, ?_⟩) (fun o3 y4 f4 => ⟨Or.inl rfl, k0 (fun o => o3 o.2.2.2) y4 ((g2.tr f3.sc).tr f4.sc)⟩)
  exact k1 ⟨o0, o1, o2, o3⟩ y4 ((g2.tr f3.sc).tr f4.sc) ((c2.at f3 t3 q2).at f4 t4 q3)
/-! who, on which day, at which hour, which way -/
def okP (b : TT) (n p : Nat) (T : TT) (C : Nat) : Prop := nmd b n p ∧ ¬ fnd T C (vnm b n p) = -1 ∧ (∃ d, d < 7 ∧ iw b n (nxt b n 1 p) d) ∧ nb b n (nxt b n 2 p) 0 23 ∧ (iw b n (nxt b n 3 p) 12 ∨ iw b n (nxt b n 3 p) 13)
def wnp (b : TT) (n p : Nat) : Int32 := wno b (tS b n p) (tE b n p)
def wyo (b : TT) (n p : Nat) : Int32 := if wnp b n p = 13 then 1 else 0
def PLc (y : Cn) (b : TT) (n p : Nat) (T : TT) (C : Nat) : Prop := gi y 59 12 = fnd T C (vnm b n p) ∧ gi y 59 13 = wnp b n (nxt b n 1 p) ∧ gi y 59 14 = nI (tV b n (nxt b n 2 p)) ∧ gi y 59 15 = wyo b n (nxt b n 3 p)
end
set_option maxHeartbeats 2000000 in
theorem v_X3_readPlace_0 {K : Sh} {x : Cn} {Q : Int32 → Cn → Prop} {b0 : Nat} {b0_1 : Nat} {b0_5 : Nat} (k_b0 : kk K b0 = some (3, 0)) (g_b0_1 : gr x b0 1 = some b0_1) (g_b0_5 : gr x b0 5 = some b0_5) (k_b0_1 : kk K b0_1 = some (1, 0)) (K0 : ((gi x b0 9 = 1 ∧ gi x b0 10 = -1 ∧ gi x b0 8 - gi x b0 7 ≤ 6) → (mSI mX1_carrierNamed [.ref b0_1, .ref b0_5, .int (gi x b0 7), .int (gi x b0 8)] K x (fun r_3 y_2 => (¬ (gi (ui y_2 b0 12 r_3) b0 12) = (-1) → (mSV mX3_advance [.ref b0] K (ui y_2 b0 12 r_3) (fun y_5 => (¬ (gi y_5 b0 9) = 1 → (mSI mX3_fail [.ref b0, .int 1] K y_5 (fun r_8 y_7 => (r_8 = 0 ∨ r_8 = 1) ∧ (Q r_8 y_7)))) ∧ ((gi y_5 b0 9) = 1 → (((0 ≤ (gi y_5 b0 10) ∧ (gi y_5 b0 10) ≤ 6) → (mSV mX3_advance [.ref b0] K (ui y_5 b0 13 (gi y_5 b0 10)) (fun y_11 => mSI mX3_isNumber [.ref b0, .int 0, .int 23] K y_11 (fun r_13 y_12 => (¬ r_13 = 0 → (mSV mX3_advance [.ref b0] K (ui y_12 b0 14 (gi y_12 b0 10)) (fun y_15 => ((gi y_15 b0 9 = 1 ∧ gi y_15 b0 10 = 12) → ((¬ (gi y_15 b0 9 = 1 ∧ gi y_15 b0 10 = 12) → (mSV mX3_advance [.ref b0] K (ui y_15 b0 15 1) (fun y_18 => Q 1 y_18))) ∧ ((gi y_15 b0 9 = 1 ∧ gi y_15 b0 10 = 12) → (mSV mX3_advance [.ref b0] K (ui y_15 b0 15 0) (fun y_19 => Q 1 y_19))))) ∧ (¬ (gi y_15 b0 9 = 1 ∧ gi y_15 b0 10 = 12) → (((gi y_15 b0 9 = 1 ∧ gi y_15 b0 10 = 13) → ((¬ (gi y_15 b0 9 = 1 ∧ gi y_15 b0 10 = 12) → (mSV mX3_advance [.ref b0] K (ui y_15 b0 15 1) (fun y_22 => Q 1 y_22))) ∧ ((gi y_15 b0 9 = 1 ∧ gi y_15 b0 10 = 12) → (mSV mX3_advance [.ref b0] K (ui y_15 b0 15 0) (fun y_23 => Q 1 y_23))))) ∧ (¬ (gi y_15 b0 9 = 1 ∧ gi y_15 b0 10 = 13) → (mSI mX3_fail [.ref b0, .int 1] K y_15 (fun r_25 y_24 => (r_25 = 0 ∨ r_25 = 1) ∧ (Q r_25 y_24))))))))) ∧ (r_13 = 0 → (Q 0 y_12)))))) ∧ (¬ (0 ≤ (gi y_5 b0 10) ∧ (gi y_5 b0 10) ≤ 6) → (mSI mX3_fail [.ref b0, .int 1] K y_5 (fun r_28 y_27 => (r_28 = 0 ∨ r_28 = 1) ∧ (Q r_28 y_27))))))))) ∧ ((gi (ui y_2 b0 12 r_3) b0 12) = (-1) → (mSI mX3_fail [.ref b0, .int 4] K (ui y_2 b0 12 r_3) (fun r_31 y_30 => (r_31 = 0 ∨ r_31 = 1) ∧ (Q r_31 y_30))))))) ∧ (¬ (gi x b0 9 = 1 ∧ gi x b0 10 = -1 ∧ gi x b0 8 - gi x b0 7 ≤ 6) → (mSI mX3_fail [.ref b0, .int 1] K x (fun r_34 y_33 => (r_34 = 0 ∨ r_34 = 1) ∧ (Q r_34 y_33))))) : mSI mX3_readPlace [.ref b0] K x Q := by
  refine s_I (by decide) (by simp [Value.category]) (Nat.le_of_ble_eq_true rfl) ?_
  show mGM mX3_readPlace 0 [some (.ref b0)] [] (hp K x) (PI K Q)
  refine r_aload_n (pc := 0) dX3_readPlace_0 rfl ?_
  refine s_VI (pc := 1) mX3_isName (ci := 3) (a := b0) (As := []) dX3_readPlace_1 lk_X3_141 in_X3_isName mo_X3_isName ⟨by decide, rfl⟩ ⟨by decide, by decide⟩ (Nat.le_of_ble_eq_true rfl) k_b0 (sp_X3_isName k_b0 ?_)
  refine r_if_ne (pc := 4) (tgt := 13) dX3_readPlace_4 (by decide) (fun q => ?_) (fun q => ?_)
  · have q := b2i_nz q
    have K0 := K0.1 q
    refine r_aload_n (pc := 13) dX3_readPlace_13 rfl ?_
    refine r_aload_n (pc := 14) dX3_readPlace_14 rfl ?_
    refine s_getR (pc := 15) dX3_readPlace_15 fl_X3_21 rfl k_b0 g_b0_1 ?_
    refine r_aload_n (pc := 18) dX3_readPlace_18 rfl ?_
    refine s_getR (pc := 19) dX3_readPlace_19 fl_X3_35 rfl k_b0 g_b0_5 ?_
    refine r_aload_n (pc := 22) dX3_readPlace_22 rfl ?_
    refine s_getI (pc := 23) dX3_readPlace_23 fl_X3_42 rfl k_b0 ?_
    refine r_aload_n (pc := 26) dX3_readPlace_26 rfl ?_
    refine s_getI (pc := 27) dX3_readPlace_27 fl_X3_45 rfl k_b0 ?_
    refine s_VI (pc := 30) mX1_carrierNamed (ci := 1) (a := b0_1) (As := [.ref b0_5, .int (gi x b0 7), .int (gi x b0 8)]) dX3_readPlace_30 lk_X3_144 in_X1_carrierNamed mo_X1_carrierNamed ⟨by decide, rfl⟩ ⟨by decide, by decide⟩ (Nat.le_of_ble_eq_true rfl) k_b0_1 (mSI_mono K0 (fun r_3 y_2 K0 => ?_))
    refine s_putI (pc := 33) dX3_readPlace_33 fl_X3_57 rfl rfl k_b0 ?_
    refine r_aload_n (pc := 36) dX3_readPlace_36 rfl ?_
    refine s_getI (pc := 37) dX3_readPlace_37 fl_X3_57 rfl k_b0 ?_
    refine r_iconst (pc := 40) (v := (-1)) dX3_readPlace_40 (by decide) ?_
    refine r_icmp_ne (pc := 41) (tgt := 50) dX3_readPlace_41 (by decide) (fun q => ?_) (fun q => ?_)
    · have K0 := K0.1 q
      refine r_aload_n (pc := 50) dX3_readPlace_50 rfl ?_
      refine s_VV (pc := 51) mX3_advance (ci := 3) (a := b0) (As := []) dX3_readPlace_51 lk_X3_87 in_X3_advance mo_X3_advance ⟨by decide, rfl⟩ ⟨by decide, by decide⟩ (Nat.le_of_ble_eq_true rfl) k_b0 (mSV_mono K0 (fun y_5 K0 => ?_))
      refine r_aload_n (pc := 54) dX3_readPlace_54 rfl ?_
      refine s_getI (pc := 55) dX3_readPlace_55 fl_X3_48 rfl k_b0 ?_
      refine r_iconst (pc := 58) (v := 1) dX3_readPlace_58 (by decide) ?_
      refine r_icmp_ne (pc := 59) (tgt := 75) dX3_readPlace_59 (by decide) (fun q => ?_) (fun q => ?_)
      · have K0 := K0.1 q
        refine r_aload_n (pc := 75) dX3_readPlace_75 rfl ?_
        refine r_iconst (pc := 76) (v := 1) dX3_readPlace_76 (by decide) ?_
        refine s_VI (pc := 77) mX3_fail (ci := 3) (a := b0) (As := [.int 1]) dX3_readPlace_77 lk_X3_125 in_X3_fail mo_X3_fail ⟨by decide, rfl⟩ ⟨by decide, by decide⟩ (Nat.le_of_ble_eq_true rfl) k_b0 (mSI_mono K0 (fun r_8 y_7 K0 => ?_))
        obtain ⟨p_9, K0⟩ := K0
        exact s_zret rfl p_9 dX3_readPlace_80 K0
      · have K0 := K0.2 q
        refine r_aload_n (pc := 62) dX3_readPlace_62 rfl ?_
        refine s_getI (pc := 63) dX3_readPlace_63 fl_X3_51 rfl k_b0 ?_
        refine r_iconst (pc := 66) (v := 0) dX3_readPlace_66 (by decide) ?_
        refine r_bipush (pc := 67) (v := 6) dX3_readPlace_67 (by decide) ?_
        refine s_SNI (pc := 69) mX7_isWithin (As := [.int (gi y_5 b0 10), .int 0, .int 6]) dX3_readPlace_69 nl_X3_200 st_X7_isWithin mo_X7_isWithin ⟨by decide, by decide⟩ (Nat.le_of_ble_eq_true rfl) (sp_X7_isWithin  ?_)
        refine r_if_ne (pc := 72) (tgt := 81) dX3_readPlace_72 (by decide) (fun q => ?_) (fun q => ?_)
        · have q := b2i_nz q
          have K0 := K0.1 q
          refine r_aload_n (pc := 81) dX3_readPlace_81 rfl ?_
          refine r_aload_n (pc := 82) dX3_readPlace_82 rfl ?_
          refine s_getI (pc := 83) dX3_readPlace_83 fl_X3_51 rfl k_b0 ?_
          refine s_putI (pc := 86) dX3_readPlace_86 fl_X3_60 rfl rfl k_b0 ?_
          refine r_aload_n (pc := 89) dX3_readPlace_89 rfl ?_
          refine s_VV (pc := 90) mX3_advance (ci := 3) (a := b0) (As := []) dX3_readPlace_90 lk_X3_87 in_X3_advance mo_X3_advance ⟨by decide, rfl⟩ ⟨by decide, by decide⟩ (Nat.le_of_ble_eq_true rfl) k_b0 (mSV_mono K0 (fun y_11 K0 => ?_))
          refine r_aload_n (pc := 93) dX3_readPlace_93 rfl ?_
          refine r_iconst (pc := 94) (v := 0) dX3_readPlace_94 (by decide) ?_
          refine r_bipush (pc := 95) (v := 23) dX3_readPlace_95 (by decide) ?_
          refine s_VI (pc := 97) mX3_isNumber (ci := 3) (a := b0) (As := [.int 0, .int 23]) dX3_readPlace_97 lk_X3_101 in_X3_isNumber mo_X3_isNumber ⟨by decide, rfl⟩ ⟨by decide, by decide⟩ (Nat.le_of_ble_eq_true rfl) k_b0 (mSI_mono K0 (fun r_13 y_12 K0 => ?_))
          refine r_if_ne (pc := 100) (tgt := 105) dX3_readPlace_100 (by decide) (fun q => ?_) (fun q => ?_)
          · have K0 := K0.1 q
            refine r_aload_n (pc := 105) dX3_readPlace_105 rfl ?_
            refine r_aload_n (pc := 106) dX3_readPlace_106 rfl ?_
            refine s_getI (pc := 107) dX3_readPlace_107 fl_X3_51 rfl k_b0 ?_
            refine s_putI (pc := 110) dX3_readPlace_110 fl_X3_63 rfl rfl k_b0 ?_
            refine r_aload_n (pc := 113) dX3_readPlace_113 rfl ?_
            refine s_VV (pc := 114) mX3_advance (ci := 3) (a := b0) (As := []) dX3_readPlace_114 lk_X3_87 in_X3_advance mo_X3_advance ⟨by decide, rfl⟩ ⟨by decide, by decide⟩ (Nat.le_of_ble_eq_true rfl) k_b0 (mSV_mono K0 (fun y_15 K0 => ?_))
            refine r_aload_n (pc := 117) dX3_readPlace_117 rfl ?_
            refine r_bipush (pc := 118) (v := 12) dX3_readPlace_118 (by decide) ?_
            refine s_VI (pc := 120) mX3_isWord (ci := 3) (a := b0) (As := [.int 12]) dX3_readPlace_120 lk_X3_110 in_X3_isWord mo_X3_isWord ⟨by decide, rfl⟩ ⟨by decide, by decide⟩ (Nat.le_of_ble_eq_true rfl) k_b0 (sp_X3_isWord k_b0 ?_)
            refine r_if_ne (pc := 123) (tgt := 141) dX3_readPlace_123 (by decide) (fun q => ?_) (fun q => ?_)
            · have q := b2i_nz q
              have K0 := K0.1 q
              refine r_aload_n (pc := 141) dX3_readPlace_141 rfl ?_
              refine r_aload_n (pc := 142) dX3_readPlace_142 rfl ?_
              refine r_bipush (pc := 143) (v := 12) dX3_readPlace_143 (by decide) ?_
              refine s_VI (pc := 145) mX3_isWord (ci := 3) (a := b0) (As := [.int 12]) dX3_readPlace_145 lk_X3_110 in_X3_isWord mo_X3_isWord ⟨by decide, rfl⟩ ⟨by decide, by decide⟩ (Nat.le_of_ble_eq_true rfl) k_b0 (sp_X3_isWord k_b0 ?_)
              refine r_if_eq (pc := 148) (tgt := 155) dX3_readPlace_148 (by decide) (fun q => ?_) (fun q => ?_)
              · have q := (b2i_z _).mp q
                have K0 := K0.1 q
                refine r_iconst (pc := 155) (v := 1) dX3_readPlace_155 (by decide) ?_
                refine s_putI (pc := 156) dX3_readPlace_156 fl_X3_66 rfl rfl k_b0 ?_
                refine r_aload_n (pc := 159) dX3_readPlace_159 rfl ?_
                refine s_VV (pc := 160) mX3_advance (ci := 3) (a := b0) (As := []) dX3_readPlace_160 lk_X3_87 in_X3_advance mo_X3_advance ⟨by decide, rfl⟩ ⟨by decide, by decide⟩ (Nat.le_of_ble_eq_true rfl) k_b0 (mSV_mono K0 (fun y_18 K0 => ?_))
                refine r_iconst (pc := 163) (v := 1) dX3_readPlace_163 (by decide) ?_
                exact s_zret rfl (by decide) dX3_readPlace_164 K0
              · have q := b2i_nz q
                have K0 := K0.2 q
                refine r_iconst (pc := 151) (v := 0) dX3_readPlace_151 (by decide) ?_
                refine r_goto (pc := 152) (tgt := 156) dX3_readPlace_152 (by decide) ?_
                refine s_putI (pc := 156) dX3_readPlace_156 fl_X3_66 rfl rfl k_b0 ?_
                refine r_aload_n (pc := 159) dX3_readPlace_159 rfl ?_
                refine s_VV (pc := 160) mX3_advance (ci := 3) (a := b0) (As := []) dX3_readPlace_160 lk_X3_87 in_X3_advance mo_X3_advance ⟨by decide, rfl⟩ ⟨by decide, by decide⟩ (Nat.le_of_ble_eq_true rfl) k_b0 (mSV_mono K0 (fun y_19 K0 => ?_))
                refine r_iconst (pc := 163) (v := 1) dX3_readPlace_163 (by decide) ?_
                exact s_zret rfl (by decide) dX3_readPlace_164 K0
            · have q := (b2i_z _).mp q
              have K0 := K0.2 q
              refine r_aload_n (pc := 126) dX3_readPlace_126 rfl ?_
              refine r_bipush (pc := 127) (v := 13) dX3_readPlace_127 (by decide) ?_
              refine s_VI (pc := 129) mX3_isWord (ci := 3) (a := b0) (As := [.int 13]) dX3_readPlace_129 lk_X3_110 in_X3_isWord mo_X3_isWord ⟨by decide, rfl⟩ ⟨by decide, by decide⟩ (Nat.le_of_ble_eq_true rfl) k_b0 (sp_X3_isWord k_b0 ?_)
              refine r_if_ne (pc := 132) (tgt := 141) dX3_readPlace_132 (by decide) (fun q => ?_) (fun q => ?_)
              · have q := b2i_nz q
                have K0 := K0.1 q
                refine r_aload_n (pc := 141) dX3_readPlace_141 rfl ?_
                refine r_aload_n (pc := 142) dX3_readPlace_142 rfl ?_
                refine r_bipush (pc := 143) (v := 12) dX3_readPlace_143 (by decide) ?_
                refine s_VI (pc := 145) mX3_isWord (ci := 3) (a := b0) (As := [.int 12]) dX3_readPlace_145 lk_X3_110 in_X3_isWord mo_X3_isWord ⟨by decide, rfl⟩ ⟨by decide, by decide⟩ (Nat.le_of_ble_eq_true rfl) k_b0 (sp_X3_isWord k_b0 ?_)
                refine r_if_eq (pc := 148) (tgt := 155) dX3_readPlace_148 (by decide) (fun q => ?_) (fun q => ?_)
                · have q := (b2i_z _).mp q
                  have K0 := K0.1 q
                  refine r_iconst (pc := 155) (v := 1) dX3_readPlace_155 (by decide) ?_
                  refine s_putI (pc := 156) dX3_readPlace_156 fl_X3_66 rfl rfl k_b0 ?_
                  refine r_aload_n (pc := 159) dX3_readPlace_159 rfl ?_
                  refine s_VV (pc := 160) mX3_advance (ci := 3) (a := b0) (As := []) dX3_readPlace_160 lk_X3_87 in_X3_advance mo_X3_advance ⟨by decide, rfl⟩ ⟨by decide, by decide⟩ (Nat.le_of_ble_eq_true rfl) k_b0 (mSV_mono K0 (fun y_22 K0 => ?_))
                  refine r_iconst (pc := 163) (v := 1) dX3_readPlace_163 (by decide) ?_
                  exact s_zret rfl (by decide) dX3_readPlace_164 K0
                · have q := b2i_nz q
                  have K0 := K0.2 q
                  refine r_iconst (pc := 151) (v := 0) dX3_readPlace_151 (by decide) ?_
                  refine r_goto (pc := 152) (tgt := 156) dX3_readPlace_152 (by decide) ?_
                  refine s_putI (pc := 156) dX3_readPlace_156 fl_X3_66 rfl rfl k_b0 ?_
                  refine r_aload_n (pc := 159) dX3_readPlace_159 rfl ?_
                  refine s_VV (pc := 160) mX3_advance (ci := 3) (a := b0) (As := []) dX3_readPlace_160 lk_X3_87 in_X3_advance mo_X3_advance ⟨by decide, rfl⟩ ⟨by decide, by decide⟩ (Nat.le_of_ble_eq_true rfl) k_b0 (mSV_mono K0 (fun y_23 K0 => ?_))
                  refine r_iconst (pc := 163) (v := 1) dX3_readPlace_163 (by decide) ?_
                  exact s_zret rfl (by decide) dX3_readPlace_164 K0
              · have q := (b2i_z _).mp q
                have K0 := K0.2 q
                refine r_aload_n (pc := 135) dX3_readPlace_135 rfl ?_
                refine r_iconst (pc := 136) (v := 1) dX3_readPlace_136 (by decide) ?_
                refine s_VI (pc := 137) mX3_fail (ci := 3) (a := b0) (As := [.int 1]) dX3_readPlace_137 lk_X3_125 in_X3_fail mo_X3_fail ⟨by decide, rfl⟩ ⟨by decide, by decide⟩ (Nat.le_of_ble_eq_true rfl) k_b0 (mSI_mono K0 (fun r_25 y_24 K0 => ?_))
                obtain ⟨p_26, K0⟩ := K0
                exact s_zret rfl p_26 dX3_readPlace_140 K0
          · have K0 := K0.2 q
            refine r_iconst (pc := 103) (v := 0) dX3_readPlace_103 (by decide) ?_
            exact s_zret rfl (by decide) dX3_readPlace_104 K0
        · have q := (b2i_z _).mp q
          have K0 := K0.2 q
          refine r_aload_n (pc := 75) dX3_readPlace_75 rfl ?_
          refine r_iconst (pc := 76) (v := 1) dX3_readPlace_76 (by decide) ?_
          refine s_VI (pc := 77) mX3_fail (ci := 3) (a := b0) (As := [.int 1]) dX3_readPlace_77 lk_X3_125 in_X3_fail mo_X3_fail ⟨by decide, rfl⟩ ⟨by decide, by decide⟩ (Nat.le_of_ble_eq_true rfl) k_b0 (mSI_mono K0 (fun r_28 y_27 K0 => ?_))
          obtain ⟨p_29, K0⟩ := K0
          exact s_zret rfl p_29 dX3_readPlace_80 K0
    · have K0 := K0.2 q
      refine r_aload_n (pc := 44) dX3_readPlace_44 rfl ?_
      refine r_iconst (pc := 45) (v := 4) dX3_readPlace_45 (by decide) ?_
      refine s_VI (pc := 46) mX3_fail (ci := 3) (a := b0) (As := [.int 4]) dX3_readPlace_46 lk_X3_125 in_X3_fail mo_X3_fail ⟨by decide, rfl⟩ ⟨by decide, by decide⟩ (Nat.le_of_ble_eq_true rfl) k_b0 (mSI_mono K0 (fun r_31 y_30 K0 => ?_))
      obtain ⟨p_32, K0⟩ := K0
      exact s_zret rfl p_32 dX3_readPlace_49 K0
  · have q := (b2i_z _).mp q
    have K0 := K0.2 q
    refine r_aload_n (pc := 7) dX3_readPlace_7 rfl ?_
    refine r_iconst (pc := 8) (v := 1) dX3_readPlace_8 (by decide) ?_
    refine s_VI (pc := 9) mX3_fail (ci := 3) (a := b0) (As := [.int 1]) dX3_readPlace_9 lk_X3_125 in_X3_fail mo_X3_fail ⟨by decide, rfl⟩ ⟨by decide, by decide⟩ (Nat.le_of_ble_eq_true rfl) k_b0 (mSI_mono K0 (fun r_34 y_33 K0 => ?_))
    obtain ⟨p_35, K0⟩ := K0
    exact s_zret rfl p_35 dX3_readPlace_12 K0
section
theorem sp_X3_readPlace {x : Cn} {Q : Int32 → Cn → Prop} {b : TT} {n p : Nat} {T : TT} {lim : Int32} {W C S A : Nat} (c : CS x b n p T lim W C S A) (k1 : okP b n p T C → ∀ y, SCf x y → CS y b n (nxt b n 4 p) T lim W C S A → PLc y b n p T C → Q 1 y) (k0 : ¬ okP b n p T C → ∀ y, SCf x y → Q 0 y) : mSI mX3_readPlace [.ref 59] KW x Q := by
  have hp := c.2.2.1
  have q1 : nxt b n 1 p ≤ n := nxt_le hp
  have q2 : nxt b n 2 p ≤ n := nxt_le hp
  have q3 : nxt b n 3 p ≤ n := nxt_le hp
  have q4 : nxt b n 4 p ≤ n := nxt_le hp
  have hC : C ≤ 8 := c.2.2.2.2.1.2.2.2.2.2.2.2.1
  have hn := c.1.1
  have t := c.2.1
  refine v_X3_readPlace_0 k59 c.1.2.2.2.2.2.1 c.1.2.2.2.2.2.2.1 k114 ?_
  rw [t.nm hp hn]
  refine ⟨fun o1 => ?_, fun o1 => sp_X3_fail (fun y f => ⟨Or.inl rfl, k0 (fun o => o1 o.1) y f.sc⟩)⟩
  have hE := tE_b (b := b) hp
  have l := tk_ltr c.1.2.2.2.1 hp o1.1
  have hb1 : ∀ i, tS b n p ≤ i → i < tE b n p → gi x 1 i = b i := fun i _ h2 => c.1.2.2.1 i (Nat.lt_of_lt_of_le h2 hE.2.1)
  have ev : pkv (gi x 1) (tS b n p) (tE b n p) = vnm b n p := pkv_cg hb1
  rw [t.1, t.2.1]
  refine sp_X1_carrierNamed (nb := 114) (bt := 1) (nB := 1200) (T := T) (C := C) k114 c.1.2.2.2.2.2.2.2 k115 k1t hC c.2.2.2.2.2 (ltr_cg hb1 l) (Nat.le_trans hE.2.1 hn) hE.1 (by omega) ?_
  rw [ev, gi_ui, if_pos ⟨rfl, rfl⟩]
  have c0 := c.u (k := 12) (v := fnd T C (vnm b n p)) (by omega)
  have f0 : SCf x (ui x 59 12 (fnd T C (vnm b n p))) := (SCf.rf x).u (by omega)
  have p0 : gi (ui x 59 12 (fnd T C (vnm b n p))) 59 12 = fnd T C (vnm b n p) := by rw [gi_ui, if_pos ⟨rfl, rfl⟩]
  generalize ui x 59 12 (fnd T C (vnm b n p)) = u0 at c0 f0 p0
  refine ⟨fun o2 => ?_, fun o2 => sp_X3_fail (fun y f => ⟨Or.inl rfl, k0 (fun o => o.2.1 o2) y (f0.tr f.sc)⟩)⟩
  refine ad_c c0.1 c0.2.1 hp (fun y1 f1 B1 t1 => ?_)
  have c1 := c0.at f1 t1 q1
  have g1 := f0.tr f1.sc
  have ek : gi y1 59 9 = 1 ↔ tK b n (tE b n p) = 1 := t1.k 1 (by omega)
  rw [ek]
  refine ⟨fun z => sp_X3_fail (fun y f => ⟨Or.inl rfl, k0 (fun o => by obtain ⟨d, -, hd⟩ := o.2.2.1; exact z hd.1) y (g1.tr f.sc)⟩), fun z => ?_⟩
  have v10 : gi y1 59 10 = wnp b n (tE b n p) := t1.2.2.2.1 z
  rw [v10]
  have ed : (0 ≤ wnp b n (tE b n p) ∧ wnp b n (tE b n p) ≤ 6) ↔ ∃ d, d < 7 ∧ iw b n (nxt b n 1 p) d := by
    constructor
    · intro h
      obtain ⟨d, hd, e⟩ := inN (n := 7) (by omega) ⟨h.1, Int32.lt_of_le_of_lt h.2 (by decide)⟩
      exact ⟨d, hd, z, e⟩
    · rintro ⟨d, hd, -, e⟩
      have e' : wnp b n (tE b n p) = nI d := e
      rw [e']
      exact ⟨nI_pos' (by omega), nI_le (a := d) (b := 6) (by omega) (by omega)⟩
  rw [ed]
  refine ⟨fun o3 => ?_, fun o3 => sp_X3_fail (fun y f => ⟨Or.inl rfl, k0 (fun o => o3 o.2.2.1) y (g1.tr f.sc)⟩)⟩
  have c1' := c1.u (k := 13) (v := wnp b n (tE b n p)) (by omega)
  have g1' : SCf x (ui y1 59 13 (wnp b n (tE b n p))) := g1.u (by omega)
  have p1 : gi (ui y1 59 13 (wnp b n (tE b n p))) 59 12 = fnd T C (vnm b n p) ∧ gi (ui y1 59 13 (wnp b n (tE b n p))) 59 13 = wnp b n (tE b n p) := ⟨by rw [gi_ui, if_neg (by omega)]; exact (f1.2 59 12 (by omega)).trans p0, by rw [gi_ui, if_pos ⟨rfl, rfl⟩]⟩
  generalize ui y1 59 13 (wnp b n (tE b n p)) = u1 at c1' g1' p1
  refine ad_c c1'.1 c1'.2.1 q1 (fun y2 f2 B2 t2 => ?_)
  have c2 := c1'.at f2 t2 q2
  have g2 := g1'.tr f2.sc
  refine sp_X3_isNumber (lo := 0) (hi := 23) t2 (by omega) (by omega) (fun o4 => ⟨fun _ => ?_, fun z => absurd z (by decide)⟩) (fun o4 y3 f3 => ⟨fun z => absurd rfl z, fun _ => k0 (fun o => o4 o.2.2.2.1) y3 (g2.tr f3.sc)⟩)
  have hv := t2.2.2.2.2.1 o4.1
  rw [(mn5 o4.2.2 (by omega)).1] at hv
  rw [hv]
  have c2' := c2.u (k := 14) (v := nI (tV b n (tE b n (tE b n p)))) (by omega)
  have g2' : SCf x (ui y2 59 14 (nI (tV b n (tE b n (tE b n p))))) := g2.u (by omega)
  have p2 : gi (ui y2 59 14 (nI (tV b n (tE b n (tE b n p))))) 59 12 = fnd T C (vnm b n p) ∧ gi (ui y2 59 14 (nI (tV b n (tE b n (tE b n p))))) 59 13 = wnp b n (tE b n p) ∧ gi (ui y2 59 14 (nI (tV b n (tE b n (tE b n p))))) 59 14 = nI (tV b n (tE b n (tE b n p))) := ⟨by rw [gi_ui, if_neg (by omega)]; exact (f2.2 59 12 (by omega)).trans p1.1, by rw [gi_ui, if_neg (by omega)]; exact (f2.2 59 13 (by omega)).trans p1.2, by rw [gi_ui, if_pos ⟨rfl, rfl⟩]⟩
  generalize ui y2 59 14 (nI (tV b n (tE b n (tE b n p)))) = u2 at c2' g2' p2
  refine ad_c c2'.1 c2'.2.1 q2 (fun y3 f3 B3 t3 => ?_)
  have c3 := c2'.at f3 t3 q3
  have g3 := g2'.tr f3.sc
  have e12 : (gi y3 59 9 = 1 ∧ gi y3 59 10 = 12) ↔ iw b n (nxt b n 3 p) 12 := t3.w 12
  have e13 : (gi y3 59 9 = 1 ∧ gi y3 59 10 = 13) ↔ iw b n (nxt b n 3 p) 13 := t3.w 13
  have fin : ∀ v, v = wyo b n (nxt b n 3 p) → okP b n p T C → mSV mX3_advance [.ref 59] KW (ui y3 59 15 v) (fun y => Q 1 y) := by
    intro v hv ok
    have c3' := c3.u (k := 15) (v := v) (by omega)
    refine ad_c c3'.1 c3'.2.1 q3 (fun y4 f4 B4 t4 => ?_)
    refine k1 ok y4 ((g3.u (by omega)).tr f4.sc) (c3'.at f4 t4 q4) ⟨?_, ?_, ?_, ?_⟩
    · rw [f4.2 59 12 (by omega), gi_ui, if_neg (by omega)]; exact (f3.2 59 12 (by omega)).trans p2.1
    · rw [f4.2 59 13 (by omega), gi_ui, if_neg (by omega)]; exact (f3.2 59 13 (by omega)).trans p2.2.1
    · rw [f4.2 59 14 (by omega), gi_ui, if_neg (by omega)]; exact (f3.2 59 14 (by omega)).trans p2.2.2
    · rw [f4.2 59 15 (by omega), gi_ui, if_pos ⟨rfl, rfl⟩]; exact hv
  rw [e12, e13]
  have w12 : iw b n (nxt b n 3 p) 12 → (0 : Int32) = wyo b n (nxt b n 3 p) := fun h => by
    unfold wyo
    rw [if_neg (fun z => absurd ((show wnp b n (nxt b n 3 p) = nI 12 from h.2).symm.trans z) (by decide))]
  have w13 : iw b n (nxt b n 3 p) 13 → (1 : Int32) = wyo b n (nxt b n 3 p) := fun h => by
    unfold wyo
    rw [if_pos (show wnp b n (nxt b n 3 p) = 13 from h.2)]
  refine ⟨fun o5 => ⟨fun z => absurd o5 z, fun _ => fin 0 (w12 o5) ⟨o1, o2, o3, o4, Or.inl o5⟩⟩, fun n5 => ⟨fun o5 => ⟨fun _ => fin 1 (w13 o5) ⟨o1, o2, o3, o4, Or.inr o5⟩, fun z => absurd z n5⟩, fun m5 => sp_X3_fail (fun y f => ⟨Or.inl rfl, k0 (fun o => o.2.2.2.2.elim n5 m5) y (g3.tr f.sc)⟩)⟩⟩
/-! from week to week -/
def okN (b : TT) (n p W : Nat) : Prop := tK b n p = 2 ∧ sg b n (nxt b n 1 p) 45 ∧ nb b n (nxt b n 2 p) (tV b n p + 4) (W - 1)
end
set_option maxHeartbeats 2000000 in
theorem v_X3_readSpan_0 {K : Sh} {x : Cn} {Q : Int32 → Cn → Prop} {b0 : Nat}  (k_b0 : kk K b0 = some (3, 0)) (K0 : ((gi x b0 9) = 2 → (mSV mX3_advance [.ref b0] K (ui x b0 16 (gi x b0 10)) (fun y_2 => ((gi y_2 b0 9 = 3 ∧ gi y_2 b0 10 = 45) → (mSV mX3_advance [.ref b0] K y_2 (fun y_4 => ∃ c_5 : Nat, gr y_4 b0 0 = some c_5 ∧ (kk K c_5 = some (4, 0) ∧ (mSI mX3_isNumber [.ref b0, .int (((gi y_4 b0 16) + 5) - 1), .int ((gi y_4 c_5 0) - 1)] K y_4 (fun r_9 y_8 => (¬ r_9 = 0 → (mSV mX3_advance [.ref b0] K (ui y_8 b0 17 (gi y_8 b0 10)) (fun y_11 => Q 1 y_11))) ∧ (r_9 = 0 → (Q 0 y_8)))))))) ∧ (¬ (gi y_2 b0 9 = 3 ∧ gi y_2 b0 10 = 45) → (mSI mX3_fail [.ref b0, .int 1] K y_2 (fun r_13 y_12 => (r_13 = 0 ∨ r_13 = 1) ∧ (Q r_13 y_12))))))) ∧ (¬ (gi x b0 9) = 2 → (mSI mX3_fail [.ref b0, .int 1] K x (fun r_16 y_15 => (r_16 = 0 ∨ r_16 = 1) ∧ (Q r_16 y_15))))) : mSI mX3_readSpan [.ref b0] K x Q := by
  refine s_I (by decide) (by simp [Value.category]) (Nat.le_of_ble_eq_true rfl) ?_
  show mGM mX3_readSpan 0 [some (.ref b0)] [] (hp K x) (PI K Q)
  refine r_aload_n (pc := 0) dX3_readSpan_0 rfl ?_
  refine s_getI (pc := 1) dX3_readSpan_1 fl_X3_48 rfl k_b0 ?_
  refine r_iconst (pc := 4) (v := 2) dX3_readSpan_4 (by decide) ?_
  refine r_icmp_eq (pc := 5) (tgt := 14) dX3_readSpan_5 (by decide) (fun q => ?_) (fun q => ?_)
  · have K0 := K0.1 q
    refine r_aload_n (pc := 14) dX3_readSpan_14 rfl ?_
    refine r_aload_n (pc := 15) dX3_readSpan_15 rfl ?_
    refine s_getI (pc := 16) dX3_readSpan_16 fl_X3_51 rfl k_b0 ?_
    refine s_putI (pc := 19) dX3_readSpan_19 fl_X3_69 rfl rfl k_b0 ?_
    refine r_aload_n (pc := 22) dX3_readSpan_22 rfl ?_
    refine s_VV (pc := 23) mX3_advance (ci := 3) (a := b0) (As := []) dX3_readSpan_23 lk_X3_87 in_X3_advance mo_X3_advance ⟨by decide, rfl⟩ ⟨by decide, by decide⟩ (Nat.le_of_ble_eq_true rfl) k_b0 (mSV_mono K0 (fun y_2 K0 => ?_))
    refine r_aload_n (pc := 26) dX3_readSpan_26 rfl ?_
    refine r_bipush (pc := 27) (v := 45) dX3_readSpan_27 (by decide) ?_
    refine s_VI (pc := 29) mX3_isSign (ci := 3) (a := b0) (As := [.int 45]) dX3_readSpan_29 lk_X3_158 in_X3_isSign mo_X3_isSign ⟨by decide, rfl⟩ ⟨by decide, by decide⟩ (Nat.le_of_ble_eq_true rfl) k_b0 (sp_X3_isSign k_b0 ?_)
    refine r_if_ne (pc := 32) (tgt := 41) dX3_readSpan_32 (by decide) (fun q => ?_) (fun q => ?_)
    · have q := b2i_nz q
      have K0 := K0.1 q
      refine r_aload_n (pc := 41) dX3_readSpan_41 rfl ?_
      refine s_VV (pc := 42) mX3_advance (ci := 3) (a := b0) (As := []) dX3_readSpan_42 lk_X3_87 in_X3_advance mo_X3_advance ⟨by decide, rfl⟩ ⟨by decide, by decide⟩ (Nat.le_of_ble_eq_true rfl) k_b0 (mSV_mono K0 (fun y_4 K0 => ?_))
      refine r_aload_n (pc := 45) dX3_readSpan_45 rfl ?_
      refine r_aload_n (pc := 46) dX3_readSpan_46 rfl ?_
      refine s_getI (pc := 47) dX3_readSpan_47 fl_X3_69 rfl k_b0 ?_
      refine r_iconst (pc := 50) (v := 5) dX3_readSpan_50 (by decide) ?_
      refine r_iadd (pc := 51) dX3_readSpan_51 ?_
      refine r_iconst (pc := 52) (v := 1) dX3_readSpan_52 (by decide) ?_
      refine r_isub (pc := 53) dX3_readSpan_53 ?_
      refine r_aload_n (pc := 54) dX3_readSpan_54 rfl ?_
      obtain ⟨c_5, g_6, K0⟩ := K0
      refine s_getR (pc := 55) dX3_readSpan_55 fl_X3_12 rfl k_b0 g_6 ?_
      obtain ⟨e_7, K0⟩ := K0
      refine s_getI (pc := 58) dX3_readSpan_58 fl_X3_105 rfl e_7 ?_
      refine r_iconst (pc := 61) (v := 1) dX3_readSpan_61 (by decide) ?_
      refine r_isub (pc := 62) dX3_readSpan_62 ?_
      refine s_VI (pc := 63) mX3_isNumber (ci := 3) (a := b0) (As := [.int (((gi y_4 b0 16) + 5) - 1), .int ((gi y_4 c_5 0) - 1)]) dX3_readSpan_63 lk_X3_101 in_X3_isNumber mo_X3_isNumber ⟨by decide, rfl⟩ ⟨by decide, by decide⟩ (Nat.le_of_ble_eq_true rfl) k_b0 (mSI_mono K0 (fun r_9 y_8 K0 => ?_))
      refine r_if_ne (pc := 66) (tgt := 71) dX3_readSpan_66 (by decide) (fun q => ?_) (fun q => ?_)
      · have K0 := K0.1 q
        refine r_aload_n (pc := 71) dX3_readSpan_71 rfl ?_
        refine r_aload_n (pc := 72) dX3_readSpan_72 rfl ?_
        refine s_getI (pc := 73) dX3_readSpan_73 fl_X3_51 rfl k_b0 ?_
        refine s_putI (pc := 76) dX3_readSpan_76 fl_X3_72 rfl rfl k_b0 ?_
        refine r_aload_n (pc := 79) dX3_readSpan_79 rfl ?_
        refine s_VV (pc := 80) mX3_advance (ci := 3) (a := b0) (As := []) dX3_readSpan_80 lk_X3_87 in_X3_advance mo_X3_advance ⟨by decide, rfl⟩ ⟨by decide, by decide⟩ (Nat.le_of_ble_eq_true rfl) k_b0 (mSV_mono K0 (fun y_11 K0 => ?_))
        refine r_iconst (pc := 83) (v := 1) dX3_readSpan_83 (by decide) ?_
        exact s_zret rfl (by decide) dX3_readSpan_84 K0
      · have K0 := K0.2 q
        refine r_iconst (pc := 69) (v := 0) dX3_readSpan_69 (by decide) ?_
        exact s_zret rfl (by decide) dX3_readSpan_70 K0
    · have q := (b2i_z _).mp q
      have K0 := K0.2 q
      refine r_aload_n (pc := 35) dX3_readSpan_35 rfl ?_
      refine r_iconst (pc := 36) (v := 1) dX3_readSpan_36 (by decide) ?_
      refine s_VI (pc := 37) mX3_fail (ci := 3) (a := b0) (As := [.int 1]) dX3_readSpan_37 lk_X3_125 in_X3_fail mo_X3_fail ⟨by decide, rfl⟩ ⟨by decide, by decide⟩ (Nat.le_of_ble_eq_true rfl) k_b0 (mSI_mono K0 (fun r_13 y_12 K0 => ?_))
      obtain ⟨p_14, K0⟩ := K0
      exact s_zret rfl p_14 dX3_readSpan_40 K0
  · have K0 := K0.2 q
    refine r_aload_n (pc := 8) dX3_readSpan_8 rfl ?_
    refine r_iconst (pc := 9) (v := 1) dX3_readSpan_9 (by decide) ?_
    refine s_VI (pc := 10) mX3_fail (ci := 3) (a := b0) (As := [.int 1]) dX3_readSpan_10 lk_X3_125 in_X3_fail mo_X3_fail ⟨by decide, rfl⟩ ⟨by decide, by decide⟩ (Nat.le_of_ble_eq_true rfl) k_b0 (mSI_mono K0 (fun r_16 y_15 K0 => ?_))
    obtain ⟨p_17, K0⟩ := K0
    exact s_zret rfl p_17 dX3_readSpan_13 K0
section
theorem sp_X3_readSpan {x : Cn} {Q : Int32 → Cn → Prop} {b : TT} {n p : Nat} {T : TT} {lim : Int32} {W C S A : Nat} (hW : 5 ≤ W) (c : CS x b n p T lim W C S A) (k1 : okN b n p W → ∀ y, SCf x y → CS y b n (nxt b n 3 p) T lim W C S A → (∀ k, 12 ≤ k → k ≤ 15 → gi y 59 k = gi x 59 k) → gi y 59 16 = nI (tV b n p) → gi y 59 17 = nI (tV b n (nxt b n 2 p)) → Q 1 y) (k0 : ¬ okN b n p W → ∀ y, SCf x y → Q 0 y) : mSI mX3_readSpan [.ref 59] KW x Q := by
  have hp := c.2.2.1
  have q1 : nxt b n 1 p ≤ n := nxt_le hp
  have q2 : nxt b n 2 p ≤ n := nxt_le hp
  have q3 : nxt b n 3 p ≤ n := nxt_le hp
  have hW3 : W ≤ 30 := c.2.2.2.2.1.2.2.2.2.2.1
  have t := c.2.1
  have ek : gi x 59 9 = 2 ↔ tK b n p = 2 := t.k 2 (by omega)
  refine v_X3_readSpan_0 k59 ?_
  rw [ek]
  refine ⟨fun o1 => ?_, fun o1 => sp_X3_fail (fun y f => ⟨Or.inl rfl, k0 (fun o => o1 o.1) y f.sc⟩)⟩
  have hv := t.2.2.2.2.1 o1
  rw [hv]
  have c0 := c.u (k := 16) (v := nI (min (tV b n p) 100000)) (by omega)
  have f0 : SCf x (ui x 59 16 (nI (min (tV b n p) 100000))) := (SCf.rf x).u (by omega)
  have p0 : gi (ui x 59 16 (nI (min (tV b n p) 100000))) 59 16 = nI (min (tV b n p) 100000) := by rw [gi_ui, if_pos ⟨rfl, rfl⟩]
  have r0 : ∀ k, 12 ≤ k → k ≤ 15 → gi (ui x 59 16 (nI (min (tV b n p) 100000))) 59 k = gi x 59 k := fun k h1 h2 => by rw [gi_ui, if_neg (by omega)]
  generalize ui x 59 16 (nI (min (tV b n p) 100000)) = u0 at c0 f0 p0 r0
  refine ad_c c0.1 c0.2.1 hp (fun y1 f1 B1 t1 => ?_)
  have c1 := c0.at f1 t1 q1
  have g1 := f0.tr f1.sc
  rw [t1.s 45]
  refine ⟨fun o2 => ?_, fun o2 => sp_X3_fail (fun y f => ⟨Or.inl rfl, k0 (fun o => o2 o.2.1) y (g1.tr f.sc)⟩)⟩
  refine ad_c B1 t1 q1 (fun y2 f2 B2 t2 => ⟨60, B2.2.2.2.2.1, k60, ?_⟩)
  have c2 := c1.at f2 t2 q2
  have g2 := g1.tr f2.sc
  have e16 : gi y2 59 16 = nI (min (tV b n p) 100000) := (f2.2 59 16 (by omega)).trans ((f1.2 59 16 (by omega)).trans p0)
  have hm : min (tV b n p) 100000 ≤ 100000 := Nat.min_le_right _ _
  rw [e16, c2.s2.1, show (5 : Int32) = nI 5 from rfl, nI_add, show (1 : Int32) = nI 1 from rfl, pk_sub (a := min (tV b n p) 100000 + 5) (b := 1) (by omega), pk_sub (a := W) (b := 1) (by omega)]
  have en : nb b n (nxt b n 2 p) (min (tV b n p) 100000 + 5 - 1) (W - 1) ↔ nb b n (nxt b n 2 p) (tV b n p + 4) (W - 1) := by
    unfold nb
    omega
  refine sp_X3_isNumber t2 (by omega) (by omega) (fun o3 => ⟨fun _ => ?_, fun z => absurd z (by decide)⟩) (fun o3 y3 f3 => ⟨fun z => absurd rfl z, fun _ => k0 (fun o => o3 (en.mpr o.2.2)) y3 (g2.tr f3.sc)⟩)
  have o3' := en.mp o3
  have hv2 := t2.2.2.2.2.1 o3.1
  have hs : tV b n p + 4 ≤ 29 := by have h1 := o3'.2.1; have h2 := o3'.2.2; omega
  rw [(mn5 (show tV b n (tE b n (tE b n p)) ≤ 29 from Nat.le_trans o3.2.2 (by omega)) (by omega)).1] at hv2
  rw [hv2]
  have c2' := c2.u (k := 17) (v := nI (tV b n (tE b n (tE b n p)))) (by omega)
  refine ad_c c2'.1 c2'.2.1 q2 (fun y3 f3 B3 t3 => ?_)
  refine k1 ⟨o1, o2, o3'⟩ y3 ((g2.u (by omega)).tr f3.sc) (c2'.at f3 t3 q3) (fun k h1 h2 => ?_) ?_ ?_
  · rw [f3.2 59 k (by omega), gi_ui, if_neg (by omega), f2.2 59 k (by omega), f1.2 59 k (by omega)]; exact r0 k h1 h2
  · rw [f3.2 59 16 (by omega), gi_ui, if_neg (by omega), e16, (mn5 (show tV b n p ≤ 29 by omega) (by omega)).1]
  · rw [f3.2 59 17 (by omega), gi_ui, if_pos ⟨rfl, rfl⟩]; rfl

end
end
/-! 70.read3.lean.txt -/
section
/-! series, asks, a line: landed side (q: the place of a series' or an ask's name) -/
theorem b2i_cg {c d : Prop} [Decidable c] [Decidable d] (h : c ↔ d) : b2i c = b2i d := by
  by_cases z : c
  · rw [b2i_t z, b2i_t (h.mp z)]
  · rw [b2i_f z, b2i_f (fun w => z (h.mpr w))]
def spw (b : TT) (n q : Nat) : Int32 := f_span (nI (tV b n (nxt b n 4 q))) (nI (tV b n (nxt b n 6 q)))
def nwp (b : TT) (n r : Nat) : Nat := if tK b n r = 1 ∧ wnp b n r = 14 then tE b n r else r
def nwv (b : TT) (n r : Nat) : Int32 := b2i (tK b n r = 1 ∧ wnp b n r = 14)
def srF (b : TT) (n q : Nat) (T : TT) (C : Nat) : Nat → Int32 := fun k => if k = 0 then fnd T C (vnm b n q) else if k = 1 then wnp b n (nxt b n 1 q) else if k = 2 then nI (tV b n (nxt b n 2 q)) else if k = 3 then wyo b n (nxt b n 3 q) else if k = 4 then nwv b n (nxt b n 7 q) else if k = 5 then nI (tV b n (nxt b n 4 q)) else if k = 6 then nI (tV b n (nxt b n 6 q)) else if k = 7 then spw b n q else 0
theorem wyo_01 (b : TT) (n p : Nat) : wyo b n p = 0 ∨ wyo b n p = 1 := by
  unfold wyo
  by_cases h : wnp b n p = 13
  · rw [if_pos h]; exact Or.inr rfl
  · rw [if_neg h]; exact Or.inl rfl
theorem cm_ok {b : TT} {n q W C : Nat} {T : TT} (hW : 5 ≤ W) (h1 : okP b n q T C) (h2 : okN b n (nxt b n 4 q) W) : (∃ c, c < C ∧ fnd T C (vnm b n q) = nI c) ∧ (∃ d, d < 7 ∧ wnp b n (nxt b n 1 q) = nI d) ∧ tV b n (nxt b n 2 q) < 24 ∧ tV b n (nxt b n 4 q) + 4 ≤ tV b n (nxt b n 6 q) ∧ tV b n (nxt b n 6 q) < W := by
  obtain ⟨-, p1, ⟨d, hd, -, ed⟩, p2, -⟩ := h1
  have p3 : tV b n (nxt b n 2 q) ≤ 23 := p2.2.2
  have n1 : tV b n (nxt b n 4 q) + 4 ≤ tV b n (nxt b n 6 q) := h2.2.2.2.1
  have n2 : tV b n (nxt b n 6 q) ≤ W - 1 := h2.2.2.2.2
  exact ⟨(fnd_c T C (vnm b n q)).resolve_left p1, ⟨d, hd, ed⟩, by omega, n1, by omega⟩
theorem Wse.rd {b : TT} {n q W C S : Nat} {T : TT} (hW : 5 ≤ W) (hW3 : W ≤ 30) (h1 : okP b n q T C) (h2 : okN b n (nxt b n 4 q) W) : Wse (adT T S (srF b n q T C)) C W S := by
  obtain ⟨⟨c, hc, ec⟩, ⟨d, hd, ed⟩, hh, f1, f2⟩ := cm_ok hW h1 h2
  have e : ∀ k, k < 12 → so (adT T S (srF b n q T C)) S k = srF b n q T C k := fun k hk => so_adT hk
  have z : ∀ k, k < 5 → k ≠ 0 → so (adT T S (srF b n q T C)) S (7 + k) = 0 := fun k hk h0 => by
    rw [e _ (by omega)]
    unfold srF
    rw [if_neg (by omega), if_neg (by omega), if_neg (by omega), if_neg (by omega), if_neg (by omega), if_neg (by omega), if_neg (by omega), if_neg (by omega)]
  refine ⟨⟨c, hc, by rw [e 0 (by decide)]; exact ec⟩, ⟨d, hd, by rw [e 1 (by decide)]; exact ed⟩, ⟨_, hh, by rw [e 2 (by decide)]; rfl⟩, by rw [e 3 (by decide)]; exact wyo_01 _ _ _, by rw [e 4 (by decide)]; exact b2i_01 _, ⟨_, _, Nat.le_trans (Nat.le_add_right _ 4) f1, f2, by rw [e 5 (by decide)]; rfl, by rw [e 6 (by decide)]; rfl⟩, ?_, ?_⟩
  · intro i hi k j hk hj h1 h2
    by_cases c1 : k = 0
    · by_cases c2 : j = 0
      · omega
      · rw [z j hj c2, tb_0] at h2; cases h2
    · rw [z k hk c1, tb_0] at h1; cases h1
  · intro i k hk h1
    by_cases c1 : k = 0
    · subst c1
      rw [e (7 + 0) (by decide)] at h1
      have h1 : tb (f_span (nI (tV b n (nxt b n 4 q))) (nI (tV b n (nxt b n 6 q)))) i = true := h1
      by_cases c3 : i < 32
      · rw [tb_span0 _ (by omega) _ (by omega) i c3] at h1
        have := of_decide_eq_true h1
        omega
      · rw [tb_ge _ (by omega)] at h1; cases h1
    · rw [z k hk c1, tb_0] at h1; cases h1
theorem nxt_n {b : TT} {n : Nat} (j k p : Nat) : nxt b n j (nxt b n k p) = nxt b n (k + j) p := by
  induction j with
  | zero => rfl
  | succ j ih =>
    show tE b n (nxt b n j (nxt b n k p)) = tE b n (nxt b n (k + j) p)
    rw [ih]
def okS (b : TT) (n q : Nat) (T : TT) (W C S : Nat) : Prop := S < 24 ∧ okP b n q T C ∧ okN b n (nxt b n 4 q) W ∧ sg b n (nwp b n (nxt b n 7 q)) 59 ∧ fitC T S 0 (wnp b n (nxt b n 1 q)) (tV b n (nxt b n 2 q)) (wyo b n (nxt b n 3 q)) (spw b n q) 0
theorem nwp_le {b : TT} {n r : Nat} (h : r ≤ n) : nwp b n r ≤ n := by
  unfold nwp
  by_cases c : tK b n r = 1 ∧ wnp b n r = 14
  · rw [if_pos c]; exact (tE_b h).2.1
  · rw [if_neg c]; exact h
set_option maxHeartbeats 2000000 in
theorem v_X3_readSeries_0 {K : Sh} {x : Cn} {Q : Int32 → Cn → Prop} {b0 : Nat} {b0_0 : Nat} (k_b0 : kk K b0 = some (3, 0)) (g_b0_0 : gr x b0 0 = some b0_0) (k_b0_0 : kk K b0_0 = some (4, 0)) (K0 : ((gi x b0_0 3) < 24 → (mSV mX3_advance [.ref b0] K x (fun y_2 => mSI mX3_readPlace [.ref b0] K y_2 (fun r_4 y_3 => (r_4 = 0 → (Q 0 y_3)) ∧ (¬ r_4 = 0 → (mSI mX3_readSpan [.ref b0] K y_3 (fun r_7 y_6 => (¬ r_7 = 0 → ((¬ (gi y_6 b0 9 = 1 ∧ gi y_6 b0 10 = 14) → (GI mX3_readSeries 53 [some (.ref b0), some (.int (b2i (gi y_6 b0 9 = 1 ∧ gi y_6 b0 10 = 14))), none] [] K y_6 Q)) ∧ ((gi y_6 b0 9 = 1 ∧ gi y_6 b0 10 = 14) → (mSV mX3_advance [.ref b0] K y_6 (fun y_10 => GI mX3_readSeries 53 [some (.ref b0), some (.int (b2i (gi y_6 b0 9 = 1 ∧ gi y_6 b0 10 = 14))), none] [] K y_10 Q))))) ∧ (r_7 = 0 → (Q 0 y_6))))))))) ∧ (¬ (gi x b0_0 3) < 24 → (mSI mX3_fail [.ref b0, .int 5] K x (fun r_12 y_11 => (r_12 = 0 ∨ r_12 = 1) ∧ (Q r_12 y_11))))) : mSI mX3_readSeries [.ref b0] K x Q := by
  refine s_I (by decide) (by simp [Value.category]) (Nat.le_of_ble_eq_true rfl) ?_
  show mGM mX3_readSeries 0 [some (.ref b0), none, none] [] (hp K x) (PI K Q)
  refine r_aload_n (pc := 0) dX3_readSeries_0 rfl ?_
  refine s_getR (pc := 1) dX3_readSeries_1 fl_X3_12 rfl k_b0 g_b0_0 ?_
  refine s_getI (pc := 4) dX3_readSeries_4 fl_X3_128 rfl k_b0_0 ?_
  refine r_bipush (pc := 7) (v := 24) dX3_readSeries_7 (by decide) ?_
  refine r_icmp_lt (pc := 9) (tgt := 18) dX3_readSeries_9 (by decide) (fun q => ?_) (fun q => ?_)
  · have K0 := K0.1 q
    refine r_aload_n (pc := 18) dX3_readSeries_18 rfl ?_
    refine s_VV (pc := 19) mX3_advance (ci := 3) (a := b0) (As := []) dX3_readSeries_19 lk_X3_87 in_X3_advance mo_X3_advance ⟨by decide, rfl⟩ ⟨by decide, by decide⟩ (Nat.le_of_ble_eq_true rfl) k_b0 (mSV_mono K0 (fun y_2 K0 => ?_))
    refine r_aload_n (pc := 22) dX3_readSeries_22 rfl ?_
    refine s_VI (pc := 23) mX3_readPlace (ci := 3) (a := b0) (As := []) dX3_readSeries_23 lk_X3_152 in_X3_readPlace mo_X3_readPlace ⟨by decide, rfl⟩ ⟨by decide, by decide⟩ (Nat.le_of_ble_eq_true rfl) k_b0 (mSI_mono K0 (fun r_4 y_3 K0 => ?_))
    refine r_if_eq (pc := 26) (tgt := 36) dX3_readSeries_26 (by decide) (fun q => ?_) (fun q => ?_)
    · have K0 := K0.1 q
      refine r_iconst (pc := 36) (v := 0) dX3_readSeries_36 (by decide) ?_
      exact s_zret rfl (by decide) dX3_readSeries_37 K0
    · have K0 := K0.2 q
      refine r_aload_n (pc := 29) dX3_readSeries_29 rfl ?_
      refine s_VI (pc := 30) mX3_readSpan (ci := 3) (a := b0) (As := []) dX3_readSeries_30 lk_X3_155 in_X3_readSpan mo_X3_readSpan ⟨by decide, rfl⟩ ⟨by decide, by decide⟩ (Nat.le_of_ble_eq_true rfl) k_b0 (mSI_mono K0 (fun r_7 y_6 K0 => ?_))
      refine r_if_ne (pc := 33) (tgt := 38) dX3_readSeries_33 (by decide) (fun q => ?_) (fun q => ?_)
      · have K0 := K0.1 q
        refine r_aload_n (pc := 38) dX3_readSeries_38 rfl ?_
        refine r_bipush (pc := 39) (v := 14) dX3_readSeries_39 (by decide) ?_
        refine s_VI (pc := 41) mX3_isWord (ci := 3) (a := b0) (As := [.int 14]) dX3_readSeries_41 lk_X3_110 in_X3_isWord mo_X3_isWord ⟨by decide, rfl⟩ ⟨by decide, by decide⟩ (Nat.le_of_ble_eq_true rfl) k_b0 (sp_X3_isWord k_b0 ?_)
        refine r_istore_n (pc := 44) dX3_readSeries_44 (by decide) ?_
        refine r_iload_n (pc := 45) (L := [some (.ref b0), some (.int (b2i (gi y_6 b0 9 = 1 ∧ gi y_6 b0 10 = 14))), none]) dX3_readSeries_45 rfl ?_
        refine r_if_eq (pc := 46) (tgt := 53) dX3_readSeries_46 (by decide) (fun q => ?_) (fun q => ?_)
        · have q := (b2i_z _).mp q
          have K0 := K0.1 q
          exact r_le (L' := [some (.ref b0), some (.int (b2i (gi y_6 b0 9 = 1 ∧ gi y_6 b0 10 = 14))), none]) ⟨rfl, ⟨rfl, trivial⟩⟩ K0
        · have q := b2i_nz q
          have K0 := K0.2 q
          refine r_aload_n (pc := 49) dX3_readSeries_49 rfl ?_
          refine s_VV (pc := 50) mX3_advance (ci := 3) (a := b0) (As := []) dX3_readSeries_50 lk_X3_87 in_X3_advance mo_X3_advance ⟨by decide, rfl⟩ ⟨by decide, by decide⟩ (Nat.le_of_ble_eq_true rfl) k_b0 (mSV_mono K0 (fun y_10 K0 => ?_))
          exact r_le (L' := [some (.ref b0), some (.int (b2i (gi y_6 b0 9 = 1 ∧ gi y_6 b0 10 = 14))), none]) ⟨rfl, ⟨rfl, trivial⟩⟩ K0
      · have K0 := K0.2 q
        refine r_iconst (pc := 36) (v := 0) dX3_readSeries_36 (by decide) ?_
        exact s_zret rfl (by decide) dX3_readSeries_37 K0
  · have K0 := K0.2 q
    refine r_aload_n (pc := 12) dX3_readSeries_12 rfl ?_
    refine r_iconst (pc := 13) (v := 5) dX3_readSeries_13 (by decide) ?_
    refine s_VI (pc := 14) mX3_fail (ci := 3) (a := b0) (As := [.int 5]) dX3_readSeries_14 lk_X3_125 in_X3_fail mo_X3_fail ⟨by decide, rfl⟩ ⟨by decide, by decide⟩ (Nat.le_of_ble_eq_true rfl) k_b0 (mSI_mono K0 (fun r_12 y_11 K0 => ?_))
    obtain ⟨p_13, K0⟩ := K0
    exact s_zret rfl p_13 dX3_readSeries_17 K0
set_option maxHeartbeats 2000000 in
theorem v_X3_readSeries_53 {K : Sh} {x : Cn} {Q : Int32 → Cn → Prop} {b0 : Nat} {l1 : Int32} {b0_0 : Nat} (k_b0 : kk K b0 = some (3, 0)) (g_b0_0 : gr x b0 0 = some b0_0) (k_b0_0 : kk K b0_0 = some (4, 0)) (K0 : ((gi x b0 9 = 3 ∧ gi x b0 10 = 59) → (mSI mX4_hasPlace [.ref b0_0, .int (gi x b0 13), .int (gi x b0 14), .int (gi x b0 15), .int (f_sb (gi x b0 16) (gi x b0 17)), .int 0] K x (fun r_3 y_2 => (¬ r_3 = 0 → (gr y_2 b0 0 = some b0_0 ∧ (mSR mX4_addSeries [.ref b0_0] K y_2 (fun r_7 y_6 => kk K r_7 = some (5, 0) ∧ (mSV mX5_placeAt [.ref r_7, .int (gi y_6 b0 12), .int (gi y_6 b0 13), .int (gi y_6 b0 14), .int (gi y_6 b0 15)] K y_6 (fun y_9 => mSV mX5_comeWith [.ref r_7, .int (gi y_9 b0 16), .int (gi y_9 b0 17)] K y_9 (fun y_10 => (l1 = 0 ∨ l1 = 1) ∧ (mSV mX3_advance [.ref b0] K (ui y_10 r_7 4 l1) (fun y_12 => Q 1 y_12))))))))) ∧ (r_3 = 0 → (mSI mX3_fail [.ref b0, .int 6] K y_2 (fun r_14 y_13 => (r_14 = 0 ∨ r_14 = 1) ∧ (Q r_14 y_13))))))) ∧ (¬ (gi x b0 9 = 3 ∧ gi x b0 10 = 59) → (mSI mX3_fail [.ref b0, .int 1] K x (fun r_17 y_16 => (r_17 = 0 ∨ r_17 = 1) ∧ (Q r_17 y_16))))) : GI mX3_readSeries 53 [some (.ref b0), some (.int l1), none] [] K x Q := by
  show mGM mX3_readSeries 53 [some (.ref b0), some (.int l1), none] [] (hp K x) (PI K Q)
  refine r_aload_n (pc := 53) dX3_readSeries_53 rfl ?_
  refine r_bipush (pc := 54) (v := 59) dX3_readSeries_54 (by decide) ?_
  refine s_VI (pc := 56) mX3_isSign (ci := 3) (a := b0) (As := [.int 59]) dX3_readSeries_56 lk_X3_158 in_X3_isSign mo_X3_isSign ⟨by decide, rfl⟩ ⟨by decide, by decide⟩ (Nat.le_of_ble_eq_true rfl) k_b0 (sp_X3_isSign k_b0 ?_)
  refine r_if_ne (pc := 59) (tgt := 68) dX3_readSeries_59 (by decide) (fun q => ?_) (fun q => ?_)
  · have q := b2i_nz q
    have K0 := K0.1 q
    refine r_aload_n (pc := 68) dX3_readSeries_68 rfl ?_
    refine s_getR (pc := 69) dX3_readSeries_69 fl_X3_12 rfl k_b0 g_b0_0 ?_
    refine r_aload_n (pc := 72) dX3_readSeries_72 rfl ?_
    refine s_getI (pc := 73) dX3_readSeries_73 fl_X3_60 rfl k_b0 ?_
    refine r_aload_n (pc := 76) dX3_readSeries_76 rfl ?_
    refine s_getI (pc := 77) dX3_readSeries_77 fl_X3_63 rfl k_b0 ?_
    refine r_aload_n (pc := 80) dX3_readSeries_80 rfl ?_
    refine s_getI (pc := 81) dX3_readSeries_81 fl_X3_66 rfl k_b0 ?_
    refine r_aload_n (pc := 84) dX3_readSeries_84 rfl ?_
    refine s_getI (pc := 85) dX3_readSeries_85 fl_X3_69 rfl k_b0 ?_
    refine r_aload_n (pc := 88) dX3_readSeries_88 rfl ?_
    refine s_getI (pc := 89) dX3_readSeries_89 fl_X3_72 rfl k_b0 ?_
    refine s_SNI (pc := 92) mX7_spanBits (As := [.int (gi x b0 16), .int (gi x b0 17)]) dX3_readSeries_92 nl_X3_161 st_X7_spanBits mo_X7_spanBits ⟨by decide, by decide⟩ (Nat.le_of_ble_eq_true rfl) (sp_X7_spanBits  ?_)
    refine r_iconst (pc := 95) (v := 0) dX3_readSeries_95 (by decide) ?_
    refine s_VI (pc := 96) mX4_hasPlace (ci := 4) (a := b0_0) (As := [.int (gi x b0 13), .int (gi x b0 14), .int (gi x b0 15), .int (f_sb (gi x b0 16) (gi x b0 17)), .int 0]) dX3_readSeries_96 lk_X3_164 in_X4_hasPlace mo_X4_hasPlace ⟨by decide, rfl⟩ ⟨by decide, by decide⟩ (Nat.le_of_ble_eq_true rfl) k_b0_0 (mSI_mono K0 (fun r_3 y_2 K0 => ?_))
    refine r_if_ne (pc := 99) (tgt := 109) dX3_readSeries_99 (by decide) (fun q => ?_) (fun q => ?_)
    · have K0 := K0.1 q
      refine r_aload_n (pc := 109) dX3_readSeries_109 rfl ?_
      obtain ⟨g_5, K0⟩ := K0
      refine s_getR (pc := 110) dX3_readSeries_110 fl_X3_12 rfl k_b0 g_5 ?_
      refine s_VR (pc := 113) mX4_addSeries (ci := 4) (a := b0_0) (As := []) dX3_readSeries_113 lk_X3_168 in_X4_addSeries mo_X4_addSeries ⟨by decide, rfl⟩ ⟨by decide, by decide⟩ (Nat.le_of_ble_eq_true rfl) k_b0_0 (mSR_mono K0 (fun r_7 y_6 K0 => ?_))
      refine r_astore_n (pc := 116) dX3_readSeries_116 (by decide) ?_
      refine r_aload_n (pc := 117) (L := [some (.ref b0), some (.int l1), some (.ref r_7)]) dX3_readSeries_117 rfl ?_
      refine r_aload_n (pc := 118) dX3_readSeries_118 rfl ?_
      refine s_getI (pc := 119) dX3_readSeries_119 fl_X3_57 rfl k_b0 ?_
      refine r_aload_n (pc := 122) dX3_readSeries_122 rfl ?_
      refine s_getI (pc := 123) dX3_readSeries_123 fl_X3_60 rfl k_b0 ?_
      refine r_aload_n (pc := 126) dX3_readSeries_126 rfl ?_
      refine s_getI (pc := 127) dX3_readSeries_127 fl_X3_63 rfl k_b0 ?_
      refine r_aload_n (pc := 130) dX3_readSeries_130 rfl ?_
      refine s_getI (pc := 131) dX3_readSeries_131 fl_X3_66 rfl k_b0 ?_
      obtain ⟨e_8, K0⟩ := K0
      refine s_VV (pc := 134) mX5_placeAt (ci := 5) (a := r_7) (As := [.int (gi y_6 b0 12), .int (gi y_6 b0 13), .int (gi y_6 b0 14), .int (gi y_6 b0 15)]) dX3_readSeries_134 lk_X3_172 in_X5_placeAt mo_X5_placeAt ⟨by decide, rfl⟩ ⟨by decide, by decide⟩ (Nat.le_of_ble_eq_true rfl) e_8 (mSV_mono K0 (fun y_9 K0 => ?_))
      refine r_aload_n (pc := 137) dX3_readSeries_137 rfl ?_
      refine r_aload_n (pc := 138) dX3_readSeries_138 rfl ?_
      refine s_getI (pc := 139) dX3_readSeries_139 fl_X3_69 rfl k_b0 ?_
      refine r_aload_n (pc := 142) dX3_readSeries_142 rfl ?_
      refine s_getI (pc := 143) dX3_readSeries_143 fl_X3_72 rfl k_b0 ?_
      refine s_VV (pc := 146) mX5_comeWith (ci := 5) (a := r_7) (As := [.int (gi y_9 b0 16), .int (gi y_9 b0 17)]) dX3_readSeries_146 lk_X3_178 in_X5_comeWith mo_X5_comeWith ⟨by decide, rfl⟩ ⟨by decide, by decide⟩ (Nat.le_of_ble_eq_true rfl) e_8 (mSV_mono K0 (fun y_10 K0 => ?_))
      refine r_aload_n (pc := 149) dX3_readSeries_149 rfl ?_
      refine r_iload_n (pc := 150) dX3_readSeries_150 rfl ?_
      obtain ⟨p_11, K0⟩ := K0
      refine s_putZ (pc := 151) dX3_readSeries_151 fl_X3_182 rfl rfl e_8 p_11 ?_
      refine r_aload_n (pc := 154) dX3_readSeries_154 rfl ?_
      refine s_VV (pc := 155) mX3_advance (ci := 3) (a := b0) (As := []) dX3_readSeries_155 lk_X3_87 in_X3_advance mo_X3_advance ⟨by decide, rfl⟩ ⟨by decide, by decide⟩ (Nat.le_of_ble_eq_true rfl) k_b0 (mSV_mono K0 (fun y_12 K0 => ?_))
      refine r_iconst (pc := 158) (v := 1) dX3_readSeries_158 (by decide) ?_
      exact s_zret rfl (by decide) dX3_readSeries_159 K0
    · have K0 := K0.2 q
      refine r_aload_n (pc := 102) dX3_readSeries_102 rfl ?_
      refine r_bipush (pc := 103) (v := 6) dX3_readSeries_103 (by decide) ?_
      refine s_VI (pc := 105) mX3_fail (ci := 3) (a := b0) (As := [.int 6]) dX3_readSeries_105 lk_X3_125 in_X3_fail mo_X3_fail ⟨by decide, rfl⟩ ⟨by decide, by decide⟩ (Nat.le_of_ble_eq_true rfl) k_b0 (mSI_mono K0 (fun r_14 y_13 K0 => ?_))
      obtain ⟨p_15, K0⟩ := K0
      exact s_zret rfl p_15 dX3_readSeries_108 K0
  · have q := (b2i_z _).mp q
    have K0 := K0.2 q
    refine r_aload_n (pc := 62) dX3_readSeries_62 rfl ?_
    refine r_iconst (pc := 63) (v := 1) dX3_readSeries_63 (by decide) ?_
    refine s_VI (pc := 64) mX3_fail (ci := 3) (a := b0) (As := [.int 1]) dX3_readSeries_64 lk_X3_125 in_X3_fail mo_X3_fail ⟨by decide, rfl⟩ ⟨by decide, by decide⟩ (Nat.le_of_ble_eq_true rfl) k_b0 (mSI_mono K0 (fun r_17 y_16 K0 => ?_))
    obtain ⟨p_18, K0⟩ := K0
    exact s_zret rfl p_18 dX3_readSeries_67 K0
section
theorem lp_X3_readSeries_53 {x : Cn} {Q : Int32 → Cn → Prop} {b : TT} {n q r : Nat} {T : TT} {lim l1 : Int32} {W C S A : Nat} (hW : 5 ≤ W) (c : CS x b n r T lim W C S A) (hS : S < 24) (o1 : okP b n q T C) (o2 : okN b n (nxt b n 4 q) W) (p1 : PLc x b n q T C) (p2 : gi x 59 16 = nI (tV b n (nxt b n 4 q)) ∧ gi x 59 17 = nI (tV b n (nxt b n 6 q))) (hl : l1 = nwv b n (nxt b n 7 q)) (k1 : sg b n r 59 → fitC T S 0 (wnp b n (nxt b n 1 q)) (tV b n (nxt b n 2 q)) (wyo b n (nxt b n 3 q)) (spw b n q) 0 → ∀ y, SCf x y → CS y b n (tE b n r) (adT T S (srF b n q T C)) lim W C (S + 1) A → Q 1 y) (k0 : ¬ (sg b n r 59 ∧ fitC T S 0 (wnp b n (nxt b n 1 q)) (tV b n (nxt b n 2 q)) (wyo b n (nxt b n 3 q)) (spw b n q) 0) → ∀ y, SCf x y → Q 0 y) : GI mX3_readSeries 53 [some (.ref 59), some (.int l1), none] [] KW x Q := by
  have hW3 : W ≤ 30 := c.2.2.2.2.1.2.2.2.2.2.1
  obtain ⟨⟨cc, hc, ec⟩, ⟨d, hd, ed⟩, hh, f1, f2⟩ := cm_ok hW o1 o2
  refine v_X3_readSeries_53 k59 c.1.2.2.2.2.1 k60 ?_
  rw [c.2.1.s 59]
  refine ⟨fun o3 => ?_, fun o3 => sp_X3_fail (fun y f => ⟨Or.inl rfl, k0 (fun o => o3 o.1) y f.sc⟩)⟩
  have hsb : f_sb (nI (tV b n (nxt b n 4 q))) (nI (tV b n (nxt b n 6 q))) = spw b n q := sb_span (by omega) (by omega)
  rw [p1.2.1, p1.2.2.1, p1.2.2.2, p2.1, p2.2, hsb]
  refine sp_X4_hasPlace c.2.2.2.2.1 hh (fun y1 f => ?_)
  have s1 : SCf x y1 := EQx.sc f (by omega)
  refine ⟨fun z => ?_, fun z => sp_X3_fail (fun y f' => ⟨Or.inl rfl, k0 (fun o => absurd z (by rw [bP_t o.2]; decide)) y (s1.tr f'.sc)⟩)⟩
  have o4 : fitC T S 0 (wnp b n (nxt b n 1 q)) (tV b n (nxt b n 2 q)) (wyo b n (nxt b n 3 q)) (spw b n q) 0 := by
    refine Classical.byContradiction (fun w => z ?_)
    exact bP_f w
  have g1 : ∀ a j, gr y1 a j = gr x a j := fun a j => by unfold gr; rw [f.1]
  have c1 : CS y1 b n r T lim W C S A := ⟨c.1.mv f.1 (fun a k h => f.2 a k (by omega)), c.2.1.mv (fun k _ _ => f.2 59 k (by omega)), c.2.2.1, (f.2 59 11 (by omega)).trans c.2.2.2.1, c.2.2.2.2.1.eqx f (Or.inl rfl), c.2.2.2.2.2.keep (f.2 114 0 (by omega)) (fun i => f.2 115 i (by omega)) (fun _ _ => rfl)⟩
  have pp : ∀ k, gi y1 59 k = gi x 59 k := fun k => f.2 59 k (by omega)
  refine ⟨c1.1.2.2.2.2.1, ?_⟩
  have E := c1.2.2.2.2.1
  obtain ⟨j, hj, ej⟩ := E.2.1.2.2.2.2.2.1 S hS
  refine v_X4_addSeries_0 k60 E.2.1.2.2.1 (ks3 E.1) ?_
  have mi : (if (23 : Int32) < nI S then 23 else nI S) = nI S := if_neg (fun g => absurd ((nI_ltI (a := 23) (b := S) (by decide) (by omega)).mp g) (by omega))
  rw [c1.s2.2.1, mi, nI_clamp (by omega), nI_1]
  refine ⟨vp_in_nI (by omega) (by decide), 60 + 6 + j, ej, ks6 E.1 hj, v_X5_placeAt_0 (ks6 E.1 hj) (v_X5_comeWith_0 (ks6 E.1 hj) (v_X5_openIn_0 (ks6 E.1 hj) ⟨by rw [hl]; exact b2i_01 _, ?_⟩))⟩
  have u59 : ∀ k, gi (ui y1 60 3 (nI (S + 1))) 59 k = gi x 59 k := fun k => by rw [gi_ui, if_neg (by omega)]; exact pp k
  have v59 : ∀ (a0 a1 a2 a3 : Int32) (k : Nat), gi (ui (ui (ui (ui (ui y1 60 3 (nI (S + 1))) (60 + 6 + j) 0 a0) (60 + 6 + j) 1 a1) (60 + 6 + j) 2 a2) (60 + 6 + j) 3 a3) 59 k = gi x 59 k := fun a0 a1 a2 a3 k => by
    rw [gi_ui, if_neg (by omega), gi_ui, if_neg (by omega), gi_ui, if_neg (by omega), gi_ui, if_neg (by omega)]; exact u59 k
  rw [v59, v59, u59, u59, u59, u59, p1.1, p1.2.1, p1.2.2.1, p1.2.2.2, p2.1, p2.2, hsb]
  have off : ∀ (z : Cn), z = ui (ui (ui (ui (ui (ui (ui (ui (ui (ui (ui (ui (ui y1 60 3 (nI (S + 1))) (60 + 6 + j) 0 (fnd T C (vnm b n q))) (60 + 6 + j) 1 (wnp b n (nxt b n 1 q))) (60 + 6 + j) 2 (nI (tV b n (nxt b n 2 q)))) (60 + 6 + j) 3 (wyo b n (nxt b n 3 q))) (60 + 6 + j) 5 (nI (tV b n (nxt b n 4 q)))) (60 + 6 + j) 6 (nI (tV b n (nxt b n 6 q)))) (60 + 6 + j) 7 (spw b n q)) (60 + 6 + j) 8 0) (60 + 6 + j) 9 0) (60 + 6 + j) 10 0) (60 + 6 + j) 11 0) (60 + 6 + j) 4 l1 → z.2 = y1.2 ∧ (∀ a i, a ≠ 60 + 6 + j → ¬ (a = 60 ∧ i = 3) → gi z a i = gi y1 a i) ∧ gi z 60 3 = nI (S + 1) ∧ ∀ k, k < 12 → gi z (60 + 6 + j) k = srF b n q T C k := by
    intro z hz
    subst hz
    refine ⟨rfl, fun a i h1 h2 => ?_, ?_, fun k hk => ?_⟩
    · simp only [gi_ui, h1, false_and, if_false]
      rw [if_neg h2]
    · simp [gi_ui, show ¬ (60 : Nat) = 60 + 6 + j by omega]
    · rcases lt12 hk with rfl | rfl | rfl | rfl | rfl | rfl | rfl | rfl | rfl | rfl | rfl | rfl <;> simp [gi_ui, srF, hl]
  generalize ui (ui (ui (ui (ui (ui (ui (ui (ui (ui (ui (ui (ui y1 60 3 (nI (S + 1))) (60 + 6 + j) 0 (fnd T C (vnm b n q))) (60 + 6 + j) 1 (wnp b n (nxt b n 1 q))) (60 + 6 + j) 2 (nI (tV b n (nxt b n 2 q)))) (60 + 6 + j) 3 (wyo b n (nxt b n 3 q))) (60 + 6 + j) 5 (nI (tV b n (nxt b n 4 q)))) (60 + 6 + j) 6 (nI (tV b n (nxt b n 6 q)))) (60 + 6 + j) 7 (spw b n q)) (60 + 6 + j) 8 0) (60 + 6 + j) 9 0) (60 + 6 + j) 10 0) (60 + 6 + j) 11 0) (60 + 6 + j) 4 l1 = u at off
  obtain ⟨w1, w2, w3, w4⟩ := off u rfl
  have E2 := E.b.addS (f := srF b n q T C) (p := 60 + 6 + j) hS ej w1 (fun a i _ _ h3 h4 _ => w2 a i h3 h4) w3 w4 (fun k h8 h12 => by unfold srF; rw [if_neg (by omega), if_neg (by omega), if_neg (by omega), if_neg (by omega), if_neg (by omega), if_neg (by omega), if_neg (by omega), if_neg (by omega)]) (Wse.rd hW hW3 o1 o2)
  have E3 : SEA u 60 (adT T S (srF b n q T C)) W C (S + 1) A 0 := E2.w (fun h hh => by rw [adT_off (by omega) (by omega), adT_off (by omega) (by omega)]; exact E.2.2.2.2.2.2.2.2.2.2.2.2.2.2.1 h hh)
  have c2 : CS u b n r (adT T S (srF b n q T C)) lim W C (S + 1) A := ⟨c1.1.mv w1 (fun a k h => w2 a k (by omega) (by omega)), c1.2.1.mv (fun k _ _ => w2 59 k (by omega) (by omega)), c.2.2.1, (w2 59 11 (by omega) (by omega)).trans c1.2.2.2.1, E3, c1.2.2.2.2.2.keep (w2 114 0 (by omega) (by omega)) (fun i => w2 115 i (by omega) (by omega)) (fun i hi => adT_off (by omega) (by have := E.2.2.2.2.2.2.2.1; omega))⟩
  have s2 : SCf x u := s1.tr ⟨w1, fun a k h => w2 a k (by omega) (by omega)⟩
  exact ad_c c2.1 c2.2.1 c.2.2.1 (fun y3 f3 B3 t3 => k1 o3 o4 y3 (s2.tr f3.sc) (c2.at f3 t3 (tE_b c.2.2.1).2.1))
theorem sp_X3_readSeries {x : Cn} {Q : Int32 → Cn → Prop} {b : TT} {n p : Nat} {T : TT} {lim : Int32} {W C S A : Nat} (hW : 5 ≤ W) (c : CS x b n p T lim W C S A) (k1 : okS b n (tE b n p) T W C S → ∀ y, SCf x y → CS y b n (tE b n (nwp b n (nxt b n 7 (tE b n p)))) (adT T S (srF b n (tE b n p) T C)) lim W C (S + 1) A → Q 1 y) (k0 : ¬ okS b n (tE b n p) T W C S → ∀ y, SCf x y → Q 0 y) : mSI mX3_readSeries [.ref 59] KW x Q := by
  have hp := c.2.2.1
  have q1 : tE b n p ≤ n := (tE_b hp).2.1
  have hS : S ≤ 24 := c.2.2.2.2.1.2.2.2.2.2.2.2.2.2.1
  refine v_X3_readSeries_0 k59 c.1.2.2.2.2.1 k60 ?_
  rw [c.s2.2.1]
  have eS : nI S < 24 ↔ S < 24 := nI_ltI (a := S) (b := 24) (by omega) (by omega)
  refine ⟨fun z => ?_, fun z => sp_X3_fail (fun y f => ⟨Or.inl rfl, k0 (fun o => z (eS.mpr o.1)) y f.sc⟩)⟩
  have o0 := eS.mp z
  refine ad_c c.1 c.2.1 hp (fun y1 f1 B1 t1 => ?_)
  generalize tE b n p = q at t1 q1 k1 k0
  have q7 : nxt b n 7 q ≤ n := nxt_le q1
  have c1 := c.at f1 t1 q1
  refine sp_X3_readPlace c1 (fun o1 y2 f2 c2 p2 => ⟨fun z => absurd z (by decide), fun _ => ?_⟩) (fun o1 y2 f2 => ⟨fun _ => k0 (fun o => o1 o.2.1) y2 (f1.sc.tr f2), fun z => absurd rfl z⟩)
  refine sp_X3_readSpan hW c2 (fun o2 y3 f3 c3 p3 p16 p17 => ⟨fun _ => ?_, fun z => absurd z (by decide)⟩) (fun o2 y3 f3 => ⟨fun z => absurd rfl z, fun _ => k0 (fun o => o2 o.2.2.1) y3 ((f1.sc.tr f2).tr f3)⟩)
  rw [nxt_n] at c3 p17
  have c3 : CS y3 b n (nxt b n 7 q) T lim W C S A := c3
  have p17 : gi y3 59 17 = nI (tV b n (nxt b n 6 q)) := p17
  have g3 : SCf x y3 := (f1.sc.tr f2).tr f3
  have e14 : (gi y3 59 9 = 1 ∧ gi y3 59 10 = 14) ↔ (tK b n (nxt b n 7 q) = 1 ∧ wnp b n (nxt b n 7 q) = 14) := c3.2.1.w 14
  have hl : b2i (gi y3 59 9 = 1 ∧ gi y3 59 10 = 14) = nwv b n (nxt b n 7 q) := b2i_cg e14
  have p3' : PLc y3 b n q T C := ⟨(p3 12 (by omega) (by omega)).trans p2.1, (p3 13 (by omega) (by omega)).trans p2.2.1, (p3 14 (by omega) (by omega)).trans p2.2.2.1, (p3 15 (by omega) (by omega)).trans p2.2.2.2⟩
  rw [hl]
  refine ⟨fun z => ?_, fun z => ad_c c3.1 c3.2.1 q7 (fun y4 f4 B4 t4 => ?_)⟩
  · have er : nwp b n (nxt b n 7 q) = nxt b n 7 q := by unfold nwp; rw [if_neg (fun w => z (e14.mpr w))]
    rw [er] at k1
    have k0' : ¬ (sg b n (nxt b n 7 q) 59 ∧ fitC T S 0 (wnp b n (nxt b n 1 q)) (tV b n (nxt b n 2 q)) (wyo b n (nxt b n 3 q)) (spw b n q) 0) → ¬ okS b n q T W C S := fun o3 o => o3 (by have h := o.2.2.2; rw [er] at h; exact h)
    exact lp_X3_readSeries_53 (q := q) hW c3 o0 o1 o2 p3' ⟨p16, p17⟩ rfl (fun o3 o4 y f c' => k1 ⟨o0, o1, o2, by rw [er]; exact o3, o4⟩ y (g3.tr f) c') (fun o3 y f => k0 (k0' o3) y (g3.tr f))
  · have er : nwp b n (nxt b n 7 q) = tE b n (nxt b n 7 q) := by unfold nwp; rw [if_pos (e14.mp z)]
    rw [er] at k1
    have k0' : ¬ (sg b n (tE b n (nxt b n 7 q)) 59 ∧ fitC T S 0 (wnp b n (nxt b n 1 q)) (tV b n (nxt b n 2 q)) (wyo b n (nxt b n 3 q)) (spw b n q) 0) → ¬ okS b n q T W C S := fun o3 o => o3 (by have h := o.2.2.2; rw [er] at h; exact h)
    have c4 := c3.at f4 t4 (tE_b q7).2.1
    exact lp_X3_readSeries_53 (q := q) hW c4 o0 o1 o2 ⟨(f4.2 59 12 (by omega)).trans p3'.1, (f4.2 59 13 (by omega)).trans p3'.2.1, (f4.2 59 14 (by omega)).trans p3'.2.2.1, (f4.2 59 15 (by omega)).trans p3'.2.2.2⟩ ⟨(f4.2 59 16 (by omega)).trans p16, (f4.2 59 17 (by omega)).trans p17⟩ rfl (fun o3 o4 y f c' => k1 ⟨o0, o1, o2, by rw [er]; exact o3, o4⟩ y ((g3.tr f4.sc).tr f) c') (fun o3 y f => k0 (k0' o3) y ((g3.tr f4.sc).tr f))
/-! an ask -/
def isBy (b : TT) (n r : Nat) : Prop := tK b n r = 1 ∧ wnp b n r = 15
def byp (b : TT) (n r : Nat) : Nat := if tK b n r = 1 ∧ wnp b n r = 15 then nxt b n 2 r else r
def byv (b : TT) (n r : Nat) : Nat := if tK b n r = 1 ∧ wnp b n r = 15 then tV b n (nxt b n 1 r) else 0
def akF (b : TT) (n q : Nat) (T : TT) (C : Nat) : Nat → Int32 := fun k => if k = 0 then fnd T C (vnm b n q) else if k = 1 then wnp b n (nxt b n 1 q) else if k = 2 then nI (tV b n (nxt b n 2 q)) else if k = 3 then wyo b n (nxt b n 3 q) else if k = 4 then nI (tV b n (nxt b n 4 q)) else if k = 5 then nI (tV b n (nxt b n 6 q)) else nI (byv b n (nxt b n 7 q))
def okQ (b : TT) (n q : Nat) (T : TT) (W C A : Nat) : Prop := A < 24 ∧ okP b n q T C ∧ okN b n (nxt b n 4 q) W ∧ (isBy b n (nxt b n 7 q) → nb b n (nxt b n 8 q) 0 9) ∧ sg b n (byp b n (nxt b n 7 q)) 59
theorem Was.rd {b : TT} {n q W C A : Nat} {T : TT} (hW : 5 ≤ W) (h1 : okP b n q T C) (h2 : okN b n (nxt b n 4 q) W) (h3 : isBy b n (nxt b n 7 q) → nb b n (nxt b n 8 q) 0 9) : Was (askT T A (akF b n q T C)) C W A := by
  obtain ⟨⟨c, hc, ec⟩, ⟨d, hd, ed⟩, hh, f1, f2⟩ := cm_ok hW h1 h2
  have e : ∀ k, k < 7 → ao (askT T A (akF b n q T C)) A k = akF b n q T C k := fun k hk => ao_askT hk
  have hb : byv b n (nxt b n 7 q) ≤ 9 := by
    unfold byv
    by_cases z : tK b n (nxt b n 7 q) = 1 ∧ wnp b n (nxt b n 7 q) = 15
    · rw [if_pos z]; exact (h3 z).2.2
    · rw [if_neg z]; omega
  exact ⟨⟨c, hc, by rw [e 0 (by decide)]; exact ec⟩, ⟨d, hd, by rw [e 1 (by decide)]; exact ed⟩, ⟨_, hh, by rw [e 2 (by decide)]; rfl⟩, by rw [e 3 (by decide)]; exact wyo_01 _ _ _, ⟨_, _, f1, f2, by rw [e 4 (by decide)]; rfl, by rw [e 5 (by decide)]; rfl⟩, _, hb, by rw [e 6 (by decide)]; rfl⟩
end
set_option maxHeartbeats 2000000 in
theorem v_X3_readAsk_0 {K : Sh} {x : Cn} {Q : Int32 → Cn → Prop} {b0 : Nat} {b0_0 : Nat} (k_b0 : kk K b0 = some (3, 0)) (g_b0_0 : gr x b0 0 = some b0_0) (k_b0_0 : kk K b0_0 = some (4, 0)) (K0 : ((gi x b0_0 4) < 24 → (mSV mX3_advance [.ref b0] K x (fun y_2 => mSI mX3_readPlace [.ref b0] K y_2 (fun r_4 y_3 => (r_4 = 0 → (Q 0 y_3)) ∧ (¬ r_4 = 0 → (mSI mX3_readSpan [.ref b0] K y_3 (fun r_7 y_6 => (¬ r_7 = 0 → ((¬ (gi y_6 b0 9 = 1 ∧ gi y_6 b0 10 = 15) → (GI mX3_readAsk 74 [some (.ref b0), some (.int 0), none] [] K y_6 Q)) ∧ ((gi y_6 b0 9 = 1 ∧ gi y_6 b0 10 = 15) → (mSV mX3_advance [.ref b0] K y_6 (fun y_10 => mSI mX3_isNumber [.ref b0, .int 0, .int 9] K y_10 (fun r_12 y_11 => (¬ r_12 = 0 → (mSV mX3_advance [.ref b0] K y_11 (fun y_14 => GI mX3_readAsk 74 [some (.ref b0), some (.int (gi y_11 b0 10)), none] [] K y_14 Q))) ∧ (r_12 = 0 → (Q 0 y_11)))))))) ∧ (r_7 = 0 → (Q 0 y_6))))))))) ∧ (¬ (gi x b0_0 4) < 24 → (mSI mX3_fail [.ref b0, .int 5] K x (fun r_16 y_15 => (r_16 = 0 ∨ r_16 = 1) ∧ (Q r_16 y_15))))) : mSI mX3_readAsk [.ref b0] K x Q := by
  refine s_I (by decide) (by simp [Value.category]) (Nat.le_of_ble_eq_true rfl) ?_
  show mGM mX3_readAsk 0 [some (.ref b0), none, none] [] (hp K x) (PI K Q)
  refine r_aload_n (pc := 0) dX3_readAsk_0 rfl ?_
  refine s_getR (pc := 1) dX3_readAsk_1 fl_X3_12 rfl k_b0 g_b0_0 ?_
  refine s_getI (pc := 4) dX3_readAsk_4 fl_X3_186 rfl k_b0_0 ?_
  refine r_bipush (pc := 7) (v := 24) dX3_readAsk_7 (by decide) ?_
  refine r_icmp_lt (pc := 9) (tgt := 18) dX3_readAsk_9 (by decide) (fun q => ?_) (fun q => ?_)
  · have K0 := K0.1 q
    refine r_aload_n (pc := 18) dX3_readAsk_18 rfl ?_
    refine s_VV (pc := 19) mX3_advance (ci := 3) (a := b0) (As := []) dX3_readAsk_19 lk_X3_87 in_X3_advance mo_X3_advance ⟨by decide, rfl⟩ ⟨by decide, by decide⟩ (Nat.le_of_ble_eq_true rfl) k_b0 (mSV_mono K0 (fun y_2 K0 => ?_))
    refine r_aload_n (pc := 22) dX3_readAsk_22 rfl ?_
    refine s_VI (pc := 23) mX3_readPlace (ci := 3) (a := b0) (As := []) dX3_readAsk_23 lk_X3_152 in_X3_readPlace mo_X3_readPlace ⟨by decide, rfl⟩ ⟨by decide, by decide⟩ (Nat.le_of_ble_eq_true rfl) k_b0 (mSI_mono K0 (fun r_4 y_3 K0 => ?_))
    refine r_if_eq (pc := 26) (tgt := 36) dX3_readAsk_26 (by decide) (fun q => ?_) (fun q => ?_)
    · have K0 := K0.1 q
      refine r_iconst (pc := 36) (v := 0) dX3_readAsk_36 (by decide) ?_
      exact s_zret rfl (by decide) dX3_readAsk_37 K0
    · have K0 := K0.2 q
      refine r_aload_n (pc := 29) dX3_readAsk_29 rfl ?_
      refine s_VI (pc := 30) mX3_readSpan (ci := 3) (a := b0) (As := []) dX3_readAsk_30 lk_X3_155 in_X3_readSpan mo_X3_readSpan ⟨by decide, rfl⟩ ⟨by decide, by decide⟩ (Nat.le_of_ble_eq_true rfl) k_b0 (mSI_mono K0 (fun r_7 y_6 K0 => ?_))
      refine r_if_ne (pc := 33) (tgt := 38) dX3_readAsk_33 (by decide) (fun q => ?_) (fun q => ?_)
      · have K0 := K0.1 q
        refine r_iconst (pc := 38) (v := 0) dX3_readAsk_38 (by decide) ?_
        refine r_istore_n (pc := 39) dX3_readAsk_39 (by decide) ?_
        refine r_aload_n (pc := 40) (L := [some (.ref b0), some (.int 0), none]) dX3_readAsk_40 rfl ?_
        refine r_bipush (pc := 41) (v := 15) dX3_readAsk_41 (by decide) ?_
        refine s_VI (pc := 43) mX3_isWord (ci := 3) (a := b0) (As := [.int 15]) dX3_readAsk_43 lk_X3_110 in_X3_isWord mo_X3_isWord ⟨by decide, rfl⟩ ⟨by decide, by decide⟩ (Nat.le_of_ble_eq_true rfl) k_b0 (sp_X3_isWord k_b0 ?_)
        refine r_if_eq (pc := 46) (tgt := 74) dX3_readAsk_46 (by decide) (fun q => ?_) (fun q => ?_)
        · have q := (b2i_z _).mp q
          have K0 := K0.1 q
          exact r_le (L' := [some (.ref b0), some (.int 0), none]) ⟨rfl, ⟨rfl, trivial⟩⟩ K0
        · have q := b2i_nz q
          have K0 := K0.2 q
          refine r_aload_n (pc := 49) dX3_readAsk_49 rfl ?_
          refine s_VV (pc := 50) mX3_advance (ci := 3) (a := b0) (As := []) dX3_readAsk_50 lk_X3_87 in_X3_advance mo_X3_advance ⟨by decide, rfl⟩ ⟨by decide, by decide⟩ (Nat.le_of_ble_eq_true rfl) k_b0 (mSV_mono K0 (fun y_10 K0 => ?_))
          refine r_aload_n (pc := 53) dX3_readAsk_53 rfl ?_
          refine r_iconst (pc := 54) (v := 0) dX3_readAsk_54 (by decide) ?_
          refine r_bipush (pc := 55) (v := 9) dX3_readAsk_55 (by decide) ?_
          refine s_VI (pc := 57) mX3_isNumber (ci := 3) (a := b0) (As := [.int 0, .int 9]) dX3_readAsk_57 lk_X3_101 in_X3_isNumber mo_X3_isNumber ⟨by decide, rfl⟩ ⟨by decide, by decide⟩ (Nat.le_of_ble_eq_true rfl) k_b0 (mSI_mono K0 (fun r_12 y_11 K0 => ?_))
          refine r_if_ne (pc := 60) (tgt := 65) dX3_readAsk_60 (by decide) (fun q => ?_) (fun q => ?_)
          · have K0 := K0.1 q
            refine r_aload_n (pc := 65) dX3_readAsk_65 rfl ?_
            refine s_getI (pc := 66) dX3_readAsk_66 fl_X3_51 rfl k_b0 ?_
            refine r_istore_n (pc := 69) dX3_readAsk_69 (by decide) ?_
            refine r_aload_n (pc := 70) (L := [some (.ref b0), some (.int (gi y_11 b0 10)), none]) dX3_readAsk_70 rfl ?_
            refine s_VV (pc := 71) mX3_advance (ci := 3) (a := b0) (As := []) dX3_readAsk_71 lk_X3_87 in_X3_advance mo_X3_advance ⟨by decide, rfl⟩ ⟨by decide, by decide⟩ (Nat.le_of_ble_eq_true rfl) k_b0 (mSV_mono K0 (fun y_14 K0 => ?_))
            exact r_le (L' := [some (.ref b0), some (.int (gi y_11 b0 10)), none]) ⟨rfl, ⟨rfl, trivial⟩⟩ K0
          · have K0 := K0.2 q
            refine r_iconst (pc := 63) (v := 0) dX3_readAsk_63 (by decide) ?_
            exact s_zret rfl (by decide) dX3_readAsk_64 K0
      · have K0 := K0.2 q
        refine r_iconst (pc := 36) (v := 0) dX3_readAsk_36 (by decide) ?_
        exact s_zret rfl (by decide) dX3_readAsk_37 K0
  · have K0 := K0.2 q
    refine r_aload_n (pc := 12) dX3_readAsk_12 rfl ?_
    refine r_iconst (pc := 13) (v := 5) dX3_readAsk_13 (by decide) ?_
    refine s_VI (pc := 14) mX3_fail (ci := 3) (a := b0) (As := [.int 5]) dX3_readAsk_14 lk_X3_125 in_X3_fail mo_X3_fail ⟨by decide, rfl⟩ ⟨by decide, by decide⟩ (Nat.le_of_ble_eq_true rfl) k_b0 (mSI_mono K0 (fun r_16 y_15 K0 => ?_))
    obtain ⟨p_17, K0⟩ := K0
    exact s_zret rfl p_17 dX3_readAsk_17 K0
set_option maxHeartbeats 2000000 in
theorem v_X3_readAsk_74 {K : Sh} {x : Cn} {Q : Int32 → Cn → Prop} {b0 : Nat} {l1 : Int32} {b0_0 : Nat} (k_b0 : kk K b0 = some (3, 0)) (g_b0_0 : gr x b0 0 = some b0_0) (k_b0_0 : kk K b0_0 = some (4, 0)) (K0 : mSR mX4_addAsk [.ref b0_0] K x (fun r_2 y_1 => kk K r_2 = some (0, 0) ∧ (mSV mX0_placeAt [.ref r_2, .int (gi y_1 b0 12), .int (gi y_1 b0 13), .int (gi y_1 b0 14), .int (gi y_1 b0 15)] K y_1 (fun y_4 => mSV mX0_span [.ref r_2, .int (gi y_4 b0 16), .int (gi y_4 b0 17), .int l1] K y_4 (fun y_5 => mSI mX3_takeSign [.ref b0, .int 59] K y_5 (fun r_7 y_6 => (r_7 = 0 ∨ r_7 = 1) ∧ (Q r_7 y_6))))))) : GI mX3_readAsk 74 [some (.ref b0), some (.int l1), none] [] K x Q := by
  show mGM mX3_readAsk 74 [some (.ref b0), some (.int l1), none] [] (hp K x) (PI K Q)
  refine r_aload_n (pc := 74) dX3_readAsk_74 rfl ?_
  refine s_getR (pc := 75) dX3_readAsk_75 fl_X3_12 rfl k_b0 g_b0_0 ?_
  refine s_VR (pc := 78) mX4_addAsk (ci := 4) (a := b0_0) (As := []) dX3_readAsk_78 lk_X3_189 in_X4_addAsk mo_X4_addAsk ⟨by decide, rfl⟩ ⟨by decide, by decide⟩ (Nat.le_of_ble_eq_true rfl) k_b0_0 (mSR_mono K0 (fun r_2 y_1 K0 => ?_))
  refine r_astore_n (pc := 81) dX3_readAsk_81 (by decide) ?_
  refine r_aload_n (pc := 82) (L := [some (.ref b0), some (.int l1), some (.ref r_2)]) dX3_readAsk_82 rfl ?_
  refine r_aload_n (pc := 83) dX3_readAsk_83 rfl ?_
  refine s_getI (pc := 84) dX3_readAsk_84 fl_X3_57 rfl k_b0 ?_
  refine r_aload_n (pc := 87) dX3_readAsk_87 rfl ?_
  refine s_getI (pc := 88) dX3_readAsk_88 fl_X3_60 rfl k_b0 ?_
  refine r_aload_n (pc := 91) dX3_readAsk_91 rfl ?_
  refine s_getI (pc := 92) dX3_readAsk_92 fl_X3_63 rfl k_b0 ?_
  refine r_aload_n (pc := 95) dX3_readAsk_95 rfl ?_
  refine s_getI (pc := 96) dX3_readAsk_96 fl_X3_66 rfl k_b0 ?_
  obtain ⟨e_3, K0⟩ := K0
  refine s_VV (pc := 99) mX0_placeAt (ci := 0) (a := r_2) (As := [.int (gi y_1 b0 12), .int (gi y_1 b0 13), .int (gi y_1 b0 14), .int (gi y_1 b0 15)]) dX3_readAsk_99 lk_X3_193 in_X0_placeAt mo_X0_placeAt ⟨by decide, rfl⟩ ⟨by decide, by decide⟩ (Nat.le_of_ble_eq_true rfl) e_3 (mSV_mono K0 (fun y_4 K0 => ?_))
  refine r_aload_n (pc := 102) dX3_readAsk_102 rfl ?_
  refine r_aload_n (pc := 103) dX3_readAsk_103 rfl ?_
  refine s_getI (pc := 104) dX3_readAsk_104 fl_X3_69 rfl k_b0 ?_
  refine r_aload_n (pc := 107) dX3_readAsk_107 rfl ?_
  refine s_getI (pc := 108) dX3_readAsk_108 fl_X3_72 rfl k_b0 ?_
  refine r_iload_n (pc := 111) dX3_readAsk_111 rfl ?_
  refine s_VV (pc := 112) mX0_span (ci := 0) (a := r_2) (As := [.int (gi y_4 b0 16), .int (gi y_4 b0 17), .int l1]) dX3_readAsk_112 lk_X3_196 in_X0_span mo_X0_span ⟨by decide, rfl⟩ ⟨by decide, by decide⟩ (Nat.le_of_ble_eq_true rfl) e_3 (mSV_mono K0 (fun y_5 K0 => ?_))
  refine r_aload_n (pc := 115) dX3_readAsk_115 rfl ?_
  refine r_bipush (pc := 116) (v := 59) dX3_readAsk_116 (by decide) ?_
  refine s_VI (pc := 118) mX3_takeSign (ci := 3) (a := b0) (As := [.int 59]) dX3_readAsk_118 lk_X3_106 in_X3_takeSign mo_X3_takeSign ⟨by decide, rfl⟩ ⟨by decide, by decide⟩ (Nat.le_of_ble_eq_true rfl) k_b0 (mSI_mono K0 (fun r_7 y_6 K0 => ?_))
  obtain ⟨p_8, K0⟩ := K0
  exact s_zret rfl p_8 dX3_readAsk_121 K0
section
theorem lp_X3_readAsk_74 {x : Cn} {Q : Int32 → Cn → Prop} {b : TT} {n q r : Nat} {T : TT} {lim l1 : Int32} {W C S A : Nat} (hW : 5 ≤ W) (c : CS x b n r T lim W C S A) (hA : A < 24) (o1 : okP b n q T C) (o2 : okN b n (nxt b n 4 q) W) (o3 : isBy b n (nxt b n 7 q) → nb b n (nxt b n 8 q) 0 9) (p1 : PLc x b n q T C) (p2 : gi x 59 16 = nI (tV b n (nxt b n 4 q)) ∧ gi x 59 17 = nI (tV b n (nxt b n 6 q))) (hl : l1 = nI (byv b n (nxt b n 7 q))) (k1 : sg b n r 59 → ∀ y, SCf x y → CS y b n (tE b n r) (askT T A (akF b n q T C)) lim W C S (A + 1) → Q 1 y) (k0 : ¬ sg b n r 59 → ∀ y, SCf x y → Q 0 y) : GI mX3_readAsk 74 [some (.ref 59), some (.int l1), none] [] KW x Q := by
  refine v_X3_readAsk_74 k59 c.1.2.2.2.2.1 k60 ?_
  have E := c.2.2.2.2.1
  obtain ⟨j, hj, ej⟩ := E.2.1.2.2.2.2.2.2.2.1 A hA
  refine v_X4_addAsk_0 k60 E.2.1.2.2.2.1 (ks4 E.1) ?_
  have mi : (if (23 : Int32) < nI A then 23 else nI A) = nI A := if_neg (fun g => absurd ((nI_ltI (a := 23) (b := A) (by decide) (by omega)).mp g) (by omega))
  rw [c.s2.2.2.1, mi, nI_clamp (by omega), nI_1]
  refine ⟨vp_in_nI (by omega) (by decide), 60 + 30 + j, ej, ks30 E.1 hj, v_X0_placeAt_0 (ks30 E.1 hj) (v_X0_span_0 (ks30 E.1 hj) ?_)⟩
  have u59 : ∀ k, gi (ui x 60 4 (nI (A + 1))) 59 k = gi x 59 k := fun k => by rw [gi_ui, if_neg (by omega)]
  have v59 : ∀ (a0 a1 a2 a3 : Int32) (k : Nat), gi (ui (ui (ui (ui (ui x 60 4 (nI (A + 1))) (60 + 30 + j) 0 a0) (60 + 30 + j) 1 a1) (60 + 30 + j) 2 a2) (60 + 30 + j) 3 a3) 59 k = gi x 59 k := fun a0 a1 a2 a3 k => by
    rw [gi_ui, if_neg (by omega), gi_ui, if_neg (by omega), gi_ui, if_neg (by omega), gi_ui, if_neg (by omega)]; exact u59 k
  rw [v59, v59, u59, u59, u59, u59, p1.1, p1.2.1, p1.2.2.1, p1.2.2.2, p2.1, p2.2]
  have off : ∀ (z : Cn), z = ui (ui (ui (ui (ui (ui (ui (ui x 60 4 (nI (A + 1))) (60 + 30 + j) 0 (fnd T C (vnm b n q))) (60 + 30 + j) 1 (wnp b n (nxt b n 1 q))) (60 + 30 + j) 2 (nI (tV b n (nxt b n 2 q)))) (60 + 30 + j) 3 (wyo b n (nxt b n 3 q))) (60 + 30 + j) 4 (nI (tV b n (nxt b n 4 q)))) (60 + 30 + j) 5 (nI (tV b n (nxt b n 6 q)))) (60 + 30 + j) 6 l1 → z.2 = x.2 ∧ (∀ a i, a ≠ 60 + 30 + j → ¬ (a = 60 ∧ i = 4) → gi z a i = gi x a i) ∧ gi z 60 4 = nI (A + 1) ∧ ∀ k, k < 7 → gi z (60 + 30 + j) k = akF b n q T C k := by
    intro z hz
    subst hz
    refine ⟨rfl, fun a i h1 h2 => ?_, ?_, fun k hk => ?_⟩
    · simp only [gi_ui, h1, false_and, if_false]
      rw [if_neg h2]
    · simp [gi_ui, show ¬ (60 : Nat) = 60 + 30 + j by omega]
    · rcases lt7 hk with rfl | rfl | rfl | rfl | rfl | rfl | rfl <;> simp [gi_ui, akF, hl]
  generalize ui (ui (ui (ui (ui (ui (ui (ui x 60 4 (nI (A + 1))) (60 + 30 + j) 0 (fnd T C (vnm b n q))) (60 + 30 + j) 1 (wnp b n (nxt b n 1 q))) (60 + 30 + j) 2 (nI (tV b n (nxt b n 2 q)))) (60 + 30 + j) 3 (wyo b n (nxt b n 3 q))) (60 + 30 + j) 4 (nI (tV b n (nxt b n 4 q)))) (60 + 30 + j) 5 (nI (tV b n (nxt b n 6 q)))) (60 + 30 + j) 6 l1 = u at off
  obtain ⟨w1, w2, w3, w4⟩ := off u rfl
  have E2 : SEA u 60 (askT T A (akF b n q T C)) W C S (A + 1) 0 := E.addA (p := 60 + 30 + j) hA ej w1 (fun a i _ _ h3 h4 _ => w2 a i h3 h4) w3 (fun k hk => by rw [w4 k hk, ao_askT hk]) (fun i _ h3 h4 => askT_off h3 h4) (if_pos rfl) (Was.rd hW o1 o2 o3)
  have c2 : CS u b n r (askT T A (akF b n q T C)) lim W C S (A + 1) := ⟨c.1.mv w1 (fun a k h => w2 a k (by omega) (by omega)), c.2.1.mv (fun k _ _ => w2 59 k (by omega) (by omega)), c.2.2.1, (w2 59 11 (by omega) (by omega)).trans c.2.2.2.1, E2, c.2.2.2.2.2.keep (w2 114 0 (by omega) (by omega)) (fun i => w2 115 i (by omega) (by omega)) (fun i hi => askT_off (by omega) (by have := E.2.2.2.2.2.2.2.1; omega))⟩
  have s2 : SCf x u := ⟨w1, fun a k h => w2 a k (by omega) (by omega)⟩
  exact sp_X3_takeSign c2.1 c2.2.1 c.2.2.1 (fun o y3 f3 B3 t3 => ⟨Or.inr rfl, k1 o y3 (s2.tr f3.sc) (c2.at f3 t3 (tE_b c.2.2.1).2.1)⟩) (fun o y3 f3 => ⟨Or.inl rfl, k0 o y3 (s2.tr f3.sc)⟩)
theorem sp_X3_readAsk {x : Cn} {Q : Int32 → Cn → Prop} {b : TT} {n p : Nat} {T : TT} {lim : Int32} {W C S A : Nat} (hW : 5 ≤ W) (c : CS x b n p T lim W C S A) (k1 : okQ b n (tE b n p) T W C A → ∀ y, SCf x y → CS y b n (tE b n (byp b n (nxt b n 7 (tE b n p)))) (askT T A (akF b n (tE b n p) T C)) lim W C S (A + 1) → Q 1 y) (k0 : ¬ okQ b n (tE b n p) T W C A → ∀ y, SCf x y → Q 0 y) : mSI mX3_readAsk [.ref 59] KW x Q := by
  have hp := c.2.2.1
  have q1 : tE b n p ≤ n := (tE_b hp).2.1
  have hA : A ≤ 24 := c.2.2.2.2.1.2.2.2.2.2.2.2.2.2.2.2.1
  refine v_X3_readAsk_0 k59 c.1.2.2.2.2.1 k60 ?_
  rw [c.s2.2.2.1]
  have eA : nI A < 24 ↔ A < 24 := nI_ltI (a := A) (b := 24) (by omega) (by omega)
  refine ⟨fun z => ?_, fun z => sp_X3_fail (fun y f => ⟨Or.inl rfl, k0 (fun o => z (eA.mpr o.1)) y f.sc⟩)⟩
  have o0 := eA.mp z
  refine ad_c c.1 c.2.1 hp (fun y1 f1 B1 t1 => ?_)
  generalize tE b n p = q at t1 q1 k1 k0
  have q7 : nxt b n 7 q ≤ n := nxt_le q1
  have q8 : nxt b n 8 q ≤ n := nxt_le q1
  have q9 : nxt b n 9 q ≤ n := nxt_le q1
  have c1 := c.at f1 t1 q1
  refine sp_X3_readPlace c1 (fun o1 y2 f2 c2 p2 => ⟨fun z => absurd z (by decide), fun _ => ?_⟩) (fun o1 y2 f2 => ⟨fun _ => k0 (fun o => o1 o.2.1) y2 (f1.sc.tr f2), fun z => absurd rfl z⟩)
  refine sp_X3_readSpan hW c2 (fun o2 y3 f3 c3 p3 p16 p17 => ⟨fun _ => ?_, fun z => absurd z (by decide)⟩) (fun o2 y3 f3 => ⟨fun z => absurd rfl z, fun _ => k0 (fun o => o2 o.2.2.1) y3 ((f1.sc.tr f2).tr f3)⟩)
  rw [nxt_n] at c3 p17
  have c3 : CS y3 b n (nxt b n 7 q) T lim W C S A := c3
  have p17 : gi y3 59 17 = nI (tV b n (nxt b n 6 q)) := p17
  have g3 : SCf x y3 := (f1.sc.tr f2).tr f3
  have e15 : (gi y3 59 9 = 1 ∧ gi y3 59 10 = 15) ↔ isBy b n (nxt b n 7 q) := c3.2.1.w 15
  have p3' : PLc y3 b n q T C := ⟨(p3 12 (by omega) (by omega)).trans p2.1, (p3 13 (by omega) (by omega)).trans p2.2.1, (p3 14 (by omega) (by omega)).trans p2.2.2.1, (p3 15 (by omega) (by omega)).trans p2.2.2.2⟩
  rw [e15]
  refine ⟨fun z => ?_, fun z => ad_c c3.1 c3.2.1 q7 (fun y4 f4 B4 t4 => ?_)⟩
  · have z' : ¬ (tK b n (nxt b n 7 q) = 1 ∧ wnp b n (nxt b n 7 q) = 15) := z
    have er : byp b n (nxt b n 7 q) = nxt b n 7 q := by unfold byp; rw [if_neg z']
    have ev : (0 : Int32) = nI (byv b n (nxt b n 7 q)) := by unfold byv; rw [if_neg z']; rfl
    rw [er] at k1
    have k0' : ¬ sg b n (nxt b n 7 q) 59 → ¬ okQ b n q T W C A := fun o3 o => o3 (by have h := o.2.2.2.2; rw [er] at h; exact h)
    exact lp_X3_readAsk_74 (q := q) hW c3 o0 o1 o2 (fun w => absurd w z) p3' ⟨p16, p17⟩ ev (fun o3 y f c' => k1 ⟨o0, o1, o2, fun w => absurd w z, by rw [er]; exact o3⟩ y (g3.tr f) c') (fun o3 y f => k0 (k0' o3) y (g3.tr f))
  · have z' : tK b n (nxt b n 7 q) = 1 ∧ wnp b n (nxt b n 7 q) = 15 := z
    have er : byp b n (nxt b n 7 q) = nxt b n 9 q := by unfold byp; rw [if_pos z', nxt_n]
    rw [er] at k1
    have t4 : CTk y4 b n (nxt b n 8 q) := t4
    have c4 := c3.at f4 t4 q8
    refine sp_X3_isNumber (lo := 0) (hi := 9) t4 (by omega) (by omega) (fun o3 => ⟨fun _ => ?_, fun z => absurd z (by decide)⟩) (fun o3 y5 f5 => ⟨fun z => absurd rfl z, fun _ => k0 (fun o => o3 (o.2.2.2.1 z)) y5 ((g3.tr f4.sc).tr f5.sc)⟩)
    have hv := t4.2.2.2.2.1 o3.1
    rw [(mn5 o3.2.2 (by omega)).1] at hv
    have ev : gi y4 59 10 = nI (byv b n (nxt b n 7 q)) := by rw [hv]; unfold byv; rw [if_pos z', nxt_n]
    refine ad_c B4 t4 q8 (fun y5 f5 B5 t5 => ?_)
    have t5 : CTk y5 b n (nxt b n 9 q) := t5
    have c5 := c4.at f5 t5 q9
    have pq : ∀ k, 12 ≤ k → gi y5 59 k = gi y3 59 k := fun k hk => (f5.2 59 k (by omega)).trans (f4.2 59 k (by omega))
    have k0' : ¬ sg b n (nxt b n 9 q) 59 → ¬ okQ b n q T W C A := fun o3 o => o3 (by have h := o.2.2.2.2; rw [er] at h; exact h)
    exact lp_X3_readAsk_74 (q := q) hW c5 o0 o1 o2 (fun _ => o3) ⟨(pq 12 (by omega)).trans p3'.1, (pq 13 (by omega)).trans p3'.2.1, (pq 14 (by omega)).trans p3'.2.2.1, (pq 15 (by omega)).trans p3'.2.2.2⟩ ⟨(pq 16 (by omega)).trans p16, (pq 17 (by omega)).trans p17⟩ ev (fun o4 y f c' => k1 ⟨o0, o1, o2, fun _ => o3, by rw [er]; exact o4⟩ y (((g3.tr f4.sc).tr f5.sc).tr f) c') (fun o4 y f => k0 (k0' o4) y (((g3.tr f4.sc).tr f5.sc).tr f))

end
end
/-! 71.read4.lean.txt -/
section
/-! a line, all lines, landed side -/
abbrev PSt : Type := Nat × TT × Int32 × Nat × Nat × Nat
def ok1 (b : TT) (n W : Nat) (s : PSt) : Prop := (iw b n s.1 8 ∧ okL b n s.1 s.2.2.1 s.2.2.2.2.1) ∨ (iw b n s.1 9 ∧ okC b n s.1 s.2.1 s.2.2.2.1) ∨ (iw b n s.1 10 ∧ okS b n (tE b n s.1) s.2.1 W s.2.2.2.1 s.2.2.2.2.1) ∨ (iw b n s.1 11 ∧ okQ b n (tE b n s.1) s.2.1 W s.2.2.2.1 s.2.2.2.2.2)
def nx1 (b : TT) (n : Nat) (s : PSt) : PSt := if wnp b n s.1 = 8 then (nxt b n 6 s.1, lTT b n s.1 s.2.1, lmL b n s.1 s.2.2.1, s.2.2.2.1, s.2.2.2.2.1, s.2.2.2.2.2) else if wnp b n s.1 = 9 then (nxt b n 3 s.1, caT s.2.1 s.2.2.2.1 (vnm b n (nxt b n 1 s.1)), s.2.2.1, s.2.2.2.1 + 1, s.2.2.2.2.1, s.2.2.2.2.2) else if wnp b n s.1 = 10 then (tE b n (nwp b n (nxt b n 7 (tE b n s.1))), adT s.2.1 s.2.2.2.2.1 (srF b n (tE b n s.1) s.2.1 s.2.2.2.1), s.2.2.1, s.2.2.2.1, s.2.2.2.2.1 + 1, s.2.2.2.2.2) else (tE b n (byp b n (nxt b n 7 (tE b n s.1))), askT s.2.1 s.2.2.2.2.2 (akF b n (tE b n s.1) s.2.1 s.2.2.2.1), s.2.2.1, s.2.2.2.1, s.2.2.2.2.1, s.2.2.2.2.2 + 1)
def CSs (y : Cn) (b : TT) (n W : Nat) (s : PSt) : Prop := CS y b n s.1 s.2.1 s.2.2.1 W s.2.2.2.1 s.2.2.2.2.1 s.2.2.2.2.2
theorem byp_le {b : TT} {n r : Nat} (h : r ≤ n) : byp b n r ≤ n := by
  unfold byp
  by_cases c : tK b n r = 1 ∧ wnp b n r = 15
  · rw [if_pos c]; exact nxt_le h
  · rw [if_neg c]; exact h
theorem nwp_ge {b : TT} {n r : Nat} (h : r ≤ n) : r ≤ nwp b n r := by
  unfold nwp
  by_cases c : tK b n r = 1 ∧ wnp b n r = 14
  · rw [if_pos c]; have := tS_b (b := b) h; have := tE_b (b := b) h; omega
  · rw [if_neg c]; omega
theorem byp_ge {b : TT} {n r : Nat} (h : r ≤ n) : r ≤ byp b n r := by
  unfold byp
  by_cases c : tK b n r = 1 ∧ wnp b n r = 15
  · rw [if_pos c]; exact nxt_ge h
  · rw [if_neg c]; omega
theorem nx1_gt {b : TT} {n : Nat} {s : PSt} (h : s.1 ≤ n) (hk : ¬ tK b n s.1 = 0) : s.1 < (nx1 b n s).1 ∧ (nx1 b n s).1 ≤ n := by
  have h1 : s.1 < tE b n s.1 := nxt_gt (k := 0) h hk
  have h2 := (tE_b (b := b) h).2.1
  have h7 : nxt b n 7 (tE b n s.1) ≤ n := nxt_le h2
  have h8 : tE b n s.1 ≤ nxt b n 7 (tE b n s.1) := nxt_ge h2
  have a1 := nwp_le (b := b) h7
  have a2 := nwp_ge (b := b) h7
  have a3 := tS_b (b := b) a1
  have a4 := tE_b (b := b) a1
  have b1 := byp_le (b := b) h7
  have b2 := byp_ge (b := b) h7
  have b3 := tS_b (b := b) b1
  have b4 := tE_b (b := b) b1
  unfold nx1
  by_cases c1 : wnp b n s.1 = 8
  · rw [if_pos c1]; exact ⟨nxt_gt (k := 5) h hk, nxt_le h⟩
  · rw [if_neg c1]
    by_cases c2 : wnp b n s.1 = 9
    · rw [if_pos c2]; exact ⟨nxt_gt (k := 2) h hk, nxt_le h⟩
    · rw [if_neg c2]
      by_cases c3 : wnp b n s.1 = 10
      · rw [if_pos c3]
        show s.1 < tE b n (nwp b n (nxt b n 7 (tE b n s.1))) ∧ tE b n (nwp b n (nxt b n 7 (tE b n s.1))) ≤ n
        omega
      · rw [if_neg c3]
        show s.1 < tE b n (byp b n (nxt b n 7 (tE b n s.1))) ∧ tE b n (byp b n (nxt b n 7 (tE b n s.1))) ≤ n
        omega
theorem nx1_8 {b : TT} {n : Nat} {s : PSt} (h : iw b n s.1 8) : nx1 b n s = (nxt b n 6 s.1, lTT b n s.1 s.2.1, lmL b n s.1 s.2.2.1, s.2.2.2.1, s.2.2.2.2.1, s.2.2.2.2.2) := by
  have w : wnp b n s.1 = 8 := h.2
  unfold nx1
  rw [if_pos w]
theorem nx1_9 {b : TT} {n : Nat} {s : PSt} (h : iw b n s.1 9) : nx1 b n s = (nxt b n 3 s.1, caT s.2.1 s.2.2.2.1 (vnm b n (nxt b n 1 s.1)), s.2.2.1, s.2.2.2.1 + 1, s.2.2.2.2.1, s.2.2.2.2.2) := by
  have w : wnp b n s.1 = 9 := h.2
  unfold nx1
  rw [if_neg (show ¬ wnp b n s.1 = 8 by rw [w]; decide), if_pos w]
theorem nx1_10 {b : TT} {n : Nat} {s : PSt} (h : iw b n s.1 10) : nx1 b n s = (tE b n (nwp b n (nxt b n 7 (tE b n s.1))), adT s.2.1 s.2.2.2.2.1 (srF b n (tE b n s.1) s.2.1 s.2.2.2.1), s.2.2.1, s.2.2.2.1, s.2.2.2.2.1 + 1, s.2.2.2.2.2) := by
  have w : wnp b n s.1 = 10 := h.2
  unfold nx1
  rw [if_neg (show ¬ wnp b n s.1 = 8 by rw [w]; decide), if_neg (show ¬ wnp b n s.1 = 9 by rw [w]; decide), if_pos w]
theorem nx1_11 {b : TT} {n : Nat} {s : PSt} (h : iw b n s.1 11) : nx1 b n s = (tE b n (byp b n (nxt b n 7 (tE b n s.1))), askT s.2.1 s.2.2.2.2.2 (akF b n (tE b n s.1) s.2.1 s.2.2.2.1), s.2.2.1, s.2.2.2.1, s.2.2.2.2.1, s.2.2.2.2.2 + 1) := by
  have w : wnp b n s.1 = 11 := h.2
  unfold nx1
  rw [if_neg (show ¬ wnp b n s.1 = 8 by rw [w]; decide), if_neg (show ¬ wnp b n s.1 = 9 by rw [w]; decide), if_neg (show ¬ wnp b n s.1 = 10 by rw [w]; decide)]
set_option maxHeartbeats 2000000 in
theorem v_X3_readLine_0 {K : Sh} {x : Cn} {Q : Int32 → Cn → Prop} {b0 : Nat}  (k_b0 : kk K b0 = some (3, 0)) (K0 : (¬ (gi x b0 9 = 1 ∧ gi x b0 10 = 8) → ((¬ (gi x b0 9 = 1 ∧ gi x b0 10 = 9) → ((¬ (gi x b0 9 = 1 ∧ gi x b0 10 = 10) → ((¬ (gi x b0 9 = 1 ∧ gi x b0 10 = 11) → (mSI mX3_fail [.ref b0, .int 1] K x (fun r_6 y_5 => (r_6 = 0 ∨ r_6 = 1) ∧ (Q r_6 y_5)))) ∧ ((gi x b0 9 = 1 ∧ gi x b0 10 = 11) → (mSI mX3_readAsk [.ref b0] K x (fun r_9 y_8 => (r_9 = 0 ∨ r_9 = 1) ∧ (Q r_9 y_8)))))) ∧ ((gi x b0 9 = 1 ∧ gi x b0 10 = 10) → (mSI mX3_readSeries [.ref b0] K x (fun r_12 y_11 => (r_12 = 0 ∨ r_12 = 1) ∧ (Q r_12 y_11)))))) ∧ ((gi x b0 9 = 1 ∧ gi x b0 10 = 9) → (mSI mX3_readCarrier [.ref b0] K x (fun r_15 y_14 => (r_15 = 0 ∨ r_15 = 1) ∧ (Q r_15 y_14)))))) ∧ ((gi x b0 9 = 1 ∧ gi x b0 10 = 8) → (mSI mX3_readLimit [.ref b0] K x (fun r_18 y_17 => (r_18 = 0 ∨ r_18 = 1) ∧ (Q r_18 y_17))))) : mSI mX3_readLine [.ref b0] K x Q := by
  refine s_I (by decide) (by simp [Value.category]) (Nat.le_of_ble_eq_true rfl) ?_
  show mGM mX3_readLine 0 [some (.ref b0)] [] (hp K x) (PI K Q)
  refine r_aload_n (pc := 0) dX3_readLine_0 rfl ?_
  refine r_bipush (pc := 1) (v := 8) dX3_readLine_1 (by decide) ?_
  refine s_VI (pc := 3) mX3_isWord (ci := 3) (a := b0) (As := [.int 8]) dX3_readLine_3 lk_X3_110 in_X3_isWord mo_X3_isWord ⟨by decide, rfl⟩ ⟨by decide, by decide⟩ (Nat.le_of_ble_eq_true rfl) k_b0 (sp_X3_isWord k_b0 ?_)
  refine r_if_eq (pc := 6) (tgt := 14) dX3_readLine_6 (by decide) (fun q => ?_) (fun q => ?_)
  · have q := (b2i_z _).mp q
    have K0 := K0.1 q
    refine r_aload_n (pc := 14) dX3_readLine_14 rfl ?_
    refine r_bipush (pc := 15) (v := 9) dX3_readLine_15 (by decide) ?_
    refine s_VI (pc := 17) mX3_isWord (ci := 3) (a := b0) (As := [.int 9]) dX3_readLine_17 lk_X3_110 in_X3_isWord mo_X3_isWord ⟨by decide, rfl⟩ ⟨by decide, by decide⟩ (Nat.le_of_ble_eq_true rfl) k_b0 (sp_X3_isWord k_b0 ?_)
    refine r_if_eq (pc := 20) (tgt := 28) dX3_readLine_20 (by decide) (fun q => ?_) (fun q => ?_)
    · have q := (b2i_z _).mp q
      have K0 := K0.1 q
      refine r_aload_n (pc := 28) dX3_readLine_28 rfl ?_
      refine r_bipush (pc := 29) (v := 10) dX3_readLine_29 (by decide) ?_
      refine s_VI (pc := 31) mX3_isWord (ci := 3) (a := b0) (As := [.int 10]) dX3_readLine_31 lk_X3_110 in_X3_isWord mo_X3_isWord ⟨by decide, rfl⟩ ⟨by decide, by decide⟩ (Nat.le_of_ble_eq_true rfl) k_b0 (sp_X3_isWord k_b0 ?_)
      refine r_if_eq (pc := 34) (tgt := 42) dX3_readLine_34 (by decide) (fun q => ?_) (fun q => ?_)
      · have q := (b2i_z _).mp q
        have K0 := K0.1 q
        refine r_aload_n (pc := 42) dX3_readLine_42 rfl ?_
        refine r_bipush (pc := 43) (v := 11) dX3_readLine_43 (by decide) ?_
        refine s_VI (pc := 45) mX3_isWord (ci := 3) (a := b0) (As := [.int 11]) dX3_readLine_45 lk_X3_110 in_X3_isWord mo_X3_isWord ⟨by decide, rfl⟩ ⟨by decide, by decide⟩ (Nat.le_of_ble_eq_true rfl) k_b0 (sp_X3_isWord k_b0 ?_)
        refine r_if_eq (pc := 48) (tgt := 56) dX3_readLine_48 (by decide) (fun q => ?_) (fun q => ?_)
        · have q := (b2i_z _).mp q
          have K0 := K0.1 q
          refine r_aload_n (pc := 56) dX3_readLine_56 rfl ?_
          refine r_iconst (pc := 57) (v := 1) dX3_readLine_57 (by decide) ?_
          refine s_VI (pc := 58) mX3_fail (ci := 3) (a := b0) (As := [.int 1]) dX3_readLine_58 lk_X3_125 in_X3_fail mo_X3_fail ⟨by decide, rfl⟩ ⟨by decide, by decide⟩ (Nat.le_of_ble_eq_true rfl) k_b0 (mSI_mono K0 (fun r_6 y_5 K0 => ?_))
          obtain ⟨p_7, K0⟩ := K0
          exact s_zret rfl p_7 dX3_readLine_61 K0
        · have q := b2i_nz q
          have K0 := K0.2 q
          refine r_aload_n (pc := 51) dX3_readLine_51 rfl ?_
          refine s_VI (pc := 52) mX3_readAsk (ci := 3) (a := b0) (As := []) dX3_readLine_52 lk_X3_122 in_X3_readAsk mo_X3_readAsk ⟨by decide, rfl⟩ ⟨by decide, by decide⟩ (Nat.le_of_ble_eq_true rfl) k_b0 (mSI_mono K0 (fun r_9 y_8 K0 => ?_))
          obtain ⟨p_10, K0⟩ := K0
          exact s_zret rfl p_10 dX3_readLine_55 K0
      · have q := b2i_nz q
        have K0 := K0.2 q
        refine r_aload_n (pc := 37) dX3_readLine_37 rfl ?_
        refine s_VI (pc := 38) mX3_readSeries (ci := 3) (a := b0) (As := []) dX3_readLine_38 lk_X3_119 in_X3_readSeries mo_X3_readSeries ⟨by decide, rfl⟩ ⟨by decide, by decide⟩ (Nat.le_of_ble_eq_true rfl) k_b0 (mSI_mono K0 (fun r_12 y_11 K0 => ?_))
        obtain ⟨p_13, K0⟩ := K0
        exact s_zret rfl p_13 dX3_readLine_41 K0
    · have q := b2i_nz q
      have K0 := K0.2 q
      refine r_aload_n (pc := 23) dX3_readLine_23 rfl ?_
      refine s_VI (pc := 24) mX3_readCarrier (ci := 3) (a := b0) (As := []) dX3_readLine_24 lk_X3_116 in_X3_readCarrier mo_X3_readCarrier ⟨by decide, rfl⟩ ⟨by decide, by decide⟩ (Nat.le_of_ble_eq_true rfl) k_b0 (mSI_mono K0 (fun r_15 y_14 K0 => ?_))
      obtain ⟨p_16, K0⟩ := K0
      exact s_zret rfl p_16 dX3_readLine_27 K0
  · have q := b2i_nz q
    have K0 := K0.2 q
    refine r_aload_n (pc := 9) dX3_readLine_9 rfl ?_
    refine s_VI (pc := 10) mX3_readLimit (ci := 3) (a := b0) (As := []) dX3_readLine_10 lk_X3_113 in_X3_readLimit mo_X3_readLimit ⟨by decide, rfl⟩ ⟨by decide, by decide⟩ (Nat.le_of_ble_eq_true rfl) k_b0 (mSI_mono K0 (fun r_18 y_17 K0 => ?_))
    obtain ⟨p_19, K0⟩ := K0
    exact s_zret rfl p_19 dX3_readLine_13 K0
section
theorem sp_X3_readLine {x : Cn} {Q : Int32 → Cn → Prop} {b : TT} {n W : Nat} {s : PSt} (hW : 5 ≤ W) (c : CSs x b n W s) (k1 : ok1 b n W s → ∀ y, SCf x y → CSs y b n W (nx1 b n s) → Q 1 y) (k0 : ¬ ok1 b n W s → ∀ y, SCf x y → Q 0 y) : mSI mX3_readLine [.ref 59] KW x Q := by
  have c : CS x b n s.1 s.2.1 s.2.2.1 W s.2.2.2.1 s.2.2.2.2.1 s.2.2.2.2.2 := c
  have t := c.2.1
  have e8 : (gi x 59 9 = 1 ∧ gi x 59 10 = 8) ↔ iw b n s.1 8 := t.w 8
  have e9 : (gi x 59 9 = 1 ∧ gi x 59 10 = 9) ↔ iw b n s.1 9 := t.w 9
  have e10 : (gi x 59 9 = 1 ∧ gi x 59 10 = 10) ↔ iw b n s.1 10 := t.w 10
  have e11 : (gi x 59 9 = 1 ∧ gi x 59 10 = 11) ↔ iw b n s.1 11 := t.w 11
  have ne : ∀ i j, i < 16 → j < 16 → i ≠ j → iw b n s.1 i → ¬ iw b n s.1 j := fun i j hi hj hij h1 h2 => hij ((nI_eq (by omega) (by omega)).mp (h1.2.symm.trans h2.2))
  have we : ∀ i, iw b n s.1 i → wnp b n s.1 = nI i := fun i h => h.2
  refine v_X3_readLine_0 k59 ?_
  rw [e8, e9, e10, e11]
  refine ⟨fun n8 => ⟨fun n9 => ⟨fun n10 => ⟨fun n11 => sp_X3_fail (fun y f => ⟨Or.inl rfl, k0 (fun o => o.elim (fun z => n8 z.1) (fun o => o.elim (fun z => n9 z.1) (fun o => o.elim (fun z => n10 z.1) (fun z => n11 z.1)))) y f.sc⟩), fun o11 => ?_⟩, fun o10 => ?_⟩, fun o9 => ?_⟩, fun o8 => ?_⟩
  · rw [nx1_11 o11] at k1
    exact sp_X3_readAsk hW c (fun o y f c' => ⟨Or.inr rfl, k1 (Or.inr (Or.inr (Or.inr ⟨o11, o⟩))) y f c'⟩) (fun o y f => ⟨Or.inl rfl, k0 (fun w => w.elim (fun z => n8 z.1) (fun w => w.elim (fun z => n9 z.1) (fun w => w.elim (fun z => n10 z.1) (fun z => o z.2)))) y f⟩)
  · rw [nx1_10 o10] at k1
    exact sp_X3_readSeries hW c (fun o y f c' => ⟨Or.inr rfl, k1 (Or.inr (Or.inr (Or.inl ⟨o10, o⟩))) y f c'⟩) (fun o y f => ⟨Or.inl rfl, k0 (fun w => w.elim (fun z => n8 z.1) (fun w => w.elim (fun z => n9 z.1) (fun w => w.elim (fun z => o z.2) (fun z => ne 10 11 (by omega) (by omega) (by omega) o10 z.1)))) y f⟩)
  · rw [nx1_9 o9] at k1
    exact sp_X3_readCarrier hW c (fun o y f c' => ⟨Or.inr rfl, k1 (Or.inr (Or.inl ⟨o9, o⟩)) y f c'⟩) (fun o y f => ⟨Or.inl rfl, k0 (fun w => w.elim (fun z => n8 z.1) (fun w => w.elim (fun z => o z.2) (fun w => w.elim (fun z => ne 9 10 (by omega) (by omega) (by omega) o9 z.1) (fun z => ne 9 11 (by omega) (by omega) (by omega) o9 z.1)))) y f⟩)
  · rw [nx1_8 o8] at k1
    exact sp_X3_readLimit c (fun o y f c' => ⟨Or.inr rfl, k1 (Or.inl ⟨o8, o⟩) y f c'⟩) (fun o y f => ⟨Or.inl rfl, k0 (fun w => w.elim (fun z => o z.2) (fun w => w.elim (fun z => ne 8 9 (by omega) (by omega) (by omega) o8 z.1) (fun w => w.elim (fun z => ne 8 10 (by omega) (by omega) (by omega) o8 z.1) (fun z => ne 8 11 (by omega) (by omega) (by omega) o8 z.1)))) y f⟩)
/-- all lines: with d of them at most it comes to its end, L lines on -/
def runs (b : TT) (n W : Nat) : Nat → PSt → PSt → Nat → Prop
  | 0, _, _, _ => False
  | d + 1, s, t, L => (tK b n s.1 = 0 ∧ t = s ∧ L = 0) ∨ (¬ tK b n s.1 = 0 ∧ ok1 b n W s ∧ ∃ L', L = L' + 1 ∧ runs b n W d (nx1 b n s) t L')
def fails (b : TT) (n W : Nat) : Nat → PSt → Prop
  | 0, _ => False
  | d + 1, s => ¬ tK b n s.1 = 0 ∧ (¬ ok1 b n W s ∨ (ok1 b n W s ∧ fails b n W d (nx1 b n s)))
def SDf (x y : Cn) : Prop := y.2 = x.2 ∧ ∀ a k, ¬ (59 ≤ a ∧ a ≤ 115) → gi y a k = gi x a k
theorem SDf.rf (x : Cn) : SDf x x := ⟨rfl, fun _ _ _ => rfl⟩
theorem SDf.sc {x y z : Cn} (h : SDf x y) (g : SCf y z) : SDf x z := ⟨g.1.trans h.1, fun a k hk => (g.2 a k (Or.inl hk)).trans (h.2 a k hk)⟩
theorem SDf.u {x y : Cn} {a k : Nat} {v : Int32} (h : SDf x y) (ha : 59 ≤ a ∧ a ≤ 115) : SDf x (ui y a k v) := ⟨h.1, fun c j hj => by rw [gi_ui, if_neg (by omega)]; exact h.2 c j hj⟩
end
set_option maxHeartbeats 2000000 in
theorem v_X4_clear_0 {K : Sh} {x : Cn} {Q : Cn → Prop} {b0 : Nat}  (k_b0 : kk K b0 = some (4, 0)) (K0 : GV mX4_clear 27 [some (.ref b0), some (.int 0)] [] K (ui (ui (ui (ui (ui x b0 0 0) b0 1 0) b0 2 0) b0 3 0) b0 4 0) Q) : mSV mX4_clear [.ref b0] K x Q := by
  refine s_V (by decide) (by simp [Value.category]) (Nat.le_of_ble_eq_true rfl) ?_
  show mGM mX4_clear 0 [some (.ref b0), none] [] (hp K x) (PV K Q)
  refine r_aload_n (pc := 0) dX4_clear_0 rfl ?_
  refine r_iconst (pc := 1) (v := 0) dX4_clear_1 (by decide) ?_
  refine s_putI (pc := 2) dX4_clear_2 fl_X4_9 rfl rfl k_b0 ?_
  refine r_aload_n (pc := 5) dX4_clear_5 rfl ?_
  refine r_iconst (pc := 6) (v := 0) dX4_clear_6 (by decide) ?_
  refine s_putI (pc := 7) dX4_clear_7 fl_X4_15 rfl rfl k_b0 ?_
  refine r_aload_n (pc := 10) dX4_clear_10 rfl ?_
  refine r_iconst (pc := 11) (v := 0) dX4_clear_11 (by decide) ?_
  refine s_putI (pc := 12) dX4_clear_12 fl_X4_18 rfl rfl k_b0 ?_
  refine r_aload_n (pc := 15) dX4_clear_15 rfl ?_
  refine r_iconst (pc := 16) (v := 0) dX4_clear_16 (by decide) ?_
  refine s_putI (pc := 17) dX4_clear_17 fl_X4_21 rfl rfl k_b0 ?_
  refine r_aload_n (pc := 20) dX4_clear_20 rfl ?_
  refine r_iconst (pc := 21) (v := 0) dX4_clear_21 (by decide) ?_
  refine s_putI (pc := 22) dX4_clear_22 fl_X4_24 rfl rfl k_b0 ?_
  refine r_iconst (pc := 25) (v := 0) dX4_clear_25 (by decide) ?_
  refine r_istore_n (pc := 26) dX4_clear_26 (by decide) ?_
  exact r_le (L' := [some (.ref b0), some (.int 0)]) ⟨rfl, ⟨rfl, trivial⟩⟩ K0
set_option maxHeartbeats 2000000 in
theorem v_X4_clear_27 {K : Sh} {x : Cn} {Q : Cn → Prop} {b0 : Nat} {l1 : Int32} {b0_5 : Nat} {n_b0_5 : Nat} {b0_6 : Nat} {n_b0_6 : Nat} (k_b0 : kk K b0 = some (4, 0)) (g_b0_5 : gr x b0 5 = some b0_5) (k_b0_5 : kk K b0_5 = some (20, n_b0_5)) (g_b0_6 : gr x b0 6 = some b0_6) (k_b0_6 : kk K b0_6 = some (20, n_b0_6)) (K0 : (24 ≤ l1 → (Q x)) ∧ (¬ 24 ≤ l1 → (vp_in l1 n_b0_5 ∧ (vp_in l1 n_b0_6 ∧ (GV mX4_clear 27 [some (.ref b0), some (.int (l1 + 1))] [] K (ui (ui x b0_5 (l1 : Int32).toNatClampNeg 4) b0_6 (l1 : Int32).toNatClampNeg 4) Q))))) : GV mX4_clear 27 [some (.ref b0), some (.int l1)] [] K x Q := by
  show mGM mX4_clear 27 [some (.ref b0), some (.int l1)] [] (hp K x) (PV K Q)
  refine r_iload_n (pc := 27) dX4_clear_27 rfl ?_
  refine r_bipush (pc := 28) (v := 24) dX4_clear_28 (by decide) ?_
  refine r_icmp_ge (pc := 30) (tgt := 53) dX4_clear_30 (by decide) (fun q => ?_) (fun q => ?_)
  · have K0 := K0.1 q
    exact s_ret rfl dX4_clear_53 K0
  · have K0 := K0.2 q
    refine r_aload_n (pc := 33) dX4_clear_33 rfl ?_
    refine s_getR (pc := 34) dX4_clear_34 fl_X4_27 rfl k_b0 g_b0_5 ?_
    refine r_iload_n (pc := 37) dX4_clear_37 rfl ?_
    refine r_iconst (pc := 38) (v := 4) dX4_clear_38 (by decide) ?_
    obtain ⟨i_2, K0⟩ := K0
    refine s_iast (pc := 39) dX4_clear_39 k_b0_5 i_2 ?_
    refine r_aload_n (pc := 40) dX4_clear_40 rfl ?_
    refine s_getR (pc := 41) dX4_clear_41 fl_X4_31 rfl k_b0 g_b0_6 ?_
    refine r_iload_n (pc := 44) dX4_clear_44 rfl ?_
    refine r_iconst (pc := 45) (v := 4) dX4_clear_45 (by decide) ?_
    obtain ⟨i_3, K0⟩ := K0
    refine s_iast (pc := 46) dX4_clear_46 k_b0_6 i_3 ?_
    refine r_iinc (pc := 47) (v := l1 + 1) dX4_clear_47 rfl rfl (by decide) ?_
    refine r_goto (pc := 50) (L := [some (.ref b0), some (.int (l1 + 1))]) (tgt := 27) dX4_clear_50 (by decide) ?_
    exact r_le (L' := [some (.ref b0), some (.int (l1 + 1))]) ⟨rfl, ⟨rfl, trivial⟩⟩ K0
section
theorem lp_X4_clear {x : Cn} {Q : Cn → Prop} (r : SRf x 60) (k : ∀ y, y.2 = x.2 → (∀ a j, a ≠ 61 → a ≠ 62 → gi y a j = gi x a j) → (∀ h, h < 24 → gi y 61 h = 4 ∧ gi y 62 h = 4) → Q y) : ∀ d i y, i + d = 24 → y.2 = x.2 → (∀ a j, a ≠ 61 → a ≠ 62 → gi y a j = gi x a j) → (∀ h, h < i → gi y 61 h = 4 ∧ gi y 62 h = 4) → GV mX4_clear 27 [some (.ref 60), some (.int (nI i))] [] KW y Q := by
  intro d
  induction d with
  | zero =>
    intro i y hi h1 h2 h3
    have hg : ∀ a j, gr y a j = gr x a j := fun a j => by unfold gr; rw [h1]
    refine v_X4_clear_27 k60 ((hg _ _).trans r.1) (n_b0_5 := 24) (by decide) ((hg _ _).trans r.2.1) (n_b0_6 := 24) (by decide) ⟨fun _ => k y h1 h2 (fun h hh => h3 h (by omega)), fun z => absurd (nI_le (a := 24) (b := i) (by omega) (by omega)) z⟩
  | succ d ih =>
    intro i y hi h1 h2 h3
    have hg : ∀ a j, gr y a j = gr x a j := fun a j => by unfold gr; rw [h1]
    refine v_X4_clear_27 k60 ((hg _ _).trans r.1) (n_b0_5 := 24) (by decide) ((hg _ _).trans r.2.1) (n_b0_6 := 24) (by decide) ⟨fun z => absurd z (nI_ge (a := i) (b := 24) (by omega) (by omega)), fun _ => ⟨vp_in_nI (by omega) (by decide), vp_in_nI (by omega) (by decide), ?_⟩⟩
    rw [nI_clamp (by omega), ← nI_succ]
    refine ih (i + 1) _ (by omega) h1 (fun a j a1 a2 => by rw [gi_ui, if_neg (by omega), gi_ui, if_neg (by omega)]; exact h2 a j a1 a2) (fun h hh => ?_)
    by_cases e : h = i
    · rw [e]
      exact ⟨by rw [gi_ui, if_neg (by omega), gi_ui, if_pos ⟨rfl, rfl⟩], by rw [gi_ui, if_pos ⟨rfl, rfl⟩]⟩
    · rw [gi_ui, if_neg (by omega), gi_ui, if_neg (by omega), gi_ui, if_neg (by omega), gi_ui, if_neg (by omega)]
      exact h3 h (by omega)
theorem sp_X4_clear {x : Cn} {Q : Cn → Prop} (jk : TT) (r : SRf x 60) (k : ∀ y, y.2 = x.2 → (∀ a j, ¬ (60 ≤ a ∧ a ≤ 62) → gi y a j = gi x a j) → SEA y 60 (T00 jk) 0 0 0 0 0 → Q y) : mSV mX4_clear [.ref 60] KW x Q := by
  refine v_X4_clear_0 k60 ?_
  refine lp_X4_clear (x := ui (ui (ui (ui (ui x 60 0 0) 60 1 0) 60 2 0) 60 3 0) 60 4 0) (r.keep rfl) (fun y h1 h2 h3 => ?_) 24 0 _ (by omega) rfl (fun _ _ _ _ => rfl) (fun h hh => absurd hh (by omega))
  have z : ∀ k, k < 5 → gi y 60 k = 0 := by
    intro k hk
    rw [h2 60 k (by omega) (by omega)]
    rcases (show k = 0 ∨ k = 1 ∨ k = 2 ∨ k = 3 ∨ k = 4 by omega) with rfl | rfl | rfl | rfl | rfl <;> simp [gi_ui]
  refine k y h1 (fun a j ha => by rw [h2 a j (by omega) (by omega)]; simp only [gi_ui]; rw [if_neg (by omega), if_neg (by omega), if_neg (by omega), if_neg (by omega), if_neg (by omega)]) ⟨Or.inr (Or.inl rfl), (r.keep rfl).keep h1, ⟨(z 0 (by omega)).trans (T00_0 (by omega)).symm, (z 1 (by omega)).trans (T00_0 (by omega)).symm, (z 2 (by omega)).trans (T00_0 (by omega)).symm, (z 3 (by omega)).trans (T00_0 (by omega)).symm, (z 4 (by omega)).trans (T00_0 (by omega)).symm, fun h hh => ?_, fun s p hs => absurd hs (by omega), fun s p hs => absurd hs (by omega)⟩, T00_0 (by omega), Or.inl ⟨rfl, rfl⟩, by omega, T00_0 (by omega), by omega, T00_0 (by omega), by omega, T00_0 (by omega), by omega, T00_0 (by omega), by omega, fun h hh => ⟨4, 4, by omega, by omega, T00_4 (by omega), T00_4 (by omega)⟩, fun s hs => absurd hs (by omega), fun s hs => absurd hs (by omega)⟩
  have e1 : T00 jk (6 + 2 * h) = 4 := T00_4 (by omega)
  have e2 : T00 jk (7 + 2 * h) = 4 := T00_4 (by omega)
  rw [e1, e2]
  exact h3 h hh
end
set_option maxHeartbeats 2000000 in
theorem v_X3_readText_0 {K : Sh} {x : Cn} {Q : Int32 → Cn → Prop} {b0 : Nat} {b1 : Nat} {l2 : Int32} {n_b1 : Nat} (k_b0 : kk K b0 = some (3, 0)) (k_b1 : kk K b1 = some (21, n_b1)) (K0 : ∃ c_1 : Nat, gr (ur x b0 5 (some b1)) b0 0 = some c_1 ∧ (kk K c_1 = some (4, 0) ∧ (mSV mX4_clear [.ref c_1] K (ui (ui (ui (ui (ui (ui (ur x b0 5 (some b1)) b0 6 (if (Int32.ofNat n_b1) < l2 then (Int32.ofNat n_b1) else l2)) b0 8 0) b0 2 0) b0 3 0) b0 4 (-1)) b0 11 0) (fun y_4 => ∃ c_5 : Nat, gr y_4 b0 1 = some c_5 ∧ (kk K c_5 = some (1, 0) ∧ (mSV mX3_advance [.ref b0] K (ui y_4 c_5 0 0) (fun y_8 => mSI mX3_readWeeks [.ref b0] K y_8 (fun r_10 y_9 => (¬ r_10 = 0 → (GI mX3_readText 75 [some (.ref b0), some (.ref b1), some (.int l2), some (.int 0)] [] K (ui y_9 b0 2 1) Q)) ∧ (r_10 = 0 → (Q 0 y_9)))))))))) : mSI mX3_readText [.ref b0, .ref b1, .int l2] K x Q := by
  refine s_I (by decide) (by simp [Value.category]) (Nat.le_of_ble_eq_true rfl) ?_
  show mGM mX3_readText 0 [some (.ref b0), some (.ref b1), some (.int l2), none] [] (hp K x) (PI K Q)
  refine r_aload_n (pc := 0) dX3_readText_0 rfl ?_
  refine r_aload_n (pc := 1) dX3_readText_1 rfl ?_
  refine s_putR (pc := 2) dX3_readText_2 fl_X3_35 rfl rfl k_b0 ?_
  refine r_aload_n (pc := 5) dX3_readText_5 rfl ?_
  refine r_iload_n (pc := 6) dX3_readText_6 rfl ?_
  refine r_aload_n (pc := 7) dX3_readText_7 rfl ?_
  refine s_alen (pc := 8) dX3_readText_8 k_b1 (by decide) ?_
  refine r_mmin (pc := 9) dX3_readText_9 lk_X3_75 mw_min ⟨by decide, by decide⟩ (Nat.le_of_ble_eq_true rfl) ?_
  refine s_putI (pc := 12) dX3_readText_12 fl_X3_39 rfl rfl k_b0 ?_
  refine r_aload_n (pc := 15) dX3_readText_15 rfl ?_
  refine r_iconst (pc := 16) (v := 0) dX3_readText_16 (by decide) ?_
  refine s_putI (pc := 17) dX3_readText_17 fl_X3_45 rfl rfl k_b0 ?_
  refine r_aload_n (pc := 20) dX3_readText_20 rfl ?_
  refine r_iconst (pc := 21) (v := 0) dX3_readText_21 (by decide) ?_
  refine s_putI (pc := 22) dX3_readText_22 fl_X3_25 rfl rfl k_b0 ?_
  refine r_aload_n (pc := 25) dX3_readText_25 rfl ?_
  refine r_iconst (pc := 26) (v := 0) dX3_readText_26 (by decide) ?_
  refine s_putI (pc := 27) dX3_readText_27 fl_X3_29 rfl rfl k_b0 ?_
  refine r_aload_n (pc := 30) dX3_readText_30 rfl ?_
  refine r_iconst (pc := 31) (v := (-1)) dX3_readText_31 (by decide) ?_
  refine s_putI (pc := 32) dX3_readText_32 fl_X3_32 rfl rfl k_b0 ?_
  refine r_aload_n (pc := 35) dX3_readText_35 rfl ?_
  refine r_iconst (pc := 36) (v := 0) dX3_readText_36 (by decide) ?_
  refine s_putI (pc := 37) dX3_readText_37 fl_X3_54 rfl rfl k_b0 ?_
  refine r_aload_n (pc := 40) dX3_readText_40 rfl ?_
  obtain ⟨c_1, g_2, K0⟩ := K0
  refine s_getR (pc := 41) dX3_readText_41 fl_X3_12 rfl k_b0 g_2 ?_
  obtain ⟨e_3, K0⟩ := K0
  refine s_VV (pc := 44) mX4_clear (ci := 4) (a := c_1) (As := []) dX3_readText_44 lk_X3_81 in_X4_clear mo_X4_clear ⟨by decide, rfl⟩ ⟨by decide, by decide⟩ (Nat.le_of_ble_eq_true rfl) e_3 (mSV_mono K0 (fun y_4 K0 => ?_))
  refine r_aload_n (pc := 47) dX3_readText_47 rfl ?_
  obtain ⟨c_5, g_6, K0⟩ := K0
  refine s_getR (pc := 48) dX3_readText_48 fl_X3_21 rfl k_b0 g_6 ?_
  refine r_iconst (pc := 51) (v := 0) dX3_readText_51 (by decide) ?_
  obtain ⟨e_7, K0⟩ := K0
  refine s_putI (pc := 52) dX3_readText_52 fl_X3_84 rfl rfl e_7 ?_
  refine r_aload_n (pc := 55) dX3_readText_55 rfl ?_
  refine s_VV (pc := 56) mX3_advance (ci := 3) (a := b0) (As := []) dX3_readText_56 lk_X3_87 in_X3_advance mo_X3_advance ⟨by decide, rfl⟩ ⟨by decide, by decide⟩ (Nat.le_of_ble_eq_true rfl) k_b0 (mSV_mono K0 (fun y_8 K0 => ?_))
  refine r_aload_n (pc := 59) dX3_readText_59 rfl ?_
  refine s_VI (pc := 60) mX3_readWeeks (ci := 3) (a := b0) (As := []) dX3_readText_60 lk_X3_90 in_X3_readWeeks mo_X3_readWeeks ⟨by decide, rfl⟩ ⟨by decide, by decide⟩ (Nat.le_of_ble_eq_true rfl) k_b0 (mSI_mono K0 (fun r_10 y_9 K0 => ?_))
  refine r_if_ne (pc := 63) (tgt := 68) dX3_readText_63 (by decide) (fun q => ?_) (fun q => ?_)
  · have K0 := K0.1 q
    refine r_aload_n (pc := 68) dX3_readText_68 rfl ?_
    refine r_iconst (pc := 69) (v := 1) dX3_readText_69 (by decide) ?_
    refine s_putI (pc := 70) dX3_readText_70 fl_X3_25 rfl rfl k_b0 ?_
    refine r_iconst (pc := 73) (v := 0) dX3_readText_73 (by decide) ?_
    refine r_istore_n (pc := 74) dX3_readText_74 (by decide) ?_
    exact r_le (L' := [some (.ref b0), some (.ref b1), some (.int l2), some (.int 0)]) ⟨rfl, ⟨rfl, ⟨rfl, ⟨rfl, trivial⟩⟩⟩⟩ K0
  · have K0 := K0.2 q
    refine r_iconst (pc := 66) (v := 0) dX3_readText_66 (by decide) ?_
    exact s_zret rfl (by decide) dX3_readText_67 K0
set_option maxHeartbeats 2000000 in
theorem v_X3_readText_75 {K : Sh} {x : Cn} {Q : Int32 → Cn → Prop} {b0 : Nat} {b1 : Nat} {l2 : Int32} {l3 : Int32}  (k_b0 : kk K b0 = some (3, 0)) (K0 : ((gi x b0 6) ≤ l3 → (Q 1 x)) ∧ (¬ (gi x b0 6) ≤ l3 → (((gi x b0 9) = 0 → (Q 1 x)) ∧ (¬ (gi x b0 9) = 0 → (mSI mX3_readLine [.ref b0] K x (fun r_4 y_3 => (¬ r_4 = 0 → (GI mX3_readText 75 [some (.ref b0), some (.ref b1), some (.int l2), some (.int (l3 + 1))] [] K (ui y_3 b0 2 ((gi y_3 b0 2) + 1)) Q)) ∧ (r_4 = 0 → (Q 0 y_3)))))))) : GI mX3_readText 75 [some (.ref b0), some (.ref b1), some (.int l2), some (.int l3)] [] K x Q := by
  show mGM mX3_readText 75 [some (.ref b0), some (.ref b1), some (.int l2), some (.int l3)] [] (hp K x) (PI K Q)
  refine r_iload_n (pc := 75) dX3_readText_75 rfl ?_
  refine r_aload_n (pc := 76) dX3_readText_76 rfl ?_
  refine s_getI (pc := 77) dX3_readText_77 fl_X3_39 rfl k_b0 ?_
  refine r_icmp_ge (pc := 80) (tgt := 115) dX3_readText_80 (by decide) (fun q => ?_) (fun q => ?_)
  · have K0 := K0.1 q
    refine r_iconst (pc := 115) (v := 1) dX3_readText_115 (by decide) ?_
    exact s_zret rfl (by decide) dX3_readText_116 K0
  · have K0 := K0.2 q
    refine r_aload_n (pc := 83) dX3_readText_83 rfl ?_
    refine s_getI (pc := 84) dX3_readText_84 fl_X3_48 rfl k_b0 ?_
    refine r_if_eq (pc := 87) (tgt := 115) dX3_readText_87 (by decide) (fun q => ?_) (fun q => ?_)
    · have K0 := K0.1 q
      refine r_iconst (pc := 115) (v := 1) dX3_readText_115 (by decide) ?_
      exact s_zret rfl (by decide) dX3_readText_116 K0
    · have K0 := K0.2 q
      refine r_aload_n (pc := 90) dX3_readText_90 rfl ?_
      refine s_VI (pc := 91) mX3_readLine (ci := 3) (a := b0) (As := []) dX3_readText_91 lk_X3_94 in_X3_readLine mo_X3_readLine ⟨by decide, rfl⟩ ⟨by decide, by decide⟩ (Nat.le_of_ble_eq_true rfl) k_b0 (mSI_mono K0 (fun r_4 y_3 K0 => ?_))
      refine r_if_ne (pc := 94) (tgt := 99) dX3_readText_94 (by decide) (fun q => ?_) (fun q => ?_)
      · have K0 := K0.1 q
        refine r_aload_n (pc := 99) dX3_readText_99 rfl ?_
        refine r_dup (pc := 100) dX3_readText_100 rfl ?_
        refine s_getI (pc := 101) dX3_readText_101 fl_X3_25 rfl k_b0 ?_
        refine r_iconst (pc := 104) (v := 1) dX3_readText_104 (by decide) ?_
        refine r_iadd (pc := 105) dX3_readText_105 ?_
        refine s_putI (pc := 106) dX3_readText_106 fl_X3_25 rfl rfl k_b0 ?_
        refine r_iinc (pc := 109) (v := l3 + 1) dX3_readText_109 rfl rfl (by decide) ?_
        refine r_goto (pc := 112) (L := [some (.ref b0), some (.ref b1), some (.int l2), some (.int (l3 + 1))]) (tgt := 75) dX3_readText_112 (by decide) ?_
        exact r_le (L' := [some (.ref b0), some (.ref b1), some (.int l2), some (.int (l3 + 1))]) ⟨rfl, ⟨rfl, ⟨rfl, ⟨rfl, trivial⟩⟩⟩⟩ K0
      · have K0 := K0.2 q
        refine r_iconst (pc := 97) (v := 0) dX3_readText_97 (by decide) ?_
        exact s_zret rfl (by decide) dX3_readText_98 K0
section
theorem lp_X3_readText_75 {x : Cn} {Q : Int32 → Cn → Prop} {b : TT} {n W : Nat} {l2 : Int32} (hW : 5 ≤ W) : ∀ d s y i L0, n < s.1 + d → i ≤ s.1 → SDf x y → CSs y b n W s → gi y 59 2 = nI L0 → (∀ t L z, runs b n W d s t L → SDf x z → CSs z b n W t → gi z 59 2 = nI (L0 + L) → Q 1 z) → (fails b n W d s → ∀ z, SDf x z → Q 0 z) → GI mX3_readText 75 [some (.ref 59), some (.ref 1), some (.int l2), some (.int (nI i))] [] KW y Q := by
  intro d
  induction d with
  | zero =>
    intro s y i L0 h1 h2 f c h3 k1 k0
    have : s.1 ≤ n := c.2.2.1
    omega
  | succ d ih =>
    intro s y i L0 h1 h2 f c h3 k1 k0
    have hp : s.1 ≤ n := c.2.2.1
    have hn : n ≤ 1200 := c.1.1
    have ek : gi y 59 9 = 0 ↔ tK b n s.1 = 0 := CTk.k (b := b) c.2.1 0 (by omega)
    refine v_X3_readText_75 k59 ?_
    rw [c.1.2.1, ek]
    by_cases z : tK b n s.1 = 0
    · have q : Q 1 y := k1 s 0 y (Or.inl ⟨z, rfl, rfl⟩) f c h3
      exact ⟨fun _ => q, fun _ => ⟨fun _ => q, fun w => absurd z w⟩⟩
    · have hlt : s.1 < n := by
        have h5 := tS_b (b := b) hp
        have h6 := tK_0 (b := b) hp
        omega
      refine ⟨fun w => absurd w (nI_ge (by omega) (by omega)), fun _ => ⟨fun w => absurd w z, fun _ => ?_⟩⟩
      refine sp_X3_readLine hW c (fun o w fw cw => ⟨fun _ => ?_, fun q => absurd q (by decide)⟩) (fun o w fw => ⟨fun q => absurd rfl q, fun _ => k0 ⟨z, Or.inl o⟩ w (f.sc fw)⟩)
      have hg := nx1_gt (b := b) hp z
      have e2 : gi w 59 2 = nI L0 := (fw.2 59 2 (Or.inr ⟨rfl, rfl⟩)).trans h3
      rw [e2, ← nI_succ, ← nI_succ]
      have cw : CS w b n (nx1 b n s).1 (nx1 b n s).2.1 (nx1 b n s).2.2.1 W (nx1 b n s).2.2.2.1 (nx1 b n s).2.2.2.2.1 (nx1 b n s).2.2.2.2.2 := cw
      refine ih (nx1 b n s) _ (i + 1) (L0 + 1) (by omega) (by omega) ((f.sc fw).u (by omega)) (cw.u (by omega)) (by rw [gi_ui, if_pos ⟨rfl, rfl⟩]) (fun t L z' r f' c' e' => k1 t (L + 1) z' (Or.inr ⟨z, o, L, rfl, r⟩) f' c' (by rw [e']; congr 1; omega)) (fun r z' f' => k0 ⟨z, Or.inr ⟨o, r⟩⟩ z' f')
/-- the state behind the line of weeks -/
def s00 (b : TT) (n : Nat) (j : TT) : PSt := (nxt b n 3 0, uT (T00 j) 0 (nI (tV b n (nxt b n 1 0))), 0, 0, 0, 0)
theorem sp_X3_readText {x : Cn} {Q : Int32 → Cn → Prop} {b : TT} {n : Nat} (jk : TT) (g0 : gr x 59 0 = some 60) (g1 : gr x 59 1 = some 114) (g2 : gr x 114 1 = some 115) (r : SRf x 60) (hn : n ≤ 1200) (hb : ∀ i, i < n → gi x 1 i = b i) (hB : ∀ i, i < n → isB (b i)) (k1 : okW b n 0 → ∀ t L y, runs b n (tV b n (nxt b n 1 0)) (n + 1) (s00 b n jk) t L → SDf (ur x 59 5 (some 1)) y → CSs y b n (tV b n (nxt b n 1 0)) t → gi y 59 2 = nI (1 + L) → Q 1 y) (k0 : (¬ okW b n 0 ∨ (okW b n 0 ∧ fails b n (tV b n (nxt b n 1 0)) (n + 1) (s00 b n jk))) → ∀ y, SDf (ur x 59 5 (some 1)) y → Q 0 y) : mSI mX3_readText [.ref 59, .ref 1, .int (nI n)] KW x Q := by
  have ml : (if (Int32.ofNat 1200) < nI n then (Int32.ofNat 1200) else nI n) = nI n := if_neg (fun z => absurd ((nI_ltI (a := 1200) (b := n) (by omega) (by omega)).mp z) (by omega))
  have hgo : ∀ a k, ¬ (a = 59 ∧ k = 5) → gr (ur x 59 5 (some 1)) a k = gr x a k := fun a k h => by rw [gr_ur, if_neg h]
  refine v_X3_readText_0 k59 k1t ⟨60, (hgo _ _ (by omega)).trans g0, k60, ?_⟩
  rw [ml]
  have f0 : SDf (ur x 59 5 (some 1)) (ui (ui (ui (ui (ui (ui (ur x 59 5 (some 1)) 59 6 (nI n)) 59 8 0) 59 2 0) 59 3 0) 59 4 (-1)) 59 11 0) := ((((((SDf.rf _).u (by omega)).u (by omega)).u (by omega)).u (by omega)).u (by omega)).u (by omega)
  have e6 : gi (ui (ui (ui (ui (ui (ui (ur x 59 5 (some 1)) 59 6 (nI n)) 59 8 0) 59 2 0) 59 3 0) 59 4 (-1)) 59 11 0) 59 6 = nI n := by simp [gi_ui]
  have e8 : gi (ui (ui (ui (ui (ui (ui (ur x 59 5 (some 1)) 59 6 (nI n)) 59 8 0) 59 2 0) 59 3 0) 59 4 (-1)) 59 11 0) 59 8 = 0 := by simp [gi_ui]
  have e11 : gi (ui (ui (ui (ui (ui (ui (ur x 59 5 (some 1)) 59 6 (nI n)) 59 8 0) 59 2 0) 59 3 0) 59 4 (-1)) 59 11 0) 59 11 = 0 := by simp [gi_ui]
  have r0 : SRf (ui (ui (ui (ui (ui (ui (ur x 59 5 (some 1)) 59 6 (nI n)) 59 8 0) 59 2 0) 59 3 0) 59 4 (-1)) 59 11 0) 60 := by
    have : SRf (ur x 59 5 (some 1)) 60 := by
      obtain ⟨r1, r2, r3, r4, r5, r6, r7, r8, r9⟩ := r
      refine ⟨(hgo _ _ (by omega)).trans r1, (hgo _ _ (by omega)).trans r2, (hgo _ _ (by omega)).trans r3, (hgo _ _ (by omega)).trans r4, (hgo _ _ (by omega)).trans r5, fun s hs => ?_, fun s t hs ht => ?_, fun s hs => ?_, fun s t hs ht => ?_⟩
      · rw [hgo _ _ (by omega)]; exact r6 s hs
      · rw [hgo _ _ (by omega), hgo _ _ (by omega)]; exact r7 s t hs ht
      · rw [hgo _ _ (by omega)]; exact r8 s hs
      · rw [hgo _ _ (by omega), hgo _ _ (by omega)]; exact r9 s t hs ht
    exact this.keep rfl
  generalize ui (ui (ui (ui (ui (ui (ur x 59 5 (some 1)) 59 6 (nI n)) 59 8 0) 59 2 0) 59 3 0) 59 4 (-1)) 59 11 0 = u at f0 e6 e8 e11 r0
  refine sp_X4_clear jk r0 (fun y h1 h2 E => ?_)
  have hg : ∀ a k, gr y a k = gr (ur x 59 5 (some 1)) a k := fun a k => by unfold gr; rw [h1, f0.1]
  refine ⟨114, (hg _ _).trans ((hgo _ _ (by omega)).trans g1), k114, ?_⟩
  have f1 : SDf (ur x 59 5 (some 1)) (ui y 114 0 0) := (show SDf (ur x 59 5 (some 1)) y from ⟨h1.trans f0.1, fun a k h => (h2 a k (by omega)).trans (f0.2 a k h)⟩).u (by omega)
  have B : RB (ui y 114 0 0) b n := by
    refine ⟨hn, by rw [gi_ui, if_neg (by omega)]; exact (h2 59 6 (by omega)).trans e6, fun i hi => (f1.2 1 i (by omega)).trans (hb i hi), hB, (hg _ _).trans ((hgo _ _ (by omega)).trans g0), (hg _ _).trans ((hgo _ _ (by omega)).trans g1), (hg _ _).trans (by rw [gr_ur, if_pos ⟨rfl, rfl⟩]), (hg _ _).trans ((hgo _ _ (by omega)).trans g2)⟩
  have E1 : SEA (ui y 114 0 0) 60 (T00 jk) 0 0 0 0 0 := E.keep rfl (fun a k _ _ _ => by rw [gi_ui, if_neg (by omega)])
  have y8 : gi (ui y 114 0 0) 59 8 = nI 0 := by rw [gi_ui, if_neg (by omega)]; exact (h2 59 8 (by omega)).trans e8
  have y11 : gi (ui y 114 0 0) 59 11 = 0 := by rw [gi_ui, if_neg (by omega)]; exact (h2 59 11 (by omega)).trans e11
  have y114 : gi (ui y 114 0 0) 114 0 = 0 := by rw [gi_ui, if_pos ⟨rfl, rfl⟩]
  generalize ui y 114 0 0 = v at f1 B E1 y8 y11 y114
  refine sp_X3_advance (p := 0) B.2.2.2.2.2.2.1 B.1 B.2.2.1 B.2.2.2.1 B.2.1 y8 (by omega) (fun w fw tw => ?_)
  refine sp_X3_readWeeks (B.at fw) tw (by omega) ((fw.2 59 11 (by omega)).trans y11) (E1.keep fw.1 (fun a k _ _ _ => fw.2 a k (by omega))) ((fw.2 114 0 (by omega)).trans y114) (fun o z fz cz => ⟨fun _ => ?_, fun q => absurd q (by decide)⟩) (fun o z fz => ⟨fun q => absurd rfl q, fun _ => k0 (Or.inl o) z ((f1.sc fw.sc).sc fz)⟩)
  have hs : nxt b n 3 0 ≤ n := nxt_le (by omega)
  exact lp_X3_readText_75 (b := b) (n := n) (W := tV b n (nxt b n 1 0)) o.2.1.2.1 (n + 1) (s00 b n jk) (ui z 59 2 1) 0 1 (by omega) (by omega) (((f1.sc fw.sc).sc fz).u (by omega)) (cz.u (by omega)) (by rw [gi_ui, if_pos ⟨rfl, rfl⟩]; rfl) (fun t L z' r f' c' e' => k1 o t L z' r f' c' e') (fun r z' f' => k0 (Or.inr ⟨o, r⟩) z' f')

end
end
