/-! reading a TEXT: tokens, as both sides see them (b: the tape's bytes, n of them) -/
theorem k59 : kk KW 59 = some (3, 0) := by decide
theorem k720 : kk KW 720 = some (21, 1200) := by decide
theorem isB_ex {v : Int32} (h : isB v) : ∃ k, k < 256 ∧ v = (Int8.ofNat k).toInt32 := by
  refine ⟨v.toInt8.toBitVec.toNat, v.toInt8.toBitVec.isLt, ?_⟩
  have e : Int8.ofNat v.toInt8.toBitVec.toNat = v.toInt8 := by
    apply Int8.toBitVec_inj.mp
    show BitVec.ofNat 8 v.toInt8.toBitVec.toNat = v.toInt8.toBitVec
    rw [BitVec.ofNat_toNat, BitVec.setWidth_eq]
  rw [e]
  exact h.symm
def FB (v : Int32) : Prop := (v &&& 255 = 32 ↔ v = 32) ∧ (v &&& 255 = 10 ↔ v = 10) ∧ ((97 ≤ v &&& 255 ∧ v &&& 255 ≤ 122) ↔ (97 ≤ v ∧ v ≤ 122)) ∧ ((48 ≤ v &&& 255 ∧ v &&& 255 ≤ 57) ↔ (48 ≤ v ∧ v ≤ 57)) ∧ (v &&& 255 = 59 ↔ v = 59) ∧ (v &&& 255 = 45 ↔ v = 45) ∧ ¬ v &&& 255 = -1 ∧ ((48 ≤ v ∧ v ≤ 57) → v &&& 255 = v ∧ v = nI (48 + (v.toNatClampNeg - 48)) ∧ v.toNatClampNeg - 48 < 10) ∧ ((97 ≤ v ∧ v ≤ 122) → 97 ≤ v.toNatClampNeg ∧ v.toNatClampNeg ≤ 122 ∧ v = nI v.toNatClampNeg)
theorem FB_0 : ∀ k, k < 256 → ((Int8.ofNat k).toInt32 &&& 255 = 32 ↔ (Int8.ofNat k).toInt32 = 32) := by decide +kernel
theorem FB_1 : ∀ k, k < 256 → ((Int8.ofNat k).toInt32 &&& 255 = 10 ↔ (Int8.ofNat k).toInt32 = 10) := by decide +kernel
theorem FB_2 : ∀ k, k < 256 → ((97 ≤ (Int8.ofNat k).toInt32 &&& 255 ∧ (Int8.ofNat k).toInt32 &&& 255 ≤ 122) ↔ (97 ≤ (Int8.ofNat k).toInt32 ∧ (Int8.ofNat k).toInt32 ≤ 122)) := by decide +kernel
theorem FB_3 : ∀ k, k < 256 → ((48 ≤ (Int8.ofNat k).toInt32 &&& 255 ∧ (Int8.ofNat k).toInt32 &&& 255 ≤ 57) ↔ (48 ≤ (Int8.ofNat k).toInt32 ∧ (Int8.ofNat k).toInt32 ≤ 57)) := by decide +kernel
theorem FB_4 : ∀ k, k < 256 → ((Int8.ofNat k).toInt32 &&& 255 = 59 ↔ (Int8.ofNat k).toInt32 = 59) := by decide +kernel
theorem FB_5 : ∀ k, k < 256 → ((Int8.ofNat k).toInt32 &&& 255 = 45 ↔ (Int8.ofNat k).toInt32 = 45) := by decide +kernel
theorem FB_6 : ∀ k, k < 256 → (¬ (Int8.ofNat k).toInt32 &&& 255 = -1) := by decide +kernel
theorem FB_7 : ∀ k, k < 256 → ((48 ≤ (Int8.ofNat k).toInt32 ∧ (Int8.ofNat k).toInt32 ≤ 57) → (Int8.ofNat k).toInt32 &&& 255 = (Int8.ofNat k).toInt32 ∧ (Int8.ofNat k).toInt32 = nI (48 + ((Int8.ofNat k).toInt32.toNatClampNeg - 48)) ∧ (Int8.ofNat k).toInt32.toNatClampNeg - 48 < 10) := by decide +kernel
theorem FB_8 : ∀ k, k < 256 → ((97 ≤ (Int8.ofNat k).toInt32 ∧ (Int8.ofNat k).toInt32 ≤ 122) → 97 ≤ (Int8.ofNat k).toInt32.toNatClampNeg ∧ (Int8.ofNat k).toInt32.toNatClampNeg ≤ 122 ∧ (Int8.ofNat k).toInt32 = nI (Int8.ofNat k).toInt32.toNatClampNeg) := by decide +kernel
theorem FB_of {v : Int32} (h : isB v) : FB v := by
  obtain ⟨k, hk, rfl⟩ := isB_ex h
  exact ⟨FB_0 k hk, FB_1 k hk, FB_2 k hk, FB_3 k hk, FB_4 k hk, FB_5 k hk, FB_6 k hk, FB_7 k hk, FB_8 k hk⟩
def skB (b : TT) : Nat → Nat → Nat
  | 0, p => p
  | d + 1, p => if b p = 32 ∨ b p = 10 then skB b d (p + 1) else p
def scL (b : TT) : Nat → Nat → Nat
  | 0, p => p
  | d + 1, p => if 97 ≤ b p ∧ b p ≤ 122 then scL b d (p + 1) else p
def scD (b : TT) : Nat → Nat → Nat
  | 0, p => p
  | d + 1, p => if 48 ≤ b p ∧ b p ≤ 57 then scD b d (p + 1) else p
def nvD (b : TT) : Nat → Nat → Nat → Nat
  | 0, _, V => V
  | d + 1, p, V => if 48 ≤ b p ∧ b p ≤ 57 then nvD b d (p + 1) (10 * V + ((b p).toNatClampNeg - 48)) else V
theorem skB_b (b : TT) : ∀ d p, p ≤ skB b d p ∧ skB b d p ≤ p + d := by
  intro d
  induction d with
  | zero => intro p; exact ⟨Nat.le_refl _, Nat.le_refl _⟩
  | succ d ih =>
    intro p
    unfold skB
    by_cases h : b p = 32 ∨ b p = 10
    · rw [if_pos h]
      have := ih (p + 1)
      omega
    · rw [if_neg h]
      omega
theorem scL_b (b : TT) : ∀ d p, p ≤ scL b d p ∧ scL b d p ≤ p + d := by
  intro d
  induction d with
  | zero => intro p; exact ⟨Nat.le_refl _, Nat.le_refl _⟩
  | succ d ih =>
    intro p
    unfold scL
    by_cases h : 97 ≤ b p ∧ b p ≤ 122
    · rw [if_pos h]
      have := ih (p + 1)
      omega
    · rw [if_neg h]
      omega
theorem scL_l (b : TT) : ∀ d p i, p ≤ i → i < scL b d p → 97 ≤ b i ∧ b i ≤ 122 := by
  intro d
  induction d with
  | zero =>
    intro p i h1 h2
    unfold scL at h2
    omega
  | succ d ih =>
    intro p i h1 h2
    unfold scL at h2
    by_cases h : 97 ≤ b p ∧ b p ≤ 122
    · rw [if_pos h] at h2
      by_cases e : i = p
      · rw [e]; exact h
      · exact ih (p + 1) i (by omega) h2
    · rw [if_neg h] at h2
      omega
theorem scD_b (b : TT) : ∀ d p, p ≤ scD b d p ∧ scD b d p ≤ p + d := by
  intro d
  induction d with
  | zero => intro p; exact ⟨Nat.le_refl _, Nat.le_refl _⟩
  | succ d ih =>
    intro p
    unfold scD
    by_cases h : 48 ≤ b p ∧ b p ≤ 57
    · rw [if_pos h]
      have := ih (p + 1)
      omega
    · rw [if_neg h]
      omega
/-- a token: from, kind, to, number -/
def tS (b : TT) (n p : Nat) : Nat := skB b (n - p) p
def tK (b : TT) (n p : Nat) : Nat := if n ≤ tS b n p then 0 else if 97 ≤ b (tS b n p) ∧ b (tS b n p) ≤ 122 then 1 else if 48 ≤ b (tS b n p) ∧ b (tS b n p) ≤ 57 then 2 else 3
def tE (b : TT) (n p : Nat) : Nat := if tK b n p = 0 then tS b n p else if tK b n p = 1 then scL b (n - tS b n p) (tS b n p) else if tK b n p = 2 then scD b (n - tS b n p) (tS b n p) else tS b n p + 1
def tV (b : TT) (n p : Nat) : Nat := nvD b (n - tS b n p) (tS b n p) 0
theorem tS_b {b : TT} {n p : Nat} (h : p ≤ n) : p ≤ tS b n p ∧ tS b n p ≤ n := by
  have := skB_b b (n - p) p
  unfold tS
  omega
theorem tK_4 (b : TT) (n p : Nat) : tK b n p < 4 := by
  unfold tK
  (repeat' split) <;> omega
theorem tK_0 {b : TT} {n p : Nat} (h : p ≤ n) : tK b n p = 0 ↔ tS b n p = n := by
  have := tS_b (b := b) h
  unfold tK
  by_cases c : n ≤ tS b n p
  · rw [if_pos c]; omega
  · rw [if_neg c]
    constructor
    · intro z
      exfalso
      revert z
      (repeat' split) <;> omega
    · intro z; omega
theorem tE_b {b : TT} {n p : Nat} (h : p ≤ n) : tS b n p ≤ tE b n p ∧ tE b n p ≤ n ∧ (¬ tK b n p = 0 → tS b n p < tE b n p) := by
  have hs := tS_b (b := b) h
  have h1 := scL_b b (n - tS b n p) (tS b n p)
  have h2 := scD_b b (n - tS b n p) (tS b n p)
  have hk := tK_0 (b := b) h
  unfold tE
  by_cases c0 : tK b n p = 0
  · rw [if_pos c0]; omega
  · rw [if_neg c0]
    have hlt : tS b n p < n := by omega
    have hd : n - tS b n p = (n - tS b n p - 1) + 1 := by omega
    by_cases c1 : tK b n p = 1
    · rw [if_pos c1]
      have hl : 97 ≤ b (tS b n p) ∧ b (tS b n p) ≤ 122 := by
        unfold tK at c1
        rw [if_neg (by omega)] at c1
        by_cases z : 97 ≤ b (tS b n p) ∧ b (tS b n p) ≤ 122
        · exact z
        · rw [if_neg z] at c1
          exfalso
          revert c1
          (repeat' split) <;> omega
      refine ⟨h1.1, by omega, fun _ => ?_⟩
      rw [hd]
      unfold scL
      rw [if_pos hl]
      have := scL_b b (n - tS b n p - 1) (tS b n p + 1)
      omega
    · rw [if_neg c1]
      by_cases c2 : tK b n p = 2
      · rw [if_pos c2]
        have hl : 48 ≤ b (tS b n p) ∧ b (tS b n p) ≤ 57 := by
          unfold tK at c2
          rw [if_neg (by omega)] at c2
          by_cases z1 : 97 ≤ b (tS b n p) ∧ b (tS b n p) ≤ 122
          · rw [if_pos z1] at c2; omega
          · rw [if_neg z1] at c2
            by_cases z : 48 ≤ b (tS b n p) ∧ b (tS b n p) ≤ 57
            · exact z
            · rw [if_neg z] at c2; omega
        refine ⟨h2.1, by omega, fun _ => ?_⟩
        rw [hd]
        unfold scD
        rw [if_pos hl]
        have := scD_b b (n - tS b n p - 1) (tS b n p + 1)
        omega
      · rw [if_neg c2]; omega
/-! words -/
def mtb (b : TT) (e : Nat) : List Int32 → Nat → Bool
  | [], a => decide (a = e)
  | c :: l, a => (decide (a < e) && decide (b a = c)) && mtb b e l (a + 1)
theorem mtb_eq {b : TT} {e : Nat} : ∀ (l m : List Int32) (a : Nat), mtb b e l a = true → mtb b e m a = true → l = m := by
  intro l
  induction l with
  | nil =>
    intro m a h1 h2
    cases m with
    | nil => rfl
    | cons c m =>
      simp only [mtb, Bool.and_eq_true, decide_eq_true_eq] at h1 h2
      omega
  | cons c l ih =>
    intro m a h1 h2
    cases m with
    | nil =>
      simp only [mtb, Bool.and_eq_true, decide_eq_true_eq] at h1 h2
      omega
    | cons c' m =>
      simp only [mtb, Bool.and_eq_true, decide_eq_true_eq] at h1 h2
      rw [ih m (a + 1) h1.2 h2.2, ← h1.1.2, ← h2.1.2]
def wtl (b : TT) (s e : Nat) : List Int32 → Nat → Nat → Bool → Int32
  | [], _, _, _ => -1
  | c :: l, w, a, al => if c = 32 then (if al = true ∧ a = e then nI w else wtl b s e l (w + 1) s true) else wtl b s e l w (a + 1) (al && (decide (a < e) && decide (b a = c)))
def wix (b : TT) (s e : Nat) : List (List Int32) → Nat → Int32
  | [], _ => -1
  | w :: ws, k => if mtb b e w s = true then nI k else wix b s e ws (k + 1)
theorem wtl_w {b : TT} {s e : Nat} (l : List Int32) (k : Nat) : ∀ (w : List Int32) (a : Nat) (al : Bool), (∀ c ∈ w, ¬ c = 32) → wtl b s e (w ++ 32 :: l) k a al = if (al && mtb b e w a) = true then nI k else wtl b s e l (k + 1) s true := by
  intro w
  induction w with
  | nil =>
    intro a al _
    show (if (32 : Int32) = 32 then (if al = true ∧ a = e then nI k else wtl b s e l (k + 1) s true) else _) = _
    rw [if_pos rfl]
    simp only [mtb, Bool.and_eq_true, decide_eq_true_eq]
  | cons c w ih =>
    intro a al h
    show (if c = 32 then _ else wtl b s e (w ++ 32 :: l) k (a + 1) (al && (decide (a < e) && decide (b a = c)))) = _
    rw [if_neg (h c List.mem_cons_self), ih (a + 1) _ (fun d hd => h d (List.mem_cons_of_mem _ hd))]
    simp only [mtb, Bool.and_assoc]
def WL : List (List Int32) := [[109, 111, 110], [116, 117, 101], [119, 101, 100], [116, 104, 117], [102, 114, 105], [115, 97, 116], [115, 117, 110], [119, 101, 101, 107, 115], [108, 105, 109, 105, 116], [99, 97, 114, 114, 105, 101, 114], [115, 101, 114, 105, 101, 115], [97, 115, 107], [105, 110], [111, 117, 116], [110, 101, 119], [98, 121]]
def jnW : List (List Int32) → List Int32
  | [] => []
  | w :: ws => w ++ 32 :: jnW ws
theorem wtl_ws {b : TT} {s e : Nat} : ∀ (ws : List (List Int32)) (k : Nat), (∀ w ∈ ws, ∀ c ∈ w, ¬ c = 32) → wtl b s e (jnW ws) k s true = wix b s e ws k := by
  intro ws
  induction ws with
  | nil => intro k _; rfl
  | cons w ws ih =>
    intro k h
    unfold jnW wix
    rw [wtl_w _ _ w s true (h w List.mem_cons_self), ih (k + 1) (fun v hv => h v (List.mem_cons_of_mem _ hv)), Bool.true_and]
theorem WL_j : (mSq 0).2.2.2 = jnW WL := by decide +kernel
theorem WL_n : ∀ w ∈ WL, ∀ c ∈ w, ¬ c = 32 := by decide
theorem WL_len : WL.length = 16 := rfl
/-- a word's number -/
def wno (b : TT) (s e : Nat) : Int32 := wix b s e WL 0
theorem wix_hit {b : TT} {s e : Nat} : ∀ (ws : List (List Int32)) (k i : Nat), ws.Pairwise (fun a c => ¬ a = c) → (h : i < ws.length) → mtb b e (ws[i]) s = true → wix b s e ws k = nI (k + i) := by
  intro ws
  induction ws with
  | nil => intro k i _ h; exact absurd h (Nat.not_lt_zero i)
  | cons w ws ih =>
    intro k i hp h hm
    unfold wix
    cases i with
    | zero => rw [if_pos (show mtb b e w s = true from hm)]; rfl
    | succ i =>
      have hw : ¬ mtb b e w s = true := by
        intro z
        have := mtb_eq _ _ _ z hm
        have hp' := (List.pairwise_cons.mp hp).1 (ws[i]'(by simpa using h)) (List.getElem_mem _)
        exact hp' this
      rw [if_neg hw, ih (k + 1) i (List.pairwise_cons.mp hp).2 (by simpa using h) hm]
      congr 1
      omega
theorem wix_miss {b : TT} {s e : Nat} : ∀ (ws : List (List Int32)) (k : Nat), (∀ i, (h : i < ws.length) → ¬ mtb b e (ws[i]) s = true) → wix b s e ws k = -1 := by
  intro ws
  induction ws with
  | nil => intro k _; rfl
  | cons w ws ih =>
    intro k h
    unfold wix
    rw [if_neg (show ¬ mtb b e w s = true from h 0 (Nat.succ_pos _))]
    exact ih (k + 1) (fun i hi => h (i + 1) (by simpa using hi))
theorem WL_p : WL.Pairwise (fun a c => ¬ a = c) := by decide
theorem wno_i {b : TT} {s e i : Nat} (hi : i < 16) : wno b s e = nI i ↔ mtb b e (WL.getD i []) s = true := by
  have e1 : ∀ j, (h : j < 16) → WL.getD j [] = WL[j]'h := fun j h => by rw [List.getD_eq_getElem?_getD, List.getElem?_eq_getElem (show j < WL.length from h)]; rfl
  constructor
  · intro h
    by_cases c : ∃ j, ∃ h : j < 16, mtb b e (WL[j]'h) s = true
    · obtain ⟨j, hj, hm⟩ := c
      have := wix_hit (b := b) (s := s) (e := e) WL 0 j WL_p hj hm
      unfold wno at h
      rw [this, Nat.zero_add] at h
      have : j = i := (nI_eq (by omega) (by omega)).mp h
      subst this
      rw [e1 j hj]; exact hm
    · have := wix_miss (b := b) (s := s) (e := e) WL 0 (fun j hj hm => c ⟨j, hj, hm⟩)
      unfold wno at h
      rw [this] at h
      exact absurd h (fun z => absurd (show (-1 : Int32) < 0 by decide) (by rw [z]; exact nI_pos (by omega)))
  · intro h
    rw [e1 i hi] at h
    have := wix_hit (b := b) (s := s) (e := e) WL 0 i WL_p hi h
    rw [Nat.zero_add] at this
    exact this
theorem wno_c (b : TT) (s e : Nat) : wno b s e = -1 ∨ ∃ i, i < 16 ∧ wno b s e = nI i := by
  by_cases c : ∃ j, ∃ h : j < 16, mtb b e (WL[j]'h) s = true
  · obtain ⟨j, hj, hm⟩ := c
    have := wix_hit (b := b) (s := s) (e := e) WL 0 j WL_p hj hm
    rw [Nat.zero_add] at this
    exact Or.inr ⟨j, hj, this⟩
  · exact Or.inl (wix_miss WL 0 (fun j hj hm => c ⟨j, hj, hm⟩))
set_option maxHeartbeats 2000000 in
theorem v_X3_wordTold_0 {K : Sh} {x : Cn} {Q : Int32 → Cn → Prop} {b0 : Nat}  (k_b0 : kk K b0 = some (3, 0)) (K0 : GI mX3_wordTold 12 [some (.ref b0), some (.int 0), some (.int (gi x b0 7)), some (.int 1), some (.int 0), none] [] K x Q) : mSI mX3_wordTold [.ref b0] K x Q := by
  refine s_I (by decide) (by simp [Value.category]) (Nat.le_of_ble_eq_true rfl) ?_
  show mGM mX3_wordTold 0 [some (.ref b0), none, none, none, none, none] [] (hp K x) (PI K Q)
  refine r_iconst (pc := 0) (v := 0) dX3_wordTold_0 (by decide) ?_
  refine r_istore_n (pc := 1) dX3_wordTold_1 (by decide) ?_
  refine r_aload_n (pc := 2) (L := [some (.ref b0), some (.int 0), none, none, none, none]) dX3_wordTold_2 rfl ?_
  refine s_getI (pc := 3) dX3_wordTold_3 fl_X3_42 rfl k_b0 ?_
  refine r_istore_n (pc := 6) dX3_wordTold_6 (by decide) ?_
  refine r_iconst (pc := 7) (L := [some (.ref b0), some (.int 0), some (.int (gi x b0 7)), none, none, none]) (v := 1) dX3_wordTold_7 (by decide) ?_
  refine r_istore_n (pc := 8) dX3_wordTold_8 (by decide) ?_
  refine r_iconst (pc := 9) (L := [some (.ref b0), some (.int 0), some (.int (gi x b0 7)), some (.int 1), none, none]) (v := 0) dX3_wordTold_9 (by decide) ?_
  refine r_istore (pc := 10) dX3_wordTold_10 (by decide) ?_
  exact r_le (L' := [some (.ref b0), some (.int 0), some (.int (gi x b0 7)), some (.int 1), some (.int 0), none]) ⟨rfl, ⟨rfl, ⟨rfl, ⟨rfl, ⟨rfl, trivial⟩⟩⟩⟩⟩ K0
set_option maxHeartbeats 2000000 in
theorem v_X3_wordTold_12 {K : Sh} {x : Cn} {Q : Int32 → Cn → Prop} {b0 : Nat} {l1 : Int32} {l2 : Int32} {l3 : Int32} {l4 : Int32} {b0_5 : Nat} {n_b0_5 : Nat} (k_b0 : kk K b0 = some (3, 0)) (g_b0_5 : gr x b0 5 = some b0_5) (k_b0_5 : kk K b0_5 = some (21, n_b0_5)) (K0 : ((nI (mSq 0).2.2.2.length) ≤ l4 → (Q (-1) x)) ∧ (¬ (nI (mSq 0).2.2.2.length) ≤ l4 → (∃ n_2 : Nat, l4 = nI n_2 ∧ (n_2 < (mSq 0).2.2.2.length ∧ ((¬ ((mSq 0).2.2.2.getD n_2 0) = 32 → ((l3 = 0 → (GI mX3_wordTold 12 [some (.ref b0), some (.int l1), some (.int (l2 + 1)), some (.int 0), some (.int (l4 + 1)), none] [] K x Q)) ∧ (¬ l3 = 0 → (((gi x b0 8) ≤ l2 → (GI mX3_wordTold 12 [some (.ref b0), some (.int l1), some (.int (l2 + 1)), some (.int 0), some (.int (l4 + 1)), none] [] K x Q)) ∧ (¬ (gi x b0 8) ≤ l2 → (vp_in l2 n_b0_5 ∧ ((¬ (gi x b0_5 (l2 : Int32).toNatClampNeg) = ((mSq 0).2.2.2.getD n_2 0) → (GI mX3_wordTold 12 [some (.ref b0), some (.int l1), some (.int (l2 + 1)), some (.int 0), some (.int (l4 + 1)), none] [] K x Q)) ∧ ((gi x b0_5 (l2 : Int32).toNatClampNeg) = ((mSq 0).2.2.2.getD n_2 0) → (GI mX3_wordTold 12 [some (.ref b0), some (.int l1), some (.int (l2 + 1)), some (.int 1), some (.int (l4 + 1)), none] [] K x Q))))))))) ∧ (((mSq 0).2.2.2.getD n_2 0) = 32 → ((l3 = 0 → (GI mX3_wordTold 12 [some (.ref b0), some (.int (l1 + 1)), some (.int (gi x b0 7)), some (.int 1), some (.int (l4 + 1)), none] [] K x Q)) ∧ (¬ l3 = 0 → ((¬ l2 = (gi x b0 8) → (GI mX3_wordTold 12 [some (.ref b0), some (.int (l1 + 1)), some (.int (gi x b0 7)), some (.int 1), some (.int (l4 + 1)), none] [] K x Q)) ∧ (l2 = (gi x b0 8) → (Q l1 x))))))))))) : GI mX3_wordTold 12 [some (.ref b0), some (.int l1), some (.int l2), some (.int l3), some (.int l4), none] [] K x Q := by
  show mGM mX3_wordTold 12 [some (.ref b0), some (.int l1), some (.int l2), some (.int l3), some (.int l4), none] [] (hp K x) (PI K Q)
  refine r_iload (pc := 12) dX3_wordTold_12 rfl ?_
  refine r_ldcS (pc := 14) (j := 0) dX3_wordTold_14 rfl ?_
  refine s_VIs (pc := 16) mJ0_length_8abf5 (j := 0) (q := (mSq 0)) (As := []) dX3_wordTold_16 lk_X3_217 in_J0_length_8abf5 mo_J0_length_8abf5 (mSq_at (k := 0) (by decide)) rfl ⟨by decide, by decide⟩ (Nat.le_of_ble_eq_true rfl) (sp_len (mSq_at (k := 0) (by decide)) ?_)
  refine r_icmp_ge (pc := 19) (tgt := 103) dX3_wordTold_19 (by decide) (fun q => ?_) (fun q => ?_)
  · have K0 := K0.1 q
    refine r_iconst (pc := 103) (v := (-1)) dX3_wordTold_103 (by decide) ?_
    exact s_iret rfl dX3_wordTold_104 K0
  · have K0 := K0.2 q
    refine r_ldcS (pc := 22) (j := 0) dX3_wordTold_22 rfl ?_
    refine r_iload (pc := 24) dX3_wordTold_24 rfl ?_
    obtain ⟨n_2, en_2, un_2, K0⟩ := K0
    refine s_VIs (pc := 26) mJ0_charAt_5068e (j := 0) (q := (mSq 0)) (As := [.int l4]) dX3_wordTold_26 lk_X3_221 in_J0_charAt_5068e mo_J0_charAt_5068e (mSq_at (k := 0) (by decide)) rfl ⟨by decide, by decide⟩ (Nat.le_of_ble_eq_true rfl) (sp_chv (mSq_at (k := 0) (by decide)) en_2 un_2 ?_)
    refine r_istore (pc := 29) dX3_wordTold_29 (by decide) ?_
    refine r_iload (pc := 31) (L := [some (.ref b0), some (.int l1), some (.int l2), some (.int l3), some (.int l4), some (.int ((mSq 0).2.2.2.getD n_2 0))]) dX3_wordTold_31 rfl ?_
    refine r_bipush (pc := 33) (v := 32) dX3_wordTold_33 (by decide) ?_
    refine r_icmp_ne (pc := 35) (tgt := 65) dX3_wordTold_35 (by decide) (fun q => ?_) (fun q => ?_)
    · have K0 := K0.1 q
      refine r_iload_n (pc := 65) dX3_wordTold_65 rfl ?_
      refine r_if_eq (pc := 66) (tgt := 92) dX3_wordTold_66 (by decide) (fun q => ?_) (fun q => ?_)
      · have K0 := K0.1 q
        refine r_iconst (pc := 92) (v := 0) dX3_wordTold_92 (by decide) ?_
        refine r_istore_n (pc := 93) dX3_wordTold_93 (by decide) ?_
        refine r_iinc (pc := 94) (L := [some (.ref b0), some (.int l1), some (.int l2), some (.int 0), some (.int l4), some (.int ((mSq 0).2.2.2.getD n_2 0))]) (v := l2 + 1) dX3_wordTold_94 rfl rfl (by decide) ?_
        refine r_iinc (pc := 97) (L := [some (.ref b0), some (.int l1), some (.int (l2 + 1)), some (.int 0), some (.int l4), some (.int ((mSq 0).2.2.2.getD n_2 0))]) (v := l4 + 1) dX3_wordTold_97 rfl rfl (by decide) ?_
        refine r_goto (pc := 100) (L := [some (.ref b0), some (.int l1), some (.int (l2 + 1)), some (.int 0), some (.int (l4 + 1)), some (.int ((mSq 0).2.2.2.getD n_2 0))]) (tgt := 12) dX3_wordTold_100 (by decide) ?_
        exact r_le (L' := [some (.ref b0), some (.int l1), some (.int (l2 + 1)), some (.int 0), some (.int (l4 + 1)), none]) ⟨rfl, ⟨rfl, ⟨rfl, ⟨rfl, ⟨rfl, trivial⟩⟩⟩⟩⟩ K0
      · have K0 := K0.2 q
        refine r_iload_n (pc := 69) dX3_wordTold_69 rfl ?_
        refine r_aload_n (pc := 70) dX3_wordTold_70 rfl ?_
        refine s_getI (pc := 71) dX3_wordTold_71 fl_X3_45 rfl k_b0 ?_
        refine r_icmp_ge (pc := 74) (tgt := 92) dX3_wordTold_74 (by decide) (fun q => ?_) (fun q => ?_)
        · have K0 := K0.1 q
          refine r_iconst (pc := 92) (v := 0) dX3_wordTold_92 (by decide) ?_
          refine r_istore_n (pc := 93) dX3_wordTold_93 (by decide) ?_
          refine r_iinc (pc := 94) (L := [some (.ref b0), some (.int l1), some (.int l2), some (.int 0), some (.int l4), some (.int ((mSq 0).2.2.2.getD n_2 0))]) (v := l2 + 1) dX3_wordTold_94 rfl rfl (by decide) ?_
          refine r_iinc (pc := 97) (L := [some (.ref b0), some (.int l1), some (.int (l2 + 1)), some (.int 0), some (.int l4), some (.int ((mSq 0).2.2.2.getD n_2 0))]) (v := l4 + 1) dX3_wordTold_97 rfl rfl (by decide) ?_
          refine r_goto (pc := 100) (L := [some (.ref b0), some (.int l1), some (.int (l2 + 1)), some (.int 0), some (.int (l4 + 1)), some (.int ((mSq 0).2.2.2.getD n_2 0))]) (tgt := 12) dX3_wordTold_100 (by decide) ?_
          exact r_le (L' := [some (.ref b0), some (.int l1), some (.int (l2 + 1)), some (.int 0), some (.int (l4 + 1)), none]) ⟨rfl, ⟨rfl, ⟨rfl, ⟨rfl, ⟨rfl, trivial⟩⟩⟩⟩⟩ K0
        · have K0 := K0.2 q
          refine r_aload_n (pc := 77) dX3_wordTold_77 rfl ?_
          refine s_getR (pc := 78) dX3_wordTold_78 fl_X3_35 rfl k_b0 g_b0_5 ?_
          refine r_iload_n (pc := 81) dX3_wordTold_81 rfl ?_
          obtain ⟨i_6, K0⟩ := K0
          refine s_bald (pc := 82) dX3_wordTold_82 k_b0_5 i_6 ?_
          refine r_iload (pc := 83) dX3_wordTold_83 rfl ?_
          refine r_icmp_ne (pc := 85) (tgt := 92) dX3_wordTold_85 (by decide) (fun q => ?_) (fun q => ?_)
          · have K0 := K0.1 q
            refine r_iconst (pc := 92) (v := 0) dX3_wordTold_92 (by decide) ?_
            refine r_istore_n (pc := 93) dX3_wordTold_93 (by decide) ?_
            refine r_iinc (pc := 94) (L := [some (.ref b0), some (.int l1), some (.int l2), some (.int 0), some (.int l4), some (.int ((mSq 0).2.2.2.getD n_2 0))]) (v := l2 + 1) dX3_wordTold_94 rfl rfl (by decide) ?_
            refine r_iinc (pc := 97) (L := [some (.ref b0), some (.int l1), some (.int (l2 + 1)), some (.int 0), some (.int l4), some (.int ((mSq 0).2.2.2.getD n_2 0))]) (v := l4 + 1) dX3_wordTold_97 rfl rfl (by decide) ?_
            refine r_goto (pc := 100) (L := [some (.ref b0), some (.int l1), some (.int (l2 + 1)), some (.int 0), some (.int (l4 + 1)), some (.int ((mSq 0).2.2.2.getD n_2 0))]) (tgt := 12) dX3_wordTold_100 (by decide) ?_
            exact r_le (L' := [some (.ref b0), some (.int l1), some (.int (l2 + 1)), some (.int 0), some (.int (l4 + 1)), none]) ⟨rfl, ⟨rfl, ⟨rfl, ⟨rfl, ⟨rfl, trivial⟩⟩⟩⟩⟩ K0
          · have K0 := K0.2 q
            refine r_iconst (pc := 88) (v := 1) dX3_wordTold_88 (by decide) ?_
            refine r_goto (pc := 89) (tgt := 93) dX3_wordTold_89 (by decide) ?_
            refine r_istore_n (pc := 93) dX3_wordTold_93 (by decide) ?_
            refine r_iinc (pc := 94) (L := [some (.ref b0), some (.int l1), some (.int l2), some (.int 1), some (.int l4), some (.int ((mSq 0).2.2.2.getD n_2 0))]) (v := l2 + 1) dX3_wordTold_94 rfl rfl (by decide) ?_
            refine r_iinc (pc := 97) (L := [some (.ref b0), some (.int l1), some (.int (l2 + 1)), some (.int 1), some (.int l4), some (.int ((mSq 0).2.2.2.getD n_2 0))]) (v := l4 + 1) dX3_wordTold_97 rfl rfl (by decide) ?_
            refine r_goto (pc := 100) (L := [some (.ref b0), some (.int l1), some (.int (l2 + 1)), some (.int 1), some (.int (l4 + 1)), some (.int ((mSq 0).2.2.2.getD n_2 0))]) (tgt := 12) dX3_wordTold_100 (by decide) ?_
            exact r_le (L' := [some (.ref b0), some (.int l1), some (.int (l2 + 1)), some (.int 1), some (.int (l4 + 1)), none]) ⟨rfl, ⟨rfl, ⟨rfl, ⟨rfl, ⟨rfl, trivial⟩⟩⟩⟩⟩ K0
    · have K0 := K0.2 q
      refine r_iload_n (pc := 38) dX3_wordTold_38 rfl ?_
      refine r_if_eq (pc := 39) (tgt := 52) dX3_wordTold_39 (by decide) (fun q => ?_) (fun q => ?_)
      · have K0 := K0.1 q
        refine r_iinc (pc := 52) (v := l1 + 1) dX3_wordTold_52 rfl rfl (by decide) ?_
        refine r_aload_n (pc := 55) (L := [some (.ref b0), some (.int (l1 + 1)), some (.int l2), some (.int l3), some (.int l4), some (.int ((mSq 0).2.2.2.getD n_2 0))]) dX3_wordTold_55 rfl ?_
        refine s_getI (pc := 56) dX3_wordTold_56 fl_X3_42 rfl k_b0 ?_
        refine r_istore_n (pc := 59) dX3_wordTold_59 (by decide) ?_
        refine r_iconst (pc := 60) (L := [some (.ref b0), some (.int (l1 + 1)), some (.int (gi x b0 7)), some (.int l3), some (.int l4), some (.int ((mSq 0).2.2.2.getD n_2 0))]) (v := 1) dX3_wordTold_60 (by decide) ?_
        refine r_istore_n (pc := 61) dX3_wordTold_61 (by decide) ?_
        refine r_goto (pc := 62) (L := [some (.ref b0), some (.int (l1 + 1)), some (.int (gi x b0 7)), some (.int 1), some (.int l4), some (.int ((mSq 0).2.2.2.getD n_2 0))]) (tgt := 97) dX3_wordTold_62 (by decide) ?_
        refine r_iinc (pc := 97) (v := l4 + 1) dX3_wordTold_97 rfl rfl (by decide) ?_
        refine r_goto (pc := 100) (L := [some (.ref b0), some (.int (l1 + 1)), some (.int (gi x b0 7)), some (.int 1), some (.int (l4 + 1)), some (.int ((mSq 0).2.2.2.getD n_2 0))]) (tgt := 12) dX3_wordTold_100 (by decide) ?_
        exact r_le (L' := [some (.ref b0), some (.int (l1 + 1)), some (.int (gi x b0 7)), some (.int 1), some (.int (l4 + 1)), none]) ⟨rfl, ⟨rfl, ⟨rfl, ⟨rfl, ⟨rfl, trivial⟩⟩⟩⟩⟩ K0
      · have K0 := K0.2 q
        refine r_iload_n (pc := 42) dX3_wordTold_42 rfl ?_
        refine r_aload_n (pc := 43) dX3_wordTold_43 rfl ?_
        refine s_getI (pc := 44) dX3_wordTold_44 fl_X3_45 rfl k_b0 ?_
        refine r_icmp_ne (pc := 47) (tgt := 52) dX3_wordTold_47 (by decide) (fun q => ?_) (fun q => ?_)
        · have K0 := K0.1 q
          refine r_iinc (pc := 52) (v := l1 + 1) dX3_wordTold_52 rfl rfl (by decide) ?_
          refine r_aload_n (pc := 55) (L := [some (.ref b0), some (.int (l1 + 1)), some (.int l2), some (.int l3), some (.int l4), some (.int ((mSq 0).2.2.2.getD n_2 0))]) dX3_wordTold_55 rfl ?_
          refine s_getI (pc := 56) dX3_wordTold_56 fl_X3_42 rfl k_b0 ?_
          refine r_istore_n (pc := 59) dX3_wordTold_59 (by decide) ?_
          refine r_iconst (pc := 60) (L := [some (.ref b0), some (.int (l1 + 1)), some (.int (gi x b0 7)), some (.int l3), some (.int l4), some (.int ((mSq 0).2.2.2.getD n_2 0))]) (v := 1) dX3_wordTold_60 (by decide) ?_
          refine r_istore_n (pc := 61) dX3_wordTold_61 (by decide) ?_
          refine r_goto (pc := 62) (L := [some (.ref b0), some (.int (l1 + 1)), some (.int (gi x b0 7)), some (.int 1), some (.int l4), some (.int ((mSq 0).2.2.2.getD n_2 0))]) (tgt := 97) dX3_wordTold_62 (by decide) ?_
          refine r_iinc (pc := 97) (v := l4 + 1) dX3_wordTold_97 rfl rfl (by decide) ?_
          refine r_goto (pc := 100) (L := [some (.ref b0), some (.int (l1 + 1)), some (.int (gi x b0 7)), some (.int 1), some (.int (l4 + 1)), some (.int ((mSq 0).2.2.2.getD n_2 0))]) (tgt := 12) dX3_wordTold_100 (by decide) ?_
          exact r_le (L' := [some (.ref b0), some (.int (l1 + 1)), some (.int (gi x b0 7)), some (.int 1), some (.int (l4 + 1)), none]) ⟨rfl, ⟨rfl, ⟨rfl, ⟨rfl, ⟨rfl, trivial⟩⟩⟩⟩⟩ K0
        · have K0 := K0.2 q
          refine r_iload_n (pc := 50) dX3_wordTold_50 rfl ?_
          exact s_iret rfl dX3_wordTold_51 K0
section
theorem lp_X3_wordTold {x : Cn} {Q : Int32 → Cn → Prop} {b : TT} {n s e : Nat} (c : gr x 59 5 = some 1) (hn : n ≤ 1200) (hb : ∀ i, i < n → gi x 1 i = b i) (h7 : gi x 59 7 = nI s) (h8 : gi x 59 8 = nI e) (he : e ≤ n) (hs : s ≤ e) : ∀ (l : List Int32) (i w a : Nat) (al : Bool), (mSq 0).2.2.2.drop i = l → i ≤ 73 → w ≤ i → a ≤ s + i → Q (wtl b s e l w a al) x → GI mX3_wordTold 12 [some (.ref 59), some (.int (nI w)), some (.int (nI a)), some (.int (b2i (al = true))), some (.int (nI i)), none] [] KW x Q := by
  have hL : (mSq 0).2.2.2.length = 73 := by decide +kernel
  intro l
  induction l with
  | nil =>
    intro i w a al hd hi hw ha k
    have hi2 : 73 ≤ i := by have := List.drop_eq_nil_iff.mp hd; omega
    refine v_X3_wordTold_12 k59 c k1t ⟨fun _ => k, fun z => absurd (by rw [hL]; exact nI_le hi2 (by omega)) z⟩
  | cons ch l ih =>
    intro i w a al hd hi hw ha k
    have hlt : i < 73 := by
      rcases Nat.lt_or_ge i 73 with q | q
      · exact q
      · rw [List.drop_eq_nil_of_le (by omega)] at hd; cases hd
    have hch : (mSq 0).2.2.2.getD i 0 = ch := by
      rw [List.getD_eq_getElem?_getD, ← List.head?_drop, hd]; rfl
    have hd2 : (mSq 0).2.2.2.drop (i + 1) = l := by
      rw [← List.tail_drop, hd]; rfl
    refine v_X3_wordTold_12 k59 c k1t ⟨fun z => absurd z (by rw [hL]; exact nI_ge hlt (by omega)), fun _ => ⟨i, rfl, by omega, ?_⟩⟩
    rw [hch, h7, h8, ← nI_succ, ← nI_succ, ← nI_succ]
    have nz : ∀ {v : Bool}, b2i (v = true) = 0 ↔ v = false := fun {v} => by cases v <;> decide
    have tr : (1 : Int32) = b2i (true = true) := rfl
    have fl : (0 : Int32) = b2i (false = true) := rfl
    refine ⟨fun z32 => ?_, fun z32 => ?_⟩
    · have kk : Q (wtl b s e l w (a + 1) (al && (decide (a < e) && decide (b a = ch)))) x := by
        have k2 : Q (if ch = 32 then (if al = true ∧ a = e then nI w else wtl b s e l (w + 1) s true) else wtl b s e l w (a + 1) (al && (decide (a < e) && decide (b a = ch)))) x := k
        rw [if_neg z32] at k2
        exact k2
      refine ⟨fun z => ?_, fun z => ⟨fun z2 => ?_, fun z2 => ?_⟩⟩
      · have hal : al = false := nz.mp z
        subst hal
        have := ih (i + 1) w (a + 1) false hd2 (by omega) (by omega) (by omega) kk
        exact this
      · have hal : al = true := by cases al with | false => exact absurd rfl z | true => rfl
        subst hal
        have hae : ¬ a < e := by have := (nI_leI (by omega) (by omega)).mp z2; omega
        rw [decide_eq_false hae] at kk
        exact ih (i + 1) w (a + 1) false hd2 (by omega) (by omega) (by omega) kk
      · have hal : al = true := by cases al with | false => exact absurd rfl z | true => rfl
        subst hal
        have hae : a < e := by
          rcases Nat.lt_or_ge a e with q | q
          · exact q
          · exact absurd (nI_le q (by omega)) z2
        rw [decide_eq_true hae] at kk
        refine ⟨vp_in_nI (by omega) (by decide), ?_⟩
        rw [nI_clamp (by omega), hb a (by omega)]
        refine ⟨fun z3 => ?_, fun z3 => ?_⟩
        · rw [decide_eq_false z3] at kk
          exact ih (i + 1) w (a + 1) false hd2 (by omega) (by omega) (by omega) kk
        · rw [decide_eq_true z3] at kk
          exact ih (i + 1) w (a + 1) true hd2 (by omega) (by omega) (by omega) kk
    · have kk : Q (if al = true ∧ a = e then nI w else wtl b s e l (w + 1) s true) x := by
        have k2 : Q (if ch = 32 then (if al = true ∧ a = e then nI w else wtl b s e l (w + 1) s true) else wtl b s e l w (a + 1) (al && (decide (a < e) && decide (b a = ch)))) x := k
        rw [if_pos z32] at k2
        exact k2
      refine ⟨fun z => ?_, fun z => ⟨fun z2 => ?_, fun z2 => ?_⟩⟩
      · have hal : al = false := nz.mp z
        rw [if_neg (fun q => by rw [hal] at q; exact absurd q.1 (by decide))] at kk
        exact ih (i + 1) (w + 1) s true hd2 (by omega) (by omega) (by omega) kk
      · rw [if_neg (fun q => z2 (by rw [q.2]))] at kk
        exact ih (i + 1) (w + 1) s true hd2 (by omega) (by omega) (by omega) kk
      · have hal : al = true := by cases al with | false => exact absurd rfl z | true => rfl
        rw [if_pos ⟨hal, (nI_eq (by omega) (by omega)).mp z2⟩] at kk
        exact kk
theorem sp_X3_wordTold {x : Cn} {Q : Int32 → Cn → Prop} {b : TT} {n s e : Nat} (c : gr x 59 5 = some 1) (hn : n ≤ 1200) (hb : ∀ i, i < n → gi x 1 i = b i) (h7 : gi x 59 7 = nI s) (h8 : gi x 59 8 = nI e) (he : e ≤ n) (hs : s ≤ e) (k : Q (wno b s e) x) : mSI mX3_wordTold [.ref 59] KW x Q := by
  refine v_X3_wordTold_0 k59 ?_
  rw [h7]
  refine lp_X3_wordTold c hn hb h7 h8 he hs _ 0 0 s true rfl (by omega) (by omega) (by omega) ?_
  rw [List.drop_zero, WL_j, wtl_ws WL 0 WL_n]
  exact k

end
