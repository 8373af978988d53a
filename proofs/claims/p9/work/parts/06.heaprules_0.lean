/-! fields and rows -/
def mTt (ci : Nat) : u_T := match ci with
  | 0 => TX0
  | 1 => TX1
  | 2 => TX2
  | 3 => TX3
  | 4 => TX4
  | 5 => TX5
  | 6 => TX6
  | 7 => TX7
  | _ => TX8
def mCn (ci : Nat) : String := match ci with
  | 0 => RX0
  | 1 => RX1
  | 2 => RX2
  | 3 => RX3
  | 4 => RX4
  | 5 => RX5
  | 6 => RX6
  | 7 => RX7
  | _ => RX8
theorem mCl_at {ci : Nat} (h : ci < 9) : vwCl[ci]? = some (mCn ci, mTt ci, mNF ci) := by
  match ci, h with
  | 0, _ => rfl
  | 1, _ => rfl
  | 2, _ => rfl
  | 3, _ => rfl
  | 4, _ => rfl
  | 5, _ => rfl
  | 6, _ => rfl
  | 7, _ => rfl
  | 8, _ => rfl
def mCk (c : Nat) : List Cond := match c with
  | 0 => tables_1_1
  | 1 => tables_1_2
  | 2 => tables_1_3
  | 3 => tables_1_4
  | 4 => tables_1_5
  | 5 => tables_1_6
  | 6 => tables_1_7
  | _ => tables_1_8
theorem mCk_sub {c : Nat} {w : Cond} (h : w ∈ mCk c) : w ∈ tables_1 := by
  simp only [tables_1, List.mem_append]
  match c, h with
  | 0, h => exact Or.inl h
  | 1, h => exact Or.inr (Or.inl h)
  | 2, h => exact Or.inr (Or.inr (Or.inl h))
  | 3, h => exact Or.inr (Or.inr (Or.inr (Or.inl h)))
  | 4, h => exact Or.inr (Or.inr (Or.inr (Or.inr (Or.inl h))))
  | 5, h => exact Or.inr (Or.inr (Or.inr (Or.inr (Or.inr (Or.inl h)))))
  | 6, h => exact Or.inr (Or.inr (Or.inr (Or.inr (Or.inr (Or.inr (Or.inl h))))))
  | _ + 7, h => exact Or.inr (Or.inr (Or.inr (Or.inr (Or.inr (Or.inr (Or.inr (h)))))))
theorem mIn_ix {ws : List Cond} (ix : List (Nat × Nat)) (h : ix.map (fun p => (mCk p.1)[p.2]?) = ws.map some) (g : ws.all goodWord = true) : ∀ w ∈ ws, w ∈ mTb := fun w hw => by
  have h1 : some w ∈ ix.map (fun p => (mCk p.1)[p.2]?) := by rw [h]; exact List.mem_map.mpr ⟨w, hw, rfl⟩
  obtain ⟨p, _, h2⟩ := List.mem_map.mp h1
  exact List.mem_filter.mpr ⟨List.mem_append_right _ (mCk_sub (List.mem_of_getElem? h2)), List.all_eq_true.mp g w hw⟩
theorem mIn0 : ∀ w ∈ u_ws RX0 TX0 7, w ∈ mTb := mIn_ix [(0, 140), (0, 142), (0, 144), (0, 146), (0, 148), (0, 150), (0, 152)] (by decide +kernel) (by decide +kernel)
theorem mIn1 : ∀ w ∈ u_ws RX1 TX1 2, w ∈ mTb := mIn_ix [(0, 224), (0, 226)] (by decide +kernel) (by decide +kernel)
theorem mIn2 : ∀ w ∈ u_ws RX2 TX2 5, w ∈ mTb := mIn_ix [(1, 76), (1, 78), (1, 80), (1, 82), (1, 84)] (by decide +kernel) (by decide +kernel)
theorem mIn3 : ∀ w ∈ u_ws RX3 TX3 18, w ∈ mTb := mIn_ix [(1, 23), (1, 25), (1, 27), (1, 29), (1, 31), (1, 33), (1, 35), (1, 37), (1, 39), (1, 41), (1, 43), (1, 45), (1, 47), (1, 49), (1, 51), (1, 53), (1, 55), (1, 57)] (by decide +kernel) (by decide +kernel)
theorem mIn4 : ∀ w ∈ u_ws RX4 TX4 10, w ∈ mTb := mIn_ix [(0, 192), (0, 194), (0, 196), (0, 198), (0, 200), (0, 202), (0, 204), (0, 206), (0, 208), (0, 210)] (by decide +kernel) (by decide +kernel)
theorem mIn5 : ∀ w ∈ u_ws RX5 TX5 12, w ∈ mTb := mIn_ix [(0, 76), (0, 78), (0, 80), (0, 82), (0, 84), (0, 86), (0, 88), (0, 90), (0, 92), (0, 94), (0, 96), (0, 98)] (by decide +kernel) (by decide +kernel)
theorem mIn6 : ∀ w ∈ u_ws RX6 TX6 2, w ∈ mTb := mIn_ix [(1, 97), (1, 99)] (by decide +kernel) (by decide +kernel)
theorem mIn7 : ∀ w ∈ u_ws RX7 TX7 11, w ∈ mTb := mIn_ix [(1, 113), (1, 115), (1, 117), (1, 119), (1, 121), (1, 123), (1, 125), (1, 127), (1, 129), (1, 131), (1, 133)] (by decide +kernel) (by decide +kernel)
theorem mIn8 : ∀ w ∈ u_ws RX8 TX8 23, w ∈ mTb := mIn_ix [(4, 226), (4, 228), (4, 230), (4, 232), (4, 234), (4, 236), (4, 238), (5, 0), (5, 2), (5, 4), (5, 6), (5, 8), (5, 10), (5, 12), (5, 14), (5, 16), (5, 18), (5, 20), (5, 22), (5, 24), (5, 26), (5, 28), (5, 30)] (by decide +kernel) (by decide +kernel)
