set_option maxHeartbeats 2000000 in
theorem v_X8_hand_0 {K : Sh} {x : Cn} {Q : Int32 → Cn → Prop} {b0 : Nat} {l1 : Int32} {l2 : Int32} {b0_1 : Nat} {n_b0_1 : Nat} {b0_3 : Nat} {n_b0_3 : Nat} (k_b0 : kk K b0 = some (8, 0)) (g_b0_1 : gr x b0 1 = some b0_1) (k_b0_1 : kk K b0_1 = some (20, n_b0_1)) (g_b0_3 : gr x b0 3 = some b0_3) (k_b0_3 : kk K b0_3 = some (20, n_b0_3)) (K0 : vp_in 2 n_b0_1 ∧ ((¬ (0 ≤ l1 ∧ l1 ≤ gi x b0_1 2 - 1) → (Q (-2) x)) ∧ ((0 ≤ l1 ∧ l1 ≤ gi x b0_1 2 - 1) → (vp_in 1 n_b0_1 ∧ (((0 ≤ l2 ∧ l2 ≤ gi x b0_1 1 - 1) → ((l24 l1 n_b0_3) ∧ ((¬ (so (gi x b0_3) (l1 : Int32).toNatClampNeg 4 = 1) → ((¬ (so (gi x b0_3) (l1 : Int32).toNatClampNeg 0) = l2 → (mSV mX8_keeps [.ref b0] K x (fun y_8 => mSV mX8_lays [.ref b0, .int l1, .int 0, .int l2] K y_8 (fun y_9 => Q (so (gi x b0_3) (l1 : Int32).toNatClampNeg 0) y_9)))) ∧ ((so (gi x b0_3) (l1 : Int32).toNatClampNeg 0) = l2 → (Q (-6) x)))) ∧ ((so (gi x b0_3) (l1 : Int32).toNatClampNeg 4 = 1) → (Q (-5) x))))) ∧ (¬ (0 ≤ l2 ∧ l2 ≤ gi x b0_1 1 - 1) → (Q (-2) x))))))) : mSI mX8_hand [.ref b0, .int l1, .int l2] K x Q := by
  refine s_I (by decide) (by simp [Value.category]) (Nat.le_of_ble_eq_true rfl) ?_
  show mGM mX8_hand 0 [some (.ref b0), some (.int l1), some (.int l2), none] [] (hp K x) (PI K Q)
  refine r_aload_n (pc := 0) dX8_hand_0 rfl ?_
  refine r_iload_n (pc := 1) dX8_hand_1 rfl ?_
  obtain ⟨i_1, K0⟩ := K0
  refine s_VI (pc := 2) mX8_isSeries (ci := 8) (a := b0) (As := [.int l1]) dX8_hand_2 lk_X8_273 in_X8_isSeries mo_X8_isSeries ⟨by decide, rfl⟩ ⟨by decide, by decide⟩ (Nat.le_of_ble_eq_true rfl) k_b0 (sp_X8_isSeries k_b0 g_b0_1 k_b0_1 i_1 ?_)
  refine r_if_eq (pc := 5) (tgt := 16) dX8_hand_5 (by decide) (fun q => ?_) (fun q => ?_)
  · have q := (b2i_z _).mp q
    have K0 := K0.1 q
    refine r_bipush (pc := 16) (v := (-2)) dX8_hand_16 (by decide) ?_
    exact s_iret rfl dX8_hand_18 K0
  · have q := b2i_nz q
    have K0 := K0.2 q
    refine r_aload_n (pc := 8) dX8_hand_8 rfl ?_
    refine r_iload_n (pc := 9) dX8_hand_9 rfl ?_
    obtain ⟨i_3, K0⟩ := K0
    refine s_VI (pc := 10) mX8_isCarrier (ci := 8) (a := b0) (As := [.int l2]) dX8_hand_10 lk_X8_265 in_X8_isCarrier mo_X8_isCarrier ⟨by decide, rfl⟩ ⟨by decide, by decide⟩ (Nat.le_of_ble_eq_true rfl) k_b0 (sp_X8_isCarrier k_b0 g_b0_1 k_b0_1 i_3 ?_)
    refine r_if_ne (pc := 13) (tgt := 19) dX8_hand_13 (by decide) (fun q => ?_) (fun q => ?_)
    · have q := b2i_nz q
      have K0 := K0.1 q
      refine r_aload_n (pc := 19) dX8_hand_19 rfl ?_
      refine r_iload_n (pc := 20) dX8_hand_20 rfl ?_
      obtain ⟨p_5, K0⟩ := K0
      refine s_VI (pc := 21) mX8_isNew (ci := 8) (a := b0) (As := [.int l1]) dX8_hand_21 lk_X8_382 in_X8_isNew mo_X8_isNew ⟨by decide, rfl⟩ ⟨by decide, by decide⟩ (Nat.le_of_ble_eq_true rfl) k_b0 (sr_X8_isNew k_b0 g_b0_3 k_b0_3 p_5 ?_)
      refine r_if_eq (pc := 24) (tgt := 30) dX8_hand_24 (by decide) (fun q => ?_) (fun q => ?_)
      · have q := (b2i_z _).mp q
        have K0 := K0.1 q
        refine r_aload_n (pc := 30) dX8_hand_30 rfl ?_
        refine r_iload_n (pc := 31) dX8_hand_31 rfl ?_
        refine r_iconst (pc := 32) (v := 0) dX8_hand_32 (by decide) ?_
        refine s_VI (pc := 33) mX8_one (ci := 8) (a := b0) (As := [.int l1, .int 0]) dX8_hand_33 lk_X8_67 in_X8_one mo_X8_one ⟨by decide, rfl⟩ ⟨by decide, by decide⟩ (Nat.le_of_ble_eq_true rfl) k_b0 (sr_X8_one k_b0 g_b0_3 k_b0_3 p_5 ⟨by decide, by decide⟩ ?_)
        refine r_istore_n (pc := 36) dX8_hand_36 (by decide) ?_
        refine r_iload_n (pc := 37) (L := [some (.ref b0), some (.int l1), some (.int l2), some (.int (so (gi x b0_3) (l1 : Int32).toNatClampNeg 0))]) dX8_hand_37 rfl ?_
        refine r_iload_n (pc := 38) dX8_hand_38 rfl ?_
        refine r_icmp_ne (pc := 39) (tgt := 45) dX8_hand_39 (by decide) (fun q => ?_) (fun q => ?_)
        · have K0 := K0.1 q
          refine r_aload_n (pc := 45) dX8_hand_45 rfl ?_
          refine s_VV (pc := 46) mX8_keeps (ci := 8) (a := b0) (As := []) dX8_hand_46 lk_X8_366 in_X8_keeps mo_X8_keeps ⟨by decide, rfl⟩ ⟨by decide, by decide⟩ (Nat.le_of_ble_eq_true rfl) k_b0 (mSV_mono K0 (fun y_8 K0 => ?_))
          refine r_aload_n (pc := 49) dX8_hand_49 rfl ?_
          refine r_iload_n (pc := 50) dX8_hand_50 rfl ?_
          refine r_iconst (pc := 51) (v := 0) dX8_hand_51 (by decide) ?_
          refine r_iload_n (pc := 52) dX8_hand_52 rfl ?_
          refine s_VV (pc := 53) mX8_lays (ci := 8) (a := b0) (As := [.int l1, .int 0, .int l2]) dX8_hand_53 lk_X8_230 in_X8_lays mo_X8_lays ⟨by decide, rfl⟩ ⟨by decide, by decide⟩ (Nat.le_of_ble_eq_true rfl) k_b0 (mSV_mono K0 (fun y_9 K0 => ?_))
          refine r_iload_n (pc := 56) dX8_hand_56 rfl ?_
          exact s_iret rfl dX8_hand_57 K0
        · have K0 := K0.2 q
          refine r_bipush (pc := 42) (v := (-6)) dX8_hand_42 (by decide) ?_
          exact s_iret rfl dX8_hand_44 K0
      · have q := b2i_nz q
        have K0 := K0.2 q
        refine r_bipush (pc := 27) (v := (-5)) dX8_hand_27 (by decide) ?_
        exact s_iret rfl dX8_hand_29 K0
    · have q := (b2i_z _).mp q
      have K0 := K0.2 q
      refine r_bipush (pc := 16) (v := (-2)) dX8_hand_16 (by decide) ?_
      exact s_iret rfl dX8_hand_18 K0
section
variable {y : Cn} {Q : Int32 → Cn → Prop} {T : TT} {W C S A N n : Nat} {H : Nat → TT}
theorem sq_X8_hand {a b : Int32} (r : RS y T n H) (F : WF T W C S A N) (k1 : ¬ ((0 ≤ a ∧ a < nI S) ∧ (0 ≤ b ∧ b < nI C)) → Q (-2) y) (k2 : (0 ≤ a ∧ a < nI S) → (0 ≤ b ∧ b < nI C) → so T a.toNatClampNeg 4 = 1 → Q (-5) y) (k3 : (0 ≤ a ∧ a < nI S) → (0 ≤ b ∧ b < nI C) → ¬ so T a.toNatClampNeg 4 = 1 → so T a.toNatClampNeg 0 = b → Q (-6) y) (k4 : (0 ≤ a ∧ a < nI S) → (0 ≤ b ∧ b < nI C) → ¬ so T a.toNatClampNeg 4 = 1 → ¬ so T a.toNatClampNeg 0 = b → ∀ z, RFr y z → RS z (uT T (62 + 12 * a.toNatClampNeg + 0) b) (pn n) (push H n T) → Q (so T a.toNatClampNeg 0) z) : mSI mX8_hand [.ref 717, .int a, .int b] KW y Q := by
  have hS : S ≤ 24 := F.2.2.2.2.2.2.1
  have hC : C ≤ 8 := F.2.2.2.2.1
  have M := r.1
  refine v_X8_hand_0 km M.1 km1 M.2.2.1 km1 ⟨v0 (k := 2) (by decide) rfl rfl, ?_⟩
  rw [r.2.1, F.2.2.2.2.2.1, F.2.2.2.1, inN' (by omega), inN' (by omega)]
  refine ⟨fun z => k1 (fun u => z u.1), fun z1 => ⟨v0 (k := 1) (by decide) rfl rfl, fun z2 => ?_, fun z => k1 (fun u => z u.2)⟩⟩
  have k2 := k2 z1 z2
  have k3 := k3 z1 z2
  have k4 := k4 z1 z2
  obtain ⟨s, hs, rfl⟩ := inN (by omega) z1
  rw [nI_clamp (by omega)] at k2 k3 k4 ⊢
  refine ⟨l24_nI (by omega) rfl, fun u => ⟨fun u2 => ?_, fun u2 => k3 u u2⟩, fun u => k2 u⟩
  exact r.keeps (fun z f1 r1 => sp_X8_lays (k := 0) r1.1 km1 (by omega) (by decide) (k4 u u2 _ f1.u8 r1.u8))
theorem opf_in {T : TT} {C W s w : Nat} (g : Wse T C W s) (hW : W ≤ 30) (hw : w < 100) : ∀ i, i < 32 → tb (opf T W s w) i = true → tb (so T s (7 + 0)) i = true := fun i _ e => by
  rw [opf_eq g hW hw, tb_and, Bool.and_eq_true] at e
  exact e.1
theorem AC.giv {x z : Cn} {W C S A N n s p w : Nat} {T : TT} {H : Nat → TT} (az : AC x z W C S A N n T H) (hs : s < S) (hw : w < 100) (hp : gr z 5 s = some p) : AC x (ui z p 11 (gi z p 11 ||| opf T W s w)) W C S A N n (goT T s (opf T W s w) 0 4) H := by
  have E := az.2.2.2.2
  have hW : W ≤ 30 := E.nums.2.2.2.2.1
  have w0 := E.2.2.2.2.2.2.2.2.2.2.2.2.2.2.2.1 s hs
  have es := az.2.2.2.2.2.2.1.2.2.2.2.2.2.1 s p hs hp
  refine az.go hs hp ((EQx.rf z p).ui) (by decide) (by decide) (by decide) (opf_in w0 hW hw) (by rw [gi_ui, if_neg (by omega)]) (fun j h1 h2 => ?_)
  rw [gi_ui, so_goT _ _ _ (by decide) (by decide) h1]
  by_cases c : j = 11
  · rw [if_pos ⟨rfl, c⟩, if_pos c, es.1 11 (by decide) (by decide)]
  · rw [if_neg (fun v => c v.2), if_neg c, if_neg h2]
    exact es.1 j h1 h2
/-- one number of a series changes, none of its weeks -/
theorem AC.one {x z : Cn} {W C S A N n s p k : Nat} {T : TT} {H : Nat → TT} {v : Int32} (az : AC x z W C S A N n T H) (hs : s < S) (hp : gr z 5 s = some p) (hk : k < 7) (hw : Wse (uT T (62 + 12 * s + k) v) C W s) : AC x (ui z p k v) W C S A N n (uT T (62 + 12 * s + k) v) H := by
  have es := az.2.2.2.2.2.2.1.2.2.2.2.2.2.1 s p hs hp
  refine az.ser hs hp ((EQx.rf z p).ui) (fun i _ h => uT_ne _ _ (by omega)) ⟨fun j h1 h2 => ?_, ?_⟩ hw
  · rw [gi_ui, so_uT _ _ _ _ _ _ (by omega) h1]
    by_cases c : j = k
    · rw [if_pos ⟨rfl, c⟩, if_pos ⟨rfl, c⟩]
    · rw [if_neg (fun v => c v.2), if_neg (fun v => c v.2)]
      exact es.1 j h1 h2
  · unfold bas
    rw [gi_ui, if_neg (by omega), so_uT _ _ _ _ _ _ (by omega) (by decide), if_neg (by omega), so_uT _ _ _ _ _ _ (by omega) (by decide), if_neg (by omega), so_uT _ _ _ _ _ _ (by omega) (by decide), if_neg (by omega), so_uT _ _ _ _ _ _ (by omega) (by decide), if_neg (by omega), so_uT _ _ _ _ _ _ (by omega) (by decide), if_neg (by omega)]
    exact es.2
theorem Wse.u2 {T : TT} {C W s h : Nat} (g : Wse T C W s) (hh : h < 24) : Wse (uT T (62 + 12 * s + 2) (nI h)) C W s := by
  have e : ∀ j, j < 12 → j ≠ 2 → so (uT T (62 + 12 * s + 2) (nI h)) s j = so T s j := fun j h1 h2 => by rw [so_uT _ _ _ _ _ _ (by decide) h1, if_neg (fun v => h2 v.2)]
  obtain ⟨g1, g2, g3, g4, g5, g6, g7, g8⟩ := g
  exact ⟨by rw [e 0 (by decide) (by decide)]; exact g1, by rw [e 1 (by decide) (by decide)]; exact g2, ⟨h, hh, by rw [so_uT _ _ _ _ _ _ (by decide) (by decide), if_pos ⟨rfl, rfl⟩]⟩, by rw [e 3 (by decide) (by decide)]; exact g4, by rw [e 4 (by decide) (by decide)]; exact g5, by rw [e 5 (by decide) (by decide), e 6 (by decide) (by decide)]; exact g6, fun i hi k j hk hj a b => g7 i hi k j hk hj (by rw [← e (7 + k) (by omega) (by omega)]; exact a) (by rw [← e (7 + j) (by omega) (by omega)]; exact b), fun i k hk a => g8 i k hk (by rw [← e (7 + k) (by omega) (by omega)]; exact a)⟩
theorem Wse.u0 {T : TT} {C W s c : Nat} (g : Wse T C W s) (hc : c < C) : Wse (uT T (62 + 12 * s + 0) (nI c)) C W s := by
  have e : ∀ j, j < 12 → j ≠ 0 → so (uT T (62 + 12 * s + 0) (nI c)) s j = so T s j := fun j h1 h2 => by rw [so_uT _ _ _ _ _ _ (by decide) h1, if_neg (fun v => h2 v.2)]
  obtain ⟨g1, g2, g3, g4, g5, g6, g7, g8⟩ := g
  exact ⟨⟨c, hc, by rw [so_uT _ _ _ _ _ _ (by decide) (by decide), if_pos ⟨rfl, rfl⟩]⟩, by rw [e 1 (by decide) (by decide)]; exact g2, by rw [e 2 (by decide) (by decide)]; exact g3, by rw [e 3 (by decide) (by decide)]; exact g4, by rw [e 4 (by decide) (by decide)]; exact g5, by rw [e 5 (by decide) (by decide), e 6 (by decide) (by decide)]; exact g6, fun i hi k j hk hj a b => g7 i hi k j hk hj (by rw [← e (7 + k) (by omega) (by omega)]; exact a) (by rw [← e (7 + j) (by omega) (by omega)]; exact b), fun i k hk a => g8 i k hk (by rw [← e (7 + k) (by omega) (by omega)]; exact a)⟩
end
theorem eq_miss (a b : Int32) : Both mX7_miss mX8_miss [.int a, .int b] := by
  intro x R
  obtain ⟨W, C, S, A, N, n, H, ac, rs, nm⟩ := R.ac
  have E := ac.2.2.2.2
  have hn := E.nums
  have hS : S ≤ 24 := hn.2.2.2.2.2.2.1
  have hW : W ≤ 30 := hn.2.2.2.2.1
  have hC : C ≤ 8 := hn.2.2.2.2.2.1
  refine v_X7_miss_0 k0 R.1.2.1 (ks0 E.1) E.2.1.2.2.1 (ks3 E.1) ?_
  rw [hn.2.2.1, hn.1]
  refine ⟨fun z => sq_X8_miss rs E.2.2.2 (fun _ => ⟨rfl, R⟩) (fun u => absurd u z) (fun u => absurd u z), fun z1 => ⟨fun z2 => ?_, fun z => sq_X8_miss rs E.2.2.2 (fun _ => ⟨rfl, R⟩) (fun _ u => absurd u z) (fun _ u => absurd u z)⟩⟩
  have no := fun k2 => sq_X8_miss (Q := fun r' z => (-6 : Int32) = r' ∧ Rel z) rs E.2.2.2 (fun u => absurd ⟨z1, z2⟩ u) (fun _ _ _ => ⟨rfl, R⟩) k2
  obtain ⟨s, hs, rfl⟩ := inN (by omega) z1
  obtain ⟨w, hw, rfl⟩ := inN (by omega) z2
  obtain ⟨p, e1, e2, e3, e4, -, e6⟩ := E.ser hs
  rw [nI_clamp (show s < 2 ^ 31 by omega)] at no ⊢
  rw [nI_clamp (show w < 2 ^ 31 by omega)] at no
  refine ⟨vp_in_nI (by omega) (by decide), p, e1, e2, sp_X5_stateOf (by omega) e2 e3 e6 ⟨fun u => no (fun _ _ v => absurd v u), fun u => ⟨R.1.2.1, ?_⟩⟩⟩
  rw [hn.2.1]
  refine ⟨fun u2 => ac.rem (fun _ _ => rfl) (fun z az z1' z2' => ?_), fun u2 => no (fun _ _ _ v => absurd v u2)⟩
  have hp : gr z 5 s = some p := (z2' 5 s (by decide)).trans e1
  have hin := wb_in (show w < 32 by omega) (stt_tb (k := 0) (by decide) u)
  have es := az.2.2.2.2.2.2.1.2.2.2.2.2.2.1 s p hs hp
  have a2 : AC x (ui z p 9 (gi z p 9 ||| (1 <<< (nI w &&& 31)))) W C S A N (pn n) (goT (gi x 718) s (wb (nI w)) 0 2) (push H n (gi x 718)) := by
    refine az.go hs hp ((EQx.rf z p).ui) (by decide) (by decide) (by decide) hin (by rw [gi_ui, if_neg (by omega)]) (fun j h1 h2 => ?_)
    rw [gi_ui, so_goT _ _ _ (by decide) (by decide) h1]
    by_cases c : j = 9
    · rw [if_pos ⟨rfl, c⟩, if_pos c, es.1 9 (by decide) (by decide)]
    · rw [if_neg (fun v => c v.2), if_neg c, if_neg h2]
      exact es.1 j h1 h2
  have E2 := a2.2.2.2.2
  obtain ⟨p', g1, g2, g3, -, -, g6⟩ := E2.ser hs
  have epp : p' = p := Option.some.inj (g1.symm.trans hp)
  subst epp
  refine sp_X5_missesLeft g2 g3 g6 ?_
  have u9 : stt (gi x 718) (nI s).toNatClampNeg (nI w).toNatClampNeg = 0 := by rw [nI_clamp (by omega), nI_clamp (by omega)]; exact u
  refine sq_X8_miss (a2.rs rs) E.2.2.2 (fun v => absurd ⟨z1, z2⟩ v) (fun _ _ v => absurd ⟨u9, u2⟩ v) (fun _ _ _ _ v f r2 => ?_)
  · rw [nI_clamp (show s < 2 ^ 31 by omega)] at r2 ⊢
    exact ⟨rfl, a2.fin R nm (fun c hc => goT_nm _ _ _ _ _ _ (by omega)) f r2⟩
theorem eq_excuse (a b : Int32) : Both mX7_excuse mX8_excuse [.int a, .int b] := by
  intro x R
  obtain ⟨W, C, S, A, N, n, H, ac, rs, nm⟩ := R.ac
  have E := ac.2.2.2.2
  have hn := E.nums
  have hS : S ≤ 24 := hn.2.2.2.2.2.2.1
  have hW : W ≤ 30 := hn.2.2.2.2.1
  have hC : C ≤ 8 := hn.2.2.2.2.2.1
  refine v_X7_excuse_0 k0 R.1.2.1 (ks0 E.1) E.2.1.2.2.1 (ks3 E.1) ?_
  rw [hn.2.2.1, hn.1]
  refine ⟨fun z => sq_X8_excuse rs E.2.2.2 (fun _ => ⟨rfl, R⟩) (fun u => absurd u z) (fun u => absurd u z), fun z1 => ⟨fun z2 => ?_, fun z => sq_X8_excuse rs E.2.2.2 (fun _ => ⟨rfl, R⟩) (fun _ u => absurd u z) (fun _ u => absurd u z)⟩⟩
  obtain ⟨s, hs, rfl⟩ := inN (by omega) z1
  obtain ⟨w, hw, rfl⟩ := inN (by omega) z2
  obtain ⟨p, e1, e2, e3, e4, -, e6⟩ := E.ser hs
  rw [nI_clamp (show s < 2 ^ 31 by omega)]
  have go : ∀ k, k = 0 ∨ k = 2 → stt (gi x 718) s w = nI k → mSV mX7_remember [.ref 0] KW x (fun y_10 => ∀ r_11 : Int32, r_11 = gi (ui y_10 p 9 ((gi y_10 p 9) &&& ((1 <<< (nI w &&& 31)) ^^^ (-1)))) p 10 → mSI mX8_excuse [.ref 717, .int (nI s), .int (nI w)] KW (ui (ui y_10 p 9 ((gi y_10 p 9) &&& ((1 <<< (nI w &&& 31)) ^^^ (-1)))) p 10 (r_11 ||| (1 <<< (nI w &&& 31)))) (fun r' z => nI (cpt (gi (ui (ui y_10 p 9 ((gi y_10 p 9) &&& ((1 <<< (nI w &&& 31)) ^^^ (-1)))) p 10 (r_11 ||| (1 <<< (nI w &&& 31)))) p 8 ||| gi (ui (ui y_10 p 9 ((gi y_10 p 9) &&& ((1 <<< (nI w &&& 31)) ^^^ (-1)))) p 10 (r_11 ||| (1 <<< (nI w &&& 31)))) p 10)) = r' ∧ Rel z)) := by
    intro k hk u
    refine ac.rem (fun _ _ => rfl) (fun z az z1' z2' => ?_)
    intro r er
    have hp : gr z 5 s = some p := (z2' 5 s (by decide)).trans e1
    have hb := stt_tb (k := k) (by omega) u
    have hin := wb_in (show w < 32 by omega) hb
    have es := az.2.2.2.2.2.2.1.2.2.2.2.2.2.1 s p hs hp
    have er2 : r = so (gi x 718) s 10 := by rw [er, gi_ui, if_neg (by omega)]; exact es.1 10 (by decide) (by decide)
    have a2 : AC x (ui (ui z p 9 (gi z p 9 &&& ((1 <<< (nI w &&& 31)) ^^^ (-1)))) p 10 (r ||| (1 <<< (nI w &&& 31)))) W C S A N (pn n) (goT (gi x 718) s (wb (nI w)) k 3) (push H n (gi x 718)) := by
      refine az.go hs hp ((EQx.rf z p).ui.ui) (by omega) (by decide) (by omega) hin (by rw [gi_ui, if_neg (by omega), gi_ui, if_neg (by omega)]) (fun j h1 h2 => ?_)
      rw [gi_ui, so_goT _ _ _ (by omega) (by decide) h1]
      by_cases c : j = 10
      · rw [if_pos ⟨rfl, c⟩, if_pos c, er2]
      · rw [if_neg (fun v => c v.2), if_neg c, gi_ui]
        by_cases d : j = 9
        · rw [if_pos ⟨rfl, d⟩, es.1 9 (by decide) (by decide)]
          rcases hk with rfl | rfl
          · rw [if_neg (by omega), d]
            exact an_dis (fun i hi g1 g2 => absurd (e6.2.2.2.2.2.2.1 i hi 0 2 (by decide) (by decide) (hin i hi g1) g2) (by decide))
          · rw [if_pos d]
        · rw [if_neg (fun v => d v.2), if_neg (by omega)]
          exact es.1 j h1 h2
    have E2 := a2.2.2.2.2
    have s2 := E2.2.2.1.2.2.2.2.2.2.1 s p hs hp
    rw [s2.1 8 (by decide) (by decide), s2.1 10 (by decide) (by decide)]
    refine sq_X8_excuse (a2.rs rs) E.2.2.2 (fun v => absurd ⟨z1, z2⟩ v) (fun _ _ v1 v2 => absurd u ?_) (fun _ _ k' hk' u' v f r2 => ?_)
    · rw [nI_clamp (by omega), nI_clamp (by omega)] at v1 v2
      rcases hk with rfl | rfl
      · exact v1
      · exact v2
    · rw [nI_clamp (show s < 2 ^ 31 by omega), nI_clamp (show w < 2 ^ 31 by omega)] at u'
      have : k' = k := (nI_eq (by omega) (by omega)).mp (u'.symm.trans u)
      subst this
      rw [nI_clamp (by omega)] at r2 ⊢
      exact ⟨rfl, a2.fin R nm (fun c hc => goT_nm _ _ _ _ _ _ (by omega)) f r2⟩
  refine ⟨vp_in_nI (by omega) (by decide), p, e1, e2, sp_X5_stateOf (by omega) e2 e3 e6 ⟨fun u => go 2 (Or.inr rfl) u, fun u => ⟨fun u2 => go 0 (Or.inl rfl) u2, fun u2 => ?_⟩⟩⟩
  refine sq_X8_excuse rs E.2.2.2 (fun v => absurd ⟨z1, z2⟩ v) (fun _ _ _ _ => ⟨rfl, R⟩) (fun _ _ k' hk' u' => ?_)
  rw [nI_clamp (show s < 2 ^ 31 by omega), nI_clamp (show w < 2 ^ 31 by omega)] at u'
  rcases hk' with rfl | rfl
  · exact absurd u' u2
  · exact absurd u' u
theorem eq_fly (a b : Int32) : Both mX7_fly mX8_fly [.int a, .int b] := by
  intro x R
  obtain ⟨W, C, S, A, N, n, H, ac, rs, nm⟩ := R.ac
  have E := ac.2.2.2.2
  have hn := E.nums
  have hS : S ≤ 24 := hn.2.2.2.2.2.2.1
  have hW : W ≤ 30 := hn.2.2.2.2.1
  have hC : C ≤ 8 := hn.2.2.2.2.2.1
  refine v_X7_fly_0 k0 R.1.2.1 (ks0 E.1) E.2.1.2.2.1 (ks3 E.1) ?_
  rw [hn.2.2.1, hn.1]
  refine ⟨fun z => sq_X8_fly rs E.2.2.2 (fun _ => ⟨rfl, R⟩) (fun u => absurd u z) (fun u => absurd u z), fun z1 => ⟨fun z2 => ?_, fun z => sq_X8_fly rs E.2.2.2 (fun _ => ⟨rfl, R⟩) (fun _ u => absurd u z) (fun _ u => absurd u z)⟩⟩
  obtain ⟨s, hs, rfl⟩ := inN (by omega) z1
  obtain ⟨w, hw, rfl⟩ := inN (by omega) z2
  obtain ⟨p, e1, e2, e3, e4, -, e6⟩ := E.ser hs
  have no : ¬ ((stt (gi x 718) s w = 2 ∨ stt (gi x 718) s w = 3) ∧ nI N ≤ nI w) → mSI mX8_fly [.ref 717, .int (nI s), .int (nI w)] KW x (fun r' z => -6 = r' ∧ Rel z) := by
    intro v
    refine sq_X8_fly rs E.2.2.2 (fun v => absurd ⟨z1, z2⟩ v) (fun _ _ _ => ⟨rfl, R⟩) (fun _ _ k' hk' u' u2 => absurd ⟨?_, u2⟩ v)
    rw [nI_clamp (show s < 2 ^ 31 by omega), nI_clamp (show w < 2 ^ 31 by omega)] at u'
    rcases hk' with rfl | rfl
    · exact Or.inl u'
    · exact Or.inr u'
  rw [nI_clamp (show s < 2 ^ 31 by omega)]
  have go : ∀ k, k = 2 ∨ k = 3 → stt (gi x 718) s w = nI k → nI N ≤ nI w → mSV mX7_remember [.ref 0] KW x (fun y_12 => ∀ r_13 : Int32, r_13 = gi (ui y_12 p 9 ((gi y_12 p 9) &&& ((1 <<< (nI w &&& 31)) ^^^ (-1)))) p 10 → mSI mX8_fly [.ref 717, .int (nI s), .int (nI w)] KW (ui (ui y_12 p 9 ((gi y_12 p 9) &&& ((1 <<< (nI w &&& 31)) ^^^ (-1)))) p 10 (r_13 &&& ((1 <<< (nI w &&& 31)) ^^^ (-1)))) (fun r' z => stt (gi x 718) s w = r' ∧ Rel z)) := by
    intro k hk u u3
    refine ac.rem (fun _ _ => rfl) (fun z az z1' z2' => ?_)
    intro r er
    have hp : gr z 5 s = some p := (z2' 5 s (by decide)).trans e1
    have hb := stt_tb (k := k) (by omega) u
    have hin := wb_in (show w < 32 by omega) hb
    have es := az.2.2.2.2.2.2.1.2.2.2.2.2.2.1 s p hs hp
    have er2 : r = so (gi x 718) s 10 := by rw [er, gi_ui, if_neg (by omega)]; exact es.1 10 (by decide) (by decide)
    have a2 : AC x (ui (ui z p 9 (gi z p 9 &&& ((1 <<< (nI w &&& 31)) ^^^ (-1)))) p 10 (r &&& ((1 <<< (nI w &&& 31)) ^^^ (-1)))) W C S A N (pn n) (goT (gi x 718) s (wb (nI w)) k 0) (push H n (gi x 718)) := by
      refine az.go hs hp ((EQx.rf z p).ui.ui) (by omega) (by decide) (by omega) hin (by rw [gi_ui, if_neg (by omega), gi_ui, if_neg (by omega)]) (fun j h1 h2 => ?_)
      rw [gi_ui, so_goT _ _ _ (by omega) (by decide) h1, if_neg (show ¬ j = 7 + 0 from h2)]
      by_cases c : j = 10
      · rw [if_pos ⟨rfl, c⟩, er2]
        rcases hk with rfl | rfl
        · rw [if_neg (by omega), c]
          exact an_dis (fun i hi g1 g2 => absurd (e6.2.2.2.2.2.2.1 i hi 2 3 (by decide) (by decide) (hin i hi g1) g2) (by decide))
        · rw [if_pos c]
      · rw [if_neg (fun v => c v.2), gi_ui]
        by_cases d : j = 9
        · rw [if_pos ⟨rfl, d⟩, es.1 9 (by decide) (by decide)]
          rcases hk with rfl | rfl
          · rw [if_pos d]
          · rw [if_neg (by omega), d]
            exact an_dis (fun i hi g1 g2 => absurd (e6.2.2.2.2.2.2.1 i hi 3 2 (by decide) (by decide) (hin i hi g1) g2) (by decide))
        · rw [if_neg (fun v => d v.2), if_neg (by omega)]
          exact es.1 j h1 h2
    have u9 : stt (gi x 718) (nI s).toNatClampNeg (nI w).toNatClampNeg = 2 ∨ stt (gi x 718) (nI s).toNatClampNeg (nI w).toNatClampNeg = 3 := by
      rw [nI_clamp (show s < 2 ^ 31 by omega), nI_clamp (show w < 2 ^ 31 by omega)]
      rcases hk with rfl | rfl
      · exact Or.inl u
      · exact Or.inr u
    refine sq_X8_fly (a2.rs rs) E.2.2.2 (fun v => absurd ⟨z1, z2⟩ v) (fun _ _ v1 => absurd ⟨u9, u3⟩ v1) (fun _ _ k' hk' u' _ v f r2 => ?_)
    · rw [nI_clamp (show s < 2 ^ 31 by omega), nI_clamp (show w < 2 ^ 31 by omega)] at u'
      have : k' = k := (nI_eq (by omega) (by omega)).mp (u'.symm.trans u)
      subst this
      rw [nI_clamp (by omega)] at r2
      exact ⟨u, a2.fin R nm (fun c hc => goT_nm _ _ _ _ _ _ (by omega)) f r2⟩
  refine ⟨vp_in_nI (by omega) (by decide), p, e1, e2, sp_X5_stateOf (by omega) e2 e3 e6 ?_⟩
  rw [hn.2.1]
  exact ⟨fun u => ⟨R.1.2.1, fun u2 => go 2 (Or.inl rfl) u u2, fun u2 => no (fun v => u2 v.2)⟩, fun u => ⟨fun u2 => no (fun v => v.1.elim u u2), fun u2 => ⟨R.1.2.1, fun u3 => go 3 (Or.inr rfl) u2 u3, fun u3 => no (fun v => u3 v.2)⟩⟩⟩
