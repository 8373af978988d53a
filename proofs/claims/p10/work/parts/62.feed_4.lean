theorem eq_feed (a b c d e : Int32) : Both mX7_feed mX8_feed [.int a, .int b, .int c, .int d, .int e] := by
  intro x R
  obtain ⟨n, hn, t1, t2, t3⟩ := R.2.2.2.1
  have i20 : nI n + 20 = nI (n + 20) := nI_add n 20
  have hle : (nI n + 20 ≤ 1200) ↔ n + 20 ≤ 1200 := by rw [i20]; exact nI_leI (b := 1200) (by omega) (by decide)
  refine v_X7_feed_0 k0 ?_
  rw [t1, hle]
  refine ⟨fun z => ?_, fun z => v_X8_feed_0 km ⟨fun u => absurd (by rw [t2, hle] at u; exact u) z, fun _ => ⟨rfl, R⟩⟩⟩
  have c0 : CT x (gi x 720) n := ⟨t1, fun i hi => (t3 i hi).1⟩
  have r0 : RT x (gi x 720) n := ⟨t2, fun i hi => rfl⟩
  have cg : ∀ y : Cn, CTf x y → gr y 0 0 = some 1 := fun y fy => by unfold gr; rw [fy.1]; exact R.1.1
  refine sp_X7_putOnTape R.1.1 c0 (by omega) (fun y1 f1 w1 => sp_X7_putOnTape (cg y1 f1) w1 (by omega) (fun y2 f2 w2 => sp_X7_putOnTape (cg y2 (f1.tr f2)) w2 (by omega) (fun y3 f3 w3 => sp_X7_putOnTape (cg y3 (f1.tr (f2.tr f3))) w3 (by omega) (fun y4 f4 w4 => sp_X7_putOnTape (cg y4 (f1.tr (f2.tr (f3.tr f4)))) w4 (by omega) (fun y5 f5 w5 => ?_)))))
  have F5 : CTf x y5 := f1.tr (f2.tr (f3.tr (f4.tr f5)))
  rw [w5.1]
  have M5 : MRf y5 718 := R.2.1.keep F5.1
  have r5 : RT y5 (gi x 720) n := ⟨(F5.2 717 5 (by decide) (by omega)).trans t2, fun i hi => F5.2 720 i (by decide) (by omega)⟩
  refine v_X8_feed_0 km ⟨fun _ => ?_, fun u => absurd (by rw [r5.1, hle]; exact z) u⟩
  have mg : ∀ y : Cn, RTf y5 y → MRf y 718 := fun y fy => M5.keep fy.1
  refine sp_X8_puts4 M5 r5 (by omega) (fun z1 g1 v1 => sp_X8_puts4 (mg z1 g1) v1 (by omega) (fun z2 g2 v2 => sp_X8_puts4 (mg z2 (g1.tr g2)) v2 (by omega) (fun z3 g3 v3 => sp_X8_puts4 (mg z3 (g1.tr (g2.tr g3))) v3 (by omega) (fun z4 g4 v4 => sp_X8_puts4 (mg z4 (g1.tr (g2.tr (g3.tr g4)))) v4 (by omega) (fun z5 g5 v5 => ?_)))))
  have G5 : RTf y5 z5 := g1.tr (g2.tr (g3.tr (g4.tr g5)))
  rw [v5.1]
  refine ⟨rfl, R.tape (G5.1.trans F5.1) (fun a j a1 a2 a3 a4 => (G5.2 a j a3 a4).trans (F5.2 a j a1 a2)) ⟨n + 4 + 4 + 4 + 4 + 4, by omega, ?_, v5.1, fun i hi => ?_⟩⟩
  · rw [G5.2 0 1 (by decide) (by omega)]; exact w5.1
  · rw [G5.2 1 i (by decide) (by omega), w5.2 i hi, v5.2 i hi]
    exact ⟨rfl, uB_is (uB_is (uB_is (uB_is (uB_is (fun i hi => (t3 i hi).2))))) i hi⟩
theorem eq_find : Both mX7_find mX8_find [] := by
  intro x R
  obtain ⟨n, hn, t1, t2, t3⟩ := R.2.2.2.1
  obtain ⟨W, C, S, A, N, E, nm, -⟩ := R.sea
  have hm := E.nums
  have hC : C ≤ 8 := hm.2.2.2.2.2.1
  have t0 := (Rel.t2 E).1
  have tC := (Rel.t2 E).2.1
  have kn : kk KW 56 = some (1, 0) := by decide
  have er : (ui (ui x 0 1 0) 717 5 0).2 = x.2 := rfl
  have eq : ∀ a j, ¬ (a = 0 ∧ j = 1) → ¬ (a = 717 ∧ j = 5) → gi (ui (ui x 0 1 0) 717 5 0) a j = gi x a j := fun a j a2 a4 => by rw [gi_ui, if_neg a4, gi_ui, if_neg a2]
  have Rz : Rel (ui (ui x 0 1 0) 717 5 0) := R.tape er (fun a j a1 a2 a3 a4 => eq a j a2 a4) ⟨0, by decide, by rw [gi_ui, if_neg (by omega), gi_ui, if_pos ⟨rfl, rfl⟩]; rfl, by rw [gi_ui, if_pos ⟨rfl, rfl⟩]; rfl, fun i hi => absurd hi (Nat.not_lt_zero _)⟩
  have My : MRf (ui x 0 1 0) 718 := R.2.1.keep rfl
  have Mz : MRf (ui (ui x 0 1 0) 717 5 0) 718 := R.2.1.keep rfl
  have e5 : gi (ui x 0 1 0) 717 5 = nI n := by rw [gi_ui, if_neg (by omega)]; exact t2
  have tz : ∀ i, gi (ui (ui x 0 1 0) 717 5 0) 718 i = gi x 718 i := fun i => eq 718 i (by omega) (by omega)
  have bz : gi (ui (ui x 0 1 0) 717 5 0) 720 = gi x 720 := funext (fun i => eq 720 i (by omega) (by omega))
  have hin : (1 ≤ nI n ∧ nI n ≤ 6) ↔ (1 ≤ n ∧ n ≤ 6) := by
    rw [show (1 ≤ nI n) ↔ 1 ≤ n from nI_leI (a := 1) (by decide) (by omega), show (nI n ≤ 6) ↔ n ≤ 6 from nI_leI (b := 6) (by omega) (by decide)]
  -- the reference, when it is no name
  have bad : (¬ (0 < nI W) ∨ ¬ (1 ≤ n ∧ n ≤ 6)) → mSI mX8_find [.ref 717] KW (ui x 0 1 0) (fun r' z => -2 = r' ∧ Rel z) := by
    intro hb
    have g37 : GI mX8_find 37 [some (.ref 717), some (.int (nI n)), some (.int 0), some (.int 0)] [] KW (ui (ui x 0 1 0) 717 5 0) (fun r' z => -2 = r' ∧ Rel z) := v_X8_find_37 km Mz.2.2.2.1 km720 ⟨fun _ => ⟨fun _ => ⟨rfl, Rz⟩, fun u => absurd rfl u⟩, fun _ => ⟨fun _ => ⟨fun _ => ⟨rfl, Rz⟩, fun u => absurd rfl u⟩, fun u => absurd rfl u⟩⟩
    refine v_X8_find_0 km My.1 km1 ?_
    rw [e5, tz 0, t0, hin]
    exact ⟨v0 (k := 0) (by decide) rfl rfl, fun _ => g37, fun u1 => ⟨fun _ => g37, fun u2 => absurd u2 (hb.elim (fun z => absurd u1 z) id)⟩⟩
  refine v_X7_find_0 k0 R.1.2.1 (ks0 E.1) ?_
  rw [t1, show gi (ui x 0 1 0) 2 0 = nI W by rw [gi_ui, if_neg (by omega)]; exact hm.1, hin]
  refine ⟨fun z => bad (Or.inl z), fun z1 => ⟨fun z2 => ?_, fun z => bad (Or.inr z)⟩⟩
  have by1 : ∀ i, i < n → gi (ui x 0 1 0) 1 i = gi x 720 i := fun i hi => by rw [gi_ui, if_neg (by omega)]; exact (t3 i hi).1
  have cR : CRf (ui x 0 1 0) := R.1.keep rfl
  -- the reference's walk over the letters
  have ref : ∀ Q : Int32 → Cn → Prop, GI mX8_find 37 [some (.ref 717), some (.int (nI n)), some (.int 1), some (.int 0)] [] KW (ui (ui x 0 1 0) 717 5 0) Q → mSI mX8_find [.ref 717] KW (ui x 0 1 0) Q := by
    intro Q g
    refine v_X8_find_0 km My.1 km1 ?_
    rw [e5, tz 0, t0, hin]
    exact ⟨v0 (k := 0) (by decide) rfl rfl, fun u => absurd z1 u, fun _ => ⟨fun u => absurd z2 u, fun _ => g⟩⟩
  by_cases hl : ∀ i, i < n → (97 ≤ gi x 720 i ∧ gi x 720 i ≤ 122)
  · have lt : ltr (gi x 720) 0 n := fun i _ hi => by
      have := hl i hi
      obtain ⟨m, h1, h2⟩ := nI_of2 (M := 122) (n := 122) (by decide) (Int32.not_lt.mpr (Int32.le_trans (by decide) this.1)) this.2
      refine ⟨m, ?_, h1, h2⟩
      have g := this.1
      rw [h2] at g
      exact (nI_leI (a := 97) (by decide) (by omega)).mp g
    have lt1 : ltr (gi (ui x 0 1 0) 1) 0 n := fun i h0 hi => by rw [by1 i hi]; exact lt i h0 hi
    have pe : pkv (gi (ui x 0 1 0) 1) 0 n = pkv (gi x 720) 0 n := by
      have : ∀ i, bd (gi (ui x 0 1 0) 1) 0 n i = bd (gi x 720) 0 n i := fun i => by
        unfold bd
        by_cases c : 0 + i < n
        · rw [if_pos c, if_pos c, by1 _ c]
        · rw [if_neg c, if_neg c]
      rw [pkv_6, pkv_6, this, this, this, this, this, this]
    have key : ∀ r i, i + r = n → GI mX7_find 32 [some (.ref 0), some (.int (nI n)), some (.int (nI i))] [] KW (ui x 0 1 0) (fun r y => mSI mX8_find [.ref 717] KW y (fun r' z => r = r' ∧ Rel z)) := by
      intro r
      induction r with
      | zero =>
        intro i hi
        have : i = n := by omega
        subst this
        refine v_X7_find_32 k0 cR.2.2.1 cR.1 kn k1t ⟨fun _ => sp_X1_carrierNamed (T := gi x 718) (C := C) (fr := 0) kn cR.2.2.2.2.2.2.2.1 (by decide) k1t hC (nm.keep (by rw [gi_ui, if_neg (by omega)]) (fun j => by rw [gi_ui, if_neg (by omega)]) (fun _ _ => rfl)) lt1 (by omega) (by omega) (by decide) ?_, fun z => absurd (Int32.le_refl _) z⟩
        rw [pe]
        refine ref _ ?_
        have k2 : ∀ r j, j + r = i → GI mX8_find 37 [some (.ref 717), some (.int (nI i)), some (.int 1), some (.int (nI j))] [] KW (ui (ui x 0 1 0) 717 5 0) (fun r' z => fnd (gi x 718) C (pkv (gi x 720) 0 i) = r' ∧ Rel z) := by
          intro r
          induction r with
          | zero =>
            intro j hj
            have : j = i := by omega
            subst this
            refine v_X8_find_37 km Mz.2.2.2.1 km720 ⟨fun _ => ⟨fun u => absurd u (by decide), fun _ => sp_X8_packed (fr := 0) Mz (by rw [bz]; exact lt) (by omega) (by omega) (sp_X8_findName Mz km1 (by rw [tz]; exact tC) hC ⟨?_, Rz⟩)⟩, fun z => absurd (Int32.le_refl _) z⟩
            rw [bz, show gi (ui (ui x 0 1 0) 717 5 0) 718 = gi x 718 from funext tz]
          | succ r ih =>
            intro j hj
            refine v_X8_find_37 km Mz.2.2.2.1 km720 ⟨fun z => absurd z (nI_ge (by omega) (by omega)), fun _ => ⟨fun u => absurd u (by decide), fun _ => ⟨vp_in_nI (by omega) (by decide), fun q hq => ?_⟩⟩⟩
            rw [nI_clamp (by omega), bz, b2i_t (hl j (by omega))] at hq
            rw [hq, nI_1]
            exact ih (j + 1) (by omega)
        exact k2 i 0 (by omega)
      | succ r ih =>
        intro i hi
        refine v_X7_find_32 k0 cR.2.2.1 cR.1 kn k1t ⟨fun z => absurd z (nI_ge (by omega) (by omega)), fun _ => ⟨vp_in_nI (by omega) (by decide), ?_⟩⟩
        rw [nI_clamp (by omega), by1 i (by omega), nI_1]
        exact ⟨fun _ => ih (i + 1) (by omega), fun z => absurd (hl i (by omega)) z⟩
    exact key n 0 (by omega)
  · have fin : mSI mX8_find [.ref 717] KW (ui x 0 1 0) (fun r' z => -2 = r' ∧ Rel z) := by
      refine ref _ ?_
      have g0 : ∀ j, GI mX8_find 37 [some (.ref 717), some (.int (nI n)), some (.int 0), some (.int (nI j))] [] KW (ui (ui x 0 1 0) 717 5 0) (fun r' z => -2 = r' ∧ Rel z) := fun j => v_X8_find_37 km Mz.2.2.2.1 km720 ⟨fun _ => ⟨fun _ => ⟨rfl, Rz⟩, fun u => absurd rfl u⟩, fun _ => ⟨fun _ => ⟨fun _ => ⟨rfl, Rz⟩, fun u => absurd rfl u⟩, fun u => absurd rfl u⟩⟩
      have k2 : ∀ r j, j + r = n → (∀ i, i < j → (97 ≤ gi x 720 i ∧ gi x 720 i ≤ 122)) → GI mX8_find 37 [some (.ref 717), some (.int (nI n)), some (.int 1), some (.int (nI j))] [] KW (ui (ui x 0 1 0) 717 5 0) (fun r' z => -2 = r' ∧ Rel z) := by
        intro r
        induction r with
        | zero => intro j hj h; exact absurd (fun i hi => h i (by omega)) hl
        | succ r ih =>
          intro j hj h
          refine v_X8_find_37 km Mz.2.2.2.1 km720 ⟨fun z => absurd z (nI_ge (by omega) (by omega)), fun _ => ⟨fun u => absurd u (by decide), fun _ => ⟨vp_in_nI (by omega) (by decide), fun q hq => ?_⟩⟩⟩
          rw [nI_clamp (by omega), bz] at hq
          rw [nI_1]
          by_cases c : 97 ≤ gi x 720 j ∧ gi x 720 j ≤ 122
          · rw [b2i_t c] at hq
            rw [hq]
            refine ih (j + 1) (by omega) (fun i hi => ?_)
            by_cases ci : i = j
            · rw [ci]; exact c
            · exact h i (by omega)
          · rw [b2i_f c] at hq
            rw [hq]
            exact g0 (j + 1)
      exact k2 n 0 (by omega) (fun i hi => by omega)
    have key : ∀ r i, i + r = n → (∀ j, j < i → (97 ≤ gi x 720 j ∧ gi x 720 j ≤ 122)) → GI mX7_find 32 [some (.ref 0), some (.int (nI n)), some (.int (nI i))] [] KW (ui x 0 1 0) (fun r y => mSI mX8_find [.ref 717] KW y (fun r' z => r = r' ∧ Rel z)) := by
      intro r
      induction r with
      | zero => intro i hi h; exact absurd (fun j hj => h j (by omega)) hl
      | succ r ih =>
        intro i hi h
        refine v_X7_find_32 k0 cR.2.2.1 cR.1 kn k1t ⟨fun z => absurd z (nI_ge (by omega) (by omega)), fun _ => ⟨vp_in_nI (by omega) (by decide), ?_⟩⟩
        rw [nI_clamp (by omega), by1 i (by omega), nI_1]
        refine ⟨fun c => ih (i + 1) (by omega) (fun j hj => ?_), fun _ => fin⟩
        by_cases ci : j = i
        · rw [ci]; exact c
        · exact h j (by omega)
    exact key n 0 (by omega) (fun j hj => by omega)


