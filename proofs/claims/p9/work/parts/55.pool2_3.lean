section
theorem sp_X2_serve_lp {x : Cn} {Q : Cn → Prop} {W C S A N : Nat} {T0 : TT} {b1 : Nat} {hp : Int32} (P : PLf x) (F : WFB T0 W C S A N) (k : ∀ y, PCr x y → CPR y (accT (plS A N) A (pl0 T0 S)) W C A N → Q y) {y : Cn} {left : Int32} (fy : PCr x y) (cy : CPR y (pl0 T0 S) W C A N) (hu : ∀ a, a < A → tb left a = !(usd (fun _ => -1) a)) : GV mX2_serve 61 [some (.ref 117), some (.ref b1), some (.int hp), some (.int left), some (.int 0), none] [] KW y Q := by
  refine lp_acc (plS A N) (fun k p => PIV W C A N T0 k p → ∀ y left, PCr x y → CPR y p W C A N → (∀ a, a < A → tb left a = !(usd p.2.2.1 a)) → GV mX2_serve 61 [some (.ref 117), some (.ref b1), some (.int hp), some (.int left), some (.int (nI k)), none] [] KW y Q) A (pl0 T0 S) ?_ (fun k p hk n1 => ?_) (PIV.st F) y left fy cy hu
  · intro iv y left fy cy hu
    exact v_X2_serve_61 k117 (P.keep fy.1).1 (ks0 cy.1.1) ⟨fun _ => k y fy cy, fun z => absurd (by rw [cy.1.nums.2.2.2.1]; exact Int32.le_refl _) z⟩
  · intro iv y left fy cy hu
    obtain ⟨a, ha, e1, e2, e3⟩ := iv.a hk
    obtain ⟨E, hl, hg, hth⟩ := cy
    have hA : A ≤ 24 := E.nums.2.2.2.2.2.2.2.1
    have P2 := P.keep fy.1
    have hu' : ∀ b, b < A → tb (left &&& ((1 <<< (nI a &&& 31)) ^^^ (-1))) b = !(usd (uT p.2.2.1 a (nI k)) b) := by
      intro b hb
      rw [tb_and, tb_not _ (by omega), tb_one a (by omega) b (by omega), hu b hb]
      by_cases c : b = a
      · subst c
        rw [usd_t.mpr (show ¬ uT p.2.2.1 b (nI k) b = -1 by rw [uT_at]; exact nI_ne1 (by omega)), decide_eq_true rfl]
        simp
      · rw [decide_eq_false c, show usd (uT p.2.2.1 a (nI k)) b = usd p.2.2.1 b by unfold usd; rw [uT_ne _ _ c]]
        simp
    have look : mSV mX2_lookAt [.ref 117, .int (nI a)] KW (ui y 173 a (nI k)) (fun y_13 => GV mX2_serve 61 [some (.ref 117), some (.ref b1), some (.int hp), some (.int (left &&& ((1 <<< (nI a &&& 31)) ^^^ (-1)))), some (.int (nI (k + 1))), none] [] KW y_13 Q) := by
      have E2 : SEB (ui y 173 a (nI k)) 118 p.1 W C p.2.1 A N := E.eqx (EQx.rf y 173).ui (Or.inr (Or.inr (by decide)))
      have P3 : PLf (ui y 173 a (nI k)) := P2.keep rfl
      have f3 : PCr x (ui y 173 a (nI k)) := fy.ui (by decide)
      refine sp_X2_lookAt P3 E2 (hl.mv (fun i => by rw [gi_ui, if_neg (by omega)])) (g := p.2.2.2.2) (by rw [gi_ui, if_neg (by omega)]; exact hg) ha (fun h0 v fv Ev lv gv tv hv => ?_) (fun h h1 h2 h3 h4 v fv Ev lv gv tv hv => ?_)
      · refine n1 _ (plS_f e1 h0) (iv.f ha hk e3) v _ (f3.tr fv) ⟨Ev, lv, gv, fun b hb => ?_⟩ hu'
        show gi v 173 b = uT p.2.2.1 a (nI k) b ∧ gi v 174 b = uT p.2.2.2.1 a (-1) b
        rw [tv, hv, gi_ui]
        by_cases c : b = a
        · subst c
          rw [if_pos ⟨rfl, rfl⟩, if_pos rfl, uT_at, uT_at]; exact ⟨rfl, rfl⟩
        · rw [if_neg (fun u => c u.2), if_neg c, uT_ne _ _ c, uT_ne _ _ c, gi_ui, if_neg (by omega)]
          exact hth b (by have hb : ¬ uT p.2.2.1 a (nI k) b = -1 := hb
                          rw [uT_ne _ _ c] at hb; exact hb)
      · refine n1 _ (plS_t e1 h2 (nI_ne1 (by omega))) (iv.t ha hk e3 h1 h3 h4) v _ (f3.tr fv) ⟨Ev, lv, gv, fun b hb => ?_⟩ hu'
        show gi v 173 b = uT p.2.2.1 a (nI k) b ∧ gi v 174 b = uT p.2.2.2.1 a (nI h) b
        rw [tv, hv, gi_ui]
        by_cases c : b = a
        · subst c
          rw [if_pos ⟨rfl, rfl⟩, if_pos rfl, uT_at, uT_at]; exact ⟨rfl, rfl⟩
        · rw [if_neg (fun u => c u.2), if_neg c, uT_ne _ _ c, uT_ne _ _ c, gi_ui, if_neg (by omega)]
          exact hth b (by have hb : ¬ uT p.2.2.1 a (nI k) b = -1 := hb
                          rw [uT_ne _ _ c] at hb; exact hb)
    have e4 : gi y 118 4 = nI A := E.nums.2.2.2.1
    refine v_X2_serve_61 k117 P2.1 (ks0 E.1) ⟨fun z => absurd (by rw [e4] at z; exact z) (nI_ge hk (by omega)), fun _ => ?_⟩
    rw [show nI k - nI k / 2 * 2 = nI (k % 2) from pk_rem (d := 2) (by omega) (by decide) (by decide), nI_z (by omega), nI_1]
    have go : ∀ r, r = nI a → (r < 0 → GV mX2_serve 61 [some (.ref 117), some (.ref b1), some (.int hp), some (.int left), some (.int (nI (k + 1))), none] [] KW y Q) ∧ (¬ r < 0 → gr y 117 0 = some 118 ∧ ((gi y 118 4 ≤ r → GV mX2_serve 61 [some (.ref 117), some (.ref b1), some (.int hp), some (.int left), some (.int (nI (k + 1))), none] [] KW y Q) ∧ (¬ gi y 118 4 ≤ r → ∃ c_8, gr y 117 2 = some c_8 ∧ ∃ n_11, kk KW c_8 = some (20, n_11) ∧ (vp_in r n_11 ∧ mSV mX2_lookAt [.ref 117, .int r] KW (ui y c_8 (r : Int32).toNatClampNeg (nI k)) (fun y_13 => GV mX2_serve 61 [some (.ref 117), some (.ref b1), some (.int hp), some (.int (left &&& ((1 <<< (r &&& 31)) ^^^ (-1)))), some (.int (nI (k + 1))), none] [] KW y_13 Q))))) := by
      rintro r rfl
      refine ⟨fun z => absurd z (nI_pos (by omega)), fun _ => ⟨P2.1, fun z => absurd (by rw [e4] at z; exact z) (nI_ge ha (by omega)), fun _ => ⟨173, P2.2.2.1, 24, k173, vp_in_nI (by omega) (by decide), ?_⟩⟩⟩
      rw [nI_clamp (by omega)]
      exact look
    refine ⟨fun z => sp_X2_chosen P2 E hl hu (go _ ?_), fun z => sp_X2_chosen P2 E hl hu (go _ ?_)⟩
    · rw [← e2]; unfold fl; rw [if_neg z]
    · rw [← e2]; unfold fl; rw [if_pos z]
theorem sp_X2_serve {x : Cn} {Q : Cn → Prop} {T T0 : TT} {W C S A N : Nat} {hp : Int32} (c : CRf x) (E : SEA x 2 T W C S A N) (hh : (hp = -1 ∧ T0 = T) ∨ ∃ h, h < 24 ∧ hp = nI h ∧ T0 = hlT T h) (k : ∀ y, PCr x y → CPR y (accT (plS A N) A (pl0 T0 S)) W C A N → Q y) : mSV mX2_serve [.ref 117, .ref 2, .int hp] KW x Q := by
  have P := c.pl
  have hA : A ≤ 24 := E.nums.2.2.2.2.2.2.2.1
  have I118 : Isea 118 := Or.inr (Or.inr (Or.inl rfl))
  have fin : ∀ v, PCr x v → SEB v 118 T0 W C S A N → mSV mX2_countSlots [.ref 117] KW v (fun y_3 => mSI mX2_allAsks [.ref 117] KW (ui y_3 117 4 0) (fun r_5 y_4 => GV mX2_serve 61 [some (.ref 117), some (.ref 2), some (.int hp), some (.int r_5), some (.int 0), none] [] KW y_4 Q)) := by
    intro v fv Ev
    refine sp_X2_countSlots (P.keep fv.1) Ev (fun w hw lw => ?_)
    have Ew := Ev.eqx hw (Or.inr (Or.inr (by decide)))
    have E2 : SEB (ui w 117 4 0) 118 T0 W C S A N := Ew.eqx (EQx.rf w 117).ui (Or.inr (Or.inl (by decide)))
    have f2 : PCr x (ui w 117 4 0) := (fv.tr (hw.pc (by decide))).ui (by decide)
    refine v_X2_allAsks_0 k117 (P.keep f2.1).1 (ks0 I118) (sp_X2_serve_lp P Ev.2.2.2 k f2 ⟨E2, lw.mv (fun i => by rw [gi_ui, if_neg (by omega)]), by rw [gi_ui, if_pos ⟨rfl, rfl⟩]; rfl, fun a ha => absurd rfl ha⟩ (fun a ha => ?_))
    rw [E2.nums.2.2.2.1, tb_alls A (by omega) a (by omega), decide_eq_true ha, usd_f.mpr rfl]
    rfl
  refine v_X2_serve_0 k117 P.1 (ks0 I118) (sp_X4_copyFrom I118 c.2.2.2.2.2.2.2.2.2.2.2.2.2.2.2.2.2.2.1 E (by decide) (fun y fy Ey => ?_))
  rcases hh with ⟨rfl, rfl⟩ | ⟨h, hh, rfl, rfl⟩
  · exact ⟨fun _ => fin y fy.pc Ey.b, fun z => absurd (by decide) z⟩
  · refine ⟨fun z => absurd z (nI_pos (by omega)), fun _ => ⟨fun z => absurd z (nI_ge (b := 24) hh (by decide)), fun _ => ⟨(P.keep fy.1).1, 119, Ey.2.1.1, 24, ks1 I118, vp_in_nI hh (by decide), 120, Ey.2.1.2.1, 24, ks2 I118, vp_in_nI hh (by decide), ?_⟩⟩⟩
    have v5 := Ey.2.2.1.2.2.2.2.2.1 h hh
    have g1 : gi y 119 h = T (6 + 2 * h) := v5.1
    have g2 : gi y 120 h = T (7 + 2 * h) := v5.2
    rw [nI_clamp (by omega), g1, show gi (ui y 119 h (T (6 + 2 * h) + 1)) 120 h = T (7 + 2 * h) by rw [gi_ui, if_neg (by omega)]; exact g2]
    exact fin _ ((fy.pc.ui (by decide)).ui (by decide)) (Ey.b.hl hh)

end

