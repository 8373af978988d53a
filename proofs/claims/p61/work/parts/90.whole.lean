/-! THE CLAIM OUT OF ONE WALK OF THE LAW'S BODY. Your part is whole_start (and what it stands on); all else here is the same for every law, but numbers. -/
def R_law : String := "SlotSeriesLaw"
def lw_P (b : Addr) (xs : List Int32) (args : Array Value) (s : State) : Prop := args = #[.ref b] ∧ s.IntsAt b xs ∧ xs.length ≤ 3072 ∧ (Jvm.Cond.and given_1 narrow_1).before args s = true
def lw_Q (_ : Array Value) (s : State) (o : Outcome) (t : State) : Prop := o = .returned (some (.int 1)) ∧ Framed s o t [] 600000 7302250
def lw_Z (below : List Frame) (a : Array Value) (s : State) : State → Prop := fun t => ∃ o, t.status = .running ∧ Ended t below o ∧ lw_Q a s o t
/-- the law's own end, with 1 on the stack, nothing written that was there before, its room as the claim has it -/
theorem lw_ret {p : Program} {l : Launch} {e : Env} {s : State} {m : MethodId} {below : List Frame} {meth : Method} {c : Code} {b : Nat} (hx : p.tables.exec = Jvm.exec) (hb : c.code = code) (hr : meth.sig.returnType = ret) (hlocks : meth.locks = false) {pc : Nat} {H : Heap} {ls : Array Slot} (hdg : decode code pc = .ok (.ireturn, 1)) : W p l e room_1 s m #[Value.ref b] below meth c H [] 600000 7302250 (lw_Z below #[Value.ref b] s) (F0 m pc ls [.int 1]) := by
  intro T hT X
  obtain ⟨fs, hret, hrun, hended, hW, hframe⟩ := X.leave (v := some (.int 1)) (hlocks := hlocks) (fun h => by rw [hr] at h; cases h)
  have hmeth' : T.vm.method? m = some meth := X.method'
  refine ⟨T.setFrames fs, ?_, .returned (some (.int 1)), hrun, hended, rfl, ⟨_, rfl⟩, hW, hframe⟩
  jvm_step X.here [X.here.top, hx, hb, hdg, hmeth', hr, ret, narrow_b1]
  (try refine ⟨rfl, ?_⟩); (try refine ⟨rfl, ?_⟩)
  first | (intro acts; rw [hret _ acts rfl rfl rfl]) | rw [hret _ _ rfl rfl rfl]
  exact Steps.refl _
/-- what holds at the law's entry: the machine, the code, the tables' words (any of lw_tbl by 'hts w (by decide +kernel)'), the script of L ints xs at the cell b, what the Statement gives of the start (any of its parts by flat_of_before) -/
def lw_At (p : Program) (s : State) (m : MethodId) (meth : Method) (c : Code) (b L : Nat) (xs : Nat → Int32) : Prop :=
  p.tables.exec = Jvm.exec ∧ c.code = code ∧ meth.sig.returnType = ret ∧ c.maxLocals = 4 ∧ s.vm.findClass R_law = some m.cls ∧ (∀ w ∈ lw_tbl, w.before #[Value.ref b] s = true) ∧ va_X b L xs s s.heap ∧ b < s.heap.size ∧ meth.locks = false ∧ (Jvm.Cond.and given_1 narrow_1).before #[Value.ref b] s = true
/-- the loop's head: at its end, or one call more -/
theorem law_head {nm : String} {B : BT} {c : Nat × Nat} {ad : Nat → Nat} {Ln i : Nat} {xs : Nat → Int32} {x : Cn} (X : mCx B c ad (mLw nm) FF) (S : SCR B ad Ln xs) (hL : Ln < 10000) (hi : i < 20000) (E : ∀ (L : List (Option Value)) (h : HP), mG B c ad 4 2035 L [.int 1] h) (k : i + 6 ≤ Ln → mG B c ad 4 27 (Lx i) [] (hp KW x)) : mG B c ad 4 18 (Lx i) [] (hp KW x) := by
  refine g_iload_n (M := mLw nm) (pc := 18) X dL_law_18 rfl ?_
  refine g_aload_n (M := mLw nm) (pc := 19) X dL_law_19 rfl ?_
  refine g_scrlen (M := mLw nm) (pc := 20) X S dL_law_20 ?_
  refine g_bipush (M := mLw nm) (v := 6) (pc := 21) X dL_law_21 (by decide) ?_
  refine g_isub (M := mLw nm) (pc := 23) X dL_law_23 ?_
  refine g_icmp_gt (M := mLw nm) (pc := 24) (tgt := 2034) X dL_law_24 (by decide) (fun _ => ?_) (fun z => k (law_cmp (by omega) (by omega) z))
  exact g_iconst (M := mLw nm) (v := 1) (pc := 2034) X dL_law_2034 (by decide) (E _ _)
theorem law_next {nm : String} {B : BT} {c : Nat × Nat} {ad : Nat → Nat} {i : Nat} {x : Cn} (X : mCx B c ad (mLw nm) FF) (k : mG B c ad 4 18 (Lx (i + 6)) [] (hp KW x)) : mG B c ad 4 2028 (Lx i) [] (hp KW x) := by
  refine g_iinc (M := mLw nm) (v := nI (i + 6)) (pc := 2028) X dL_law_2028 rfl (by rw [show Int32.ofInt 6 = nI 6 by decide, nI_add]) (Nat.le_of_ble_eq_true rfl) ?_
  exact g_goto (M := mLw nm) (pc := 2031) (tgt := 18) X dL_law_2031 (by decide) k
/-- call by call, to the script's end -/
theorem law_loop {nm : String} {B : BT} {c : Nat × Nat} {ad : Nat → Nat} {Ln : Nat} {xs : Nat → Int32} (X : mCx B c ad (mLw nm) FF) (S : SCR B ad Ln xs) (hL : Ln ≤ 3072) (E : ∀ (L : List (Option Value)) (h : HP), mG B c ad 4 2035 L [.int 1] h) : mG B c ad 4 18 (Lx 0) [] (hp KW xS) := by
  have go : ∀ (d i : Nat) (x : Cn), Ln ≤ i + d → i ≤ 3078 → Rel x → mG B c ad 4 18 (Lx i) [] (hp KW x) := by
    intro d
    induction d with
    | zero =>
      intro i x h1 h2 R
      exact law_head X S (by omega) (by omega) E (fun hi => absurd hi (by omega))
    | succ d ih =>
      intro i x h1 h2 R
      refine law_head X S (by omega) (by omega) E (fun hi => ?_)
      have nx : ∀ y, Rel y → mG B c ad 4 2028 (Lx i) [] (hp KW y) := fun y Ry => law_next X (ih (i + 6) y (by omega) (by omega) Ry)
      exact law_step X S hi (by omega) R nx (mSI_mono (eq_text x R) (fun _ _ q => mSI_mono q (fun _ z e => nx z e.2))) (mSI_mono (kp_fault _ x R) (fun _ _ q => mSI_mono q (fun _ z e => nx z e))) (nx x R)
  exact go Ln 0 xS (by omega) (by omega) xS_rel
theorem whole_start {p : Program} {e : Env} {s : State} {m : MethodId} {below : List Frame} {meth : Method} {c : Code} (l : Launch) (hflags : l.flags = flags0) {b L : Nat} {xs : Nat → Int32} (hL : L ≤ 3072) (C0 : lw_At p s m meth c b L xs) : W p l e room_1 s m #[Value.ref b] below meth c s.heap [] 0 0 (lw_Z below #[Value.ref b] s) (entryFrame m ([Value.ref b] : List Value).toArray 4) := by
  obtain ⟨hx, hb, hr, hml, hown, hts, hX, hbl, hlocks, hgv⟩ := id C0
  have hA : ∀ q : Nat, s.heap.size ≤ q → (fun q : Nat => s.heap.size ≤ q) q := fun _ h => h
  obtain ⟨ad, hSK, had⟩ := mSK_start (A := fun q : Nat => s.heap.size ≤ q) hts hgv (fun a h => Nat.not_le.mpr h) b
  obtain ⟨D, hK⟩ := mK_start hts
  have X : mCx (p, l, e, room_1, s, m, #[Value.ref b], below, meth, c, lw_Z below #[Value.ref b] s, D, fun q : Nat => s.heap.size ≤ q) (0, 0) ad (mLw meth.name) FF := ⟨hx, hb, hml, hown, fun w hw => hts w (List.mem_filter.mp hw).1, hK, hA, ⟨Nat.le_of_ble_eq_true rfl, Nat.le_of_ble_eq_true rfl, Nat.zero_le _, Nat.zero_le _⟩, hSK, rfl, fun _ _ _ _ _ _ z => absurd z (fun z => z)⟩
  have hl := mLoc_entry (ad := ad) (a := [.ref (mSB + 950)]) (nL := 4) (by simp [Value.category]) (Nat.le_of_ble_eq_true rfl)
  rw [show ([Value.ref (mSB + 950)] : List Value).map (mcv ad) = [.ref b] by show [Value.ref (ad (mSB + 950))] = _; rw [had]] at hl
  rw [lg_entry_eq]
  have key : mG (p, l, e, room_1, s, m, #[Value.ref b], below, meth, c, lw_Z below #[Value.ref b] s, D, fun q : Nat => s.heap.size ≤ q) (0, 0) ad 4 0 [some (.ref (mSB + 950)), none, none, none] [] (hp (0, kwf) x0) := by
    refine g_new (M := mLw meth.name) (ci := 7) (h := hp (0, kwf) x0) (pc := 0) X dL_law_0 kl_L_7 it_7 iz_7 (by decide) x0_ok.wf (by decide) (by intro b9 h9; simp at h9; subst h9; decide) (by intro b9 h9; simp at h9) ⟨Nat.le_of_ble_eq_true rfl, Nat.le_of_ble_eq_true rfl⟩ (fun ad1 had1 => ?_)
    rw [nw_hp x0_ok (show kwf 0 = (7, 0) by decide)]
    have X1 := mCx_ad (c' := (1, 11)) (ad' := ad1) X ⟨Nat.le_of_ble_eq_true rfl, Nat.le_of_ble_eq_true rfl⟩ (fun a h => had1 a (show a ≠ 0 from fun z => absurd (z ▸ h : mSB ≤ 0) (by decide)))
    refine g_dup (M := mLw meth.name) (pc := 3) X1 dL_law_3 rfl ?_
    refine g_callI (M := mLw meth.name) mX7_init (pc := 4) (mc := 716) (ms := 11470) (h := hp (1, kwf) x0) X1 dL_law_4 (Or.inl lk_L_9) ii_X7_init mo_X7_init rfl rfl ⟨Nat.le_of_ble_eq_true rfl, Nat.le_of_ble_eq_true rfl⟩ (Nat.le_of_ble_eq_true rfl) ⟨Nat.le_of_ble_eq_true rfl, Nat.le_of_ble_eq_true rfl⟩ (by intro b9 h9; simp at h9; subst h9; exact Or.inr (by decide)) (by intro b9 h9; simp at h9; subst h9; exact Or.inl (by decide)) (mSpN_mono (ct_X7 (x0_ok.up (by decide)) (fun _ => rfl)) (fun h' eh ad2 had2 => ?_))
    subst eh
    have ok2 : Okx 717 (clC x0) := clC_ok (x0_ok.up (by decide))
    have X2 := mCx_ad (c' := (717, 11481)) (ad' := ad2) X1 ⟨Nat.le_of_ble_eq_true rfl, Nat.le_of_ble_eq_true rfl⟩ (fun a h => had2 a (Or.inr h))
    refine g_astore_n (M := mLw meth.name) (pc := 7) X2 dL_law_7 (Nat.le_of_ble_eq_true rfl) ?_
    refine g_new (M := mLw meth.name) (ci := 8) (h := hp (717, kwf) (clC x0)) (pc := 8) X2 dL_law_8 kl_L_10 it_8 iz_8 (by decide) ok2.wf (by decide) (by intro b9 h9; simp at h9; rcases h9 with h9 | h9 <;> (subst h9; decide)) (by intro b9 h9; simp at h9) ⟨Nat.le_of_ble_eq_true rfl, Nat.le_of_ble_eq_true rfl⟩ (fun ad3 had3 => ?_)
    rw [nw_hp ok2 (show kwf 717 = (8, 0) by decide)]
    have X3 := mCx_ad (c' := (718, 11504)) (ad' := ad3) X2 ⟨Nat.le_of_ble_eq_true rfl, Nat.le_of_ble_eq_true rfl⟩ (fun a h => had3 a (show a ≠ 717 from fun z => absurd (z ▸ h : mSB ≤ 717) (by decide)))
    refine g_dup (M := mLw meth.name) (pc := 11) X3 dL_law_11 rfl ?_
    refine g_callI (M := mLw meth.name) mX8_init (pc := 12) (mc := 8) (ms := 10471) (h := hp (718, kwf) (clC x0)) X3 dL_law_12 (Or.inl lk_L_12) ii_X8_init mo_X8_init rfl rfl ⟨Nat.le_of_ble_eq_true rfl, Nat.le_of_ble_eq_true rfl⟩ (Nat.le_of_ble_eq_true rfl) ⟨Nat.le_of_ble_eq_true rfl, Nat.le_of_ble_eq_true rfl⟩ (by intro b9 h9; simp at h9; rcases h9 with h9 | h9 <;> subst h9; exact Or.inr (by decide); exact Or.inl (by decide)) (by intro b9 h9; simp at h9; subst h9; exact Or.inl (by decide)) (mSpN_mono (ct_X8 (ok2.up (by decide)) (fun k => (ok2.1 _ k (by decide)).1)) (fun h' eh ad4 had4 => ?_))
    subst eh
    have X4 := mCx_ad (c' := (726, 21975)) (ad' := ad4) X3 ⟨Nat.le_of_ble_eq_true rfl, Nat.le_of_ble_eq_true rfl⟩ (fun a h => had4 a (Or.inr h))
    refine g_astore_n (M := mLw meth.name) (pc := 15) X4 dL_law_15 (Nat.le_of_ble_eq_true rfl) ?_
    refine g_iconst (M := mLw meth.name) (v := nI 0) (pc := 16) X4 dL_law_16 (by decide) ?_
    refine g_istore_n (M := mLw meth.name) (pc := 17) X4 dL_law_17 (Nat.le_of_ble_eq_true rfl) ?_
    have ad4s : ad4 (mSB + 950) = b := by
      rw [had4 (mSB + 950) (Or.inr (by omega)), had3 (mSB + 950) (show mSB + 950 ≠ 717 by decide), had2 (mSB + 950) (Or.inr (by omega)), had1 (mSB + 950) (show mSB + 950 ≠ 0 by decide), had]
    have S : SCR (p, l, e, room_1, s, m, #[Value.ref b], below, meth, c, lw_Z below #[Value.ref b] s, D, fun q : Nat => s.heap.size ≤ q) ad4 L xs := by
      refine ⟨?_, ?_, ?_⟩
      · rw [ad4s]; exact hX
      · rw [ad4s]; exact hbl
      · rw [ad4s]; exact Nat.not_le.mpr hbl
    refine law_loop X4 S (by omega) (fun L9 h9 => ?_)
    intro H locs ls q1 q2 q3
    exact va_forget (fun q hq => q2.2.2 q hq) (W.widen (k := 600000) (n := 7302250) (Nat.le_of_ble_eq_true rfl) (Nat.le_of_ble_eq_true rfl) (lw_ret hx hb hr hlocks dL_law_2035 ))
  refine key s.heap [] _ ⟨fun _ => 0, ?_, ?_, fun a h => absurd h (Nat.not_lt_zero a)⟩ va_S.rf hl
  · intro k q h
    simp [mWl, hp] at h
  · exact ⟨fun i j p q h => by simp [mWl, hp] at h, fun k q h => by simp [mWl, hp] at h⟩
set_option maxHeartbeats 4000000 in
theorem lw_walk (l : Launch) (hflags : l.flags = flags0) (b : Addr) (xs : List Int32) : MetFree l x (headSpec (Jvm.Cond.code x code maxLocals ret :: tables_1) room_1) (lw_P b xs) (fun _ _ _ _ _ => True) lw_Q := by
  refine MetFree.of_bodyS (code := code) (maxLocals := maxLocals) (ret := ret) (by decide) ?_ ?_
  · intro args s m h hn
    obtain ⟨meth, c, h1, h2, h3, h4, h5, h6, -, -⟩ := Cond.code_spec hn (atoms_spec (ws := Jvm.Cond.code x code maxLocals ret :: tables_1) h _ List.mem_cons_self)
    exact ⟨meth, c, h1, h2, h3, h4, h5, h6⟩
  · intro p e s m args below meth c s₁ B hml0 hP _
    obtain ⟨rfl, hx, hbd, hgv⟩ := hP
    obtain ⟨scr, harrAt, hlist, hof, hsmall⟩ := hx
    obtain ⟨hcb, hkn, -, -⟩ := State.arrayAt?_spec harrAt
    have hown : s.vm.findClass R_law = some m.cls := findClass_of_methodNamed B.named
    have hts0 : ∀ c ∈ (Jvm.Cond.code x code maxLocals ret :: tables_1), c.before #[Value.ref b] s = true := atoms_spec (ws := Jvm.Cond.code x code maxLocals ret :: tables_1) B.pre
    have hts : ∀ w ∈ lw_tbl, w.before #[Value.ref b] s = true := k2_hts_sels lw_privs (fun w hw => hts0 w (List.mem_cons_of_mem _ hw)) lw_privs_ok
    have hml : c.maxLocals = 4 := B.maxLocals_eq (hts0 _ List.mem_cons_self)
    have X₀ : Stand p l e room_1 s m #[Value.ref b] below meth c s₁ [] 0 0 := Stand.of_body B
    have hh0 : s₁.heap = s.heap := by rw [B.state]; rfl
    have hsz : scr.slots.size = xs.length := by rw [← Array.length_toList, hlist, List.length_map]
    have hval : ∀ j : Nat, j < xs.length → scr.slots[j]? = some (.int (xs.getD j 0)) := fun j hj => by
      rw [← Array.getElem?_toList, hlist]
      simp [hj]
    have hbl : b < s.heap.size := (Array.getElem?_eq_some_iff.mp hcb).1
    have hX : va_X b xs.length (fun j => xs.getD j 0) s s.heap := ⟨scr, hcb, hof, hkn, hsz, hval⟩
    have K : W p l e room_1 s m #[Value.ref b] below meth c s₁.heap [] 0 0 (lw_Z below #[Value.ref b] s) (entryFrame m ([Value.ref b] : List Value).toArray 4) := by
      rw [hh0]
      exact whole_start l hflags hbd ⟨B.exec, B.bytes, B.returns, hml, hown, hts, hX, hbl, B.notSynchronized, hgv⟩
    obtain ⟨t, a1, o, b1, b2, b3⟩ := K s₁ rfl X₀
    exact ⟨t, o, a1, b1, b2, b3⟩
theorem lw_pre_spec {args : Array Value} {s : State} (h : (Jvm.Cond.and given_1 narrow_1).before args s = true) (hr : rest_1_c.before args s = true) : ∃ (b : Addr) (xs : List Int32), lw_P b xs args s := by
  have hs := flat_of_before _ h
  have hq := flat_of_before _ hr
  have hc : (Cond.count 1).before args s = true := hs _ (by decide +kernel)
  have harr : (Cond.arrayOf (.arg 0) .int).before args s = true := hs _ (by decide +kernel)
  have hle : (Cond.le (.length (.arg 0)) (.int 3072)).before args s = true := hs _ (by decide +kernel)
  have hlen : (Cond.isInt (.length (.arg 0))).before args s = true := hq _ (by decide +kernel)
  have hall : (Cond.all (.arg 0) (.isInt (.elem (.arg 0) (.index 0)))).before args s = true := hq _ (by decide +kernel)
  obtain ⟨b, xs, hb, hx⟩ := State.ints_of_pre rfl harr hlen hall
  have hsm : xs.length < 2 ^ 31 := hx.choose_spec.2.2.2
  have hev : (Term.length (.arg 0)).eval args s none [] s = some (.int xs.length.toInt32) := hx.length_eval hb
  have hv := Cond.le_ints hev (show (Term.int 3072).eval args s none [] s = some (.int 3072) from rfl)
  have hd : xs.length.toInt32 ≤ 3072 := by
    simpa [Cond.before, Cond.holds, hv] using hle
  have hN : xs.length ≤ 3072 := (Int32.ofNat_le_ofNat hsm (by decide)).mp (show Int32.ofNat xs.length ≤ Int32.ofNat 3072 from hd)
  exact ⟨b, xs, Cond.one_arg hc (show args[0]? = some (.ref b) from hb), hx, hN, h⟩
theorem lw_comes (l : Launch) (hflags : l.flags = flags0) : Comes l x (Jvm.Cond.code x code maxLocals ret :: tables_1) room_1 (fun tb e args s => Calls_1 tb e args s ∧ rest_1 tb e args s ∧ Pre_1 tb e args s)
    (fun _ _ args s o t => lw_Q args s o t) := by
  intro p e ha hc hk s m args below hf hfit hheap happ hpre
  obtain ⟨b, xs, hP⟩ := lw_pre_spec hpre.2.2 hpre.2.1
  obtain ⟨k, o, h1, h2, h3, hQ⟩ := lw_walk l hflags b xs p e ha hc hk s m args below hf ((Spec.applies_iff_loose hf).mp happ).1 hP trivial
  exact ⟨k, o, h1, h2, h3, hQ⟩
theorem lw_frame {s t : State} {o : Outcome} {args : Array Value} (h : Framed s o t [] 600000 7302250) :
    Framed s o t (fieldLocs frame_1_writes args s ++ arrayLocs frame_1_arrays args s ++ staticLocs frame_1_statics s) 600000 7302250 := h
theorem lw_limb (L : Cond) (hL : ∀ (args : Array Value) (s t : State), L.after args s (.returned (some (.int 1))) t = true) :
    ArmFor flags0 classFile x code maxLocals ret World_1 tables_1 room_1 Calls_1 rest_1 Pre_1
      (fun tb e a s o t => postC L tb e a s o t ∧ Framed s o t (fieldLocs frame_1_writes a s ++ arrayLocs frame_1_arrays a s ++ staticLocs frame_1_statics s) 600000 7302250) := by
  intro l hflags _ _ p e ha hc hk s m args below hf hfit hheap happ hpre
  obtain ⟨k, o, h1, h2, h3, rfl, hF⟩ := lw_comes l hflags p e ha hc hk s m args below hf hfit hheap happ hpre
  exact ⟨k, _, h1, h2, h3, hL args s _, lw_frame hF⟩
theorem i_vc : Claimed_1_1 ∧ Claimed_1_2 := ⟨lw_limb limb_1_1 (fun args s t => by simp [limb_1_1, Cond.after, Cond.holds, Cond.value]), lw_limb limb_1_2 (fun args s t => Cond.after_iff.mpr (by
  first | (rw [show limb_1_2 = Cond.eq .result (.int 1) from rfl, Cond.eq_ints (x := 1) (y := 1) rfl rfl]; simp; done) | (simp [limb_1_2, Cond.value, Term.eval]; done)))⟩
