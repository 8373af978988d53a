set_option maxHeartbeats 2000000 in
theorem v_X2_serve_61 {K : Sh} {x : Cn} {Q : Cn → Prop} {b0 : Nat} {b1 : Nat} {l2 : Int32} {l3 : Int32} {l4 : Int32} {b0_0 : Nat} (k_b0 : kk K b0 = some (2, 0)) (g_b0_0 : gr x b0 0 = some b0_0) (k_b0_0 : kk K b0_0 = some (4, 0)) (K0 : ((gi x b0_0 4) ≤ l4 → (Q x)) ∧ (¬ (gi x b0_0 4) ≤ l4 → ((¬ (l4 - l4 / 2 * 2) = 0 → (mSI mX2_chosen [.ref b0, .int l3, .int 0] K x (fun r_4 y_3 => (r_4 < 0 → (GV mX2_serve 61 [some (.ref b0), some (.ref b1), some (.int l2), some (.int l3), some (.int (l4 + 1)), none] [] K y_3 Q)) ∧ (¬ r_4 < 0 → (gr y_3 b0 0 = some b0_0 ∧ (((gi y_3 b0_0 4) ≤ r_4 → (GV mX2_serve 61 [some (.ref b0), some (.ref b1), some (.int l2), some (.int l3), some (.int (l4 + 1)), none] [] K y_3 Q)) ∧ (¬ (gi y_3 b0_0 4) ≤ r_4 → (∃ c_8 : Nat, gr y_3 b0 2 = some c_8 ∧ (∃ n_11 : Nat, kk K c_8 = some (20, n_11) ∧ (vp_in r_4 n_11 ∧ (mSV mX2_lookAt [.ref b0, .int r_4] K (ui y_3 c_8 (r_4 : Int32).toNatClampNeg l4) (fun y_13 => GV mX2_serve 61 [some (.ref b0), some (.ref b1), some (.int l2), some (.int (l3 &&& ((1 <<< (r_4 &&& 31)) ^^^ (-1)))), some (.int (l4 + 1)), none] [] K y_13 Q)))))))))))) ∧ ((l4 - l4 / 2 * 2) = 0 → (mSI mX2_chosen [.ref b0, .int l3, .int 1] K x (fun r_15 y_14 => (r_15 < 0 → (GV mX2_serve 61 [some (.ref b0), some (.ref b1), some (.int l2), some (.int l3), some (.int (l4 + 1)), none] [] K y_14 Q)) ∧ (¬ r_15 < 0 → (gr y_14 b0 0 = some b0_0 ∧ (((gi y_14 b0_0 4) ≤ r_15 → (GV mX2_serve 61 [some (.ref b0), some (.ref b1), some (.int l2), some (.int l3), some (.int (l4 + 1)), none] [] K y_14 Q)) ∧ (¬ (gi y_14 b0_0 4) ≤ r_15 → (∃ c_19 : Nat, gr y_14 b0 2 = some c_19 ∧ (∃ n_22 : Nat, kk K c_19 = some (20, n_22) ∧ (vp_in r_15 n_22 ∧ (mSV mX2_lookAt [.ref b0, .int r_15] K (ui y_14 c_19 (r_15 : Int32).toNatClampNeg l4) (fun y_24 => GV mX2_serve 61 [some (.ref b0), some (.ref b1), some (.int l2), some (.int (l3 &&& ((1 <<< (r_15 &&& 31)) ^^^ (-1)))), some (.int (l4 + 1)), none] [] K y_24 Q))))))))))))))) : GV mX2_serve 61 [some (.ref b0), some (.ref b1), some (.int l2), some (.int l3), some (.int l4), none] [] K x Q := by
  show mGM mX2_serve 61 [some (.ref b0), some (.ref b1), some (.int l2), some (.int l3), some (.int l4), none] [] (hp K x) (PV K Q)
  refine r_iload (pc := 61) dX2_serve_61 rfl ?_
  refine r_aload_n (pc := 63) dX2_serve_63 rfl ?_
  refine s_getR (pc := 64) dX2_serve_64 fl_X2_12 rfl k_b0 g_b0_0 ?_
  refine s_getI (pc := 67) dX2_serve_67 fl_X2_53 rfl k_b0_0 ?_
  refine r_icmp_ge (pc := 70) (tgt := 139) dX2_serve_70 (by decide) (fun q => ?_) (fun q => ?_)
  · have K0 := K0.1 q
    exact s_ret rfl dX2_serve_139 K0
  · have K0 := K0.2 q
    refine r_aload_n (pc := 73) dX2_serve_73 rfl ?_
    refine r_iload_n (pc := 74) dX2_serve_74 rfl ?_
    refine r_iload (pc := 75) dX2_serve_75 rfl ?_
    refine r_iconst (pc := 77) (v := 2) dX2_serve_77 (by decide) ?_
    refine r_irem (pc := 78) dX2_serve_78 (by decide) ?_
    refine r_if_ne (pc := 79) (tgt := 86) dX2_serve_79 (by decide) (fun q => ?_) (fun q => ?_)
    · have K0 := K0.1 q
      refine r_iconst (pc := 86) (v := 0) dX2_serve_86 (by decide) ?_
      refine s_VI (pc := 87) mX2_chosen (ci := 2) (a := b0) (As := [.int l3, .int 0]) dX2_serve_87 lk_X2_43 in_X2_chosen mo_X2_chosen ⟨by decide, rfl⟩ ⟨by decide, by decide⟩ (Nat.le_of_ble_eq_true rfl) k_b0 (mSI_mono K0 (fun r_4 y_3 K0 => ?_))
      refine r_istore (pc := 90) dX2_serve_90 (by decide) ?_
      refine r_iload (pc := 92) (L := [some (.ref b0), some (.ref b1), some (.int l2), some (.int l3), some (.int l4), some (.int r_4)]) dX2_serve_92 rfl ?_
      refine r_if_lt (pc := 94) (tgt := 133) dX2_serve_94 (by decide) (fun q => ?_) (fun q => ?_)
      · have K0 := K0.1 q
        refine r_iinc (pc := 133) (v := l4 + 1) dX2_serve_133 rfl rfl (by decide) ?_
        refine r_goto (pc := 136) (L := [some (.ref b0), some (.ref b1), some (.int l2), some (.int l3), some (.int (l4 + 1)), some (.int r_4)]) (tgt := 61) dX2_serve_136 (by decide) ?_
        exact r_le (L' := [some (.ref b0), some (.ref b1), some (.int l2), some (.int l3), some (.int (l4 + 1)), none]) ⟨rfl, ⟨rfl, ⟨rfl, ⟨rfl, ⟨rfl, trivial⟩⟩⟩⟩⟩ K0
      · have K0 := K0.2 q
        refine r_iload (pc := 97) dX2_serve_97 rfl ?_
        refine r_aload_n (pc := 99) dX2_serve_99 rfl ?_
        obtain ⟨g_6, K0⟩ := K0
        refine s_getR (pc := 100) dX2_serve_100 fl_X2_12 rfl k_b0 g_6 ?_
        refine s_getI (pc := 103) dX2_serve_103 fl_X2_53 rfl k_b0_0 ?_
        refine r_icmp_ge (pc := 106) (tgt := 133) dX2_serve_106 (by decide) (fun q => ?_) (fun q => ?_)
        · have K0 := K0.1 q
          refine r_iinc (pc := 133) (v := l4 + 1) dX2_serve_133 rfl rfl (by decide) ?_
          refine r_goto (pc := 136) (L := [some (.ref b0), some (.ref b1), some (.int l2), some (.int l3), some (.int (l4 + 1)), some (.int r_4)]) (tgt := 61) dX2_serve_136 (by decide) ?_
          exact r_le (L' := [some (.ref b0), some (.ref b1), some (.int l2), some (.int l3), some (.int (l4 + 1)), none]) ⟨rfl, ⟨rfl, ⟨rfl, ⟨rfl, ⟨rfl, trivial⟩⟩⟩⟩⟩ K0
        · have K0 := K0.2 q
          refine r_iload_n (pc := 109) dX2_serve_109 rfl ?_
          refine r_iconst (pc := 110) (v := 1) dX2_serve_110 (by decide) ?_
          refine r_iload (pc := 111) dX2_serve_111 rfl ?_
          refine r_ishl (pc := 113) dX2_serve_113 ?_
          refine r_iconst (pc := 114) (v := (-1)) dX2_serve_114 (by decide) ?_
          refine r_ixor (pc := 115) dX2_serve_115 ?_
          refine r_iand (pc := 116) dX2_serve_116 ?_
          refine r_istore_n (pc := 117) dX2_serve_117 (by decide) ?_
          refine r_aload_n (pc := 118) (L := [some (.ref b0), some (.ref b1), some (.int l2), some (.int (l3 &&& ((1 <<< (r_4 &&& 31)) ^^^ (-1)))), some (.int l4), some (.int r_4)]) dX2_serve_118 rfl ?_
          obtain ⟨c_8, g_9, K0⟩ := K0
          refine s_getR (pc := 119) dX2_serve_119 fl_X2_22 rfl k_b0 g_9 ?_
          refine r_iload (pc := 122) dX2_serve_122 rfl ?_
          refine r_iload (pc := 124) dX2_serve_124 rfl ?_
          obtain ⟨n_11, e_10, K0⟩ := K0
          obtain ⟨i_12, K0⟩ := K0
          refine s_iast (pc := 126) dX2_serve_126 e_10 i_12 ?_
          refine r_aload_n (pc := 127) dX2_serve_127 rfl ?_
          refine r_iload (pc := 128) dX2_serve_128 rfl ?_
          refine s_VV (pc := 130) mX2_lookAt (ci := 2) (a := b0) (As := [.int r_4]) dX2_serve_130 lk_X2_56 in_X2_lookAt mo_X2_lookAt ⟨by decide, rfl⟩ ⟨by decide, by decide⟩ (Nat.le_of_ble_eq_true rfl) k_b0 (mSV_mono K0 (fun y_13 K0 => ?_))
          refine r_iinc (pc := 133) (v := l4 + 1) dX2_serve_133 rfl rfl (by decide) ?_
          refine r_goto (pc := 136) (L := [some (.ref b0), some (.ref b1), some (.int l2), some (.int (l3 &&& ((1 <<< (r_4 &&& 31)) ^^^ (-1)))), some (.int (l4 + 1)), some (.int r_4)]) (tgt := 61) dX2_serve_136 (by decide) ?_
          exact r_le (L' := [some (.ref b0), some (.ref b1), some (.int l2), some (.int (l3 &&& ((1 <<< (r_4 &&& 31)) ^^^ (-1)))), some (.int (l4 + 1)), none]) ⟨rfl, ⟨rfl, ⟨rfl, ⟨rfl, ⟨rfl, trivial⟩⟩⟩⟩⟩ K0
    · have K0 := K0.2 q
      refine r_iconst (pc := 82) (v := 1) dX2_serve_82 (by decide) ?_
      refine r_goto (pc := 83) (tgt := 87) dX2_serve_83 (by decide) ?_
      refine s_VI (pc := 87) mX2_chosen (ci := 2) (a := b0) (As := [.int l3, .int 1]) dX2_serve_87 lk_X2_43 in_X2_chosen mo_X2_chosen ⟨by decide, rfl⟩ ⟨by decide, by decide⟩ (Nat.le_of_ble_eq_true rfl) k_b0 (mSI_mono K0 (fun r_15 y_14 K0 => ?_))
      refine r_istore (pc := 90) dX2_serve_90 (by decide) ?_
      refine r_iload (pc := 92) (L := [some (.ref b0), some (.ref b1), some (.int l2), some (.int l3), some (.int l4), some (.int r_15)]) dX2_serve_92 rfl ?_
      refine r_if_lt (pc := 94) (tgt := 133) dX2_serve_94 (by decide) (fun q => ?_) (fun q => ?_)
      · have K0 := K0.1 q
        refine r_iinc (pc := 133) (v := l4 + 1) dX2_serve_133 rfl rfl (by decide) ?_
        refine r_goto (pc := 136) (L := [some (.ref b0), some (.ref b1), some (.int l2), some (.int l3), some (.int (l4 + 1)), some (.int r_15)]) (tgt := 61) dX2_serve_136 (by decide) ?_
        exact r_le (L' := [some (.ref b0), some (.ref b1), some (.int l2), some (.int l3), some (.int (l4 + 1)), none]) ⟨rfl, ⟨rfl, ⟨rfl, ⟨rfl, ⟨rfl, trivial⟩⟩⟩⟩⟩ K0
      · have K0 := K0.2 q
        refine r_iload (pc := 97) dX2_serve_97 rfl ?_
        refine r_aload_n (pc := 99) dX2_serve_99 rfl ?_
        obtain ⟨g_17, K0⟩ := K0
        refine s_getR (pc := 100) dX2_serve_100 fl_X2_12 rfl k_b0 g_17 ?_
        refine s_getI (pc := 103) dX2_serve_103 fl_X2_53 rfl k_b0_0 ?_
        refine r_icmp_ge (pc := 106) (tgt := 133) dX2_serve_106 (by decide) (fun q => ?_) (fun q => ?_)
        · have K0 := K0.1 q
          refine r_iinc (pc := 133) (v := l4 + 1) dX2_serve_133 rfl rfl (by decide) ?_
          refine r_goto (pc := 136) (L := [some (.ref b0), some (.ref b1), some (.int l2), some (.int l3), some (.int (l4 + 1)), some (.int r_15)]) (tgt := 61) dX2_serve_136 (by decide) ?_
          exact r_le (L' := [some (.ref b0), some (.ref b1), some (.int l2), some (.int l3), some (.int (l4 + 1)), none]) ⟨rfl, ⟨rfl, ⟨rfl, ⟨rfl, ⟨rfl, trivial⟩⟩⟩⟩⟩ K0
        · have K0 := K0.2 q
          refine r_iload_n (pc := 109) dX2_serve_109 rfl ?_
          refine r_iconst (pc := 110) (v := 1) dX2_serve_110 (by decide) ?_
          refine r_iload (pc := 111) dX2_serve_111 rfl ?_
          refine r_ishl (pc := 113) dX2_serve_113 ?_
          refine r_iconst (pc := 114) (v := (-1)) dX2_serve_114 (by decide) ?_
          refine r_ixor (pc := 115) dX2_serve_115 ?_
          refine r_iand (pc := 116) dX2_serve_116 ?_
          refine r_istore_n (pc := 117) dX2_serve_117 (by decide) ?_
          refine r_aload_n (pc := 118) (L := [some (.ref b0), some (.ref b1), some (.int l2), some (.int (l3 &&& ((1 <<< (r_15 &&& 31)) ^^^ (-1)))), some (.int l4), some (.int r_15)]) dX2_serve_118 rfl ?_
          obtain ⟨c_19, g_20, K0⟩ := K0
          refine s_getR (pc := 119) dX2_serve_119 fl_X2_22 rfl k_b0 g_20 ?_
          refine r_iload (pc := 122) dX2_serve_122 rfl ?_
          refine r_iload (pc := 124) dX2_serve_124 rfl ?_
          obtain ⟨n_22, e_21, K0⟩ := K0
          obtain ⟨i_23, K0⟩ := K0
          refine s_iast (pc := 126) dX2_serve_126 e_21 i_23 ?_
          refine r_aload_n (pc := 127) dX2_serve_127 rfl ?_
          refine r_iload (pc := 128) dX2_serve_128 rfl ?_
          refine s_VV (pc := 130) mX2_lookAt (ci := 2) (a := b0) (As := [.int r_15]) dX2_serve_130 lk_X2_56 in_X2_lookAt mo_X2_lookAt ⟨by decide, rfl⟩ ⟨by decide, by decide⟩ (Nat.le_of_ble_eq_true rfl) k_b0 (mSV_mono K0 (fun y_24 K0 => ?_))
          refine r_iinc (pc := 133) (v := l4 + 1) dX2_serve_133 rfl rfl (by decide) ?_
          refine r_goto (pc := 136) (L := [some (.ref b0), some (.ref b1), some (.int l2), some (.int (l3 &&& ((1 <<< (r_15 &&& 31)) ^^^ (-1)))), some (.int (l4 + 1)), some (.int r_15)]) (tgt := 61) dX2_serve_136 (by decide) ?_
          exact r_le (L' := [some (.ref b0), some (.ref b1), some (.int l2), some (.int (l3 &&& ((1 <<< (r_15 &&& 31)) ^^^ (-1)))), some (.int (l4 + 1)), none]) ⟨rfl, ⟨rfl, ⟨rfl, ⟨rfl, ⟨rfl, trivial⟩⟩⟩⟩⟩ K0
section
end
