/-! instructions read off the bytes: one lemma a kind, one list a stretch of the law's code -/
def Bt (c : ByteArray) (p : Nat) (b : UInt8) : Prop := c.data.toList[p]? = some b
theorem blk_at {c : ByteArray} {p n : Nat} {bs : List UInt8} (h : (c.data.toList.drop p).take n = bs) (j : Nat) {b : UInt8} (e : bs[j]? = some b) : Bt c (p + j) b := by
  unfold Bt
  rw [← h, List.getElem?_take] at e
  split at e
  · rw [List.getElem?_drop] at e
    exact e
  · cases e
theorem u1_at {c : ByteArray} {p n : Nat} {b : UInt8} (h : Bt c p b) (hn : b.toNat = n) : (Reader.u1 : Decoder Nat).runAt c p = .ok (n, p + 1) := by
  obtain ⟨h1, h2⟩ := List.getElem?_eq_some_iff.mp h
  have h3 : p < c.size := h1
  have h4 : c[p] = b := h2
  have e : (Reader.u1 : Decoder Nat).runAt c p = (if h : p < c.size then (do set (p + 1); pure c[p].toNat : Decoder Nat) else throw (HasTruncated.truncated p)) c p := rfl
  rw [e, dif_pos h3]
  show Except.ok (c[p].toNat, p + 1) = _
  rw [h4, hn]
theorem rd_bind {α β : Type} (x : Decoder α) (f : α → Decoder β) {c : ByteArray} {p p' : Nat} {a : α} (h : x.runAt c p = .ok (a, p')) : (x >>= f).runAt c p = (f a).runAt c p' := by
  have e : (x >>= f).runAt c p = Except.bind (x.runAt c p) (fun q => (f q.1).runAt c q.2) := rfl
  rw [e, h]
  rfl
theorem dec_run {c : ByteArray} {pc n : Nat} {i : Instr} (h : (Decoder.instr pc).runAt c pc = .ok (i, n)) : decode c pc = .ok (i, n - pc) := by
  unfold decode
  rw [h]
  rfl
theorem u2_at {c : ByteArray} {p k : Nat} {a b : UInt8} (h1 : Bt c p a) (h2 : Bt c (p + 1) b) (hk : a.toNat * 256 + b.toNat = k) : (Reader.u2 : Decoder Nat).runAt c p = .ok (k, p + 2) := by
  unfold Reader.u2
  refine (rd_bind Reader.u1 _ (u1_at h1 rfl)).trans ?_
  refine (rd_bind Reader.u1 _ (u1_at h2 rfl)).trans ?_
  rw [← hk]
  rfl
theorem s2_at {c : ByteArray} {p : Nat} {k : Int} {a b : UInt8} (h1 : Bt c p a) (h2 : Bt c (p + 1) b) (hk : Reader.signed 16 (a.toNat * 256 + b.toNat) = k) : (Reader.s2 : Decoder Int).runAt c p = .ok (k, p + 2) := by
  have e : (Reader.s2 : Decoder Int).runAt c p = ((Reader.u2 : Decoder Nat) >>= fun n => pure (Reader.signed 16 n)).runAt c p := rfl
  rw [e]
  refine (rd_bind Reader.u2 _ (u2_at h1 h2 rfl)).trans ?_
  rw [← hk]
  rfl
theorem s1_at {c : ByteArray} {p : Nat} {k : Int} {a : UInt8} (h1 : Bt c p a) (hk : Reader.signed 8 a.toNat = k) : (Reader.s1 : Decoder Int).runAt c p = .ok (k, p + 1) := by
  have e : (Reader.s1 : Decoder Int).runAt c p = ((Reader.u1 : Decoder Nat) >>= fun n => pure (Reader.signed 8 n)).runAt c p := rfl
  rw [e]
  refine (rd_bind Reader.u1 _ (u1_at h1 rfl)).trans ?_
  rw [← hk]
  rfl
theorem dr_at {bs l : List UInt8} {j : Nat} (e : bs.drop j = l) (i : Nat) {x : UInt8} (h : l[i]? = some x) : bs[j + i]? = some x := by
  rw [← List.getElem?_drop, e]
  exact h
theorem dk_2 {c : ByteArray} {pc : Nat} (h : Bt c pc 2) : decode c pc = .ok (.iconst (-1), 1) := by
  have e : (Decoder.instr pc).runAt c pc = .ok (.iconst (-1), pc + 1) := by
    unfold Decoder.instr
    exact (rd_bind Reader.u1 _ (u1_at (n := 2) h rfl)).trans rfl
  rw [dec_run e, Nat.add_sub_cancel_left]
theorem dk_3 {c : ByteArray} {pc : Nat} (h : Bt c pc 3) : decode c pc = .ok (.iconst 0, 1) := by
  have e : (Decoder.instr pc).runAt c pc = .ok (.iconst 0, pc + 1) := by
    unfold Decoder.instr
    exact (rd_bind Reader.u1 _ (u1_at (n := 3) h rfl)).trans rfl
  rw [dec_run e, Nat.add_sub_cancel_left]
theorem dk_4 {c : ByteArray} {pc : Nat} (h : Bt c pc 4) : decode c pc = .ok (.iconst 1, 1) := by
  have e : (Decoder.instr pc).runAt c pc = .ok (.iconst 1, pc + 1) := by
    unfold Decoder.instr
    exact (rd_bind Reader.u1 _ (u1_at (n := 4) h rfl)).trans rfl
  rw [dec_run e, Nat.add_sub_cancel_left]
theorem dk_5 {c : ByteArray} {pc : Nat} (h : Bt c pc 5) : decode c pc = .ok (.iconst 2, 1) := by
  have e : (Decoder.instr pc).runAt c pc = .ok (.iconst 2, pc + 1) := by
    unfold Decoder.instr
    exact (rd_bind Reader.u1 _ (u1_at (n := 5) h rfl)).trans rfl
  rw [dec_run e, Nat.add_sub_cancel_left]
theorem dk_6 {c : ByteArray} {pc : Nat} (h : Bt c pc 6) : decode c pc = .ok (.iconst 3, 1) := by
  have e : (Decoder.instr pc).runAt c pc = .ok (.iconst 3, pc + 1) := by
    unfold Decoder.instr
    exact (rd_bind Reader.u1 _ (u1_at (n := 6) h rfl)).trans rfl
  rw [dec_run e, Nat.add_sub_cancel_left]
theorem dk_7 {c : ByteArray} {pc : Nat} (h : Bt c pc 7) : decode c pc = .ok (.iconst 4, 1) := by
  have e : (Decoder.instr pc).runAt c pc = .ok (.iconst 4, pc + 1) := by
    unfold Decoder.instr
    exact (rd_bind Reader.u1 _ (u1_at (n := 7) h rfl)).trans rfl
  rw [dec_run e, Nat.add_sub_cancel_left]
theorem dk_8 {c : ByteArray} {pc : Nat} (h : Bt c pc 8) : decode c pc = .ok (.iconst 5, 1) := by
  have e : (Decoder.instr pc).runAt c pc = .ok (.iconst 5, pc + 1) := by
    unfold Decoder.instr
    exact (rd_bind Reader.u1 _ (u1_at (n := 8) h rfl)).trans rfl
  rw [dec_run e, Nat.add_sub_cancel_left]
theorem dk_9 {c : ByteArray} {pc : Nat} (h : Bt c pc 9) : decode c pc = .ok (.lconst 0, 1) := by
  have e : (Decoder.instr pc).runAt c pc = .ok (.lconst 0, pc + 1) := by
    unfold Decoder.instr
    exact (rd_bind Reader.u1 _ (u1_at (n := 9) h rfl)).trans rfl
  rw [dec_run e, Nat.add_sub_cancel_left]
theorem dk_10 {c : ByteArray} {pc : Nat} (h : Bt c pc 10) : decode c pc = .ok (.lconst 1, 1) := by
  have e : (Decoder.instr pc).runAt c pc = .ok (.lconst 1, pc + 1) := by
    unfold Decoder.instr
    exact (rd_bind Reader.u1 _ (u1_at (n := 10) h rfl)).trans rfl
  rw [dec_run e, Nat.add_sub_cancel_left]
theorem dk_26 {c : ByteArray} {pc : Nat} (h : Bt c pc 26) : decode c pc = .ok (.iload_n 0, 1) := by
  have e : (Decoder.instr pc).runAt c pc = .ok (.iload_n 0, pc + 1) := by
    unfold Decoder.instr
    exact (rd_bind Reader.u1 _ (u1_at (n := 26) h rfl)).trans rfl
  rw [dec_run e, Nat.add_sub_cancel_left]
theorem dk_27 {c : ByteArray} {pc : Nat} (h : Bt c pc 27) : decode c pc = .ok (.iload_n 1, 1) := by
  have e : (Decoder.instr pc).runAt c pc = .ok (.iload_n 1, pc + 1) := by
    unfold Decoder.instr
    exact (rd_bind Reader.u1 _ (u1_at (n := 27) h rfl)).trans rfl
  rw [dec_run e, Nat.add_sub_cancel_left]
theorem dk_28 {c : ByteArray} {pc : Nat} (h : Bt c pc 28) : decode c pc = .ok (.iload_n 2, 1) := by
  have e : (Decoder.instr pc).runAt c pc = .ok (.iload_n 2, pc + 1) := by
    unfold Decoder.instr
    exact (rd_bind Reader.u1 _ (u1_at (n := 28) h rfl)).trans rfl
  rw [dec_run e, Nat.add_sub_cancel_left]
theorem dk_29 {c : ByteArray} {pc : Nat} (h : Bt c pc 29) : decode c pc = .ok (.iload_n 3, 1) := by
  have e : (Decoder.instr pc).runAt c pc = .ok (.iload_n 3, pc + 1) := by
    unfold Decoder.instr
    exact (rd_bind Reader.u1 _ (u1_at (n := 29) h rfl)).trans rfl
  rw [dec_run e, Nat.add_sub_cancel_left]
theorem dk_30 {c : ByteArray} {pc : Nat} (h : Bt c pc 30) : decode c pc = .ok (.lload_n 0, 1) := by
  have e : (Decoder.instr pc).runAt c pc = .ok (.lload_n 0, pc + 1) := by
    unfold Decoder.instr
    exact (rd_bind Reader.u1 _ (u1_at (n := 30) h rfl)).trans rfl
  rw [dec_run e, Nat.add_sub_cancel_left]
theorem dk_32 {c : ByteArray} {pc : Nat} (h : Bt c pc 32) : decode c pc = .ok (.lload_n 2, 1) := by
  have e : (Decoder.instr pc).runAt c pc = .ok (.lload_n 2, pc + 1) := by
    unfold Decoder.instr
    exact (rd_bind Reader.u1 _ (u1_at (n := 32) h rfl)).trans rfl
  rw [dec_run e, Nat.add_sub_cancel_left]
theorem dk_42 {c : ByteArray} {pc : Nat} (h : Bt c pc 42) : decode c pc = .ok (.aload_n 0, 1) := by
  have e : (Decoder.instr pc).runAt c pc = .ok (.aload_n 0, pc + 1) := by
    unfold Decoder.instr
    exact (rd_bind Reader.u1 _ (u1_at (n := 42) h rfl)).trans rfl
  rw [dec_run e, Nat.add_sub_cancel_left]
theorem dk_43 {c : ByteArray} {pc : Nat} (h : Bt c pc 43) : decode c pc = .ok (.aload_n 1, 1) := by
  have e : (Decoder.instr pc).runAt c pc = .ok (.aload_n 1, pc + 1) := by
    unfold Decoder.instr
    exact (rd_bind Reader.u1 _ (u1_at (n := 43) h rfl)).trans rfl
  rw [dec_run e, Nat.add_sub_cancel_left]
theorem dk_44 {c : ByteArray} {pc : Nat} (h : Bt c pc 44) : decode c pc = .ok (.aload_n 2, 1) := by
  have e : (Decoder.instr pc).runAt c pc = .ok (.aload_n 2, pc + 1) := by
    unfold Decoder.instr
    exact (rd_bind Reader.u1 _ (u1_at (n := 44) h rfl)).trans rfl
  rw [dec_run e, Nat.add_sub_cancel_left]
theorem dk_45 {c : ByteArray} {pc : Nat} (h : Bt c pc 45) : decode c pc = .ok (.aload_n 3, 1) := by
  have e : (Decoder.instr pc).runAt c pc = .ok (.aload_n 3, pc + 1) := by
    unfold Decoder.instr
    exact (rd_bind Reader.u1 _ (u1_at (n := 45) h rfl)).trans rfl
  rw [dec_run e, Nat.add_sub_cancel_left]
theorem dk_46 {c : ByteArray} {pc : Nat} (h : Bt c pc 46) : decode c pc = .ok (.iaload, 1) := by
  have e : (Decoder.instr pc).runAt c pc = .ok (.iaload, pc + 1) := by
    unfold Decoder.instr
    exact (rd_bind Reader.u1 _ (u1_at (n := 46) h rfl)).trans rfl
  rw [dec_run e, Nat.add_sub_cancel_left]
theorem dk_50 {c : ByteArray} {pc : Nat} (h : Bt c pc 50) : decode c pc = .ok (.aaload, 1) := by
  have e : (Decoder.instr pc).runAt c pc = .ok (.aaload, pc + 1) := by
    unfold Decoder.instr
    exact (rd_bind Reader.u1 _ (u1_at (n := 50) h rfl)).trans rfl
  rw [dec_run e, Nat.add_sub_cancel_left]
theorem dk_51 {c : ByteArray} {pc : Nat} (h : Bt c pc 51) : decode c pc = .ok (.baload, 1) := by
  have e : (Decoder.instr pc).runAt c pc = .ok (.baload, pc + 1) := by
    unfold Decoder.instr
    exact (rd_bind Reader.u1 _ (u1_at (n := 51) h rfl)).trans rfl
  rw [dec_run e, Nat.add_sub_cancel_left]
theorem dk_59 {c : ByteArray} {pc : Nat} (h : Bt c pc 59) : decode c pc = .ok (.istore_n 0, 1) := by
  have e : (Decoder.instr pc).runAt c pc = .ok (.istore_n 0, pc + 1) := by
    unfold Decoder.instr
    exact (rd_bind Reader.u1 _ (u1_at (n := 59) h rfl)).trans rfl
  rw [dec_run e, Nat.add_sub_cancel_left]
theorem dk_60 {c : ByteArray} {pc : Nat} (h : Bt c pc 60) : decode c pc = .ok (.istore_n 1, 1) := by
  have e : (Decoder.instr pc).runAt c pc = .ok (.istore_n 1, pc + 1) := by
    unfold Decoder.instr
    exact (rd_bind Reader.u1 _ (u1_at (n := 60) h rfl)).trans rfl
  rw [dec_run e, Nat.add_sub_cancel_left]
theorem dk_61 {c : ByteArray} {pc : Nat} (h : Bt c pc 61) : decode c pc = .ok (.istore_n 2, 1) := by
  have e : (Decoder.instr pc).runAt c pc = .ok (.istore_n 2, pc + 1) := by
    unfold Decoder.instr
    exact (rd_bind Reader.u1 _ (u1_at (n := 61) h rfl)).trans rfl
  rw [dec_run e, Nat.add_sub_cancel_left]
theorem dk_62 {c : ByteArray} {pc : Nat} (h : Bt c pc 62) : decode c pc = .ok (.istore_n 3, 1) := by
  have e : (Decoder.instr pc).runAt c pc = .ok (.istore_n 3, pc + 1) := by
    unfold Decoder.instr
    exact (rd_bind Reader.u1 _ (u1_at (n := 62) h rfl)).trans rfl
  rw [dec_run e, Nat.add_sub_cancel_left]
theorem dk_76 {c : ByteArray} {pc : Nat} (h : Bt c pc 76) : decode c pc = .ok (.astore_n 1, 1) := by
  have e : (Decoder.instr pc).runAt c pc = .ok (.astore_n 1, pc + 1) := by
    unfold Decoder.instr
    exact (rd_bind Reader.u1 _ (u1_at (n := 76) h rfl)).trans rfl
  rw [dec_run e, Nat.add_sub_cancel_left]
theorem dk_77 {c : ByteArray} {pc : Nat} (h : Bt c pc 77) : decode c pc = .ok (.astore_n 2, 1) := by
  have e : (Decoder.instr pc).runAt c pc = .ok (.astore_n 2, pc + 1) := by
    unfold Decoder.instr
    exact (rd_bind Reader.u1 _ (u1_at (n := 77) h rfl)).trans rfl
  rw [dec_run e, Nat.add_sub_cancel_left]
theorem dk_78 {c : ByteArray} {pc : Nat} (h : Bt c pc 78) : decode c pc = .ok (.astore_n 3, 1) := by
  have e : (Decoder.instr pc).runAt c pc = .ok (.astore_n 3, pc + 1) := by
    unfold Decoder.instr
    exact (rd_bind Reader.u1 _ (u1_at (n := 78) h rfl)).trans rfl
  rw [dec_run e, Nat.add_sub_cancel_left]
theorem dk_79 {c : ByteArray} {pc : Nat} (h : Bt c pc 79) : decode c pc = .ok (.iastore, 1) := by
  have e : (Decoder.instr pc).runAt c pc = .ok (.iastore, pc + 1) := by
    unfold Decoder.instr
    exact (rd_bind Reader.u1 _ (u1_at (n := 79) h rfl)).trans rfl
  rw [dec_run e, Nat.add_sub_cancel_left]
theorem dk_83 {c : ByteArray} {pc : Nat} (h : Bt c pc 83) : decode c pc = .ok (.aastore, 1) := by
  have e : (Decoder.instr pc).runAt c pc = .ok (.aastore, pc + 1) := by
    unfold Decoder.instr
    exact (rd_bind Reader.u1 _ (u1_at (n := 83) h rfl)).trans rfl
  rw [dec_run e, Nat.add_sub_cancel_left]
theorem dk_84 {c : ByteArray} {pc : Nat} (h : Bt c pc 84) : decode c pc = .ok (.bastore, 1) := by
  have e : (Decoder.instr pc).runAt c pc = .ok (.bastore, pc + 1) := by
    unfold Decoder.instr
    exact (rd_bind Reader.u1 _ (u1_at (n := 84) h rfl)).trans rfl
  rw [dec_run e, Nat.add_sub_cancel_left]
theorem dk_87 {c : ByteArray} {pc : Nat} (h : Bt c pc 87) : decode c pc = .ok (.pop, 1) := by
  have e : (Decoder.instr pc).runAt c pc = .ok (.pop, pc + 1) := by
    unfold Decoder.instr
    exact (rd_bind Reader.u1 _ (u1_at (n := 87) h rfl)).trans rfl
  rw [dec_run e, Nat.add_sub_cancel_left]
theorem dk_89 {c : ByteArray} {pc : Nat} (h : Bt c pc 89) : decode c pc = .ok (.dup, 1) := by
  have e : (Decoder.instr pc).runAt c pc = .ok (.dup, pc + 1) := by
    unfold Decoder.instr
    exact (rd_bind Reader.u1 _ (u1_at (n := 89) h rfl)).trans rfl
  rw [dec_run e, Nat.add_sub_cancel_left]
theorem dk_92 {c : ByteArray} {pc : Nat} (h : Bt c pc 92) : decode c pc = .ok (.dup2, 1) := by
  have e : (Decoder.instr pc).runAt c pc = .ok (.dup2, pc + 1) := by
    unfold Decoder.instr
    exact (rd_bind Reader.u1 _ (u1_at (n := 92) h rfl)).trans rfl
  rw [dec_run e, Nat.add_sub_cancel_left]
theorem dk_96 {c : ByteArray} {pc : Nat} (h : Bt c pc 96) : decode c pc = .ok (.iadd, 1) := by
  have e : (Decoder.instr pc).runAt c pc = .ok (.iadd, pc + 1) := by
    unfold Decoder.instr
    exact (rd_bind Reader.u1 _ (u1_at (n := 96) h rfl)).trans rfl
  rw [dec_run e, Nat.add_sub_cancel_left]
theorem dk_100 {c : ByteArray} {pc : Nat} (h : Bt c pc 100) : decode c pc = .ok (.isub, 1) := by
  have e : (Decoder.instr pc).runAt c pc = .ok (.isub, pc + 1) := by
    unfold Decoder.instr
    exact (rd_bind Reader.u1 _ (u1_at (n := 100) h rfl)).trans rfl
  rw [dec_run e, Nat.add_sub_cancel_left]
theorem dk_101 {c : ByteArray} {pc : Nat} (h : Bt c pc 101) : decode c pc = .ok (.lsub, 1) := by
  have e : (Decoder.instr pc).runAt c pc = .ok (.lsub, pc + 1) := by
    unfold Decoder.instr
    exact (rd_bind Reader.u1 _ (u1_at (n := 101) h rfl)).trans rfl
  rw [dec_run e, Nat.add_sub_cancel_left]
theorem dk_104 {c : ByteArray} {pc : Nat} (h : Bt c pc 104) : decode c pc = .ok (.imul, 1) := by
  have e : (Decoder.instr pc).runAt c pc = .ok (.imul, pc + 1) := by
    unfold Decoder.instr
    exact (rd_bind Reader.u1 _ (u1_at (n := 104) h rfl)).trans rfl
  rw [dec_run e, Nat.add_sub_cancel_left]
theorem dk_108 {c : ByteArray} {pc : Nat} (h : Bt c pc 108) : decode c pc = .ok (.idiv, 1) := by
  have e : (Decoder.instr pc).runAt c pc = .ok (.idiv, pc + 1) := by
    unfold Decoder.instr
    exact (rd_bind Reader.u1 _ (u1_at (n := 108) h rfl)).trans rfl
  rw [dec_run e, Nat.add_sub_cancel_left]
theorem dk_112 {c : ByteArray} {pc : Nat} (h : Bt c pc 112) : decode c pc = .ok (.irem, 1) := by
  have e : (Decoder.instr pc).runAt c pc = .ok (.irem, pc + 1) := by
    unfold Decoder.instr
    exact (rd_bind Reader.u1 _ (u1_at (n := 112) h rfl)).trans rfl
  rw [dec_run e, Nat.add_sub_cancel_left]
theorem dk_120 {c : ByteArray} {pc : Nat} (h : Bt c pc 120) : decode c pc = .ok (.ishl, 1) := by
  have e : (Decoder.instr pc).runAt c pc = .ok (.ishl, pc + 1) := by
    unfold Decoder.instr
    exact (rd_bind Reader.u1 _ (u1_at (n := 120) h rfl)).trans rfl
  rw [dec_run e, Nat.add_sub_cancel_left]
theorem dk_121 {c : ByteArray} {pc : Nat} (h : Bt c pc 121) : decode c pc = .ok (.lshl, 1) := by
  have e : (Decoder.instr pc).runAt c pc = .ok (.lshl, pc + 1) := by
    unfold Decoder.instr
    exact (rd_bind Reader.u1 _ (u1_at (n := 121) h rfl)).trans rfl
  rw [dec_run e, Nat.add_sub_cancel_left]
theorem dk_122 {c : ByteArray} {pc : Nat} (h : Bt c pc 122) : decode c pc = .ok (.ishr, 1) := by
  have e : (Decoder.instr pc).runAt c pc = .ok (.ishr, pc + 1) := by
    unfold Decoder.instr
    exact (rd_bind Reader.u1 _ (u1_at (n := 122) h rfl)).trans rfl
  rw [dec_run e, Nat.add_sub_cancel_left]
theorem dk_124 {c : ByteArray} {pc : Nat} (h : Bt c pc 124) : decode c pc = .ok (.iushr, 1) := by
  have e : (Decoder.instr pc).runAt c pc = .ok (.iushr, pc + 1) := by
    unfold Decoder.instr
    exact (rd_bind Reader.u1 _ (u1_at (n := 124) h rfl)).trans rfl
  rw [dec_run e, Nat.add_sub_cancel_left]
theorem dk_126 {c : ByteArray} {pc : Nat} (h : Bt c pc 126) : decode c pc = .ok (.iand, 1) := by
  have e : (Decoder.instr pc).runAt c pc = .ok (.iand, pc + 1) := by
    unfold Decoder.instr
    exact (rd_bind Reader.u1 _ (u1_at (n := 126) h rfl)).trans rfl
  rw [dec_run e, Nat.add_sub_cancel_left]
theorem dk_128 {c : ByteArray} {pc : Nat} (h : Bt c pc 128) : decode c pc = .ok (.ior, 1) := by
  have e : (Decoder.instr pc).runAt c pc = .ok (.ior, pc + 1) := by
    unfold Decoder.instr
    exact (rd_bind Reader.u1 _ (u1_at (n := 128) h rfl)).trans rfl
  rw [dec_run e, Nat.add_sub_cancel_left]
theorem dk_130 {c : ByteArray} {pc : Nat} (h : Bt c pc 130) : decode c pc = .ok (.ixor, 1) := by
  have e : (Decoder.instr pc).runAt c pc = .ok (.ixor, pc + 1) := by
    unfold Decoder.instr
    exact (rd_bind Reader.u1 _ (u1_at (n := 130) h rfl)).trans rfl
  rw [dec_run e, Nat.add_sub_cancel_left]
theorem dk_133 {c : ByteArray} {pc : Nat} (h : Bt c pc 133) : decode c pc = .ok (.i2l, 1) := by
  have e : (Decoder.instr pc).runAt c pc = .ok (.i2l, pc + 1) := by
    unfold Decoder.instr
    exact (rd_bind Reader.u1 _ (u1_at (n := 133) h rfl)).trans rfl
  rw [dec_run e, Nat.add_sub_cancel_left]
theorem dk_136 {c : ByteArray} {pc : Nat} (h : Bt c pc 136) : decode c pc = .ok (.l2i, 1) := by
  have e : (Decoder.instr pc).runAt c pc = .ok (.l2i, pc + 1) := by
    unfold Decoder.instr
    exact (rd_bind Reader.u1 _ (u1_at (n := 136) h rfl)).trans rfl
  rw [dec_run e, Nat.add_sub_cancel_left]
theorem dk_145 {c : ByteArray} {pc : Nat} (h : Bt c pc 145) : decode c pc = .ok (.i2b, 1) := by
  have e : (Decoder.instr pc).runAt c pc = .ok (.i2b, pc + 1) := by
    unfold Decoder.instr
    exact (rd_bind Reader.u1 _ (u1_at (n := 145) h rfl)).trans rfl
  rw [dec_run e, Nat.add_sub_cancel_left]
theorem dk_146 {c : ByteArray} {pc : Nat} (h : Bt c pc 146) : decode c pc = .ok (.i2c, 1) := by
  have e : (Decoder.instr pc).runAt c pc = .ok (.i2c, pc + 1) := by
    unfold Decoder.instr
    exact (rd_bind Reader.u1 _ (u1_at (n := 146) h rfl)).trans rfl
  rw [dec_run e, Nat.add_sub_cancel_left]
theorem dk_148 {c : ByteArray} {pc : Nat} (h : Bt c pc 148) : decode c pc = .ok (.lcmp, 1) := by
  have e : (Decoder.instr pc).runAt c pc = .ok (.lcmp, pc + 1) := by
    unfold Decoder.instr
    exact (rd_bind Reader.u1 _ (u1_at (n := 148) h rfl)).trans rfl
  rw [dec_run e, Nat.add_sub_cancel_left]
theorem dk_172 {c : ByteArray} {pc : Nat} (h : Bt c pc 172) : decode c pc = .ok (.ireturn, 1) := by
  have e : (Decoder.instr pc).runAt c pc = .ok (.ireturn, pc + 1) := by
    unfold Decoder.instr
    exact (rd_bind Reader.u1 _ (u1_at (n := 172) h rfl)).trans rfl
  rw [dec_run e, Nat.add_sub_cancel_left]
theorem dk_176 {c : ByteArray} {pc : Nat} (h : Bt c pc 176) : decode c pc = .ok (.areturn, 1) := by
  have e : (Decoder.instr pc).runAt c pc = .ok (.areturn, pc + 1) := by
    unfold Decoder.instr
    exact (rd_bind Reader.u1 _ (u1_at (n := 176) h rfl)).trans rfl
  rw [dec_run e, Nat.add_sub_cancel_left]
theorem dk_177 {c : ByteArray} {pc : Nat} (h : Bt c pc 177) : decode c pc = .ok (.return_, 1) := by
  have e : (Decoder.instr pc).runAt c pc = .ok (.return_, pc + 1) := by
    unfold Decoder.instr
    exact (rd_bind Reader.u1 _ (u1_at (n := 177) h rfl)).trans rfl
  rw [dec_run e, Nat.add_sub_cancel_left]
theorem dk_190 {c : ByteArray} {pc : Nat} (h : Bt c pc 190) : decode c pc = .ok (.arraylength, 1) := by
  have e : (Decoder.instr pc).runAt c pc = .ok (.arraylength, pc + 1) := by
    unfold Decoder.instr
    exact (rd_bind Reader.u1 _ (u1_at (n := 190) h rfl)).trans rfl
  rw [dec_run e, Nat.add_sub_cancel_left]
theorem dk_191 {c : ByteArray} {pc : Nat} (h : Bt c pc 191) : decode c pc = .ok (.athrow, 1) := by
  have e : (Decoder.instr pc).runAt c pc = .ok (.athrow, pc + 1) := by
    unfold Decoder.instr
    exact (rd_bind Reader.u1 _ (u1_at (n := 191) h rfl)).trans rfl
  rw [dec_run e, Nat.add_sub_cancel_left]
theorem dk_16 {c : ByteArray} {pc : Nat} {a : UInt8} {k : Int} (h : Bt c pc 16) (h1 : Bt c (pc + 1) a) (hk : Reader.signed 8 a.toNat = k) : decode c pc = .ok (.bipush k, 2) := by
  have e : (Decoder.instr pc).runAt c pc = .ok (.bipush k, pc + 2) := by
    unfold Decoder.instr
    refine (rd_bind Reader.u1 _ (u1_at (n := 16) h rfl)).trans ?_
    exact (rd_bind Reader.s1 (fun x => pure (Instr.bipush x)) (s1_at h1 hk)).trans rfl
  rw [dec_run e, Nat.add_sub_cancel_left]
theorem dk_17 {c : ByteArray} {pc : Nat} {a b : UInt8} {k : Int} (h : Bt c pc 17) (h1 : Bt c (pc + 1) a) (h2 : Bt c (pc + 2) b) (hk : Reader.signed 16 (a.toNat * 256 + b.toNat) = k) : decode c pc = .ok (.sipush k, 3) := by
  have e : (Decoder.instr pc).runAt c pc = .ok (.sipush k, pc + 3) := by
    unfold Decoder.instr
    refine (rd_bind Reader.u1 _ (u1_at (n := 17) h rfl)).trans ?_
    exact (rd_bind Reader.s2 (fun x => pure (Instr.sipush x)) (s2_at h1 h2 hk)).trans rfl
  rw [dec_run e, Nat.add_sub_cancel_left]
theorem dk_18 {c : ByteArray} {pc : Nat} {a : UInt8} {k : Nat} (h : Bt c pc 18) (h1 : Bt c (pc + 1) a) (hk : a.toNat = k) : decode c pc = .ok (.ldc k, 2) := by
  have e : (Decoder.instr pc).runAt c pc = .ok (.ldc k, pc + 2) := by
    unfold Decoder.instr
    refine (rd_bind Reader.u1 _ (u1_at (n := 18) h rfl)).trans ?_
    exact (rd_bind Reader.u1 (fun x => pure (Instr.ldc x)) (u1_at h1 hk)).trans rfl
  rw [dec_run e, Nat.add_sub_cancel_left]
theorem dk_19 {c : ByteArray} {pc : Nat} {a b : UInt8} {k : Nat} (h : Bt c pc 19) (h1 : Bt c (pc + 1) a) (h2 : Bt c (pc + 2) b) (hk : a.toNat * 256 + b.toNat = k) : decode c pc = .ok (.ldc_w k, 3) := by
  have e : (Decoder.instr pc).runAt c pc = .ok (.ldc_w k, pc + 3) := by
    unfold Decoder.instr
    refine (rd_bind Reader.u1 _ (u1_at (n := 19) h rfl)).trans ?_
    exact (rd_bind Reader.u2 (fun x => pure (Instr.ldc_w x)) (u2_at h1 h2 hk)).trans rfl
  rw [dec_run e, Nat.add_sub_cancel_left]
theorem dk_20 {c : ByteArray} {pc : Nat} {a b : UInt8} {k : Nat} (h : Bt c pc 20) (h1 : Bt c (pc + 1) a) (h2 : Bt c (pc + 2) b) (hk : a.toNat * 256 + b.toNat = k) : decode c pc = .ok (.ldc2_w k, 3) := by
  have e : (Decoder.instr pc).runAt c pc = .ok (.ldc2_w k, pc + 3) := by
    unfold Decoder.instr
    refine (rd_bind Reader.u1 _ (u1_at (n := 20) h rfl)).trans ?_
    exact (rd_bind Reader.u2 (fun x => pure (Instr.ldc2_w x)) (u2_at h1 h2 hk)).trans rfl
  rw [dec_run e, Nat.add_sub_cancel_left]
theorem dk_21 {c : ByteArray} {pc : Nat} {a : UInt8} {k : Nat} (h : Bt c pc 21) (h1 : Bt c (pc + 1) a) (hk : a.toNat = k) : decode c pc = .ok (.iload k, 2) := by
  have e : (Decoder.instr pc).runAt c pc = .ok (.iload k, pc + 2) := by
    unfold Decoder.instr
    refine (rd_bind Reader.u1 _ (u1_at (n := 21) h rfl)).trans ?_
    exact (rd_bind Reader.u1 (fun x => pure (Instr.iload x)) (u1_at h1 hk)).trans rfl
  rw [dec_run e, Nat.add_sub_cancel_left]
theorem dk_22 {c : ByteArray} {pc : Nat} {a : UInt8} {k : Nat} (h : Bt c pc 22) (h1 : Bt c (pc + 1) a) (hk : a.toNat = k) : decode c pc = .ok (.lload k, 2) := by
  have e : (Decoder.instr pc).runAt c pc = .ok (.lload k, pc + 2) := by
    unfold Decoder.instr
    refine (rd_bind Reader.u1 _ (u1_at (n := 22) h rfl)).trans ?_
    exact (rd_bind Reader.u1 (fun x => pure (Instr.lload x)) (u1_at h1 hk)).trans rfl
  rw [dec_run e, Nat.add_sub_cancel_left]
theorem dk_25 {c : ByteArray} {pc : Nat} {a : UInt8} {k : Nat} (h : Bt c pc 25) (h1 : Bt c (pc + 1) a) (hk : a.toNat = k) : decode c pc = .ok (.aload k, 2) := by
  have e : (Decoder.instr pc).runAt c pc = .ok (.aload k, pc + 2) := by
    unfold Decoder.instr
    refine (rd_bind Reader.u1 _ (u1_at (n := 25) h rfl)).trans ?_
    exact (rd_bind Reader.u1 (fun x => pure (Instr.aload x)) (u1_at h1 hk)).trans rfl
  rw [dec_run e, Nat.add_sub_cancel_left]
theorem dk_54 {c : ByteArray} {pc : Nat} {a : UInt8} {k : Nat} (h : Bt c pc 54) (h1 : Bt c (pc + 1) a) (hk : a.toNat = k) : decode c pc = .ok (.istore k, 2) := by
  have e : (Decoder.instr pc).runAt c pc = .ok (.istore k, pc + 2) := by
    unfold Decoder.instr
    refine (rd_bind Reader.u1 _ (u1_at (n := 54) h rfl)).trans ?_
    exact (rd_bind Reader.u1 (fun x => pure (Instr.istore x)) (u1_at h1 hk)).trans rfl
  rw [dec_run e, Nat.add_sub_cancel_left]
theorem dk_58 {c : ByteArray} {pc : Nat} {a : UInt8} {k : Nat} (h : Bt c pc 58) (h1 : Bt c (pc + 1) a) (hk : a.toNat = k) : decode c pc = .ok (.astore k, 2) := by
  have e : (Decoder.instr pc).runAt c pc = .ok (.astore k, pc + 2) := by
    unfold Decoder.instr
    refine (rd_bind Reader.u1 _ (u1_at (n := 58) h rfl)).trans ?_
    exact (rd_bind Reader.u1 (fun x => pure (Instr.astore x)) (u1_at h1 hk)).trans rfl
  rw [dec_run e, Nat.add_sub_cancel_left]
theorem dk_153 {c : ByteArray} {pc : Nat} {a b : UInt8} {k : Int} (h : Bt c pc 153) (h1 : Bt c (pc + 1) a) (h2 : Bt c (pc + 2) b) (hk : Reader.signed 16 (a.toNat * 256 + b.toNat) = k) : decode c pc = .ok (.ifCond .eq k, 3) := by
  have e : (Decoder.instr pc).runAt c pc = .ok (.ifCond .eq k, pc + 3) := by
    unfold Decoder.instr
    refine (rd_bind Reader.u1 _ (u1_at (n := 153) h rfl)).trans ?_
    exact (rd_bind Reader.s2 (fun x => pure (Instr.ifCond .eq x)) (s2_at h1 h2 hk)).trans rfl
  rw [dec_run e, Nat.add_sub_cancel_left]
theorem dk_154 {c : ByteArray} {pc : Nat} {a b : UInt8} {k : Int} (h : Bt c pc 154) (h1 : Bt c (pc + 1) a) (h2 : Bt c (pc + 2) b) (hk : Reader.signed 16 (a.toNat * 256 + b.toNat) = k) : decode c pc = .ok (.ifCond .ne k, 3) := by
  have e : (Decoder.instr pc).runAt c pc = .ok (.ifCond .ne k, pc + 3) := by
    unfold Decoder.instr
    refine (rd_bind Reader.u1 _ (u1_at (n := 154) h rfl)).trans ?_
    exact (rd_bind Reader.s2 (fun x => pure (Instr.ifCond .ne x)) (s2_at h1 h2 hk)).trans rfl
  rw [dec_run e, Nat.add_sub_cancel_left]
theorem dk_155 {c : ByteArray} {pc : Nat} {a b : UInt8} {k : Int} (h : Bt c pc 155) (h1 : Bt c (pc + 1) a) (h2 : Bt c (pc + 2) b) (hk : Reader.signed 16 (a.toNat * 256 + b.toNat) = k) : decode c pc = .ok (.ifCond .lt k, 3) := by
  have e : (Decoder.instr pc).runAt c pc = .ok (.ifCond .lt k, pc + 3) := by
    unfold Decoder.instr
    refine (rd_bind Reader.u1 _ (u1_at (n := 155) h rfl)).trans ?_
    exact (rd_bind Reader.s2 (fun x => pure (Instr.ifCond .lt x)) (s2_at h1 h2 hk)).trans rfl
  rw [dec_run e, Nat.add_sub_cancel_left]
theorem dk_156 {c : ByteArray} {pc : Nat} {a b : UInt8} {k : Int} (h : Bt c pc 156) (h1 : Bt c (pc + 1) a) (h2 : Bt c (pc + 2) b) (hk : Reader.signed 16 (a.toNat * 256 + b.toNat) = k) : decode c pc = .ok (.ifCond .ge k, 3) := by
  have e : (Decoder.instr pc).runAt c pc = .ok (.ifCond .ge k, pc + 3) := by
    unfold Decoder.instr
    refine (rd_bind Reader.u1 _ (u1_at (n := 156) h rfl)).trans ?_
    exact (rd_bind Reader.s2 (fun x => pure (Instr.ifCond .ge x)) (s2_at h1 h2 hk)).trans rfl
  rw [dec_run e, Nat.add_sub_cancel_left]
theorem dk_157 {c : ByteArray} {pc : Nat} {a b : UInt8} {k : Int} (h : Bt c pc 157) (h1 : Bt c (pc + 1) a) (h2 : Bt c (pc + 2) b) (hk : Reader.signed 16 (a.toNat * 256 + b.toNat) = k) : decode c pc = .ok (.ifCond .gt k, 3) := by
  have e : (Decoder.instr pc).runAt c pc = .ok (.ifCond .gt k, pc + 3) := by
    unfold Decoder.instr
    refine (rd_bind Reader.u1 _ (u1_at (n := 157) h rfl)).trans ?_
    exact (rd_bind Reader.s2 (fun x => pure (Instr.ifCond .gt x)) (s2_at h1 h2 hk)).trans rfl
  rw [dec_run e, Nat.add_sub_cancel_left]
theorem dk_158 {c : ByteArray} {pc : Nat} {a b : UInt8} {k : Int} (h : Bt c pc 158) (h1 : Bt c (pc + 1) a) (h2 : Bt c (pc + 2) b) (hk : Reader.signed 16 (a.toNat * 256 + b.toNat) = k) : decode c pc = .ok (.ifCond .le k, 3) := by
  have e : (Decoder.instr pc).runAt c pc = .ok (.ifCond .le k, pc + 3) := by
    unfold Decoder.instr
    refine (rd_bind Reader.u1 _ (u1_at (n := 158) h rfl)).trans ?_
    exact (rd_bind Reader.s2 (fun x => pure (Instr.ifCond .le x)) (s2_at h1 h2 hk)).trans rfl
  rw [dec_run e, Nat.add_sub_cancel_left]
theorem dk_159 {c : ByteArray} {pc : Nat} {a b : UInt8} {k : Int} (h : Bt c pc 159) (h1 : Bt c (pc + 1) a) (h2 : Bt c (pc + 2) b) (hk : Reader.signed 16 (a.toNat * 256 + b.toNat) = k) : decode c pc = .ok (.if_icmp .eq k, 3) := by
  have e : (Decoder.instr pc).runAt c pc = .ok (.if_icmp .eq k, pc + 3) := by
    unfold Decoder.instr
    refine (rd_bind Reader.u1 _ (u1_at (n := 159) h rfl)).trans ?_
    exact (rd_bind Reader.s2 (fun x => pure (Instr.if_icmp .eq x)) (s2_at h1 h2 hk)).trans rfl
  rw [dec_run e, Nat.add_sub_cancel_left]
theorem dk_160 {c : ByteArray} {pc : Nat} {a b : UInt8} {k : Int} (h : Bt c pc 160) (h1 : Bt c (pc + 1) a) (h2 : Bt c (pc + 2) b) (hk : Reader.signed 16 (a.toNat * 256 + b.toNat) = k) : decode c pc = .ok (.if_icmp .ne k, 3) := by
  have e : (Decoder.instr pc).runAt c pc = .ok (.if_icmp .ne k, pc + 3) := by
    unfold Decoder.instr
    refine (rd_bind Reader.u1 _ (u1_at (n := 160) h rfl)).trans ?_
    exact (rd_bind Reader.s2 (fun x => pure (Instr.if_icmp .ne x)) (s2_at h1 h2 hk)).trans rfl
  rw [dec_run e, Nat.add_sub_cancel_left]
theorem dk_161 {c : ByteArray} {pc : Nat} {a b : UInt8} {k : Int} (h : Bt c pc 161) (h1 : Bt c (pc + 1) a) (h2 : Bt c (pc + 2) b) (hk : Reader.signed 16 (a.toNat * 256 + b.toNat) = k) : decode c pc = .ok (.if_icmp .lt k, 3) := by
  have e : (Decoder.instr pc).runAt c pc = .ok (.if_icmp .lt k, pc + 3) := by
    unfold Decoder.instr
    refine (rd_bind Reader.u1 _ (u1_at (n := 161) h rfl)).trans ?_
    exact (rd_bind Reader.s2 (fun x => pure (Instr.if_icmp .lt x)) (s2_at h1 h2 hk)).trans rfl
  rw [dec_run e, Nat.add_sub_cancel_left]
theorem dk_162 {c : ByteArray} {pc : Nat} {a b : UInt8} {k : Int} (h : Bt c pc 162) (h1 : Bt c (pc + 1) a) (h2 : Bt c (pc + 2) b) (hk : Reader.signed 16 (a.toNat * 256 + b.toNat) = k) : decode c pc = .ok (.if_icmp .ge k, 3) := by
  have e : (Decoder.instr pc).runAt c pc = .ok (.if_icmp .ge k, pc + 3) := by
    unfold Decoder.instr
    refine (rd_bind Reader.u1 _ (u1_at (n := 162) h rfl)).trans ?_
    exact (rd_bind Reader.s2 (fun x => pure (Instr.if_icmp .ge x)) (s2_at h1 h2 hk)).trans rfl
  rw [dec_run e, Nat.add_sub_cancel_left]
theorem dk_163 {c : ByteArray} {pc : Nat} {a b : UInt8} {k : Int} (h : Bt c pc 163) (h1 : Bt c (pc + 1) a) (h2 : Bt c (pc + 2) b) (hk : Reader.signed 16 (a.toNat * 256 + b.toNat) = k) : decode c pc = .ok (.if_icmp .gt k, 3) := by
  have e : (Decoder.instr pc).runAt c pc = .ok (.if_icmp .gt k, pc + 3) := by
    unfold Decoder.instr
    refine (rd_bind Reader.u1 _ (u1_at (n := 163) h rfl)).trans ?_
    exact (rd_bind Reader.s2 (fun x => pure (Instr.if_icmp .gt x)) (s2_at h1 h2 hk)).trans rfl
  rw [dec_run e, Nat.add_sub_cancel_left]
theorem dk_164 {c : ByteArray} {pc : Nat} {a b : UInt8} {k : Int} (h : Bt c pc 164) (h1 : Bt c (pc + 1) a) (h2 : Bt c (pc + 2) b) (hk : Reader.signed 16 (a.toNat * 256 + b.toNat) = k) : decode c pc = .ok (.if_icmp .le k, 3) := by
  have e : (Decoder.instr pc).runAt c pc = .ok (.if_icmp .le k, pc + 3) := by
    unfold Decoder.instr
    refine (rd_bind Reader.u1 _ (u1_at (n := 164) h rfl)).trans ?_
    exact (rd_bind Reader.s2 (fun x => pure (Instr.if_icmp .le x)) (s2_at h1 h2 hk)).trans rfl
  rw [dec_run e, Nat.add_sub_cancel_left]
theorem dk_167 {c : ByteArray} {pc : Nat} {a b : UInt8} {k : Int} (h : Bt c pc 167) (h1 : Bt c (pc + 1) a) (h2 : Bt c (pc + 2) b) (hk : Reader.signed 16 (a.toNat * 256 + b.toNat) = k) : decode c pc = .ok (.goto k, 3) := by
  have e : (Decoder.instr pc).runAt c pc = .ok (.goto k, pc + 3) := by
    unfold Decoder.instr
    refine (rd_bind Reader.u1 _ (u1_at (n := 167) h rfl)).trans ?_
    exact (rd_bind Reader.s2 (fun x => pure (Instr.goto x)) (s2_at h1 h2 hk)).trans rfl
  rw [dec_run e, Nat.add_sub_cancel_left]
theorem dk_178 {c : ByteArray} {pc : Nat} {a b : UInt8} {k : Nat} (h : Bt c pc 178) (h1 : Bt c (pc + 1) a) (h2 : Bt c (pc + 2) b) (hk : a.toNat * 256 + b.toNat = k) : decode c pc = .ok (.getstatic k, 3) := by
  have e : (Decoder.instr pc).runAt c pc = .ok (.getstatic k, pc + 3) := by
    unfold Decoder.instr
    refine (rd_bind Reader.u1 _ (u1_at (n := 178) h rfl)).trans ?_
    exact (rd_bind Reader.u2 (fun x => pure (Instr.getstatic x)) (u2_at h1 h2 hk)).trans rfl
  rw [dec_run e, Nat.add_sub_cancel_left]
theorem dk_180 {c : ByteArray} {pc : Nat} {a b : UInt8} {k : Nat} (h : Bt c pc 180) (h1 : Bt c (pc + 1) a) (h2 : Bt c (pc + 2) b) (hk : a.toNat * 256 + b.toNat = k) : decode c pc = .ok (.getfield k, 3) := by
  have e : (Decoder.instr pc).runAt c pc = .ok (.getfield k, pc + 3) := by
    unfold Decoder.instr
    refine (rd_bind Reader.u1 _ (u1_at (n := 180) h rfl)).trans ?_
    exact (rd_bind Reader.u2 (fun x => pure (Instr.getfield x)) (u2_at h1 h2 hk)).trans rfl
  rw [dec_run e, Nat.add_sub_cancel_left]
theorem dk_181 {c : ByteArray} {pc : Nat} {a b : UInt8} {k : Nat} (h : Bt c pc 181) (h1 : Bt c (pc + 1) a) (h2 : Bt c (pc + 2) b) (hk : a.toNat * 256 + b.toNat = k) : decode c pc = .ok (.putfield k, 3) := by
  have e : (Decoder.instr pc).runAt c pc = .ok (.putfield k, pc + 3) := by
    unfold Decoder.instr
    refine (rd_bind Reader.u1 _ (u1_at (n := 181) h rfl)).trans ?_
    exact (rd_bind Reader.u2 (fun x => pure (Instr.putfield x)) (u2_at h1 h2 hk)).trans rfl
  rw [dec_run e, Nat.add_sub_cancel_left]
theorem dk_182 {c : ByteArray} {pc : Nat} {a b : UInt8} {k : Nat} (h : Bt c pc 182) (h1 : Bt c (pc + 1) a) (h2 : Bt c (pc + 2) b) (hk : a.toNat * 256 + b.toNat = k) : decode c pc = .ok (.invokevirtual k, 3) := by
  have e : (Decoder.instr pc).runAt c pc = .ok (.invokevirtual k, pc + 3) := by
    unfold Decoder.instr
    refine (rd_bind Reader.u1 _ (u1_at (n := 182) h rfl)).trans ?_
    exact (rd_bind Reader.u2 (fun x => pure (Instr.invokevirtual x)) (u2_at h1 h2 hk)).trans rfl
  rw [dec_run e, Nat.add_sub_cancel_left]
theorem dk_183 {c : ByteArray} {pc : Nat} {a b : UInt8} {k : Nat} (h : Bt c pc 183) (h1 : Bt c (pc + 1) a) (h2 : Bt c (pc + 2) b) (hk : a.toNat * 256 + b.toNat = k) : decode c pc = .ok (.invokespecial k, 3) := by
  have e : (Decoder.instr pc).runAt c pc = .ok (.invokespecial k, pc + 3) := by
    unfold Decoder.instr
    refine (rd_bind Reader.u1 _ (u1_at (n := 183) h rfl)).trans ?_
    exact (rd_bind Reader.u2 (fun x => pure (Instr.invokespecial x)) (u2_at h1 h2 hk)).trans rfl
  rw [dec_run e, Nat.add_sub_cancel_left]
theorem dk_184 {c : ByteArray} {pc : Nat} {a b : UInt8} {k : Nat} (h : Bt c pc 184) (h1 : Bt c (pc + 1) a) (h2 : Bt c (pc + 2) b) (hk : a.toNat * 256 + b.toNat = k) : decode c pc = .ok (.invokestatic k, 3) := by
  have e : (Decoder.instr pc).runAt c pc = .ok (.invokestatic k, pc + 3) := by
    unfold Decoder.instr
    refine (rd_bind Reader.u1 _ (u1_at (n := 184) h rfl)).trans ?_
    exact (rd_bind Reader.u2 (fun x => pure (Instr.invokestatic x)) (u2_at h1 h2 hk)).trans rfl
  rw [dec_run e, Nat.add_sub_cancel_left]
theorem dk_187 {c : ByteArray} {pc : Nat} {a b : UInt8} {k : Nat} (h : Bt c pc 187) (h1 : Bt c (pc + 1) a) (h2 : Bt c (pc + 2) b) (hk : a.toNat * 256 + b.toNat = k) : decode c pc = .ok (.new k, 3) := by
  have e : (Decoder.instr pc).runAt c pc = .ok (.new k, pc + 3) := by
    unfold Decoder.instr
    refine (rd_bind Reader.u1 _ (u1_at (n := 187) h rfl)).trans ?_
    exact (rd_bind Reader.u2 (fun x => pure (Instr.new x)) (u2_at h1 h2 hk)).trans rfl
  rw [dec_run e, Nat.add_sub_cancel_left]
theorem dk_189 {c : ByteArray} {pc : Nat} {a b : UInt8} {k : Nat} (h : Bt c pc 189) (h1 : Bt c (pc + 1) a) (h2 : Bt c (pc + 2) b) (hk : a.toNat * 256 + b.toNat = k) : decode c pc = .ok (.anewarray k, 3) := by
  have e : (Decoder.instr pc).runAt c pc = .ok (.anewarray k, pc + 3) := by
    unfold Decoder.instr
    refine (rd_bind Reader.u1 _ (u1_at (n := 189) h rfl)).trans ?_
    exact (rd_bind Reader.u2 (fun x => pure (Instr.anewarray x)) (u2_at h1 h2 hk)).trans rfl
  rw [dec_run e, Nat.add_sub_cancel_left]
theorem dk_132 {c : ByteArray} {pc : Nat} {a b : UInt8} {k : Nat} {j : Int} (h : Bt c pc 132) (h1 : Bt c (pc + 1) a) (h2 : Bt c (pc + 2) b) (hk : a.toNat = k) (hj : Reader.signed 8 b.toNat = j) : decode c pc = .ok (.iinc k j, 3) := by
  have e : (Decoder.instr pc).runAt c pc = .ok (.iinc k j, pc + 3) := by
    unfold Decoder.instr
    refine (rd_bind Reader.u1 _ (u1_at (n := 132) h rfl)).trans ?_
    refine (rd_bind Reader.u1 (fun x => Reader.s1 >>= fun y => pure (Instr.iinc x y)) (u1_at h1 hk)).trans ?_
    exact (rd_bind Reader.s1 (fun y => pure (Instr.iinc k y)) (s1_at h2 hj)).trans rfl
  rw [dec_run e, Nat.add_sub_cancel_left]
theorem dq_16 {c : ByteArray} {p n : Nat} {bs : List UInt8} (H : (c.data.toList.drop p).take n = bs) (j : Nat) {a : UInt8} {r : List UInt8} {k : Int} (e : bs.drop j = 16 :: a :: r) (hk : Reader.signed 8 a.toNat = k) : decode c (p + j) = .ok (.bipush k, 2) := dk_16 (blk_at H (j + 0) (dr_at e 0 rfl)) (blk_at H (j + 1) (dr_at e 1 rfl)) hk
theorem dq_17 {c : ByteArray} {p n : Nat} {bs : List UInt8} (H : (c.data.toList.drop p).take n = bs) (j : Nat) {a b : UInt8} {r : List UInt8} {k : Int} (e : bs.drop j = 17 :: a :: b :: r) (hk : Reader.signed 16 (a.toNat * 256 + b.toNat) = k) : decode c (p + j) = .ok (.sipush k, 3) := dk_17 (blk_at H (j + 0) (dr_at e 0 rfl)) (blk_at H (j + 1) (dr_at e 1 rfl)) (blk_at H (j + 2) (dr_at e 2 rfl)) hk
theorem dq_18 {c : ByteArray} {p n : Nat} {bs : List UInt8} (H : (c.data.toList.drop p).take n = bs) (j : Nat) {a : UInt8} {r : List UInt8} {k : Nat} (e : bs.drop j = 18 :: a :: r) (hk : a.toNat = k) : decode c (p + j) = .ok (.ldc k, 2) := dk_18 (blk_at H (j + 0) (dr_at e 0 rfl)) (blk_at H (j + 1) (dr_at e 1 rfl)) hk
theorem dq_19 {c : ByteArray} {p n : Nat} {bs : List UInt8} (H : (c.data.toList.drop p).take n = bs) (j : Nat) {a b : UInt8} {r : List UInt8} {k : Nat} (e : bs.drop j = 19 :: a :: b :: r) (hk : a.toNat * 256 + b.toNat = k) : decode c (p + j) = .ok (.ldc_w k, 3) := dk_19 (blk_at H (j + 0) (dr_at e 0 rfl)) (blk_at H (j + 1) (dr_at e 1 rfl)) (blk_at H (j + 2) (dr_at e 2 rfl)) hk
theorem dq_20 {c : ByteArray} {p n : Nat} {bs : List UInt8} (H : (c.data.toList.drop p).take n = bs) (j : Nat) {a b : UInt8} {r : List UInt8} {k : Nat} (e : bs.drop j = 20 :: a :: b :: r) (hk : a.toNat * 256 + b.toNat = k) : decode c (p + j) = .ok (.ldc2_w k, 3) := dk_20 (blk_at H (j + 0) (dr_at e 0 rfl)) (blk_at H (j + 1) (dr_at e 1 rfl)) (blk_at H (j + 2) (dr_at e 2 rfl)) hk
theorem dq_21 {c : ByteArray} {p n : Nat} {bs : List UInt8} (H : (c.data.toList.drop p).take n = bs) (j : Nat) {a : UInt8} {r : List UInt8} {k : Nat} (e : bs.drop j = 21 :: a :: r) (hk : a.toNat = k) : decode c (p + j) = .ok (.iload k, 2) := dk_21 (blk_at H (j + 0) (dr_at e 0 rfl)) (blk_at H (j + 1) (dr_at e 1 rfl)) hk
theorem dq_22 {c : ByteArray} {p n : Nat} {bs : List UInt8} (H : (c.data.toList.drop p).take n = bs) (j : Nat) {a : UInt8} {r : List UInt8} {k : Nat} (e : bs.drop j = 22 :: a :: r) (hk : a.toNat = k) : decode c (p + j) = .ok (.lload k, 2) := dk_22 (blk_at H (j + 0) (dr_at e 0 rfl)) (blk_at H (j + 1) (dr_at e 1 rfl)) hk
theorem dq_25 {c : ByteArray} {p n : Nat} {bs : List UInt8} (H : (c.data.toList.drop p).take n = bs) (j : Nat) {a : UInt8} {r : List UInt8} {k : Nat} (e : bs.drop j = 25 :: a :: r) (hk : a.toNat = k) : decode c (p + j) = .ok (.aload k, 2) := dk_25 (blk_at H (j + 0) (dr_at e 0 rfl)) (blk_at H (j + 1) (dr_at e 1 rfl)) hk
theorem dq_54 {c : ByteArray} {p n : Nat} {bs : List UInt8} (H : (c.data.toList.drop p).take n = bs) (j : Nat) {a : UInt8} {r : List UInt8} {k : Nat} (e : bs.drop j = 54 :: a :: r) (hk : a.toNat = k) : decode c (p + j) = .ok (.istore k, 2) := dk_54 (blk_at H (j + 0) (dr_at e 0 rfl)) (blk_at H (j + 1) (dr_at e 1 rfl)) hk
theorem dq_58 {c : ByteArray} {p n : Nat} {bs : List UInt8} (H : (c.data.toList.drop p).take n = bs) (j : Nat) {a : UInt8} {r : List UInt8} {k : Nat} (e : bs.drop j = 58 :: a :: r) (hk : a.toNat = k) : decode c (p + j) = .ok (.astore k, 2) := dk_58 (blk_at H (j + 0) (dr_at e 0 rfl)) (blk_at H (j + 1) (dr_at e 1 rfl)) hk
theorem dq_153 {c : ByteArray} {p n : Nat} {bs : List UInt8} (H : (c.data.toList.drop p).take n = bs) (j : Nat) {a b : UInt8} {r : List UInt8} {k : Int} (e : bs.drop j = 153 :: a :: b :: r) (hk : Reader.signed 16 (a.toNat * 256 + b.toNat) = k) : decode c (p + j) = .ok (.ifCond .eq k, 3) := dk_153 (blk_at H (j + 0) (dr_at e 0 rfl)) (blk_at H (j + 1) (dr_at e 1 rfl)) (blk_at H (j + 2) (dr_at e 2 rfl)) hk
theorem dq_154 {c : ByteArray} {p n : Nat} {bs : List UInt8} (H : (c.data.toList.drop p).take n = bs) (j : Nat) {a b : UInt8} {r : List UInt8} {k : Int} (e : bs.drop j = 154 :: a :: b :: r) (hk : Reader.signed 16 (a.toNat * 256 + b.toNat) = k) : decode c (p + j) = .ok (.ifCond .ne k, 3) := dk_154 (blk_at H (j + 0) (dr_at e 0 rfl)) (blk_at H (j + 1) (dr_at e 1 rfl)) (blk_at H (j + 2) (dr_at e 2 rfl)) hk
theorem dq_155 {c : ByteArray} {p n : Nat} {bs : List UInt8} (H : (c.data.toList.drop p).take n = bs) (j : Nat) {a b : UInt8} {r : List UInt8} {k : Int} (e : bs.drop j = 155 :: a :: b :: r) (hk : Reader.signed 16 (a.toNat * 256 + b.toNat) = k) : decode c (p + j) = .ok (.ifCond .lt k, 3) := dk_155 (blk_at H (j + 0) (dr_at e 0 rfl)) (blk_at H (j + 1) (dr_at e 1 rfl)) (blk_at H (j + 2) (dr_at e 2 rfl)) hk
theorem dq_156 {c : ByteArray} {p n : Nat} {bs : List UInt8} (H : (c.data.toList.drop p).take n = bs) (j : Nat) {a b : UInt8} {r : List UInt8} {k : Int} (e : bs.drop j = 156 :: a :: b :: r) (hk : Reader.signed 16 (a.toNat * 256 + b.toNat) = k) : decode c (p + j) = .ok (.ifCond .ge k, 3) := dk_156 (blk_at H (j + 0) (dr_at e 0 rfl)) (blk_at H (j + 1) (dr_at e 1 rfl)) (blk_at H (j + 2) (dr_at e 2 rfl)) hk
theorem dq_157 {c : ByteArray} {p n : Nat} {bs : List UInt8} (H : (c.data.toList.drop p).take n = bs) (j : Nat) {a b : UInt8} {r : List UInt8} {k : Int} (e : bs.drop j = 157 :: a :: b :: r) (hk : Reader.signed 16 (a.toNat * 256 + b.toNat) = k) : decode c (p + j) = .ok (.ifCond .gt k, 3) := dk_157 (blk_at H (j + 0) (dr_at e 0 rfl)) (blk_at H (j + 1) (dr_at e 1 rfl)) (blk_at H (j + 2) (dr_at e 2 rfl)) hk
theorem dq_158 {c : ByteArray} {p n : Nat} {bs : List UInt8} (H : (c.data.toList.drop p).take n = bs) (j : Nat) {a b : UInt8} {r : List UInt8} {k : Int} (e : bs.drop j = 158 :: a :: b :: r) (hk : Reader.signed 16 (a.toNat * 256 + b.toNat) = k) : decode c (p + j) = .ok (.ifCond .le k, 3) := dk_158 (blk_at H (j + 0) (dr_at e 0 rfl)) (blk_at H (j + 1) (dr_at e 1 rfl)) (blk_at H (j + 2) (dr_at e 2 rfl)) hk
theorem dq_159 {c : ByteArray} {p n : Nat} {bs : List UInt8} (H : (c.data.toList.drop p).take n = bs) (j : Nat) {a b : UInt8} {r : List UInt8} {k : Int} (e : bs.drop j = 159 :: a :: b :: r) (hk : Reader.signed 16 (a.toNat * 256 + b.toNat) = k) : decode c (p + j) = .ok (.if_icmp .eq k, 3) := dk_159 (blk_at H (j + 0) (dr_at e 0 rfl)) (blk_at H (j + 1) (dr_at e 1 rfl)) (blk_at H (j + 2) (dr_at e 2 rfl)) hk
theorem dq_160 {c : ByteArray} {p n : Nat} {bs : List UInt8} (H : (c.data.toList.drop p).take n = bs) (j : Nat) {a b : UInt8} {r : List UInt8} {k : Int} (e : bs.drop j = 160 :: a :: b :: r) (hk : Reader.signed 16 (a.toNat * 256 + b.toNat) = k) : decode c (p + j) = .ok (.if_icmp .ne k, 3) := dk_160 (blk_at H (j + 0) (dr_at e 0 rfl)) (blk_at H (j + 1) (dr_at e 1 rfl)) (blk_at H (j + 2) (dr_at e 2 rfl)) hk
theorem dq_161 {c : ByteArray} {p n : Nat} {bs : List UInt8} (H : (c.data.toList.drop p).take n = bs) (j : Nat) {a b : UInt8} {r : List UInt8} {k : Int} (e : bs.drop j = 161 :: a :: b :: r) (hk : Reader.signed 16 (a.toNat * 256 + b.toNat) = k) : decode c (p + j) = .ok (.if_icmp .lt k, 3) := dk_161 (blk_at H (j + 0) (dr_at e 0 rfl)) (blk_at H (j + 1) (dr_at e 1 rfl)) (blk_at H (j + 2) (dr_at e 2 rfl)) hk
theorem dq_162 {c : ByteArray} {p n : Nat} {bs : List UInt8} (H : (c.data.toList.drop p).take n = bs) (j : Nat) {a b : UInt8} {r : List UInt8} {k : Int} (e : bs.drop j = 162 :: a :: b :: r) (hk : Reader.signed 16 (a.toNat * 256 + b.toNat) = k) : decode c (p + j) = .ok (.if_icmp .ge k, 3) := dk_162 (blk_at H (j + 0) (dr_at e 0 rfl)) (blk_at H (j + 1) (dr_at e 1 rfl)) (blk_at H (j + 2) (dr_at e 2 rfl)) hk
theorem dq_163 {c : ByteArray} {p n : Nat} {bs : List UInt8} (H : (c.data.toList.drop p).take n = bs) (j : Nat) {a b : UInt8} {r : List UInt8} {k : Int} (e : bs.drop j = 163 :: a :: b :: r) (hk : Reader.signed 16 (a.toNat * 256 + b.toNat) = k) : decode c (p + j) = .ok (.if_icmp .gt k, 3) := dk_163 (blk_at H (j + 0) (dr_at e 0 rfl)) (blk_at H (j + 1) (dr_at e 1 rfl)) (blk_at H (j + 2) (dr_at e 2 rfl)) hk
theorem dq_164 {c : ByteArray} {p n : Nat} {bs : List UInt8} (H : (c.data.toList.drop p).take n = bs) (j : Nat) {a b : UInt8} {r : List UInt8} {k : Int} (e : bs.drop j = 164 :: a :: b :: r) (hk : Reader.signed 16 (a.toNat * 256 + b.toNat) = k) : decode c (p + j) = .ok (.if_icmp .le k, 3) := dk_164 (blk_at H (j + 0) (dr_at e 0 rfl)) (blk_at H (j + 1) (dr_at e 1 rfl)) (blk_at H (j + 2) (dr_at e 2 rfl)) hk
theorem dq_167 {c : ByteArray} {p n : Nat} {bs : List UInt8} (H : (c.data.toList.drop p).take n = bs) (j : Nat) {a b : UInt8} {r : List UInt8} {k : Int} (e : bs.drop j = 167 :: a :: b :: r) (hk : Reader.signed 16 (a.toNat * 256 + b.toNat) = k) : decode c (p + j) = .ok (.goto k, 3) := dk_167 (blk_at H (j + 0) (dr_at e 0 rfl)) (blk_at H (j + 1) (dr_at e 1 rfl)) (blk_at H (j + 2) (dr_at e 2 rfl)) hk
theorem dq_178 {c : ByteArray} {p n : Nat} {bs : List UInt8} (H : (c.data.toList.drop p).take n = bs) (j : Nat) {a b : UInt8} {r : List UInt8} {k : Nat} (e : bs.drop j = 178 :: a :: b :: r) (hk : a.toNat * 256 + b.toNat = k) : decode c (p + j) = .ok (.getstatic k, 3) := dk_178 (blk_at H (j + 0) (dr_at e 0 rfl)) (blk_at H (j + 1) (dr_at e 1 rfl)) (blk_at H (j + 2) (dr_at e 2 rfl)) hk
theorem dq_180 {c : ByteArray} {p n : Nat} {bs : List UInt8} (H : (c.data.toList.drop p).take n = bs) (j : Nat) {a b : UInt8} {r : List UInt8} {k : Nat} (e : bs.drop j = 180 :: a :: b :: r) (hk : a.toNat * 256 + b.toNat = k) : decode c (p + j) = .ok (.getfield k, 3) := dk_180 (blk_at H (j + 0) (dr_at e 0 rfl)) (blk_at H (j + 1) (dr_at e 1 rfl)) (blk_at H (j + 2) (dr_at e 2 rfl)) hk
theorem dq_181 {c : ByteArray} {p n : Nat} {bs : List UInt8} (H : (c.data.toList.drop p).take n = bs) (j : Nat) {a b : UInt8} {r : List UInt8} {k : Nat} (e : bs.drop j = 181 :: a :: b :: r) (hk : a.toNat * 256 + b.toNat = k) : decode c (p + j) = .ok (.putfield k, 3) := dk_181 (blk_at H (j + 0) (dr_at e 0 rfl)) (blk_at H (j + 1) (dr_at e 1 rfl)) (blk_at H (j + 2) (dr_at e 2 rfl)) hk
theorem dq_182 {c : ByteArray} {p n : Nat} {bs : List UInt8} (H : (c.data.toList.drop p).take n = bs) (j : Nat) {a b : UInt8} {r : List UInt8} {k : Nat} (e : bs.drop j = 182 :: a :: b :: r) (hk : a.toNat * 256 + b.toNat = k) : decode c (p + j) = .ok (.invokevirtual k, 3) := dk_182 (blk_at H (j + 0) (dr_at e 0 rfl)) (blk_at H (j + 1) (dr_at e 1 rfl)) (blk_at H (j + 2) (dr_at e 2 rfl)) hk
theorem dq_183 {c : ByteArray} {p n : Nat} {bs : List UInt8} (H : (c.data.toList.drop p).take n = bs) (j : Nat) {a b : UInt8} {r : List UInt8} {k : Nat} (e : bs.drop j = 183 :: a :: b :: r) (hk : a.toNat * 256 + b.toNat = k) : decode c (p + j) = .ok (.invokespecial k, 3) := dk_183 (blk_at H (j + 0) (dr_at e 0 rfl)) (blk_at H (j + 1) (dr_at e 1 rfl)) (blk_at H (j + 2) (dr_at e 2 rfl)) hk
theorem dq_184 {c : ByteArray} {p n : Nat} {bs : List UInt8} (H : (c.data.toList.drop p).take n = bs) (j : Nat) {a b : UInt8} {r : List UInt8} {k : Nat} (e : bs.drop j = 184 :: a :: b :: r) (hk : a.toNat * 256 + b.toNat = k) : decode c (p + j) = .ok (.invokestatic k, 3) := dk_184 (blk_at H (j + 0) (dr_at e 0 rfl)) (blk_at H (j + 1) (dr_at e 1 rfl)) (blk_at H (j + 2) (dr_at e 2 rfl)) hk
theorem dq_187 {c : ByteArray} {p n : Nat} {bs : List UInt8} (H : (c.data.toList.drop p).take n = bs) (j : Nat) {a b : UInt8} {r : List UInt8} {k : Nat} (e : bs.drop j = 187 :: a :: b :: r) (hk : a.toNat * 256 + b.toNat = k) : decode c (p + j) = .ok (.new k, 3) := dk_187 (blk_at H (j + 0) (dr_at e 0 rfl)) (blk_at H (j + 1) (dr_at e 1 rfl)) (blk_at H (j + 2) (dr_at e 2 rfl)) hk
theorem dq_189 {c : ByteArray} {p n : Nat} {bs : List UInt8} (H : (c.data.toList.drop p).take n = bs) (j : Nat) {a b : UInt8} {r : List UInt8} {k : Nat} (e : bs.drop j = 189 :: a :: b :: r) (hk : a.toNat * 256 + b.toNat = k) : decode c (p + j) = .ok (.anewarray k, 3) := dk_189 (blk_at H (j + 0) (dr_at e 0 rfl)) (blk_at H (j + 1) (dr_at e 1 rfl)) (blk_at H (j + 2) (dr_at e 2 rfl)) hk
theorem dq_132 {c : ByteArray} {p n : Nat} {bs : List UInt8} (H : (c.data.toList.drop p).take n = bs) (j : Nat) {a b : UInt8} {r : List UInt8} {k : Nat} {i : Int} (e : bs.drop j = 132 :: a :: b :: r) (hk : a.toNat = k) (hi : Reader.signed 8 b.toNat = i) : decode c (p + j) = .ok (.iinc k i, 3) := dk_132 (blk_at H (j + 0) (dr_at e 0 rfl)) (blk_at H (j + 1) (dr_at e 1 rfl)) (blk_at H (j + 2) (dr_at e 2 rfl)) hk hi
