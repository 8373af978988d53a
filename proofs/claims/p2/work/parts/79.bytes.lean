/-! instructions read off the bytes: one lemma a kind, one list a stretch of the law's code -/
def Bt (c : ByteArray) (p : Nat) (b : UInt8) : Prop := c.data.toList[p]? = some b
theorem blk_at {c : ByteArray} {p n : Nat} {bs : List UInt8} (h : (c.data.toList.drop p).take n = bs) (j : Nat) {b : UInt8} (e : bs[j]? = some b) : Bt c (p + j) b := by
  unfold Bt
  rw [← h, List.getElem?_take] at e
  split at e
  · rw [List.getElem?_drop] at e
    exact e
  · cases e
theorem u1_at {c : ByteArray} {p n : Nat} {b : UInt8} (h : Bt c p b) (hn : b.toNat = n) : (Reader.u1 : Decoder Nat).runAt c p = .ok (n, p + 1) := by
  obtain ⟨h1, h2⟩ := List.getElem?_eq_some_iff.mp h
  have h3 : p < c.size := h1
  have h4 : c[p] = b := h2
  have e : (Reader.u1 : Decoder Nat).runAt c p = (if h : p < c.size then (do set (p + 1); pure c[p].toNat : Decoder Nat) else throw (HasTruncated.truncated p)) c p := rfl
  rw [e, dif_pos h3]
  show Except.ok (c[p].toNat, p + 1) = _
  rw [h4, hn]
theorem rd_bind {α β : Type} (x : Decoder α) (f : α → Decoder β) {c : ByteArray} {p p' : Nat} {a : α} (h : x.runAt c p = .ok (a, p')) : (x >>= f).runAt c p = (f a).runAt c p' := by
  have e : (x >>= f).runAt c p = Except.bind (x.runAt c p) (fun q => (f q.1).runAt c q.2) := rfl
  rw [e, h]
  rfl
theorem dec_run {c : ByteArray} {pc n : Nat} {i : Instr} (h : (Decoder.instr pc).runAt c pc = .ok (i, n)) : decode c pc = .ok (i, n - pc) := by
  unfold decode
  rw [h]
  rfl
theorem u2_at {c : ByteArray} {p k : Nat} {a b : UInt8} (h1 : Bt c p a) (h2 : Bt c (p + 1) b) (hk : a.toNat * 256 + b.toNat = k) : (Reader.u2 : Decoder Nat).runAt c p = .ok (k, p + 2) := by
  unfold Reader.u2
  refine (rd_bind Reader.u1 _ (u1_at h1 rfl)).trans ?_
  refine (rd_bind Reader.u1 _ (u1_at h2 rfl)).trans ?_
  rw [← hk]
  rfl
theorem s2_at {c : ByteArray} {p : Nat} {k : Int} {a b : UInt8} (h1 : Bt c p a) (h2 : Bt c (p + 1) b) (hk : Reader.signed 16 (a.toNat * 256 + b.toNat) = k) : (Reader.s2 : Decoder Int).runAt c p = .ok (k, p + 2) := by
  have e : (Reader.s2 : Decoder Int).runAt c p = ((Reader.u2 : Decoder Nat) >>= fun n => pure (Reader.signed 16 n)).runAt c p := rfl
  rw [e]
  refine (rd_bind Reader.u2 _ (u2_at h1 h2 rfl)).trans ?_
  rw [← hk]
  rfl
theorem dk_aload_n_0 {c : ByteArray} {pc : Nat} (h : Bt c pc 42) : decode c pc = .ok (.aload_n 0, 1) := by
  have e : (Decoder.instr pc).runAt c pc = .ok (.aload_n 0, pc + 1) := by
    unfold Decoder.instr
    exact (rd_bind Reader.u1 _ (u1_at (n := 42) h rfl)).trans rfl
  rw [dec_run e, Nat.add_sub_cancel_left]
theorem dk_aload_n_1 {c : ByteArray} {pc : Nat} (h : Bt c pc 43) : decode c pc = .ok (.aload_n 1, 1) := by
  have e : (Decoder.instr pc).runAt c pc = .ok (.aload_n 1, pc + 1) := by
    unfold Decoder.instr
    exact (rd_bind Reader.u1 _ (u1_at (n := 43) h rfl)).trans rfl
  rw [dec_run e, Nat.add_sub_cancel_left]
theorem dk_aload_n_2 {c : ByteArray} {pc : Nat} (h : Bt c pc 44) : decode c pc = .ok (.aload_n 2, 1) := by
  have e : (Decoder.instr pc).runAt c pc = .ok (.aload_n 2, pc + 1) := by
    unfold Decoder.instr
    exact (rd_bind Reader.u1 _ (u1_at (n := 44) h rfl)).trans rfl
  rw [dec_run e, Nat.add_sub_cancel_left]
theorem dk_iload_n_3 {c : ByteArray} {pc : Nat} (h : Bt c pc 29) : decode c pc = .ok (.iload_n 3, 1) := by
  have e : (Decoder.instr pc).runAt c pc = .ok (.iload_n 3, pc + 1) := by
    unfold Decoder.instr
    exact (rd_bind Reader.u1 _ (u1_at (n := 29) h rfl)).trans rfl
  rw [dec_run e, Nat.add_sub_cancel_left]
theorem dk_iaload {c : ByteArray} {pc : Nat} (h : Bt c pc 46) : decode c pc = .ok (.iaload, 1) := by
  have e : (Decoder.instr pc).runAt c pc = .ok (.iaload, pc + 1) := by
    unfold Decoder.instr
    exact (rd_bind Reader.u1 _ (u1_at (n := 46) h rfl)).trans rfl
  rw [dec_run e, Nat.add_sub_cancel_left]
theorem dk_iadd {c : ByteArray} {pc : Nat} (h : Bt c pc 96) : decode c pc = .ok (.iadd, 1) := by
  have e : (Decoder.instr pc).runAt c pc = .ok (.iadd, pc + 1) := by
    unfold Decoder.instr
    exact (rd_bind Reader.u1 _ (u1_at (n := 96) h rfl)).trans rfl
  rw [dec_run e, Nat.add_sub_cancel_left]
theorem dk_pop {c : ByteArray} {pc : Nat} (h : Bt c pc 87) : decode c pc = .ok (.pop, 1) := by
  have e : (Decoder.instr pc).runAt c pc = .ok (.pop, pc + 1) := by
    unfold Decoder.instr
    exact (rd_bind Reader.u1 _ (u1_at (n := 87) h rfl)).trans rfl
  rw [dec_run e, Nat.add_sub_cancel_left]
theorem dk_dup {c : ByteArray} {pc : Nat} (h : Bt c pc 89) : decode c pc = .ok (.dup, 1) := by
  have e : (Decoder.instr pc).runAt c pc = .ok (.dup, pc + 1) := by
    unfold Decoder.instr
    exact (rd_bind Reader.u1 _ (u1_at (n := 89) h rfl)).trans rfl
  rw [dec_run e, Nat.add_sub_cancel_left]
theorem dk_iconst_0 {c : ByteArray} {pc : Nat} (h : Bt c pc 3) : decode c pc = .ok (.iconst 0, 1) := by
  have e : (Decoder.instr pc).runAt c pc = .ok (.iconst 0, pc + 1) := by
    unfold Decoder.instr
    exact (rd_bind Reader.u1 _ (u1_at (n := 3) h rfl)).trans rfl
  rw [dec_run e, Nat.add_sub_cancel_left]
theorem dk_iconst_1 {c : ByteArray} {pc : Nat} (h : Bt c pc 4) : decode c pc = .ok (.iconst 1, 1) := by
  have e : (Decoder.instr pc).runAt c pc = .ok (.iconst 1, pc + 1) := by
    unfold Decoder.instr
    exact (rd_bind Reader.u1 _ (u1_at (n := 4) h rfl)).trans rfl
  rw [dec_run e, Nat.add_sub_cancel_left]
theorem dk_iconst_2 {c : ByteArray} {pc : Nat} (h : Bt c pc 5) : decode c pc = .ok (.iconst 2, 1) := by
  have e : (Decoder.instr pc).runAt c pc = .ok (.iconst 2, pc + 1) := by
    unfold Decoder.instr
    exact (rd_bind Reader.u1 _ (u1_at (n := 5) h rfl)).trans rfl
  rw [dec_run e, Nat.add_sub_cancel_left]
theorem dk_iconst_3 {c : ByteArray} {pc : Nat} (h : Bt c pc 6) : decode c pc = .ok (.iconst 3, 1) := by
  have e : (Decoder.instr pc).runAt c pc = .ok (.iconst 3, pc + 1) := by
    unfold Decoder.instr
    exact (rd_bind Reader.u1 _ (u1_at (n := 6) h rfl)).trans rfl
  rw [dec_run e, Nat.add_sub_cancel_left]
theorem dk_iconst_4 {c : ByteArray} {pc : Nat} (h : Bt c pc 7) : decode c pc = .ok (.iconst 4, 1) := by
  have e : (Decoder.instr pc).runAt c pc = .ok (.iconst 4, pc + 1) := by
    unfold Decoder.instr
    exact (rd_bind Reader.u1 _ (u1_at (n := 7) h rfl)).trans rfl
  rw [dec_run e, Nat.add_sub_cancel_left]
theorem dk_iconst_5 {c : ByteArray} {pc : Nat} (h : Bt c pc 8) : decode c pc = .ok (.iconst 5, 1) := by
  have e : (Decoder.instr pc).runAt c pc = .ok (.iconst 5, pc + 1) := by
    unfold Decoder.instr
    exact (rd_bind Reader.u1 _ (u1_at (n := 8) h rfl)).trans rfl
  rw [dec_run e, Nat.add_sub_cancel_left]
theorem dk_invokevirtual {c : ByteArray} {pc : Nat} {a b : UInt8} {k : Nat} (h : Bt c pc 182) (h1 : Bt c (pc + 1) a) (h2 : Bt c (pc + 2) b) (hk : a.toNat * 256 + b.toNat = k) : decode c pc = .ok (.invokevirtual k, 3) := by
  have e : (Decoder.instr pc).runAt c pc = .ok (.invokevirtual k, pc + 3) := by
    unfold Decoder.instr
    refine (rd_bind Reader.u1 _ (u1_at (n := 182) h rfl)).trans ?_
    exact (rd_bind Reader.u2 (fun x => pure (Instr.invokevirtual x)) (u2_at h1 h2 hk)).trans rfl
  rw [dec_run e, Nat.add_sub_cancel_left]
theorem dk_goto {c : ByteArray} {pc : Nat} {a b : UInt8} {k : Int} (h : Bt c pc 167) (h1 : Bt c (pc + 1) a) (h2 : Bt c (pc + 2) b) (hk : Reader.signed 16 (a.toNat * 256 + b.toNat) = k) : decode c pc = .ok (.goto k, 3) := by
  have e : (Decoder.instr pc).runAt c pc = .ok (.goto k, pc + 3) := by
    unfold Decoder.instr
    refine (rd_bind Reader.u1 _ (u1_at (n := 167) h rfl)).trans ?_
    exact (rd_bind Reader.s2 (fun x => pure (Instr.goto x)) (s2_at h1 h2 hk)).trans rfl
  rw [dec_run e, Nat.add_sub_cancel_left]
theorem dk_if_icmp_eq {c : ByteArray} {pc : Nat} {a b : UInt8} {k : Int} (h : Bt c pc 159) (h1 : Bt c (pc + 1) a) (h2 : Bt c (pc + 2) b) (hk : Reader.signed 16 (a.toNat * 256 + b.toNat) = k) : decode c pc = .ok (.if_icmp .eq k, 3) := by
  have e : (Decoder.instr pc).runAt c pc = .ok (.if_icmp .eq k, pc + 3) := by
    unfold Decoder.instr
    refine (rd_bind Reader.u1 _ (u1_at (n := 159) h rfl)).trans ?_
    exact (rd_bind Reader.s2 (fun x => pure (Instr.if_icmp .eq x)) (s2_at h1 h2 hk)).trans rfl
  rw [dec_run e, Nat.add_sub_cancel_left]
theorem bk_3 : (cL_law.data.toList.drop 3).take 27 = [89, 183, 0, 9, 76, 187, 0, 10, 89, 183, 0, 12, 77, 3, 62, 29, 42, 190, 16, 6, 100, 163, 7, 218, 42, 29, 46] := by decide +kernel
theorem bk_288 : (cL_law.data.toList.drop 288).take 64 = [43, 42, 29, 4, 96, 46, 42, 29, 5, 96, 46, 42, 29, 6, 96, 46, 42, 29, 7, 96, 46, 42, 29, 8, 96, 46, 182, 0, 13, 44, 42, 29, 4, 96, 46, 42, 29, 5, 96, 46, 42, 29, 6, 96, 46, 42, 29, 7, 96, 46, 42, 29, 8, 96, 46, 182, 0, 17, 159, 6, 146, 3, 172, 43] := by decide +kernel
theorem bk_352 : (cL_law.data.toList.drop 352).take 64 = [42, 29, 4, 96, 46, 182, 0, 18, 87, 44, 42, 29, 4, 96, 46, 182, 0, 22, 87, 167, 6, 121, 43, 182, 0, 23, 87, 44, 182, 0, 27, 87, 167, 6, 108, 43, 42, 29, 4, 96, 46, 182, 0, 28, 87, 44, 42, 29, 4, 96, 46, 182, 0, 31, 87, 167, 6, 85, 43, 42, 29, 4, 96, 46] := by decide +kernel
theorem bk_416 : (cL_law.data.toList.drop 416).take 64 = [182, 0, 32, 87, 44, 42, 29, 4, 96, 46, 182, 0, 35, 87, 167, 6, 62, 43, 42, 29, 4, 96, 46, 42, 29, 5, 96, 46, 182, 0, 36, 87, 44, 42, 29, 4, 96, 46, 42, 29, 5, 96, 46, 182, 0, 40, 87, 167, 6, 29, 43, 182, 0, 41, 87, 44, 182, 0, 44, 87, 167, 6, 16, 43] := by decide +kernel
theorem bk_480 : (cL_law.data.toList.drop 480).take 62 = [42, 29, 4, 96, 46, 42, 29, 5, 96, 46, 182, 0, 45, 87, 44, 42, 29, 4, 96, 46, 42, 29, 5, 96, 46, 182, 0, 48, 87, 167, 5, 239, 43, 42, 29, 4, 96, 46, 42, 29, 5, 96, 46, 182, 0, 49, 87, 44, 42, 29, 4, 96, 46, 42, 29, 5, 96, 46, 182, 0, 52, 87] := by decide +kernel
theorem bk_542 : (cL_law.data.toList.drop 542).take 62 = [167, 5, 206, 43, 42, 29, 4, 96, 46, 42, 29, 5, 96, 46, 182, 0, 53, 87, 44, 42, 29, 4, 96, 46, 42, 29, 5, 96, 46, 182, 0, 56, 87, 167, 5, 173, 43, 42, 29, 4, 96, 46, 42, 29, 5, 96, 46, 182, 0, 57, 87, 44, 42, 29, 4, 96, 46, 42, 29, 5, 96, 46] := by decide +kernel
theorem bk_604 : (cL_law.data.toList.drop 604).take 64 = [182, 0, 60, 87, 167, 5, 140, 43, 42, 29, 4, 96, 46, 42, 29, 5, 96, 46, 182, 0, 61, 87, 44, 42, 29, 4, 96, 46, 42, 29, 5, 96, 46, 182, 0, 64, 87, 167, 5, 107, 43, 42, 29, 4, 96, 46, 42, 29, 5, 96, 46, 42, 29, 6, 96, 46, 42, 29, 7, 96, 46, 182, 0, 65] := by decide +kernel
theorem bk_668 : (cL_law.data.toList.drop 668).take 64 = [87, 44, 42, 29, 4, 96, 46, 42, 29, 5, 96, 46, 42, 29, 6, 96, 46, 42, 29, 7, 96, 46, 182, 0, 69, 87, 167, 5, 54, 43, 42, 29, 4, 96, 46, 42, 29, 5, 96, 46, 42, 29, 6, 96, 46, 42, 29, 7, 96, 46, 182, 0, 70, 87, 44, 42, 29, 4, 96, 46, 42, 29, 5, 96] := by decide +kernel
theorem bk_732 : (cL_law.data.toList.drop 732).take 64 = [46, 42, 29, 6, 96, 46, 42, 29, 7, 96, 46, 182, 0, 73, 87, 167, 5, 1, 43, 42, 29, 4, 96, 46, 42, 29, 5, 96, 46, 42, 29, 6, 96, 46, 42, 29, 7, 96, 46, 182, 0, 74, 87, 44, 42, 29, 4, 96, 46, 42, 29, 5, 96, 46, 42, 29, 6, 96, 46, 42, 29, 7, 96, 46] := by decide +kernel
theorem bk_796 : (cL_law.data.toList.drop 796).take 64 = [182, 0, 77, 87, 167, 4, 204, 43, 42, 29, 4, 96, 46, 42, 29, 5, 96, 46, 182, 0, 78, 87, 44, 42, 29, 4, 96, 46, 42, 29, 5, 96, 46, 182, 0, 81, 87, 167, 4, 171, 43, 42, 29, 4, 96, 46, 182, 0, 82, 87, 44, 42, 29, 4, 96, 46, 182, 0, 85, 87, 167, 4, 148, 43] := by decide +kernel
theorem bk_860 : (cL_law.data.toList.drop 860).take 64 = [42, 29, 4, 96, 46, 182, 0, 86, 87, 44, 42, 29, 4, 96, 46, 182, 0, 89, 87, 167, 4, 125, 43, 42, 29, 4, 96, 46, 42, 29, 5, 96, 46, 182, 0, 90, 87, 44, 42, 29, 4, 96, 46, 42, 29, 5, 96, 46, 182, 0, 93, 87, 167, 4, 92, 43, 42, 29, 4, 96, 46, 42, 29, 5] := by decide +kernel
theorem bk_924 : (cL_law.data.toList.drop 924).take 63 = [96, 46, 182, 0, 94, 87, 44, 42, 29, 4, 96, 46, 42, 29, 5, 96, 46, 182, 0, 97, 87, 167, 4, 59, 43, 42, 29, 4, 96, 46, 42, 29, 5, 96, 46, 182, 0, 98, 87, 44, 42, 29, 4, 96, 46, 42, 29, 5, 96, 46, 182, 0, 101, 87, 167, 4, 26, 43, 42, 29, 4, 96, 46] := by decide +kernel
theorem bk_987 : (cL_law.data.toList.drop 987).take 64 = [182, 0, 102, 87, 44, 42, 29, 4, 96, 46, 182, 0, 105, 87, 167, 4, 3, 43, 42, 29, 4, 96, 46, 182, 0, 106, 87, 44, 42, 29, 4, 96, 46, 182, 0, 109, 87, 167, 3, 236, 43, 42, 29, 4, 96, 46, 182, 0, 110, 87, 44, 42, 29, 4, 96, 46, 182, 0, 113, 87, 167, 3, 213, 43] := by decide +kernel
theorem bk_1051 : (cL_law.data.toList.drop 1051).take 64 = [42, 29, 4, 96, 46, 42, 29, 5, 96, 46, 42, 29, 6, 96, 46, 42, 29, 7, 96, 46, 182, 0, 114, 87, 44, 42, 29, 4, 96, 46, 42, 29, 5, 96, 46, 42, 29, 6, 96, 46, 42, 29, 7, 96, 46, 182, 0, 117, 87, 167, 3, 160, 43, 42, 29, 4, 96, 46, 182, 0, 118, 87, 44, 42] := by decide +kernel
theorem bk_1115 : (cL_law.data.toList.drop 1115).take 63 = [29, 4, 96, 46, 182, 0, 121, 87, 167, 3, 137, 43, 42, 29, 4, 96, 46, 182, 0, 122, 87, 44, 42, 29, 4, 96, 46, 182, 0, 125, 87, 167, 3, 114, 43, 42, 29, 4, 96, 46, 182, 0, 126, 87, 44, 42, 29, 4, 96, 46, 182, 0, 129, 87, 167, 3, 91, 43, 182, 0, 130, 87, 44] := by decide +kernel
theorem bk_1178 : (cL_law.data.toList.drop 1178).take 63 = [182, 0, 133, 87, 167, 3, 78, 43, 182, 0, 134, 87, 44, 182, 0, 137, 87, 167, 3, 65, 43, 42, 29, 4, 96, 46, 182, 0, 138, 87, 44, 42, 29, 4, 96, 46, 182, 0, 141, 87, 167, 3, 42, 43, 42, 29, 4, 96, 46, 182, 0, 142, 87, 44, 42, 29, 4, 96, 46, 182, 0, 145, 87] := by decide +kernel
theorem bk_1241 : (cL_law.data.toList.drop 1241).take 64 = [167, 3, 19, 43, 42, 29, 4, 96, 46, 42, 29, 5, 96, 46, 182, 0, 146, 87, 44, 42, 29, 4, 96, 46, 42, 29, 5, 96, 46, 182, 0, 149, 87, 167, 2, 242, 43, 42, 29, 4, 96, 46, 182, 0, 150, 87, 44, 42, 29, 4, 96, 46, 182, 0, 153, 87, 167, 2, 219, 43, 42, 29, 4, 96] := by decide +kernel
theorem bk_1305 : (cL_law.data.toList.drop 1305).take 64 = [46, 42, 29, 5, 96, 46, 182, 0, 154, 87, 44, 42, 29, 4, 96, 46, 42, 29, 5, 96, 46, 182, 0, 157, 87, 167, 2, 186, 43, 42, 29, 4, 96, 46, 42, 29, 5, 96, 46, 182, 0, 158, 87, 44, 42, 29, 4, 96, 46, 42, 29, 5, 96, 46, 182, 0, 161, 87, 167, 2, 153, 43, 42, 29] := by decide +kernel
theorem bk_1369 : (cL_law.data.toList.drop 1369).take 64 = [4, 96, 46, 42, 29, 5, 96, 46, 182, 0, 162, 87, 44, 42, 29, 4, 96, 46, 42, 29, 5, 96, 46, 182, 0, 165, 87, 167, 2, 120, 43, 42, 29, 4, 96, 46, 42, 29, 5, 96, 46, 182, 0, 166, 87, 44, 42, 29, 4, 96, 46, 42, 29, 5, 96, 46, 182, 0, 169, 87, 167, 2, 87, 43] := by decide +kernel
theorem bk_1433 : (cL_law.data.toList.drop 1433).take 64 = [42, 29, 4, 96, 46, 42, 29, 5, 96, 46, 182, 0, 170, 87, 44, 42, 29, 4, 96, 46, 42, 29, 5, 96, 46, 182, 0, 173, 87, 167, 2, 54, 43, 182, 0, 174, 87, 44, 182, 0, 177, 87, 167, 2, 41, 43, 182, 0, 178, 87, 44, 182, 0, 181, 87, 167, 2, 28, 43, 42, 29, 4, 96, 46] := by decide +kernel
theorem bk_1497 : (cL_law.data.toList.drop 1497).take 64 = [42, 29, 5, 96, 46, 182, 0, 182, 87, 44, 42, 29, 4, 96, 46, 42, 29, 5, 96, 46, 182, 0, 185, 87, 167, 1, 251, 43, 42, 29, 4, 96, 46, 42, 29, 5, 96, 46, 182, 0, 186, 87, 44, 42, 29, 4, 96, 46, 42, 29, 5, 96, 46, 182, 0, 189, 87, 167, 1, 218, 43, 42, 29, 4] := by decide +kernel
theorem bk_1561 : (cL_law.data.toList.drop 1561).take 64 = [96, 46, 42, 29, 5, 96, 46, 182, 0, 190, 87, 44, 42, 29, 4, 96, 46, 42, 29, 5, 96, 46, 182, 0, 193, 87, 167, 1, 185, 43, 42, 29, 4, 96, 46, 42, 29, 5, 96, 46, 42, 29, 6, 96, 46, 182, 0, 194, 87, 44, 42, 29, 4, 96, 46, 42, 29, 5, 96, 46, 42, 29, 6, 96] := by decide +kernel
theorem bk_1625 : (cL_law.data.toList.drop 1625).take 64 = [46, 182, 0, 198, 87, 167, 1, 142, 43, 42, 29, 4, 96, 46, 42, 29, 5, 96, 46, 42, 29, 6, 96, 46, 42, 29, 7, 96, 46, 42, 29, 8, 96, 46, 182, 0, 199, 87, 44, 42, 29, 4, 96, 46, 42, 29, 5, 96, 46, 42, 29, 6, 96, 46, 42, 29, 7, 96, 46, 42, 29, 8, 96, 46] := by decide +kernel
theorem bk_1689 : (cL_law.data.toList.drop 1689).take 62 = [182, 0, 202, 87, 167, 1, 79, 43, 42, 29, 4, 96, 46, 182, 0, 203, 87, 44, 42, 29, 4, 96, 46, 182, 0, 206, 87, 167, 1, 56, 43, 182, 0, 207, 87, 44, 182, 0, 210, 87, 167, 1, 43, 43, 182, 0, 211, 87, 44, 182, 0, 214, 87, 167, 1, 30, 43, 42, 29, 4, 96, 46] := by decide +kernel
theorem bk_1751 : (cL_law.data.toList.drop 1751).take 64 = [182, 0, 215, 87, 44, 42, 29, 4, 96, 46, 182, 0, 218, 87, 167, 1, 7, 43, 42, 29, 4, 96, 46, 182, 0, 219, 87, 44, 42, 29, 4, 96, 46, 182, 0, 222, 87, 167, 0, 240, 43, 42, 29, 4, 96, 46, 42, 29, 5, 96, 46, 182, 0, 223, 87, 44, 42, 29, 4, 96, 46, 42, 29, 5] := by decide +kernel
theorem bk_1815 : (cL_law.data.toList.drop 1815).take 64 = [96, 46, 182, 0, 226, 87, 167, 0, 207, 43, 42, 29, 4, 96, 46, 182, 0, 227, 87, 44, 42, 29, 4, 96, 46, 182, 0, 230, 87, 167, 0, 184, 43, 42, 29, 4, 96, 46, 182, 0, 231, 87, 44, 42, 29, 4, 96, 46, 182, 0, 234, 87, 167, 0, 161, 43, 42, 29, 4, 96, 46, 182, 0, 235] := by decide +kernel
theorem bk_1879 : (cL_law.data.toList.drop 1879).take 64 = [87, 44, 42, 29, 4, 96, 46, 182, 0, 238, 87, 167, 0, 138, 43, 42, 29, 4, 96, 46, 182, 0, 239, 87, 44, 42, 29, 4, 96, 46, 182, 0, 242, 87, 167, 0, 115, 43, 42, 29, 4, 96, 46, 42, 29, 5, 96, 46, 42, 29, 6, 96, 46, 182, 0, 243, 87, 44, 42, 29, 4, 96, 46, 42] := by decide +kernel
theorem bk_1943 : (cL_law.data.toList.drop 1943).take 64 = [29, 5, 96, 46, 42, 29, 6, 96, 46, 182, 0, 246, 87, 167, 0, 72, 43, 42, 29, 4, 96, 46, 42, 29, 5, 96, 46, 182, 0, 247, 87, 44, 42, 29, 4, 96, 46, 42, 29, 5, 96, 46, 182, 0, 250, 87, 167, 0, 39, 43, 182, 0, 251, 87, 44, 182, 0, 254, 87, 167, 0, 26, 43, 42] := by decide +kernel
theorem bk_2007 : (cL_law.data.toList.drop 2007).take 28 = [29, 4, 96, 46, 182, 0, 255, 87, 44, 42, 29, 4, 96, 46, 182, 1, 2, 87, 167, 0, 3, 132, 3, 6, 167, 248, 35, 4] := by decide +kernel
