abbrev dc_at (c : ByteArray) (p : Nat) (L : List Nat) : Prop := ((c.data.toList.drop p).take L.length).map UInt8.toNat = L
theorem dc_u1 {c : ByteArray} {p a : Nat} {L : List Nat} (h : dc_at c p (a :: L)) : (Reader.u1 : Decoder Nat) c p = .ok (a, p + 1) ∧ dc_at c (p + 1) L := by
  unfold dc_at at h
  have hp : p < c.size := by
    rcases Nat.lt_or_ge p c.size with q | q
    · exact q
    · exfalso
      have e : c.data.toList.drop p = [] := List.drop_eq_nil_of_le (by have : c.size = c.data.toList.length := rfl; omega)
      rw [e] at h; simp at h
  have hl : p < c.data.toList.length := hp
  have e : c.data.toList.drop p = c.data.toList[p] :: c.data.toList.drop (p + 1) := List.drop_eq_getElem_cons hl
  rw [e] at h
  simp only [List.length_cons, List.take_succ_cons, List.map_cons, List.cons.injEq] at h
  refine ⟨?_, h.2⟩
  have q : (Reader.u1 : Decoder Nat) c p = ((if h : p < c.size then (bind (set (p + 1)) fun _ => pure c[p].toNat) else throw (HasTruncated.truncated p)) : Decoder Nat) c p := rfl
  rw [q, dif_pos hp]
  show Except.ok (c[p].toNat, p + 1) = _
  have h9 : c[p].toNat = a := h.1
  rw [h9]
theorem dc_u2 {c : ByteArray} {p a b : Nat} {L : List Nat} (h : dc_at c p (a :: b :: L)) : (Reader.u2 : Decoder Nat) c p = .ok (a * 256 + b, p + 2) := by
  have h1 := dc_u1 h
  have h2 := (dc_u1 h1.2).1
  show (do let x ← (Reader.u1 : Decoder Nat) c p; _) = _
  rw [h1.1]
  show (do let x ← (Reader.u1 : Decoder Nat) c (p + 1); _) = _
  rw [h2]; rfl
theorem dc_s1 {c : ByteArray} {p a : Nat} {L : List Nat} (h : dc_at c p (a :: L)) : (Reader.s1 : Decoder Int) c p = .ok (Reader.signed 8 a, p + 1) := by
  show (do let x ← (Reader.u1 : Decoder Nat) c p; _) = _
  rw [(dc_u1 h).1]; rfl
theorem dc_s2 {c : ByteArray} {p a b : Nat} {L : List Nat} (h : dc_at c p (a :: b :: L)) : (Reader.s2 : Decoder Int) c p = .ok (Reader.signed 16 (a * 256 + b), p + 2) := by
  show (do let x ← (Reader.u2 : Decoder Nat) c p; _) = _
  rw [dc_u2 h]; rfl
theorem dc_end {c : ByteArray} {pc n : Nat} {I : Instr} (e : (Decoder.instr pc).runAt c pc = .ok (I, pc + n)) : decode c pc = .ok (I, n) := by
  unfold decode
  rw [e]
  show Except.ok _ = _
  rw [Nat.add_sub_cancel_left]

theorem od_1 {c : ByteArray} {pc : Nat} (h : dc_at c pc [1]) : decode c pc = .ok (.aconst_null, 1) := by
  have h1 := dc_u1 h
  refine dc_end ?_
  show (do let x ← (Reader.u1 : Decoder Nat) c pc; _) = _
  rw [h1.1]
  rfl
theorem od_2 {c : ByteArray} {pc : Nat} (h : dc_at c pc [2]) : decode c pc = .ok (.iconst (-1), 1) := by
  have h1 := dc_u1 h
  refine dc_end ?_
  show (do let x ← (Reader.u1 : Decoder Nat) c pc; _) = _
  rw [h1.1]
  rfl
theorem od_3 {c : ByteArray} {pc : Nat} (h : dc_at c pc [3]) : decode c pc = .ok (.iconst 0, 1) := by
  have h1 := dc_u1 h
  refine dc_end ?_
  show (do let x ← (Reader.u1 : Decoder Nat) c pc; _) = _
  rw [h1.1]
  rfl
theorem od_4 {c : ByteArray} {pc : Nat} (h : dc_at c pc [4]) : decode c pc = .ok (.iconst 1, 1) := by
  have h1 := dc_u1 h
  refine dc_end ?_
  show (do let x ← (Reader.u1 : Decoder Nat) c pc; _) = _
  rw [h1.1]
  rfl
theorem od_5 {c : ByteArray} {pc : Nat} (h : dc_at c pc [5]) : decode c pc = .ok (.iconst 2, 1) := by
  have h1 := dc_u1 h
  refine dc_end ?_
  show (do let x ← (Reader.u1 : Decoder Nat) c pc; _) = _
  rw [h1.1]
  rfl
theorem od_6 {c : ByteArray} {pc : Nat} (h : dc_at c pc [6]) : decode c pc = .ok (.iconst 3, 1) := by
  have h1 := dc_u1 h
  refine dc_end ?_
  show (do let x ← (Reader.u1 : Decoder Nat) c pc; _) = _
  rw [h1.1]
  rfl
theorem od_7 {c : ByteArray} {pc : Nat} (h : dc_at c pc [7]) : decode c pc = .ok (.iconst 4, 1) := by
  have h1 := dc_u1 h
  refine dc_end ?_
  show (do let x ← (Reader.u1 : Decoder Nat) c pc; _) = _
  rw [h1.1]
  rfl
theorem od_8 {c : ByteArray} {pc : Nat} (h : dc_at c pc [8]) : decode c pc = .ok (.iconst 5, 1) := by
  have h1 := dc_u1 h
  refine dc_end ?_
  show (do let x ← (Reader.u1 : Decoder Nat) c pc; _) = _
  rw [h1.1]
  rfl
theorem od_9 {c : ByteArray} {pc : Nat} (h : dc_at c pc [9]) : decode c pc = .ok (.lconst 0, 1) := by
  have h1 := dc_u1 h
  refine dc_end ?_
  show (do let x ← (Reader.u1 : Decoder Nat) c pc; _) = _
  rw [h1.1]
  rfl
theorem od_10 {c : ByteArray} {pc : Nat} (h : dc_at c pc [10]) : decode c pc = .ok (.lconst 1, 1) := by
  have h1 := dc_u1 h
  refine dc_end ?_
  show (do let x ← (Reader.u1 : Decoder Nat) c pc; _) = _
  rw [h1.1]
  rfl
theorem od_16 {c : ByteArray} {pc a : Nat} {k : Int} (h : dc_at c pc [16, a]) (hk : Reader.signed 8 a = k) : decode c pc = .ok (.bipush k, 2) := by
  subst hk
  have h1 := dc_u1 h
  refine dc_end ?_
  show (do let x ← (Reader.u1 : Decoder Nat) c pc; _) = _
  rw [h1.1]
  show (do let x ← (Reader.s1 : Decoder Int) c (pc + 1); _) = _
  rw [dc_s1 h1.2]; rfl
theorem od_17 {c : ByteArray} {pc a b : Nat} {k : Int} (h : dc_at c pc [17, a, b]) (hk : Reader.signed 16 (a * 256 + b) = k) : decode c pc = .ok (.sipush k, 3) := by
  subst hk
  have h1 := dc_u1 h
  refine dc_end ?_
  show (do let x ← (Reader.u1 : Decoder Nat) c pc; _) = _
  rw [h1.1]
  show (do let x ← (Reader.s2 : Decoder Int) c (pc + 1); _) = _
  rw [dc_s2 h1.2]; rfl
theorem od_18 {c : ByteArray} {pc n : Nat} (h : dc_at c pc [18, n]) : decode c pc = .ok (.ldc n, 2) := by
  have h1 := dc_u1 h
  refine dc_end ?_
  show (do let x ← (Reader.u1 : Decoder Nat) c pc; _) = _
  rw [h1.1]
  show (do let x ← (Reader.u1 : Decoder Nat) c (pc + 1); _) = _
  rw [(dc_u1 h1.2).1]; rfl
theorem od_19 {c : ByteArray} {pc a b n : Nat} (h : dc_at c pc [19, a, b]) (hn : a * 256 + b = n) : decode c pc = .ok (.ldc_w n, 3) := by
  subst hn
  have h1 := dc_u1 h
  refine dc_end ?_
  show (do let x ← (Reader.u1 : Decoder Nat) c pc; _) = _
  rw [h1.1]
  show (do let x ← (Reader.u2 : Decoder Nat) c (pc + 1); _) = _
  rw [dc_u2 h1.2]; rfl
theorem od_20 {c : ByteArray} {pc a b n : Nat} (h : dc_at c pc [20, a, b]) (hn : a * 256 + b = n) : decode c pc = .ok (.ldc2_w n, 3) := by
  subst hn
  have h1 := dc_u1 h
  refine dc_end ?_
  show (do let x ← (Reader.u1 : Decoder Nat) c pc; _) = _
  rw [h1.1]
  show (do let x ← (Reader.u2 : Decoder Nat) c (pc + 1); _) = _
  rw [dc_u2 h1.2]; rfl
theorem od_21 {c : ByteArray} {pc n : Nat} (h : dc_at c pc [21, n]) : decode c pc = .ok (.iload n, 2) := by
  have h1 := dc_u1 h
  refine dc_end ?_
  show (do let x ← (Reader.u1 : Decoder Nat) c pc; _) = _
  rw [h1.1]
  show (do let x ← (Reader.u1 : Decoder Nat) c (pc + 1); _) = _
  rw [(dc_u1 h1.2).1]; rfl
theorem od_22 {c : ByteArray} {pc n : Nat} (h : dc_at c pc [22, n]) : decode c pc = .ok (.lload n, 2) := by
  have h1 := dc_u1 h
  refine dc_end ?_
  show (do let x ← (Reader.u1 : Decoder Nat) c pc; _) = _
  rw [h1.1]
  show (do let x ← (Reader.u1 : Decoder Nat) c (pc + 1); _) = _
  rw [(dc_u1 h1.2).1]; rfl
theorem od_25 {c : ByteArray} {pc n : Nat} (h : dc_at c pc [25, n]) : decode c pc = .ok (.aload n, 2) := by
  have h1 := dc_u1 h
  refine dc_end ?_
  show (do let x ← (Reader.u1 : Decoder Nat) c pc; _) = _
  rw [h1.1]
  show (do let x ← (Reader.u1 : Decoder Nat) c (pc + 1); _) = _
  rw [(dc_u1 h1.2).1]; rfl
theorem od_26 {c : ByteArray} {pc : Nat} (h : dc_at c pc [26]) : decode c pc = .ok (.iload_n 0, 1) := by
  have h1 := dc_u1 h
  refine dc_end ?_
  show (do let x ← (Reader.u1 : Decoder Nat) c pc; _) = _
  rw [h1.1]
  rfl
theorem od_27 {c : ByteArray} {pc : Nat} (h : dc_at c pc [27]) : decode c pc = .ok (.iload_n 1, 1) := by
  have h1 := dc_u1 h
  refine dc_end ?_
  show (do let x ← (Reader.u1 : Decoder Nat) c pc; _) = _
  rw [h1.1]
  rfl
theorem od_28 {c : ByteArray} {pc : Nat} (h : dc_at c pc [28]) : decode c pc = .ok (.iload_n 2, 1) := by
  have h1 := dc_u1 h
  refine dc_end ?_
  show (do let x ← (Reader.u1 : Decoder Nat) c pc; _) = _
  rw [h1.1]
  rfl
theorem od_29 {c : ByteArray} {pc : Nat} (h : dc_at c pc [29]) : decode c pc = .ok (.iload_n 3, 1) := by
  have h1 := dc_u1 h
  refine dc_end ?_
  show (do let x ← (Reader.u1 : Decoder Nat) c pc; _) = _
  rw [h1.1]
  rfl
theorem od_30 {c : ByteArray} {pc : Nat} (h : dc_at c pc [30]) : decode c pc = .ok (.lload_n 0, 1) := by
  have h1 := dc_u1 h
  refine dc_end ?_
  show (do let x ← (Reader.u1 : Decoder Nat) c pc; _) = _
  rw [h1.1]
  rfl
theorem od_31 {c : ByteArray} {pc : Nat} (h : dc_at c pc [31]) : decode c pc = .ok (.lload_n 1, 1) := by
  have h1 := dc_u1 h
  refine dc_end ?_
  show (do let x ← (Reader.u1 : Decoder Nat) c pc; _) = _
  rw [h1.1]
  rfl
theorem od_32 {c : ByteArray} {pc : Nat} (h : dc_at c pc [32]) : decode c pc = .ok (.lload_n 2, 1) := by
  have h1 := dc_u1 h
  refine dc_end ?_
  show (do let x ← (Reader.u1 : Decoder Nat) c pc; _) = _
  rw [h1.1]
  rfl
theorem od_33 {c : ByteArray} {pc : Nat} (h : dc_at c pc [33]) : decode c pc = .ok (.lload_n 3, 1) := by
  have h1 := dc_u1 h
  refine dc_end ?_
  show (do let x ← (Reader.u1 : Decoder Nat) c pc; _) = _
  rw [h1.1]
  rfl
theorem od_42 {c : ByteArray} {pc : Nat} (h : dc_at c pc [42]) : decode c pc = .ok (.aload_n 0, 1) := by
  have h1 := dc_u1 h
  refine dc_end ?_
  show (do let x ← (Reader.u1 : Decoder Nat) c pc; _) = _
  rw [h1.1]
  rfl
theorem od_43 {c : ByteArray} {pc : Nat} (h : dc_at c pc [43]) : decode c pc = .ok (.aload_n 1, 1) := by
  have h1 := dc_u1 h
  refine dc_end ?_
  show (do let x ← (Reader.u1 : Decoder Nat) c pc; _) = _
  rw [h1.1]
  rfl
theorem od_44 {c : ByteArray} {pc : Nat} (h : dc_at c pc [44]) : decode c pc = .ok (.aload_n 2, 1) := by
  have h1 := dc_u1 h
  refine dc_end ?_
  show (do let x ← (Reader.u1 : Decoder Nat) c pc; _) = _
  rw [h1.1]
  rfl
theorem od_45 {c : ByteArray} {pc : Nat} (h : dc_at c pc [45]) : decode c pc = .ok (.aload_n 3, 1) := by
  have h1 := dc_u1 h
  refine dc_end ?_
  show (do let x ← (Reader.u1 : Decoder Nat) c pc; _) = _
  rw [h1.1]
  rfl
theorem od_46 {c : ByteArray} {pc : Nat} (h : dc_at c pc [46]) : decode c pc = .ok (.iaload, 1) := by
  have h1 := dc_u1 h
  refine dc_end ?_
  show (do let x ← (Reader.u1 : Decoder Nat) c pc; _) = _
  rw [h1.1]
  rfl
theorem od_47 {c : ByteArray} {pc : Nat} (h : dc_at c pc [47]) : decode c pc = .ok (.laload, 1) := by
  have h1 := dc_u1 h
  refine dc_end ?_
  show (do let x ← (Reader.u1 : Decoder Nat) c pc; _) = _
  rw [h1.1]
  rfl
theorem od_50 {c : ByteArray} {pc : Nat} (h : dc_at c pc [50]) : decode c pc = .ok (.aaload, 1) := by
  have h1 := dc_u1 h
  refine dc_end ?_
  show (do let x ← (Reader.u1 : Decoder Nat) c pc; _) = _
  rw [h1.1]
  rfl
theorem od_51 {c : ByteArray} {pc : Nat} (h : dc_at c pc [51]) : decode c pc = .ok (.baload, 1) := by
  have h1 := dc_u1 h
  refine dc_end ?_
  show (do let x ← (Reader.u1 : Decoder Nat) c pc; _) = _
  rw [h1.1]
  rfl
theorem od_52 {c : ByteArray} {pc : Nat} (h : dc_at c pc [52]) : decode c pc = .ok (.caload, 1) := by
  have h1 := dc_u1 h
  refine dc_end ?_
  show (do let x ← (Reader.u1 : Decoder Nat) c pc; _) = _
  rw [h1.1]
  rfl
theorem od_54 {c : ByteArray} {pc n : Nat} (h : dc_at c pc [54, n]) : decode c pc = .ok (.istore n, 2) := by
  have h1 := dc_u1 h
  refine dc_end ?_
  show (do let x ← (Reader.u1 : Decoder Nat) c pc; _) = _
  rw [h1.1]
  show (do let x ← (Reader.u1 : Decoder Nat) c (pc + 1); _) = _
  rw [(dc_u1 h1.2).1]; rfl
theorem od_55 {c : ByteArray} {pc n : Nat} (h : dc_at c pc [55, n]) : decode c pc = .ok (.lstore n, 2) := by
  have h1 := dc_u1 h
  refine dc_end ?_
  show (do let x ← (Reader.u1 : Decoder Nat) c pc; _) = _
  rw [h1.1]
  show (do let x ← (Reader.u1 : Decoder Nat) c (pc + 1); _) = _
  rw [(dc_u1 h1.2).1]; rfl
theorem od_58 {c : ByteArray} {pc n : Nat} (h : dc_at c pc [58, n]) : decode c pc = .ok (.astore n, 2) := by
  have h1 := dc_u1 h
  refine dc_end ?_
  show (do let x ← (Reader.u1 : Decoder Nat) c pc; _) = _
  rw [h1.1]
  show (do let x ← (Reader.u1 : Decoder Nat) c (pc + 1); _) = _
  rw [(dc_u1 h1.2).1]; rfl
theorem od_59 {c : ByteArray} {pc : Nat} (h : dc_at c pc [59]) : decode c pc = .ok (.istore_n 0, 1) := by
  have h1 := dc_u1 h
  refine dc_end ?_
  show (do let x ← (Reader.u1 : Decoder Nat) c pc; _) = _
  rw [h1.1]
  rfl
theorem od_60 {c : ByteArray} {pc : Nat} (h : dc_at c pc [60]) : decode c pc = .ok (.istore_n 1, 1) := by
  have h1 := dc_u1 h
  refine dc_end ?_
  show (do let x ← (Reader.u1 : Decoder Nat) c pc; _) = _
  rw [h1.1]
  rfl
theorem od_61 {c : ByteArray} {pc : Nat} (h : dc_at c pc [61]) : decode c pc = .ok (.istore_n 2, 1) := by
  have h1 := dc_u1 h
  refine dc_end ?_
  show (do let x ← (Reader.u1 : Decoder Nat) c pc; _) = _
  rw [h1.1]
  rfl
theorem od_62 {c : ByteArray} {pc : Nat} (h : dc_at c pc [62]) : decode c pc = .ok (.istore_n 3, 1) := by
  have h1 := dc_u1 h
  refine dc_end ?_
  show (do let x ← (Reader.u1 : Decoder Nat) c pc; _) = _
  rw [h1.1]
  rfl
theorem od_65 {c : ByteArray} {pc : Nat} (h : dc_at c pc [65]) : decode c pc = .ok (.lstore_n 2, 1) := by
  have h1 := dc_u1 h
  refine dc_end ?_
  show (do let x ← (Reader.u1 : Decoder Nat) c pc; _) = _
  rw [h1.1]
  rfl
theorem od_66 {c : ByteArray} {pc : Nat} (h : dc_at c pc [66]) : decode c pc = .ok (.lstore_n 3, 1) := by
  have h1 := dc_u1 h
  refine dc_end ?_
  show (do let x ← (Reader.u1 : Decoder Nat) c pc; _) = _
  rw [h1.1]
  rfl
theorem od_76 {c : ByteArray} {pc : Nat} (h : dc_at c pc [76]) : decode c pc = .ok (.astore_n 1, 1) := by
  have h1 := dc_u1 h
  refine dc_end ?_
  show (do let x ← (Reader.u1 : Decoder Nat) c pc; _) = _
  rw [h1.1]
  rfl
theorem od_77 {c : ByteArray} {pc : Nat} (h : dc_at c pc [77]) : decode c pc = .ok (.astore_n 2, 1) := by
  have h1 := dc_u1 h
  refine dc_end ?_
  show (do let x ← (Reader.u1 : Decoder Nat) c pc; _) = _
  rw [h1.1]
  rfl
theorem od_78 {c : ByteArray} {pc : Nat} (h : dc_at c pc [78]) : decode c pc = .ok (.astore_n 3, 1) := by
  have h1 := dc_u1 h
  refine dc_end ?_
  show (do let x ← (Reader.u1 : Decoder Nat) c pc; _) = _
  rw [h1.1]
  rfl
theorem od_79 {c : ByteArray} {pc : Nat} (h : dc_at c pc [79]) : decode c pc = .ok (.iastore, 1) := by
  have h1 := dc_u1 h
  refine dc_end ?_
  show (do let x ← (Reader.u1 : Decoder Nat) c pc; _) = _
  rw [h1.1]
  rfl
theorem od_80 {c : ByteArray} {pc : Nat} (h : dc_at c pc [80]) : decode c pc = .ok (.lastore, 1) := by
  have h1 := dc_u1 h
  refine dc_end ?_
  show (do let x ← (Reader.u1 : Decoder Nat) c pc; _) = _
  rw [h1.1]
  rfl
theorem od_83 {c : ByteArray} {pc : Nat} (h : dc_at c pc [83]) : decode c pc = .ok (.aastore, 1) := by
  have h1 := dc_u1 h
  refine dc_end ?_
  show (do let x ← (Reader.u1 : Decoder Nat) c pc; _) = _
  rw [h1.1]
  rfl
theorem od_84 {c : ByteArray} {pc : Nat} (h : dc_at c pc [84]) : decode c pc = .ok (.bastore, 1) := by
  have h1 := dc_u1 h
  refine dc_end ?_
  show (do let x ← (Reader.u1 : Decoder Nat) c pc; _) = _
  rw [h1.1]
  rfl
theorem od_85 {c : ByteArray} {pc : Nat} (h : dc_at c pc [85]) : decode c pc = .ok (.castore, 1) := by
  have h1 := dc_u1 h
  refine dc_end ?_
  show (do let x ← (Reader.u1 : Decoder Nat) c pc; _) = _
  rw [h1.1]
  rfl
theorem od_87 {c : ByteArray} {pc : Nat} (h : dc_at c pc [87]) : decode c pc = .ok (.pop, 1) := by
  have h1 := dc_u1 h
  refine dc_end ?_
  show (do let x ← (Reader.u1 : Decoder Nat) c pc; _) = _
  rw [h1.1]
  rfl
theorem od_88 {c : ByteArray} {pc : Nat} (h : dc_at c pc [88]) : decode c pc = .ok (.pop2, 1) := by
  have h1 := dc_u1 h
  refine dc_end ?_
  show (do let x ← (Reader.u1 : Decoder Nat) c pc; _) = _
  rw [h1.1]
  rfl
theorem od_89 {c : ByteArray} {pc : Nat} (h : dc_at c pc [89]) : decode c pc = .ok (.dup, 1) := by
  have h1 := dc_u1 h
  refine dc_end ?_
  show (do let x ← (Reader.u1 : Decoder Nat) c pc; _) = _
  rw [h1.1]
  rfl
theorem od_90 {c : ByteArray} {pc : Nat} (h : dc_at c pc [90]) : decode c pc = .ok (.dup_x1, 1) := by
  have h1 := dc_u1 h
  refine dc_end ?_
  show (do let x ← (Reader.u1 : Decoder Nat) c pc; _) = _
  rw [h1.1]
  rfl
theorem od_92 {c : ByteArray} {pc : Nat} (h : dc_at c pc [92]) : decode c pc = .ok (.dup2, 1) := by
  have h1 := dc_u1 h
  refine dc_end ?_
  show (do let x ← (Reader.u1 : Decoder Nat) c pc; _) = _
  rw [h1.1]
  rfl
theorem od_96 {c : ByteArray} {pc : Nat} (h : dc_at c pc [96]) : decode c pc = .ok (.iadd, 1) := by
  have h1 := dc_u1 h
  refine dc_end ?_
  show (do let x ← (Reader.u1 : Decoder Nat) c pc; _) = _
  rw [h1.1]
  rfl
theorem od_97 {c : ByteArray} {pc : Nat} (h : dc_at c pc [97]) : decode c pc = .ok (.ladd, 1) := by
  have h1 := dc_u1 h
  refine dc_end ?_
  show (do let x ← (Reader.u1 : Decoder Nat) c pc; _) = _
  rw [h1.1]
  rfl
theorem od_100 {c : ByteArray} {pc : Nat} (h : dc_at c pc [100]) : decode c pc = .ok (.isub, 1) := by
  have h1 := dc_u1 h
  refine dc_end ?_
  show (do let x ← (Reader.u1 : Decoder Nat) c pc; _) = _
  rw [h1.1]
  rfl
theorem od_101 {c : ByteArray} {pc : Nat} (h : dc_at c pc [101]) : decode c pc = .ok (.lsub, 1) := by
  have h1 := dc_u1 h
  refine dc_end ?_
  show (do let x ← (Reader.u1 : Decoder Nat) c pc; _) = _
  rw [h1.1]
  rfl
theorem od_104 {c : ByteArray} {pc : Nat} (h : dc_at c pc [104]) : decode c pc = .ok (.imul, 1) := by
  have h1 := dc_u1 h
  refine dc_end ?_
  show (do let x ← (Reader.u1 : Decoder Nat) c pc; _) = _
  rw [h1.1]
  rfl
theorem od_105 {c : ByteArray} {pc : Nat} (h : dc_at c pc [105]) : decode c pc = .ok (.lmul, 1) := by
  have h1 := dc_u1 h
  refine dc_end ?_
  show (do let x ← (Reader.u1 : Decoder Nat) c pc; _) = _
  rw [h1.1]
  rfl
theorem od_108 {c : ByteArray} {pc : Nat} (h : dc_at c pc [108]) : decode c pc = .ok (.idiv, 1) := by
  have h1 := dc_u1 h
  refine dc_end ?_
  show (do let x ← (Reader.u1 : Decoder Nat) c pc; _) = _
  rw [h1.1]
  rfl
theorem od_109 {c : ByteArray} {pc : Nat} (h : dc_at c pc [109]) : decode c pc = .ok (.ldiv, 1) := by
  have h1 := dc_u1 h
  refine dc_end ?_
  show (do let x ← (Reader.u1 : Decoder Nat) c pc; _) = _
  rw [h1.1]
  rfl
theorem od_112 {c : ByteArray} {pc : Nat} (h : dc_at c pc [112]) : decode c pc = .ok (.irem, 1) := by
  have h1 := dc_u1 h
  refine dc_end ?_
  show (do let x ← (Reader.u1 : Decoder Nat) c pc; _) = _
  rw [h1.1]
  rfl
theorem od_113 {c : ByteArray} {pc : Nat} (h : dc_at c pc [113]) : decode c pc = .ok (.lrem, 1) := by
  have h1 := dc_u1 h
  refine dc_end ?_
  show (do let x ← (Reader.u1 : Decoder Nat) c pc; _) = _
  rw [h1.1]
  rfl
theorem od_117 {c : ByteArray} {pc : Nat} (h : dc_at c pc [117]) : decode c pc = .ok (.lneg, 1) := by
  have h1 := dc_u1 h
  refine dc_end ?_
  show (do let x ← (Reader.u1 : Decoder Nat) c pc; _) = _
  rw [h1.1]
  rfl
theorem od_120 {c : ByteArray} {pc : Nat} (h : dc_at c pc [120]) : decode c pc = .ok (.ishl, 1) := by
  have h1 := dc_u1 h
  refine dc_end ?_
  show (do let x ← (Reader.u1 : Decoder Nat) c pc; _) = _
  rw [h1.1]
  rfl
theorem od_121 {c : ByteArray} {pc : Nat} (h : dc_at c pc [121]) : decode c pc = .ok (.lshl, 1) := by
  have h1 := dc_u1 h
  refine dc_end ?_
  show (do let x ← (Reader.u1 : Decoder Nat) c pc; _) = _
  rw [h1.1]
  rfl
theorem od_122 {c : ByteArray} {pc : Nat} (h : dc_at c pc [122]) : decode c pc = .ok (.ishr, 1) := by
  have h1 := dc_u1 h
  refine dc_end ?_
  show (do let x ← (Reader.u1 : Decoder Nat) c pc; _) = _
  rw [h1.1]
  rfl
theorem od_123 {c : ByteArray} {pc : Nat} (h : dc_at c pc [123]) : decode c pc = .ok (.lshr, 1) := by
  have h1 := dc_u1 h
  refine dc_end ?_
  show (do let x ← (Reader.u1 : Decoder Nat) c pc; _) = _
  rw [h1.1]
  rfl
theorem od_124 {c : ByteArray} {pc : Nat} (h : dc_at c pc [124]) : decode c pc = .ok (.iushr, 1) := by
  have h1 := dc_u1 h
  refine dc_end ?_
  show (do let x ← (Reader.u1 : Decoder Nat) c pc; _) = _
  rw [h1.1]
  rfl
theorem od_126 {c : ByteArray} {pc : Nat} (h : dc_at c pc [126]) : decode c pc = .ok (.iand, 1) := by
  have h1 := dc_u1 h
  refine dc_end ?_
  show (do let x ← (Reader.u1 : Decoder Nat) c pc; _) = _
  rw [h1.1]
  rfl
theorem od_127 {c : ByteArray} {pc : Nat} (h : dc_at c pc [127]) : decode c pc = .ok (.land, 1) := by
  have h1 := dc_u1 h
  refine dc_end ?_
  show (do let x ← (Reader.u1 : Decoder Nat) c pc; _) = _
  rw [h1.1]
  rfl
theorem od_128 {c : ByteArray} {pc : Nat} (h : dc_at c pc [128]) : decode c pc = .ok (.ior, 1) := by
  have h1 := dc_u1 h
  refine dc_end ?_
  show (do let x ← (Reader.u1 : Decoder Nat) c pc; _) = _
  rw [h1.1]
  rfl
theorem od_129 {c : ByteArray} {pc : Nat} (h : dc_at c pc [129]) : decode c pc = .ok (.lor, 1) := by
  have h1 := dc_u1 h
  refine dc_end ?_
  show (do let x ← (Reader.u1 : Decoder Nat) c pc; _) = _
  rw [h1.1]
  rfl
theorem od_130 {c : ByteArray} {pc : Nat} (h : dc_at c pc [130]) : decode c pc = .ok (.ixor, 1) := by
  have h1 := dc_u1 h
  refine dc_end ?_
  show (do let x ← (Reader.u1 : Decoder Nat) c pc; _) = _
  rw [h1.1]
  rfl
theorem od_132 {c : ByteArray} {pc a b : Nat} {k : Int} (h : dc_at c pc [132, a, b]) (hk : Reader.signed 8 b = k) : decode c pc = .ok (.iinc a k, 3) := by
  subst hk
  have h1 := dc_u1 h
  refine dc_end ?_
  show (do let x ← (Reader.u1 : Decoder Nat) c pc; _) = _
  rw [h1.1]
  show (do let x ← (Reader.u1 : Decoder Nat) c (pc + 1); _) = _
  rw [(dc_u1 h1.2).1]
  show (do let x ← (Reader.s1 : Decoder Int) c (pc + 1 + 1); _) = _
  rw [dc_s1 (dc_u1 h1.2).2]; rfl
theorem od_133 {c : ByteArray} {pc : Nat} (h : dc_at c pc [133]) : decode c pc = .ok (.i2l, 1) := by
  have h1 := dc_u1 h
  refine dc_end ?_
  show (do let x ← (Reader.u1 : Decoder Nat) c pc; _) = _
  rw [h1.1]
  rfl
theorem od_136 {c : ByteArray} {pc : Nat} (h : dc_at c pc [136]) : decode c pc = .ok (.l2i, 1) := by
  have h1 := dc_u1 h
  refine dc_end ?_
  show (do let x ← (Reader.u1 : Decoder Nat) c pc; _) = _
  rw [h1.1]
  rfl
theorem od_146 {c : ByteArray} {pc : Nat} (h : dc_at c pc [146]) : decode c pc = .ok (.i2c, 1) := by
  have h1 := dc_u1 h
  refine dc_end ?_
  show (do let x ← (Reader.u1 : Decoder Nat) c pc; _) = _
  rw [h1.1]
  rfl
theorem od_148 {c : ByteArray} {pc : Nat} (h : dc_at c pc [148]) : decode c pc = .ok (.lcmp, 1) := by
  have h1 := dc_u1 h
  refine dc_end ?_
  show (do let x ← (Reader.u1 : Decoder Nat) c pc; _) = _
  rw [h1.1]
  rfl
theorem od_153 {c : ByteArray} {pc a b : Nat} {k : Int} (h : dc_at c pc [153, a, b]) (hk : Reader.signed 16 (a * 256 + b) = k) : decode c pc = .ok (.ifCond .eq k, 3) := by
  subst hk
  have h1 := dc_u1 h
  refine dc_end ?_
  show (do let x ← (Reader.u1 : Decoder Nat) c pc; _) = _
  rw [h1.1]
  show (do let x ← (Reader.s2 : Decoder Int) c (pc + 1); _) = _
  rw [dc_s2 h1.2]; rfl
theorem od_154 {c : ByteArray} {pc a b : Nat} {k : Int} (h : dc_at c pc [154, a, b]) (hk : Reader.signed 16 (a * 256 + b) = k) : decode c pc = .ok (.ifCond .ne k, 3) := by
  subst hk
  have h1 := dc_u1 h
  refine dc_end ?_
  show (do let x ← (Reader.u1 : Decoder Nat) c pc; _) = _
  rw [h1.1]
  show (do let x ← (Reader.s2 : Decoder Int) c (pc + 1); _) = _
  rw [dc_s2 h1.2]; rfl
theorem od_155 {c : ByteArray} {pc a b : Nat} {k : Int} (h : dc_at c pc [155, a, b]) (hk : Reader.signed 16 (a * 256 + b) = k) : decode c pc = .ok (.ifCond .lt k, 3) := by
  subst hk
  have h1 := dc_u1 h
  refine dc_end ?_
  show (do let x ← (Reader.u1 : Decoder Nat) c pc; _) = _
  rw [h1.1]
  show (do let x ← (Reader.s2 : Decoder Int) c (pc + 1); _) = _
  rw [dc_s2 h1.2]; rfl
theorem od_156 {c : ByteArray} {pc a b : Nat} {k : Int} (h : dc_at c pc [156, a, b]) (hk : Reader.signed 16 (a * 256 + b) = k) : decode c pc = .ok (.ifCond .ge k, 3) := by
  subst hk
  have h1 := dc_u1 h
  refine dc_end ?_
  show (do let x ← (Reader.u1 : Decoder Nat) c pc; _) = _
  rw [h1.1]
  show (do let x ← (Reader.s2 : Decoder Int) c (pc + 1); _) = _
  rw [dc_s2 h1.2]; rfl
theorem od_157 {c : ByteArray} {pc a b : Nat} {k : Int} (h : dc_at c pc [157, a, b]) (hk : Reader.signed 16 (a * 256 + b) = k) : decode c pc = .ok (.ifCond .gt k, 3) := by
  subst hk
  have h1 := dc_u1 h
  refine dc_end ?_
  show (do let x ← (Reader.u1 : Decoder Nat) c pc; _) = _
  rw [h1.1]
  show (do let x ← (Reader.s2 : Decoder Int) c (pc + 1); _) = _
  rw [dc_s2 h1.2]; rfl
theorem od_158 {c : ByteArray} {pc a b : Nat} {k : Int} (h : dc_at c pc [158, a, b]) (hk : Reader.signed 16 (a * 256 + b) = k) : decode c pc = .ok (.ifCond .le k, 3) := by
  subst hk
  have h1 := dc_u1 h
  refine dc_end ?_
  show (do let x ← (Reader.u1 : Decoder Nat) c pc; _) = _
  rw [h1.1]
  show (do let x ← (Reader.s2 : Decoder Int) c (pc + 1); _) = _
  rw [dc_s2 h1.2]; rfl
theorem od_159 {c : ByteArray} {pc a b : Nat} {k : Int} (h : dc_at c pc [159, a, b]) (hk : Reader.signed 16 (a * 256 + b) = k) : decode c pc = .ok (.if_icmp .eq k, 3) := by
  subst hk
  have h1 := dc_u1 h
  refine dc_end ?_
  show (do let x ← (Reader.u1 : Decoder Nat) c pc; _) = _
  rw [h1.1]
  show (do let x ← (Reader.s2 : Decoder Int) c (pc + 1); _) = _
  rw [dc_s2 h1.2]; rfl
theorem od_160 {c : ByteArray} {pc a b : Nat} {k : Int} (h : dc_at c pc [160, a, b]) (hk : Reader.signed 16 (a * 256 + b) = k) : decode c pc = .ok (.if_icmp .ne k, 3) := by
  subst hk
  have h1 := dc_u1 h
  refine dc_end ?_
  show (do let x ← (Reader.u1 : Decoder Nat) c pc; _) = _
  rw [h1.1]
  show (do let x ← (Reader.s2 : Decoder Int) c (pc + 1); _) = _
  rw [dc_s2 h1.2]; rfl
theorem od_161 {c : ByteArray} {pc a b : Nat} {k : Int} (h : dc_at c pc [161, a, b]) (hk : Reader.signed 16 (a * 256 + b) = k) : decode c pc = .ok (.if_icmp .lt k, 3) := by
  subst hk
  have h1 := dc_u1 h
  refine dc_end ?_
  show (do let x ← (Reader.u1 : Decoder Nat) c pc; _) = _
  rw [h1.1]
  show (do let x ← (Reader.s2 : Decoder Int) c (pc + 1); _) = _
  rw [dc_s2 h1.2]; rfl
theorem od_162 {c : ByteArray} {pc a b : Nat} {k : Int} (h : dc_at c pc [162, a, b]) (hk : Reader.signed 16 (a * 256 + b) = k) : decode c pc = .ok (.if_icmp .ge k, 3) := by
  subst hk
  have h1 := dc_u1 h
  refine dc_end ?_
  show (do let x ← (Reader.u1 : Decoder Nat) c pc; _) = _
  rw [h1.1]
  show (do let x ← (Reader.s2 : Decoder Int) c (pc + 1); _) = _
  rw [dc_s2 h1.2]; rfl
theorem od_163 {c : ByteArray} {pc a b : Nat} {k : Int} (h : dc_at c pc [163, a, b]) (hk : Reader.signed 16 (a * 256 + b) = k) : decode c pc = .ok (.if_icmp .gt k, 3) := by
  subst hk
  have h1 := dc_u1 h
  refine dc_end ?_
  show (do let x ← (Reader.u1 : Decoder Nat) c pc; _) = _
  rw [h1.1]
  show (do let x ← (Reader.s2 : Decoder Int) c (pc + 1); _) = _
  rw [dc_s2 h1.2]; rfl
theorem od_164 {c : ByteArray} {pc a b : Nat} {k : Int} (h : dc_at c pc [164, a, b]) (hk : Reader.signed 16 (a * 256 + b) = k) : decode c pc = .ok (.if_icmp .le k, 3) := by
  subst hk
  have h1 := dc_u1 h
  refine dc_end ?_
  show (do let x ← (Reader.u1 : Decoder Nat) c pc; _) = _
  rw [h1.1]
  show (do let x ← (Reader.s2 : Decoder Int) c (pc + 1); _) = _
  rw [dc_s2 h1.2]; rfl
theorem od_167 {c : ByteArray} {pc a b : Nat} {k : Int} (h : dc_at c pc [167, a, b]) (hk : Reader.signed 16 (a * 256 + b) = k) : decode c pc = .ok (.goto k, 3) := by
  subst hk
  have h1 := dc_u1 h
  refine dc_end ?_
  show (do let x ← (Reader.u1 : Decoder Nat) c pc; _) = _
  rw [h1.1]
  show (do let x ← (Reader.s2 : Decoder Int) c (pc + 1); _) = _
  rw [dc_s2 h1.2]; rfl
theorem od_172 {c : ByteArray} {pc : Nat} (h : dc_at c pc [172]) : decode c pc = .ok (.ireturn, 1) := by
  have h1 := dc_u1 h
  refine dc_end ?_
  show (do let x ← (Reader.u1 : Decoder Nat) c pc; _) = _
  rw [h1.1]
  rfl
theorem od_173 {c : ByteArray} {pc : Nat} (h : dc_at c pc [173]) : decode c pc = .ok (.lreturn, 1) := by
  have h1 := dc_u1 h
  refine dc_end ?_
  show (do let x ← (Reader.u1 : Decoder Nat) c pc; _) = _
  rw [h1.1]
  rfl
theorem od_176 {c : ByteArray} {pc : Nat} (h : dc_at c pc [176]) : decode c pc = .ok (.areturn, 1) := by
  have h1 := dc_u1 h
  refine dc_end ?_
  show (do let x ← (Reader.u1 : Decoder Nat) c pc; _) = _
  rw [h1.1]
  rfl
theorem od_177 {c : ByteArray} {pc : Nat} (h : dc_at c pc [177]) : decode c pc = .ok (.return_, 1) := by
  have h1 := dc_u1 h
  refine dc_end ?_
  show (do let x ← (Reader.u1 : Decoder Nat) c pc; _) = _
  rw [h1.1]
  rfl
theorem od_178 {c : ByteArray} {pc a b n : Nat} (h : dc_at c pc [178, a, b]) (hn : a * 256 + b = n) : decode c pc = .ok (.getstatic n, 3) := by
  subst hn
  have h1 := dc_u1 h
  refine dc_end ?_
  show (do let x ← (Reader.u1 : Decoder Nat) c pc; _) = _
  rw [h1.1]
  show (do let x ← (Reader.u2 : Decoder Nat) c (pc + 1); _) = _
  rw [dc_u2 h1.2]; rfl
theorem od_180 {c : ByteArray} {pc a b n : Nat} (h : dc_at c pc [180, a, b]) (hn : a * 256 + b = n) : decode c pc = .ok (.getfield n, 3) := by
  subst hn
  have h1 := dc_u1 h
  refine dc_end ?_
  show (do let x ← (Reader.u1 : Decoder Nat) c pc; _) = _
  rw [h1.1]
  show (do let x ← (Reader.u2 : Decoder Nat) c (pc + 1); _) = _
  rw [dc_u2 h1.2]; rfl
theorem od_181 {c : ByteArray} {pc a b n : Nat} (h : dc_at c pc [181, a, b]) (hn : a * 256 + b = n) : decode c pc = .ok (.putfield n, 3) := by
  subst hn
  have h1 := dc_u1 h
  refine dc_end ?_
  show (do let x ← (Reader.u1 : Decoder Nat) c pc; _) = _
  rw [h1.1]
  show (do let x ← (Reader.u2 : Decoder Nat) c (pc + 1); _) = _
  rw [dc_u2 h1.2]; rfl
theorem od_182 {c : ByteArray} {pc a b n : Nat} (h : dc_at c pc [182, a, b]) (hn : a * 256 + b = n) : decode c pc = .ok (.invokevirtual n, 3) := by
  subst hn
  have h1 := dc_u1 h
  refine dc_end ?_
  show (do let x ← (Reader.u1 : Decoder Nat) c pc; _) = _
  rw [h1.1]
  show (do let x ← (Reader.u2 : Decoder Nat) c (pc + 1); _) = _
  rw [dc_u2 h1.2]; rfl
theorem od_183 {c : ByteArray} {pc a b n : Nat} (h : dc_at c pc [183, a, b]) (hn : a * 256 + b = n) : decode c pc = .ok (.invokespecial n, 3) := by
  subst hn
  have h1 := dc_u1 h
  refine dc_end ?_
  show (do let x ← (Reader.u1 : Decoder Nat) c pc; _) = _
  rw [h1.1]
  show (do let x ← (Reader.u2 : Decoder Nat) c (pc + 1); _) = _
  rw [dc_u2 h1.2]; rfl
theorem od_184 {c : ByteArray} {pc a b n : Nat} (h : dc_at c pc [184, a, b]) (hn : a * 256 + b = n) : decode c pc = .ok (.invokestatic n, 3) := by
  subst hn
  have h1 := dc_u1 h
  refine dc_end ?_
  show (do let x ← (Reader.u1 : Decoder Nat) c pc; _) = _
  rw [h1.1]
  show (do let x ← (Reader.u2 : Decoder Nat) c (pc + 1); _) = _
  rw [dc_u2 h1.2]; rfl
theorem od_187 {c : ByteArray} {pc a b n : Nat} (h : dc_at c pc [187, a, b]) (hn : a * 256 + b = n) : decode c pc = .ok (.new n, 3) := by
  subst hn
  have h1 := dc_u1 h
  refine dc_end ?_
  show (do let x ← (Reader.u1 : Decoder Nat) c pc; _) = _
  rw [h1.1]
  show (do let x ← (Reader.u2 : Decoder Nat) c (pc + 1); _) = _
  rw [dc_u2 h1.2]; rfl
theorem od_189 {c : ByteArray} {pc a b n : Nat} (h : dc_at c pc [189, a, b]) (hn : a * 256 + b = n) : decode c pc = .ok (.anewarray n, 3) := by
  subst hn
  have h1 := dc_u1 h
  refine dc_end ?_
  show (do let x ← (Reader.u1 : Decoder Nat) c pc; _) = _
  rw [h1.1]
  show (do let x ← (Reader.u2 : Decoder Nat) c (pc + 1); _) = _
  rw [dc_u2 h1.2]; rfl
theorem od_190 {c : ByteArray} {pc : Nat} (h : dc_at c pc [190]) : decode c pc = .ok (.arraylength, 1) := by
  have h1 := dc_u1 h
  refine dc_end ?_
  show (do let x ← (Reader.u1 : Decoder Nat) c pc; _) = _
  rw [h1.1]
  rfl
theorem od_191 {c : ByteArray} {pc : Nat} (h : dc_at c pc [191]) : decode c pc = .ok (.athrow, 1) := by
  have h1 := dc_u1 h
  refine dc_end ?_
  show (do let x ← (Reader.u1 : Decoder Nat) c pc; _) = _
  rw [h1.1]
  rfl
theorem od_192 {c : ByteArray} {pc a b n : Nat} (h : dc_at c pc [192, a, b]) (hn : a * 256 + b = n) : decode c pc = .ok (.checkcast n, 3) := by
  subst hn
  have h1 := dc_u1 h
  refine dc_end ?_
  show (do let x ← (Reader.u1 : Decoder Nat) c pc; _) = _
  rw [h1.1]
  show (do let x ← (Reader.u2 : Decoder Nat) c (pc + 1); _) = _
  rw [dc_u2 h1.2]; rfl
theorem od_198 {c : ByteArray} {pc a b : Nat} {k : Int} (h : dc_at c pc [198, a, b]) (hk : Reader.signed 16 (a * 256 + b) = k) : decode c pc = .ok (.ifnull k, 3) := by
  subst hk
  have h1 := dc_u1 h
  refine dc_end ?_
  show (do let x ← (Reader.u1 : Decoder Nat) c pc; _) = _
  rw [h1.1]
  show (do let x ← (Reader.s2 : Decoder Int) c (pc + 1); _) = _
  rw [dc_s2 h1.2]; rfl
theorem od_199 {c : ByteArray} {pc a b : Nat} {k : Int} (h : dc_at c pc [199, a, b]) (hk : Reader.signed 16 (a * 256 + b) = k) : decode c pc = .ok (.ifnonnull k, 3) := by
  subst hk
  have h1 := dc_u1 h
  refine dc_end ?_
  show (do let x ← (Reader.u1 : Decoder Nat) c pc; _) = _
  rw [h1.1]
  show (do let x ← (Reader.s2 : Decoder Int) c (pc + 1); _) = _
  rw [dc_s2 h1.2]; rfl
theorem od_188_4 {c : ByteArray} {pc : Nat} (h : dc_at c pc [188, 4]) : decode c pc = .ok (.newarray .boolean, 2) := by
  have h1 := dc_u1 h
  refine dc_end ?_
  show (do let x ← (Reader.u1 : Decoder Nat) c pc; _) = _
  rw [h1.1]
  show (do let x ← (Reader.u1 : Decoder Nat) c (pc + 1); _) = _
  rw [(dc_u1 h1.2).1]; rfl
theorem od_188_5 {c : ByteArray} {pc : Nat} (h : dc_at c pc [188, 5]) : decode c pc = .ok (.newarray .char, 2) := by
  have h1 := dc_u1 h
  refine dc_end ?_
  show (do let x ← (Reader.u1 : Decoder Nat) c pc; _) = _
  rw [h1.1]
  show (do let x ← (Reader.u1 : Decoder Nat) c (pc + 1); _) = _
  rw [(dc_u1 h1.2).1]; rfl
theorem od_188_10 {c : ByteArray} {pc : Nat} (h : dc_at c pc [188, 10]) : decode c pc = .ok (.newarray .int, 2) := by
  have h1 := dc_u1 h
  refine dc_end ?_
  show (do let x ← (Reader.u1 : Decoder Nat) c pc; _) = _
  rw [h1.1]
  show (do let x ← (Reader.u1 : Decoder Nat) c (pc + 1); _) = _
  rw [(dc_u1 h1.2).1]; rfl
theorem od_188_11 {c : ByteArray} {pc : Nat} (h : dc_at c pc [188, 11]) : decode c pc = .ok (.newarray .long, 2) := by
  have h1 := dc_u1 h
  refine dc_end ?_
  show (do let x ← (Reader.u1 : Decoder Nat) c pc; _) = _
  rw [h1.1]
  show (do let x ← (Reader.u1 : Decoder Nat) c (pc + 1); _) = _
  rw [(dc_u1 h1.2).1]; rfl
