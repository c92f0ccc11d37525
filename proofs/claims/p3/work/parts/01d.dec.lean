def ckL : List UInt8 → List UInt8 → Bool
  | [], _ => true
  | _ :: _, [] => false
  | b :: bs, x :: xs => (b.toNat == x.toNat) && ckL bs xs
def ckB (c : ByteArray) (p : Nat) (bs : List UInt8) : Bool := ckL bs (c.data.toList.drop p)
theorem ck_cons {L : List UInt8} {p : Nat} {b : UInt8} {bs : List UInt8} (h : ckL (b :: bs) (L.drop p) = true) : L[p]? = some b ∧ ckL bs (L.drop (p + 1)) = true := by
  have e1 : (L.drop p).head? = L[p]? := List.head?_drop
  have e2 : (L.drop p).tail = L.drop (p + 1) := List.tail_drop
  cases hd : L.drop p with
  | nil =>
    rw [hd] at h
    exact absurd h (by simp [ckL])
  | cons x xs =>
    rw [hd] at h e1 e2
    simp only [ckL, Bool.and_eq_true, beq_iff_eq] at h
    have hb : b = x := UInt8.toNat_inj.mp h.1
    refine ⟨?_, ?_⟩
    · rw [← e1, hb]; rfl
    · rw [← e2]; exact h.2
theorem u1_at {c : ByteArray} {p : Nat} {b : UInt8} (h : c.data.toList[p]? = some b) : (Reader.u1 : Decoder Nat) c p = .ok (b.toNat, p + 1) := by
  obtain ⟨h1, h2⟩ := List.getElem?_eq_some_iff.mp h
  have h3 : p < c.size := h1
  have h4 : c[p]'h3 = b := h2
  have h5 := dif_pos (c := p < c.size) (h := Nat.decLt p c.size) (t := fun h => ((do set (p + 1); pure (c[p]'h).toNat) : Decoder Nat)) (e := fun _ => throw (HasTruncated.truncated p)) h3
  have h6 : (Reader.u1 : Decoder Nat) c p = ((do set (p + 1); pure (c[p]'h3).toNat) : Decoder Nat) c p := congrFun (congrFun h5 c) p
  rw [h6, h4]; rfl
theorem u1_bd {α : Type} {c : ByteArray} {p : Nat} {b : UInt8} (h : c.data.toList[p]? = some b) (f : Nat → Decoder α) : (Reader.u1 >>= f) c p = f b.toNat c (p + 1) := by
  have e : (Reader.u1 >>= f) c p = Except.bind ((Reader.u1 : Decoder Nat) c p) (fun q => f q.1 c q.2) := rfl
  rw [e, u1_at h]; rfl
theorem u2_at {c : ByteArray} {p : Nat} {a b : UInt8} (h1 : c.data.toList[p]? = some a) (h2 : c.data.toList[p + 1]? = some b) : (Reader.u2 : Decoder Nat) c p = .ok (a.toNat * 256 + b.toNat, p + 2) := (u1_bd h1 _).trans ((u1_bd h2 _).trans rfl)
theorem u2_bd {α : Type} {c : ByteArray} {p : Nat} {a b : UInt8} (h1 : c.data.toList[p]? = some a) (h2 : c.data.toList[p + 1]? = some b) (f : Nat → Decoder α) : (Reader.u2 >>= f) c p = f (a.toNat * 256 + b.toNat) c (p + 2) := by
  have e : (Reader.u2 >>= f) c p = Except.bind ((Reader.u2 : Decoder Nat) c p) (fun q => f q.1 c q.2) := rfl
  rw [e, u2_at h1 h2]; rfl
theorem s2_bd {α : Type} {c : ByteArray} {p : Nat} {a b : UInt8} (h1 : c.data.toList[p]? = some a) (h2 : c.data.toList[p + 1]? = some b) (f : Int → Decoder α) : (Reader.s2 >>= f) c p = f (Reader.signed 16 (a.toNat * 256 + b.toNat)) c (p + 2) := by
  have e : (Reader.s2 >>= f) c p = Except.bind ((Reader.u2 : Decoder Nat) c p) (fun q => f (Reader.signed 16 q.1) c q.2) := by
    show Except.bind (Except.bind ((Reader.u2 : Decoder Nat) c p) (fun q => .ok (Reader.signed 16 q.1, q.2))) (fun q => f q.1 c q.2) = _
    cases (Reader.u2 : Decoder Nat) c p <;> rfl
  rw [e, u2_at h1 h2]; rfl
theorem s1_bd {α : Type} {c : ByteArray} {p : Nat} {a : UInt8} (h1 : c.data.toList[p]? = some a) (f : Int → Decoder α) : (Reader.s1 >>= f) c p = f (Reader.signed 8 a.toNat) c (p + 1) := by
  have e : (Reader.s1 >>= f) c p = Except.bind ((Reader.u1 : Decoder Nat) c p) (fun q => f (Reader.signed 8 q.1) c q.2) := by
    show Except.bind (Except.bind ((Reader.u1 : Decoder Nat) c p) (fun q => .ok (Reader.signed 8 q.1, q.2))) (fun q => f q.1 c q.2) = _
    cases (Reader.u1 : Decoder Nat) c p <;> rfl
  rw [e, u1_at h1]; rfl
theorem dec_of {c : ByteArray} {pc n : Nat} {i : Instr} (h : Decoder.instr pc c pc = .ok (i, pc + n)) : decode c pc = .ok (i, n) := by
  have e : decode c pc = Except.bind (Decoder.instr pc c pc) (fun q => .ok (q.1, q.2 - pc)) := rfl
  rw [e, h]
  show Except.ok (i, pc + n - pc) = _
  rw [Nat.add_sub_cancel_left]
theorem ck1 {c : ByteArray} {pc : Nat} {x : UInt8} (h : ckB c pc [x] = true) : c.data.toList[pc]? = some x := (ck_cons h).1
theorem ck2 {c : ByteArray} {pc : Nat} {x a : UInt8} (h : ckB c pc [x, a] = true) : c.data.toList[pc]? = some x ∧ c.data.toList[pc + 1]? = some a := ⟨(ck_cons h).1, (ck_cons (ck_cons h).2).1⟩
theorem ck3 {c : ByteArray} {pc : Nat} {x a b : UInt8} (h : ckB c pc [x, a, b] = true) : c.data.toList[pc]? = some x ∧ c.data.toList[pc + 1]? = some a ∧ c.data.toList[pc + 1 + 1]? = some b := ⟨(ck_cons h).1, (ck_cons (ck_cons h).2).1, (ck_cons (ck_cons (ck_cons h).2).2).1⟩
set_option maxRecDepth 20000 in
theorem kd_2 {c : ByteArray} {pc : Nat} (h : ckB c pc [2] = true) : decode c pc = .ok (.iconst (-1), 1) := dec_of ((u1_bd (ck1 h) _).trans rfl)
set_option maxRecDepth 20000 in
theorem kd_3 {c : ByteArray} {pc : Nat} (h : ckB c pc [3] = true) : decode c pc = .ok (.iconst 0, 1) := dec_of ((u1_bd (ck1 h) _).trans rfl)
set_option maxRecDepth 20000 in
theorem kd_4 {c : ByteArray} {pc : Nat} (h : ckB c pc [4] = true) : decode c pc = .ok (.iconst 1, 1) := dec_of ((u1_bd (ck1 h) _).trans rfl)
set_option maxRecDepth 20000 in
theorem kd_5 {c : ByteArray} {pc : Nat} (h : ckB c pc [5] = true) : decode c pc = .ok (.iconst 2, 1) := dec_of ((u1_bd (ck1 h) _).trans rfl)
set_option maxRecDepth 20000 in
theorem kd_6 {c : ByteArray} {pc : Nat} (h : ckB c pc [6] = true) : decode c pc = .ok (.iconst 3, 1) := dec_of ((u1_bd (ck1 h) _).trans rfl)
set_option maxRecDepth 20000 in
theorem kd_7 {c : ByteArray} {pc : Nat} (h : ckB c pc [7] = true) : decode c pc = .ok (.iconst 4, 1) := dec_of ((u1_bd (ck1 h) _).trans rfl)
set_option maxRecDepth 20000 in
theorem kd_8 {c : ByteArray} {pc : Nat} (h : ckB c pc [8] = true) : decode c pc = .ok (.iconst 5, 1) := dec_of ((u1_bd (ck1 h) _).trans rfl)
set_option maxRecDepth 20000 in
theorem kd_9 {c : ByteArray} {pc : Nat} (h : ckB c pc [9] = true) : decode c pc = .ok (.lconst 0, 1) := dec_of ((u1_bd (ck1 h) _).trans rfl)
set_option maxRecDepth 20000 in
theorem kd_10 {c : ByteArray} {pc : Nat} (h : ckB c pc [10] = true) : decode c pc = .ok (.lconst 1, 1) := dec_of ((u1_bd (ck1 h) _).trans rfl)
set_option maxRecDepth 20000 in
theorem kd_16 {c : ByteArray} {pc : Nat} {a : UInt8} {o : Int} (h : (ckB c pc [16, a] && decide (Reader.signed 8 a.toNat = o)) = true) : decode c pc = .ok (.bipush o, 2) := by
  simp only [Bool.and_eq_true, decide_eq_true_eq] at h
  obtain ⟨h, rfl⟩ := h
  obtain ⟨h0, h1⟩ := ck2 h
  exact dec_of ((u1_bd h0 _).trans ((s1_bd h1 _).trans rfl))
set_option maxRecDepth 20000 in
theorem kd_17 {c : ByteArray} {pc : Nat} {a b : UInt8} {o : Int} (h : (ckB c pc [17, a, b] && decide (Reader.signed 16 (a.toNat * 256 + b.toNat) = o)) = true) : decode c pc = .ok (.sipush o, 3) := by
  simp only [Bool.and_eq_true, decide_eq_true_eq] at h
  obtain ⟨h, rfl⟩ := h
  obtain ⟨h0, h1, h2⟩ := ck3 h
  exact dec_of ((u1_bd h0 _).trans ((s2_bd h1 h2 _).trans rfl))
set_option maxRecDepth 20000 in
theorem kd_18 {c : ByteArray} {pc : Nat} {a : UInt8} {o : Nat} (h : (ckB c pc [18, a] && decide (a.toNat = o)) = true) : decode c pc = .ok (.ldc o, 2) := by
  simp only [Bool.and_eq_true, decide_eq_true_eq] at h
  obtain ⟨h, rfl⟩ := h
  obtain ⟨h0, h1⟩ := ck2 h
  exact dec_of ((u1_bd h0 _).trans ((u1_bd h1 _).trans rfl))
set_option maxRecDepth 20000 in
theorem kd_19 {c : ByteArray} {pc : Nat} {a b : UInt8} {o : Nat} (h : (ckB c pc [19, a, b] && decide (a.toNat * 256 + b.toNat = o)) = true) : decode c pc = .ok (.ldc_w o, 3) := by
  simp only [Bool.and_eq_true, decide_eq_true_eq] at h
  obtain ⟨h, rfl⟩ := h
  obtain ⟨h0, h1, h2⟩ := ck3 h
  exact dec_of ((u1_bd h0 _).trans ((u2_bd h1 h2 _).trans rfl))
set_option maxRecDepth 20000 in
theorem kd_20 {c : ByteArray} {pc : Nat} {a b : UInt8} {o : Nat} (h : (ckB c pc [20, a, b] && decide (a.toNat * 256 + b.toNat = o)) = true) : decode c pc = .ok (.ldc2_w o, 3) := by
  simp only [Bool.and_eq_true, decide_eq_true_eq] at h
  obtain ⟨h, rfl⟩ := h
  obtain ⟨h0, h1, h2⟩ := ck3 h
  exact dec_of ((u1_bd h0 _).trans ((u2_bd h1 h2 _).trans rfl))
set_option maxRecDepth 20000 in
theorem kd_21 {c : ByteArray} {pc : Nat} {a : UInt8} {o : Nat} (h : (ckB c pc [21, a] && decide (a.toNat = o)) = true) : decode c pc = .ok (.iload o, 2) := by
  simp only [Bool.and_eq_true, decide_eq_true_eq] at h
  obtain ⟨h, rfl⟩ := h
  obtain ⟨h0, h1⟩ := ck2 h
  exact dec_of ((u1_bd h0 _).trans ((u1_bd h1 _).trans rfl))
set_option maxRecDepth 20000 in
theorem kd_22 {c : ByteArray} {pc : Nat} {a : UInt8} {o : Nat} (h : (ckB c pc [22, a] && decide (a.toNat = o)) = true) : decode c pc = .ok (.lload o, 2) := by
  simp only [Bool.and_eq_true, decide_eq_true_eq] at h
  obtain ⟨h, rfl⟩ := h
  obtain ⟨h0, h1⟩ := ck2 h
  exact dec_of ((u1_bd h0 _).trans ((u1_bd h1 _).trans rfl))
set_option maxRecDepth 20000 in
theorem kd_26 {c : ByteArray} {pc : Nat} (h : ckB c pc [26] = true) : decode c pc = .ok (.iload_n 0, 1) := dec_of ((u1_bd (ck1 h) _).trans rfl)
set_option maxRecDepth 20000 in
theorem kd_27 {c : ByteArray} {pc : Nat} (h : ckB c pc [27] = true) : decode c pc = .ok (.iload_n 1, 1) := dec_of ((u1_bd (ck1 h) _).trans rfl)
set_option maxRecDepth 20000 in
theorem kd_28 {c : ByteArray} {pc : Nat} (h : ckB c pc [28] = true) : decode c pc = .ok (.iload_n 2, 1) := dec_of ((u1_bd (ck1 h) _).trans rfl)
set_option maxRecDepth 20000 in
theorem kd_29 {c : ByteArray} {pc : Nat} (h : ckB c pc [29] = true) : decode c pc = .ok (.iload_n 3, 1) := dec_of ((u1_bd (ck1 h) _).trans rfl)
set_option maxRecDepth 20000 in
theorem kd_30 {c : ByteArray} {pc : Nat} (h : ckB c pc [30] = true) : decode c pc = .ok (.lload_n 0, 1) := dec_of ((u1_bd (ck1 h) _).trans rfl)
set_option maxRecDepth 20000 in
theorem kd_31 {c : ByteArray} {pc : Nat} (h : ckB c pc [31] = true) : decode c pc = .ok (.lload_n 1, 1) := dec_of ((u1_bd (ck1 h) _).trans rfl)
set_option maxRecDepth 20000 in
theorem kd_32 {c : ByteArray} {pc : Nat} (h : ckB c pc [32] = true) : decode c pc = .ok (.lload_n 2, 1) := dec_of ((u1_bd (ck1 h) _).trans rfl)
set_option maxRecDepth 20000 in
theorem kd_33 {c : ByteArray} {pc : Nat} (h : ckB c pc [33] = true) : decode c pc = .ok (.lload_n 3, 1) := dec_of ((u1_bd (ck1 h) _).trans rfl)
set_option maxRecDepth 20000 in
theorem kd_42 {c : ByteArray} {pc : Nat} (h : ckB c pc [42] = true) : decode c pc = .ok (.aload_n 0, 1) := dec_of ((u1_bd (ck1 h) _).trans rfl)
set_option maxRecDepth 20000 in
theorem kd_43 {c : ByteArray} {pc : Nat} (h : ckB c pc [43] = true) : decode c pc = .ok (.aload_n 1, 1) := dec_of ((u1_bd (ck1 h) _).trans rfl)
set_option maxRecDepth 20000 in
theorem kd_44 {c : ByteArray} {pc : Nat} (h : ckB c pc [44] = true) : decode c pc = .ok (.aload_n 2, 1) := dec_of ((u1_bd (ck1 h) _).trans rfl)
set_option maxRecDepth 20000 in
theorem kd_45 {c : ByteArray} {pc : Nat} (h : ckB c pc [45] = true) : decode c pc = .ok (.aload_n 3, 1) := dec_of ((u1_bd (ck1 h) _).trans rfl)
set_option maxRecDepth 20000 in
theorem kd_46 {c : ByteArray} {pc : Nat} (h : ckB c pc [46] = true) : decode c pc = .ok (.iaload, 1) := dec_of ((u1_bd (ck1 h) _).trans rfl)
set_option maxRecDepth 20000 in
theorem kd_50 {c : ByteArray} {pc : Nat} (h : ckB c pc [50] = true) : decode c pc = .ok (.aaload, 1) := dec_of ((u1_bd (ck1 h) _).trans rfl)
set_option maxRecDepth 20000 in
theorem kd_51 {c : ByteArray} {pc : Nat} (h : ckB c pc [51] = true) : decode c pc = .ok (.baload, 1) := dec_of ((u1_bd (ck1 h) _).trans rfl)
set_option maxRecDepth 20000 in
theorem kd_54 {c : ByteArray} {pc : Nat} {a : UInt8} {o : Nat} (h : (ckB c pc [54, a] && decide (a.toNat = o)) = true) : decode c pc = .ok (.istore o, 2) := by
  simp only [Bool.and_eq_true, decide_eq_true_eq] at h
  obtain ⟨h, rfl⟩ := h
  obtain ⟨h0, h1⟩ := ck2 h
  exact dec_of ((u1_bd h0 _).trans ((u1_bd h1 _).trans rfl))
set_option maxRecDepth 20000 in
theorem kd_55 {c : ByteArray} {pc : Nat} {a : UInt8} {o : Nat} (h : (ckB c pc [55, a] && decide (a.toNat = o)) = true) : decode c pc = .ok (.lstore o, 2) := by
  simp only [Bool.and_eq_true, decide_eq_true_eq] at h
  obtain ⟨h, rfl⟩ := h
  obtain ⟨h0, h1⟩ := ck2 h
  exact dec_of ((u1_bd h0 _).trans ((u1_bd h1 _).trans rfl))
set_option maxRecDepth 20000 in
theorem kd_60 {c : ByteArray} {pc : Nat} (h : ckB c pc [60] = true) : decode c pc = .ok (.istore_n 1, 1) := dec_of ((u1_bd (ck1 h) _).trans rfl)
set_option maxRecDepth 20000 in
theorem kd_61 {c : ByteArray} {pc : Nat} (h : ckB c pc [61] = true) : decode c pc = .ok (.istore_n 2, 1) := dec_of ((u1_bd (ck1 h) _).trans rfl)
set_option maxRecDepth 20000 in
theorem kd_62 {c : ByteArray} {pc : Nat} (h : ckB c pc [62] = true) : decode c pc = .ok (.istore_n 3, 1) := dec_of ((u1_bd (ck1 h) _).trans rfl)
set_option maxRecDepth 20000 in
theorem kd_64 {c : ByteArray} {pc : Nat} (h : ckB c pc [64] = true) : decode c pc = .ok (.lstore_n 1, 1) := dec_of ((u1_bd (ck1 h) _).trans rfl)
set_option maxRecDepth 20000 in
theorem kd_65 {c : ByteArray} {pc : Nat} (h : ckB c pc [65] = true) : decode c pc = .ok (.lstore_n 2, 1) := dec_of ((u1_bd (ck1 h) _).trans rfl)
set_option maxRecDepth 20000 in
theorem kd_66 {c : ByteArray} {pc : Nat} (h : ckB c pc [66] = true) : decode c pc = .ok (.lstore_n 3, 1) := dec_of ((u1_bd (ck1 h) _).trans rfl)
set_option maxRecDepth 20000 in
theorem kd_76 {c : ByteArray} {pc : Nat} (h : ckB c pc [76] = true) : decode c pc = .ok (.astore_n 1, 1) := dec_of ((u1_bd (ck1 h) _).trans rfl)
set_option maxRecDepth 20000 in
theorem kd_77 {c : ByteArray} {pc : Nat} (h : ckB c pc [77] = true) : decode c pc = .ok (.astore_n 2, 1) := dec_of ((u1_bd (ck1 h) _).trans rfl)
set_option maxRecDepth 20000 in
theorem kd_78 {c : ByteArray} {pc : Nat} (h : ckB c pc [78] = true) : decode c pc = .ok (.astore_n 3, 1) := dec_of ((u1_bd (ck1 h) _).trans rfl)
set_option maxRecDepth 20000 in
theorem kd_79 {c : ByteArray} {pc : Nat} (h : ckB c pc [79] = true) : decode c pc = .ok (.iastore, 1) := dec_of ((u1_bd (ck1 h) _).trans rfl)
set_option maxRecDepth 20000 in
theorem kd_83 {c : ByteArray} {pc : Nat} (h : ckB c pc [83] = true) : decode c pc = .ok (.aastore, 1) := dec_of ((u1_bd (ck1 h) _).trans rfl)
set_option maxRecDepth 20000 in
theorem kd_84 {c : ByteArray} {pc : Nat} (h : ckB c pc [84] = true) : decode c pc = .ok (.bastore, 1) := dec_of ((u1_bd (ck1 h) _).trans rfl)
set_option maxRecDepth 20000 in
theorem kd_87 {c : ByteArray} {pc : Nat} (h : ckB c pc [87] = true) : decode c pc = .ok (.pop, 1) := dec_of ((u1_bd (ck1 h) _).trans rfl)
set_option maxRecDepth 20000 in
theorem kd_88 {c : ByteArray} {pc : Nat} (h : ckB c pc [88] = true) : decode c pc = .ok (.pop2, 1) := dec_of ((u1_bd (ck1 h) _).trans rfl)
set_option maxRecDepth 20000 in
theorem kd_89 {c : ByteArray} {pc : Nat} (h : ckB c pc [89] = true) : decode c pc = .ok (.dup, 1) := dec_of ((u1_bd (ck1 h) _).trans rfl)
set_option maxRecDepth 20000 in
theorem kd_92 {c : ByteArray} {pc : Nat} (h : ckB c pc [92] = true) : decode c pc = .ok (.dup2, 1) := dec_of ((u1_bd (ck1 h) _).trans rfl)
set_option maxRecDepth 20000 in
theorem kd_96 {c : ByteArray} {pc : Nat} (h : ckB c pc [96] = true) : decode c pc = .ok (.iadd, 1) := dec_of ((u1_bd (ck1 h) _).trans rfl)
set_option maxRecDepth 20000 in
theorem kd_97 {c : ByteArray} {pc : Nat} (h : ckB c pc [97] = true) : decode c pc = .ok (.ladd, 1) := dec_of ((u1_bd (ck1 h) _).trans rfl)
set_option maxRecDepth 20000 in
theorem kd_100 {c : ByteArray} {pc : Nat} (h : ckB c pc [100] = true) : decode c pc = .ok (.isub, 1) := dec_of ((u1_bd (ck1 h) _).trans rfl)
set_option maxRecDepth 20000 in
theorem kd_104 {c : ByteArray} {pc : Nat} (h : ckB c pc [104] = true) : decode c pc = .ok (.imul, 1) := dec_of ((u1_bd (ck1 h) _).trans rfl)
set_option maxRecDepth 20000 in
theorem kd_105 {c : ByteArray} {pc : Nat} (h : ckB c pc [105] = true) : decode c pc = .ok (.lmul, 1) := dec_of ((u1_bd (ck1 h) _).trans rfl)
set_option maxRecDepth 20000 in
theorem kd_108 {c : ByteArray} {pc : Nat} (h : ckB c pc [108] = true) : decode c pc = .ok (.idiv, 1) := dec_of ((u1_bd (ck1 h) _).trans rfl)
set_option maxRecDepth 20000 in
theorem kd_109 {c : ByteArray} {pc : Nat} (h : ckB c pc [109] = true) : decode c pc = .ok (.ldiv, 1) := dec_of ((u1_bd (ck1 h) _).trans rfl)
set_option maxRecDepth 20000 in
theorem kd_112 {c : ByteArray} {pc : Nat} (h : ckB c pc [112] = true) : decode c pc = .ok (.irem, 1) := dec_of ((u1_bd (ck1 h) _).trans rfl)
set_option maxRecDepth 20000 in
theorem kd_113 {c : ByteArray} {pc : Nat} (h : ckB c pc [113] = true) : decode c pc = .ok (.lrem, 1) := dec_of ((u1_bd (ck1 h) _).trans rfl)
set_option maxRecDepth 20000 in
theorem kd_120 {c : ByteArray} {pc : Nat} (h : ckB c pc [120] = true) : decode c pc = .ok (.ishl, 1) := dec_of ((u1_bd (ck1 h) _).trans rfl)
set_option maxRecDepth 20000 in
theorem kd_122 {c : ByteArray} {pc : Nat} (h : ckB c pc [122] = true) : decode c pc = .ok (.ishr, 1) := dec_of ((u1_bd (ck1 h) _).trans rfl)
set_option maxRecDepth 20000 in
theorem kd_126 {c : ByteArray} {pc : Nat} (h : ckB c pc [126] = true) : decode c pc = .ok (.iand, 1) := dec_of ((u1_bd (ck1 h) _).trans rfl)
set_option maxRecDepth 20000 in
theorem kd_128 {c : ByteArray} {pc : Nat} (h : ckB c pc [128] = true) : decode c pc = .ok (.ior, 1) := dec_of ((u1_bd (ck1 h) _).trans rfl)
set_option maxRecDepth 20000 in
theorem kd_130 {c : ByteArray} {pc : Nat} (h : ckB c pc [130] = true) : decode c pc = .ok (.ixor, 1) := dec_of ((u1_bd (ck1 h) _).trans rfl)
set_option maxRecDepth 20000 in
theorem kd_132 {c : ByteArray} {pc : Nat} {a b : UInt8} {o : Nat} {d : Int} (h : (ckB c pc [132, a, b] && (decide (a.toNat = o) && decide (Reader.signed 8 b.toNat = d))) = true) : decode c pc = .ok (.iinc o d, 3) := by
  simp only [Bool.and_eq_true, decide_eq_true_eq] at h
  obtain ⟨h, rfl, rfl⟩ := h
  obtain ⟨h0, h1, h2⟩ := ck3 h
  exact dec_of ((u1_bd h0 _).trans ((u1_bd h1 _).trans ((s1_bd h2 _).trans rfl)))
set_option maxRecDepth 20000 in
theorem kd_133 {c : ByteArray} {pc : Nat} (h : ckB c pc [133] = true) : decode c pc = .ok (.i2l, 1) := dec_of ((u1_bd (ck1 h) _).trans rfl)
set_option maxRecDepth 20000 in
theorem kd_136 {c : ByteArray} {pc : Nat} (h : ckB c pc [136] = true) : decode c pc = .ok (.l2i, 1) := dec_of ((u1_bd (ck1 h) _).trans rfl)
set_option maxRecDepth 20000 in
theorem kd_146 {c : ByteArray} {pc : Nat} (h : ckB c pc [146] = true) : decode c pc = .ok (.i2c, 1) := dec_of ((u1_bd (ck1 h) _).trans rfl)
set_option maxRecDepth 20000 in
theorem kd_148 {c : ByteArray} {pc : Nat} (h : ckB c pc [148] = true) : decode c pc = .ok (.lcmp, 1) := dec_of ((u1_bd (ck1 h) _).trans rfl)
set_option maxRecDepth 20000 in
theorem kd_153 {c : ByteArray} {pc : Nat} {a b : UInt8} {o : Int} (h : (ckB c pc [153, a, b] && decide (Reader.signed 16 (a.toNat * 256 + b.toNat) = o)) = true) : decode c pc = .ok (.ifCond .eq o, 3) := by
  simp only [Bool.and_eq_true, decide_eq_true_eq] at h
  obtain ⟨h, rfl⟩ := h
  obtain ⟨h0, h1, h2⟩ := ck3 h
  exact dec_of ((u1_bd h0 _).trans ((s2_bd h1 h2 _).trans rfl))
set_option maxRecDepth 20000 in
theorem kd_154 {c : ByteArray} {pc : Nat} {a b : UInt8} {o : Int} (h : (ckB c pc [154, a, b] && decide (Reader.signed 16 (a.toNat * 256 + b.toNat) = o)) = true) : decode c pc = .ok (.ifCond .ne o, 3) := by
  simp only [Bool.and_eq_true, decide_eq_true_eq] at h
  obtain ⟨h, rfl⟩ := h
  obtain ⟨h0, h1, h2⟩ := ck3 h
  exact dec_of ((u1_bd h0 _).trans ((s2_bd h1 h2 _).trans rfl))
set_option maxRecDepth 20000 in
theorem kd_155 {c : ByteArray} {pc : Nat} {a b : UInt8} {o : Int} (h : (ckB c pc [155, a, b] && decide (Reader.signed 16 (a.toNat * 256 + b.toNat) = o)) = true) : decode c pc = .ok (.ifCond .lt o, 3) := by
  simp only [Bool.and_eq_true, decide_eq_true_eq] at h
  obtain ⟨h, rfl⟩ := h
  obtain ⟨h0, h1, h2⟩ := ck3 h
  exact dec_of ((u1_bd h0 _).trans ((s2_bd h1 h2 _).trans rfl))
set_option maxRecDepth 20000 in
theorem kd_156 {c : ByteArray} {pc : Nat} {a b : UInt8} {o : Int} (h : (ckB c pc [156, a, b] && decide (Reader.signed 16 (a.toNat * 256 + b.toNat) = o)) = true) : decode c pc = .ok (.ifCond .ge o, 3) := by
  simp only [Bool.and_eq_true, decide_eq_true_eq] at h
  obtain ⟨h, rfl⟩ := h
  obtain ⟨h0, h1, h2⟩ := ck3 h
  exact dec_of ((u1_bd h0 _).trans ((s2_bd h1 h2 _).trans rfl))
set_option maxRecDepth 20000 in
theorem kd_157 {c : ByteArray} {pc : Nat} {a b : UInt8} {o : Int} (h : (ckB c pc [157, a, b] && decide (Reader.signed 16 (a.toNat * 256 + b.toNat) = o)) = true) : decode c pc = .ok (.ifCond .gt o, 3) := by
  simp only [Bool.and_eq_true, decide_eq_true_eq] at h
  obtain ⟨h, rfl⟩ := h
  obtain ⟨h0, h1, h2⟩ := ck3 h
  exact dec_of ((u1_bd h0 _).trans ((s2_bd h1 h2 _).trans rfl))
set_option maxRecDepth 20000 in
theorem kd_158 {c : ByteArray} {pc : Nat} {a b : UInt8} {o : Int} (h : (ckB c pc [158, a, b] && decide (Reader.signed 16 (a.toNat * 256 + b.toNat) = o)) = true) : decode c pc = .ok (.ifCond .le o, 3) := by
  simp only [Bool.and_eq_true, decide_eq_true_eq] at h
  obtain ⟨h, rfl⟩ := h
  obtain ⟨h0, h1, h2⟩ := ck3 h
  exact dec_of ((u1_bd h0 _).trans ((s2_bd h1 h2 _).trans rfl))
set_option maxRecDepth 20000 in
theorem kd_159 {c : ByteArray} {pc : Nat} {a b : UInt8} {o : Int} (h : (ckB c pc [159, a, b] && decide (Reader.signed 16 (a.toNat * 256 + b.toNat) = o)) = true) : decode c pc = .ok (.if_icmp .eq o, 3) := by
  simp only [Bool.and_eq_true, decide_eq_true_eq] at h
  obtain ⟨h, rfl⟩ := h
  obtain ⟨h0, h1, h2⟩ := ck3 h
  exact dec_of ((u1_bd h0 _).trans ((s2_bd h1 h2 _).trans rfl))
set_option maxRecDepth 20000 in
theorem kd_160 {c : ByteArray} {pc : Nat} {a b : UInt8} {o : Int} (h : (ckB c pc [160, a, b] && decide (Reader.signed 16 (a.toNat * 256 + b.toNat) = o)) = true) : decode c pc = .ok (.if_icmp .ne o, 3) := by
  simp only [Bool.and_eq_true, decide_eq_true_eq] at h
  obtain ⟨h, rfl⟩ := h
  obtain ⟨h0, h1, h2⟩ := ck3 h
  exact dec_of ((u1_bd h0 _).trans ((s2_bd h1 h2 _).trans rfl))
set_option maxRecDepth 20000 in
theorem kd_161 {c : ByteArray} {pc : Nat} {a b : UInt8} {o : Int} (h : (ckB c pc [161, a, b] && decide (Reader.signed 16 (a.toNat * 256 + b.toNat) = o)) = true) : decode c pc = .ok (.if_icmp .lt o, 3) := by
  simp only [Bool.and_eq_true, decide_eq_true_eq] at h
  obtain ⟨h, rfl⟩ := h
  obtain ⟨h0, h1, h2⟩ := ck3 h
  exact dec_of ((u1_bd h0 _).trans ((s2_bd h1 h2 _).trans rfl))
set_option maxRecDepth 20000 in
theorem kd_162 {c : ByteArray} {pc : Nat} {a b : UInt8} {o : Int} (h : (ckB c pc [162, a, b] && decide (Reader.signed 16 (a.toNat * 256 + b.toNat) = o)) = true) : decode c pc = .ok (.if_icmp .ge o, 3) := by
  simp only [Bool.and_eq_true, decide_eq_true_eq] at h
  obtain ⟨h, rfl⟩ := h
  obtain ⟨h0, h1, h2⟩ := ck3 h
  exact dec_of ((u1_bd h0 _).trans ((s2_bd h1 h2 _).trans rfl))
set_option maxRecDepth 20000 in
theorem kd_163 {c : ByteArray} {pc : Nat} {a b : UInt8} {o : Int} (h : (ckB c pc [163, a, b] && decide (Reader.signed 16 (a.toNat * 256 + b.toNat) = o)) = true) : decode c pc = .ok (.if_icmp .gt o, 3) := by
  simp only [Bool.and_eq_true, decide_eq_true_eq] at h
  obtain ⟨h, rfl⟩ := h
  obtain ⟨h0, h1, h2⟩ := ck3 h
  exact dec_of ((u1_bd h0 _).trans ((s2_bd h1 h2 _).trans rfl))
set_option maxRecDepth 20000 in
theorem kd_164 {c : ByteArray} {pc : Nat} {a b : UInt8} {o : Int} (h : (ckB c pc [164, a, b] && decide (Reader.signed 16 (a.toNat * 256 + b.toNat) = o)) = true) : decode c pc = .ok (.if_icmp .le o, 3) := by
  simp only [Bool.and_eq_true, decide_eq_true_eq] at h
  obtain ⟨h, rfl⟩ := h
  obtain ⟨h0, h1, h2⟩ := ck3 h
  exact dec_of ((u1_bd h0 _).trans ((s2_bd h1 h2 _).trans rfl))
set_option maxRecDepth 20000 in
theorem kd_167 {c : ByteArray} {pc : Nat} {a b : UInt8} {o : Int} (h : (ckB c pc [167, a, b] && decide (Reader.signed 16 (a.toNat * 256 + b.toNat) = o)) = true) : decode c pc = .ok (.goto o, 3) := by
  simp only [Bool.and_eq_true, decide_eq_true_eq] at h
  obtain ⟨h, rfl⟩ := h
  obtain ⟨h0, h1, h2⟩ := ck3 h
  exact dec_of ((u1_bd h0 _).trans ((s2_bd h1 h2 _).trans rfl))
set_option maxRecDepth 20000 in
theorem kd_172 {c : ByteArray} {pc : Nat} (h : ckB c pc [172] = true) : decode c pc = .ok (.ireturn, 1) := dec_of ((u1_bd (ck1 h) _).trans rfl)
set_option maxRecDepth 20000 in
theorem kd_173 {c : ByteArray} {pc : Nat} (h : ckB c pc [173] = true) : decode c pc = .ok (.lreturn, 1) := dec_of ((u1_bd (ck1 h) _).trans rfl)
set_option maxRecDepth 20000 in
theorem kd_177 {c : ByteArray} {pc : Nat} (h : ckB c pc [177] = true) : decode c pc = .ok (.return_, 1) := dec_of ((u1_bd (ck1 h) _).trans rfl)
set_option maxRecDepth 20000 in
theorem kd_178 {c : ByteArray} {pc : Nat} {a b : UInt8} {o : Nat} (h : (ckB c pc [178, a, b] && decide (a.toNat * 256 + b.toNat = o)) = true) : decode c pc = .ok (.getstatic o, 3) := by
  simp only [Bool.and_eq_true, decide_eq_true_eq] at h
  obtain ⟨h, rfl⟩ := h
  obtain ⟨h0, h1, h2⟩ := ck3 h
  exact dec_of ((u1_bd h0 _).trans ((u2_bd h1 h2 _).trans rfl))
set_option maxRecDepth 20000 in
theorem kd_180 {c : ByteArray} {pc : Nat} {a b : UInt8} {o : Nat} (h : (ckB c pc [180, a, b] && decide (a.toNat * 256 + b.toNat = o)) = true) : decode c pc = .ok (.getfield o, 3) := by
  simp only [Bool.and_eq_true, decide_eq_true_eq] at h
  obtain ⟨h, rfl⟩ := h
  obtain ⟨h0, h1, h2⟩ := ck3 h
  exact dec_of ((u1_bd h0 _).trans ((u2_bd h1 h2 _).trans rfl))
set_option maxRecDepth 20000 in
theorem kd_181 {c : ByteArray} {pc : Nat} {a b : UInt8} {o : Nat} (h : (ckB c pc [181, a, b] && decide (a.toNat * 256 + b.toNat = o)) = true) : decode c pc = .ok (.putfield o, 3) := by
  simp only [Bool.and_eq_true, decide_eq_true_eq] at h
  obtain ⟨h, rfl⟩ := h
  obtain ⟨h0, h1, h2⟩ := ck3 h
  exact dec_of ((u1_bd h0 _).trans ((u2_bd h1 h2 _).trans rfl))
set_option maxRecDepth 20000 in
theorem kd_182 {c : ByteArray} {pc : Nat} {a b : UInt8} {o : Nat} (h : (ckB c pc [182, a, b] && decide (a.toNat * 256 + b.toNat = o)) = true) : decode c pc = .ok (.invokevirtual o, 3) := by
  simp only [Bool.and_eq_true, decide_eq_true_eq] at h
  obtain ⟨h, rfl⟩ := h
  obtain ⟨h0, h1, h2⟩ := ck3 h
  exact dec_of ((u1_bd h0 _).trans ((u2_bd h1 h2 _).trans rfl))
set_option maxRecDepth 20000 in
theorem kd_183 {c : ByteArray} {pc : Nat} {a b : UInt8} {o : Nat} (h : (ckB c pc [183, a, b] && decide (a.toNat * 256 + b.toNat = o)) = true) : decode c pc = .ok (.invokespecial o, 3) := by
  simp only [Bool.and_eq_true, decide_eq_true_eq] at h
  obtain ⟨h, rfl⟩ := h
  obtain ⟨h0, h1, h2⟩ := ck3 h
  exact dec_of ((u1_bd h0 _).trans ((u2_bd h1 h2 _).trans rfl))
set_option maxRecDepth 20000 in
theorem kd_184 {c : ByteArray} {pc : Nat} {a b : UInt8} {o : Nat} (h : (ckB c pc [184, a, b] && decide (a.toNat * 256 + b.toNat = o)) = true) : decode c pc = .ok (.invokestatic o, 3) := by
  simp only [Bool.and_eq_true, decide_eq_true_eq] at h
  obtain ⟨h, rfl⟩ := h
  obtain ⟨h0, h1, h2⟩ := ck3 h
  exact dec_of ((u1_bd h0 _).trans ((u2_bd h1 h2 _).trans rfl))
set_option maxRecDepth 20000 in
theorem kd_187 {c : ByteArray} {pc : Nat} {a b : UInt8} {o : Nat} (h : (ckB c pc [187, a, b] && decide (a.toNat * 256 + b.toNat = o)) = true) : decode c pc = .ok (.new o, 3) := by
  simp only [Bool.and_eq_true, decide_eq_true_eq] at h
  obtain ⟨h, rfl⟩ := h
  obtain ⟨h0, h1, h2⟩ := ck3 h
  exact dec_of ((u1_bd h0 _).trans ((u2_bd h1 h2 _).trans rfl))
set_option maxRecDepth 20000 in
theorem kd_189 {c : ByteArray} {pc : Nat} {a b : UInt8} {o : Nat} (h : (ckB c pc [189, a, b] && decide (a.toNat * 256 + b.toNat = o)) = true) : decode c pc = .ok (.anewarray o, 3) := by
  simp only [Bool.and_eq_true, decide_eq_true_eq] at h
  obtain ⟨h, rfl⟩ := h
  obtain ⟨h0, h1, h2⟩ := ck3 h
  exact dec_of ((u1_bd h0 _).trans ((u2_bd h1 h2 _).trans rfl))
set_option maxRecDepth 20000 in
theorem kd_190 {c : ByteArray} {pc : Nat} (h : ckB c pc [190] = true) : decode c pc = .ok (.arraylength, 1) := dec_of ((u1_bd (ck1 h) _).trans rfl)
