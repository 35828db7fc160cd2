/-! decode, a method at a time: the bytes walked once -/
section DZ
variable {c : ByteArray} {pc b a d : Nat} {r bs : List Nat}
abbrev dz_r : Type := Nat × Instr × Nat
def dz_bs (c : ByteArray) (pc : Nat) (bs : List Nat) : Prop := (c.data.toList.drop pc).map UInt8.toNat = bs
theorem dz_hd (h : dz_bs c pc (b :: r)) : (Jvm.ClassFile.Reader.u1 : Jvm.ClassFile.Decoder Nat) c pc = .ok (b, pc + 1) := by
  unfold dz_bs at h
  have hlt : pc < c.data.toList.length := by
    rcases Nat.lt_or_ge pc c.data.toList.length with q | q
    · exact q
    · rw [List.drop_eq_nil_of_le q] at h
      cases h
  rw [List.drop_eq_getElem_cons hlt, List.map_cons] at h
  injection h with h1 h2
  have hs : pc < c.size := hlt
  show (dite (pc < c.size) (fun h => (do set (pc + 1); pure (c[pc]'h).toNat : Jvm.ClassFile.Decoder Nat)) (fun _ => throw (Jvm.ClassFile.HasTruncated.truncated pc))) c pc = _
  rw [dif_pos hs, ← h1]
  rfl
theorem dz_tl (h : dz_bs c pc (b :: r)) : dz_bs c (pc + 1) r := by
  unfold dz_bs at h ⊢
  rw [← List.tail_drop, List.map_tail, h]
  rfl
theorem dz_dr (n : Nat) (h : dz_bs c pc bs) : dz_bs c (pc + n) (bs.drop n) := by
  unfold dz_bs at h ⊢
  rw [← h, ← List.drop_drop, List.map_drop]
theorem dz_u2 (h : dz_bs c pc (a :: b :: r)) : (Jvm.ClassFile.Reader.u2 : Jvm.ClassFile.Decoder Nat) c pc = .ok (a * 256 + b, pc + 2) := by
  show Except.bind ((Jvm.ClassFile.Reader.u1 : Jvm.ClassFile.Decoder Nat) c pc) _ = _
  rw [dz_hd h]
  show Except.bind ((Jvm.ClassFile.Reader.u1 : Jvm.ClassFile.Decoder Nat) c (pc + 1)) _ = _
  rw [dz_hd (dz_tl h)]
  rfl
theorem dz_s1 (h : dz_bs c pc (a :: r)) : (Jvm.ClassFile.Reader.s1 : Jvm.ClassFile.Decoder Int) c pc = .ok (Jvm.ClassFile.Reader.signed 8 a, pc + 1) := by
  show Except.bind ((Jvm.ClassFile.Reader.u1 : Jvm.ClassFile.Decoder Nat) c pc) _ = _
  rw [dz_hd h]
  rfl
theorem dz_s2 (h : dz_bs c pc (a :: b :: r)) : (Jvm.ClassFile.Reader.s2 : Jvm.ClassFile.Decoder Int) c pc = .ok (Jvm.ClassFile.Reader.signed 16 (a * 256 + b), pc + 2) := by
  show Except.bind ((Jvm.ClassFile.Reader.u2 : Jvm.ClassFile.Decoder Nat) c pc) _ = _
  rw [dz_u2 h]
  rfl
theorem dz_de {i : Instr} {n : Nat} (h : Jvm.ClassFile.Decoder.instr pc c pc = .ok (i, pc + n)) : decode c pc = .ok (i, n) := by
  show Except.bind (Jvm.ClassFile.Decoder.instr pc c pc) _ = _
  rw [h]
  show Except.ok (i, pc + n - pc) = _
  rw [Nat.add_sub_cancel_left]
def dz_0 (op n : Nat) : List Nat → Bool
  | b :: _ => Nat.beq b op && Nat.beq n 1
  | _ => false
def dz_1 (op i n : Nat) : List Nat → Bool
  | b :: a :: _ => Nat.beq b op && (Nat.beq a i && Nat.beq n 2)
  | _ => false
def dz_2 (op i n : Nat) : List Nat → Bool
  | b :: a :: d :: _ => Nat.beq b op && (Nat.beq (a * 256 + d) i && Nat.beq n 3)
  | _ => false
def dz_q1 (op : Nat) (v : Int) (n : Nat) : List Nat → Bool
  | b :: a :: _ => Nat.beq b op && (decide (Jvm.ClassFile.Reader.signed 8 a = v) && Nat.beq n 2)
  | _ => false
def dz_q2 (op : Nat) (v : Int) (n : Nat) : List Nat → Bool
  | b :: a :: d :: _ => Nat.beq b op && (decide (Jvm.ClassFile.Reader.signed 16 (a * 256 + d) = v) && Nat.beq n 3)
  | _ => false
def dz_ii (i : Nat) (v : Int) (n : Nat) : List Nat → Bool
  | b :: a :: d :: _ => Nat.beq b 132 && (Nat.beq a i && (decide (Jvm.ClassFile.Reader.signed 8 d = v) && Nat.beq n 3))
  | _ => false
theorem dz_an {x y : Bool} (h : (x && y) = true) : x = true ∧ y = true := by cases x <;> cases y <;> first | exact ⟨rfl, rfl⟩ | cases h
theorem dz_0i {op n : Nat} (h : dz_0 op n bs = true) : ∃ r, bs = op :: r ∧ n = 1 := by
  unfold dz_0 at h
  split at h
  · next b r =>
    have q := dz_an h
    exact ⟨r, by rw [Nat.eq_of_beq_eq_true q.1], Nat.eq_of_beq_eq_true q.2⟩
  · cases h
theorem dz_1i {op i n : Nat} (h : dz_1 op i n bs = true) : ∃ r, bs = op :: i :: r ∧ n = 2 := by
  unfold dz_1 at h
  split at h
  · next b a r =>
    have q := dz_an h
    have q2 := dz_an q.2
    exact ⟨r, by rw [Nat.eq_of_beq_eq_true q.1, Nat.eq_of_beq_eq_true q2.1], Nat.eq_of_beq_eq_true q2.2⟩
  · cases h
theorem dz_2i {op i n : Nat} (h : dz_2 op i n bs = true) : ∃ a d r, bs = op :: a :: d :: r ∧ i = a * 256 + d ∧ n = 3 := by
  unfold dz_2 at h
  split at h
  · next b a d r =>
    have q := dz_an h
    have q2 := dz_an q.2
    exact ⟨a, d, r, by rw [Nat.eq_of_beq_eq_true q.1], (Nat.eq_of_beq_eq_true q2.1).symm, Nat.eq_of_beq_eq_true q2.2⟩
  · cases h
theorem dz_q1i {op n : Nat} {v : Int} (h : dz_q1 op v n bs = true) : ∃ a r, bs = op :: a :: r ∧ v = Jvm.ClassFile.Reader.signed 8 a ∧ n = 2 := by
  unfold dz_q1 at h
  split at h
  · next b a r =>
    have q := dz_an h
    have q2 := dz_an q.2
    exact ⟨a, r, by rw [Nat.eq_of_beq_eq_true q.1], (of_decide_eq_true q2.1).symm, Nat.eq_of_beq_eq_true q2.2⟩
  · cases h
theorem dz_q2i {op n : Nat} {v : Int} (h : dz_q2 op v n bs = true) : ∃ a d r, bs = op :: a :: d :: r ∧ v = Jvm.ClassFile.Reader.signed 16 (a * 256 + d) ∧ n = 3 := by
  unfold dz_q2 at h
  split at h
  · next b a d r =>
    have q := dz_an h
    have q2 := dz_an q.2
    exact ⟨a, d, r, by rw [Nat.eq_of_beq_eq_true q.1], (of_decide_eq_true q2.1).symm, Nat.eq_of_beq_eq_true q2.2⟩
  · cases h
theorem dz_iii {i n : Nat} {v : Int} (h : dz_ii i v n bs = true) : ∃ d r, bs = 132 :: i :: d :: r ∧ v = Jvm.ClassFile.Reader.signed 8 d ∧ n = 3 := by
  unfold dz_ii at h
  split at h
  · next b a d r =>
    have q := dz_an h
    have q2 := dz_an q.2
    have q3 := dz_an q2.2
    exact ⟨d, r, by rw [Nat.eq_of_beq_eq_true q.1, Nat.eq_of_beq_eq_true q2.1], (of_decide_eq_true q3.1).symm, Nat.eq_of_beq_eq_true q3.2⟩
  · cases h
theorem dq_iaload (h : dz_bs c pc (46 :: r)) : decode c pc = .ok (.iaload, 1) := dz_de (by
  show Except.bind ((Jvm.ClassFile.Reader.u1 : Jvm.ClassFile.Decoder Nat) c pc) _ = _
  rw [dz_hd h]
  rfl)
theorem dq_laload (h : dz_bs c pc (47 :: r)) : decode c pc = .ok (.laload, 1) := dz_de (by
  show Except.bind ((Jvm.ClassFile.Reader.u1 : Jvm.ClassFile.Decoder Nat) c pc) _ = _
  rw [dz_hd h]
  rfl)
theorem dq_aaload (h : dz_bs c pc (50 :: r)) : decode c pc = .ok (.aaload, 1) := dz_de (by
  show Except.bind ((Jvm.ClassFile.Reader.u1 : Jvm.ClassFile.Decoder Nat) c pc) _ = _
  rw [dz_hd h]
  rfl)
theorem dq_baload (h : dz_bs c pc (51 :: r)) : decode c pc = .ok (.baload, 1) := dz_de (by
  show Except.bind ((Jvm.ClassFile.Reader.u1 : Jvm.ClassFile.Decoder Nat) c pc) _ = _
  rw [dz_hd h]
  rfl)
theorem dq_iastore (h : dz_bs c pc (79 :: r)) : decode c pc = .ok (.iastore, 1) := dz_de (by
  show Except.bind ((Jvm.ClassFile.Reader.u1 : Jvm.ClassFile.Decoder Nat) c pc) _ = _
  rw [dz_hd h]
  rfl)
theorem dq_lastore (h : dz_bs c pc (80 :: r)) : decode c pc = .ok (.lastore, 1) := dz_de (by
  show Except.bind ((Jvm.ClassFile.Reader.u1 : Jvm.ClassFile.Decoder Nat) c pc) _ = _
  rw [dz_hd h]
  rfl)
theorem dq_aastore (h : dz_bs c pc (83 :: r)) : decode c pc = .ok (.aastore, 1) := dz_de (by
  show Except.bind ((Jvm.ClassFile.Reader.u1 : Jvm.ClassFile.Decoder Nat) c pc) _ = _
  rw [dz_hd h]
  rfl)
theorem dq_bastore (h : dz_bs c pc (84 :: r)) : decode c pc = .ok (.bastore, 1) := dz_de (by
  show Except.bind ((Jvm.ClassFile.Reader.u1 : Jvm.ClassFile.Decoder Nat) c pc) _ = _
  rw [dz_hd h]
  rfl)
theorem dq_pop (h : dz_bs c pc (87 :: r)) : decode c pc = .ok (.pop, 1) := dz_de (by
  show Except.bind ((Jvm.ClassFile.Reader.u1 : Jvm.ClassFile.Decoder Nat) c pc) _ = _
  rw [dz_hd h]
  rfl)
theorem dq_pop2 (h : dz_bs c pc (88 :: r)) : decode c pc = .ok (.pop2, 1) := dz_de (by
  show Except.bind ((Jvm.ClassFile.Reader.u1 : Jvm.ClassFile.Decoder Nat) c pc) _ = _
  rw [dz_hd h]
  rfl)
theorem dq_dup (h : dz_bs c pc (89 :: r)) : decode c pc = .ok (.dup, 1) := dz_de (by
  show Except.bind ((Jvm.ClassFile.Reader.u1 : Jvm.ClassFile.Decoder Nat) c pc) _ = _
  rw [dz_hd h]
  rfl)
theorem dq_dup2 (h : dz_bs c pc (92 :: r)) : decode c pc = .ok (.dup2, 1) := dz_de (by
  show Except.bind ((Jvm.ClassFile.Reader.u1 : Jvm.ClassFile.Decoder Nat) c pc) _ = _
  rw [dz_hd h]
  rfl)
theorem dq_iadd (h : dz_bs c pc (96 :: r)) : decode c pc = .ok (.iadd, 1) := dz_de (by
  show Except.bind ((Jvm.ClassFile.Reader.u1 : Jvm.ClassFile.Decoder Nat) c pc) _ = _
  rw [dz_hd h]
  rfl)
theorem dq_ladd (h : dz_bs c pc (97 :: r)) : decode c pc = .ok (.ladd, 1) := dz_de (by
  show Except.bind ((Jvm.ClassFile.Reader.u1 : Jvm.ClassFile.Decoder Nat) c pc) _ = _
  rw [dz_hd h]
  rfl)
theorem dq_isub (h : dz_bs c pc (100 :: r)) : decode c pc = .ok (.isub, 1) := dz_de (by
  show Except.bind ((Jvm.ClassFile.Reader.u1 : Jvm.ClassFile.Decoder Nat) c pc) _ = _
  rw [dz_hd h]
  rfl)
theorem dq_lsub (h : dz_bs c pc (101 :: r)) : decode c pc = .ok (.lsub, 1) := dz_de (by
  show Except.bind ((Jvm.ClassFile.Reader.u1 : Jvm.ClassFile.Decoder Nat) c pc) _ = _
  rw [dz_hd h]
  rfl)
theorem dq_imul (h : dz_bs c pc (104 :: r)) : decode c pc = .ok (.imul, 1) := dz_de (by
  show Except.bind ((Jvm.ClassFile.Reader.u1 : Jvm.ClassFile.Decoder Nat) c pc) _ = _
  rw [dz_hd h]
  rfl)
theorem dq_lmul (h : dz_bs c pc (105 :: r)) : decode c pc = .ok (.lmul, 1) := dz_de (by
  show Except.bind ((Jvm.ClassFile.Reader.u1 : Jvm.ClassFile.Decoder Nat) c pc) _ = _
  rw [dz_hd h]
  rfl)
theorem dq_idiv (h : dz_bs c pc (108 :: r)) : decode c pc = .ok (.idiv, 1) := dz_de (by
  show Except.bind ((Jvm.ClassFile.Reader.u1 : Jvm.ClassFile.Decoder Nat) c pc) _ = _
  rw [dz_hd h]
  rfl)
theorem dq_ldiv (h : dz_bs c pc (109 :: r)) : decode c pc = .ok (.ldiv, 1) := dz_de (by
  show Except.bind ((Jvm.ClassFile.Reader.u1 : Jvm.ClassFile.Decoder Nat) c pc) _ = _
  rw [dz_hd h]
  rfl)
theorem dq_irem (h : dz_bs c pc (112 :: r)) : decode c pc = .ok (.irem, 1) := dz_de (by
  show Except.bind ((Jvm.ClassFile.Reader.u1 : Jvm.ClassFile.Decoder Nat) c pc) _ = _
  rw [dz_hd h]
  rfl)
theorem dq_lrem (h : dz_bs c pc (113 :: r)) : decode c pc = .ok (.lrem, 1) := dz_de (by
  show Except.bind ((Jvm.ClassFile.Reader.u1 : Jvm.ClassFile.Decoder Nat) c pc) _ = _
  rw [dz_hd h]
  rfl)
theorem dq_ineg (h : dz_bs c pc (116 :: r)) : decode c pc = .ok (.ineg, 1) := dz_de (by
  show Except.bind ((Jvm.ClassFile.Reader.u1 : Jvm.ClassFile.Decoder Nat) c pc) _ = _
  rw [dz_hd h]
  rfl)
theorem dq_lneg (h : dz_bs c pc (117 :: r)) : decode c pc = .ok (.lneg, 1) := dz_de (by
  show Except.bind ((Jvm.ClassFile.Reader.u1 : Jvm.ClassFile.Decoder Nat) c pc) _ = _
  rw [dz_hd h]
  rfl)
theorem dq_ishl (h : dz_bs c pc (120 :: r)) : decode c pc = .ok (.ishl, 1) := dz_de (by
  show Except.bind ((Jvm.ClassFile.Reader.u1 : Jvm.ClassFile.Decoder Nat) c pc) _ = _
  rw [dz_hd h]
  rfl)
theorem dq_lshl (h : dz_bs c pc (121 :: r)) : decode c pc = .ok (.lshl, 1) := dz_de (by
  show Except.bind ((Jvm.ClassFile.Reader.u1 : Jvm.ClassFile.Decoder Nat) c pc) _ = _
  rw [dz_hd h]
  rfl)
theorem dq_ishr (h : dz_bs c pc (122 :: r)) : decode c pc = .ok (.ishr, 1) := dz_de (by
  show Except.bind ((Jvm.ClassFile.Reader.u1 : Jvm.ClassFile.Decoder Nat) c pc) _ = _
  rw [dz_hd h]
  rfl)
theorem dq_lshr (h : dz_bs c pc (123 :: r)) : decode c pc = .ok (.lshr, 1) := dz_de (by
  show Except.bind ((Jvm.ClassFile.Reader.u1 : Jvm.ClassFile.Decoder Nat) c pc) _ = _
  rw [dz_hd h]
  rfl)
theorem dq_iushr (h : dz_bs c pc (124 :: r)) : decode c pc = .ok (.iushr, 1) := dz_de (by
  show Except.bind ((Jvm.ClassFile.Reader.u1 : Jvm.ClassFile.Decoder Nat) c pc) _ = _
  rw [dz_hd h]
  rfl)
theorem dq_lushr (h : dz_bs c pc (125 :: r)) : decode c pc = .ok (.lushr, 1) := dz_de (by
  show Except.bind ((Jvm.ClassFile.Reader.u1 : Jvm.ClassFile.Decoder Nat) c pc) _ = _
  rw [dz_hd h]
  rfl)
theorem dq_iand (h : dz_bs c pc (126 :: r)) : decode c pc = .ok (.iand, 1) := dz_de (by
  show Except.bind ((Jvm.ClassFile.Reader.u1 : Jvm.ClassFile.Decoder Nat) c pc) _ = _
  rw [dz_hd h]
  rfl)
theorem dq_land (h : dz_bs c pc (127 :: r)) : decode c pc = .ok (.land, 1) := dz_de (by
  show Except.bind ((Jvm.ClassFile.Reader.u1 : Jvm.ClassFile.Decoder Nat) c pc) _ = _
  rw [dz_hd h]
  rfl)
theorem dq_ior (h : dz_bs c pc (128 :: r)) : decode c pc = .ok (.ior, 1) := dz_de (by
  show Except.bind ((Jvm.ClassFile.Reader.u1 : Jvm.ClassFile.Decoder Nat) c pc) _ = _
  rw [dz_hd h]
  rfl)
theorem dq_lor (h : dz_bs c pc (129 :: r)) : decode c pc = .ok (.lor, 1) := dz_de (by
  show Except.bind ((Jvm.ClassFile.Reader.u1 : Jvm.ClassFile.Decoder Nat) c pc) _ = _
  rw [dz_hd h]
  rfl)
theorem dq_ixor (h : dz_bs c pc (130 :: r)) : decode c pc = .ok (.ixor, 1) := dz_de (by
  show Except.bind ((Jvm.ClassFile.Reader.u1 : Jvm.ClassFile.Decoder Nat) c pc) _ = _
  rw [dz_hd h]
  rfl)
theorem dq_lxor (h : dz_bs c pc (131 :: r)) : decode c pc = .ok (.lxor, 1) := dz_de (by
  show Except.bind ((Jvm.ClassFile.Reader.u1 : Jvm.ClassFile.Decoder Nat) c pc) _ = _
  rw [dz_hd h]
  rfl)
theorem dq_i2l (h : dz_bs c pc (133 :: r)) : decode c pc = .ok (.i2l, 1) := dz_de (by
  show Except.bind ((Jvm.ClassFile.Reader.u1 : Jvm.ClassFile.Decoder Nat) c pc) _ = _
  rw [dz_hd h]
  rfl)
theorem dq_l2i (h : dz_bs c pc (136 :: r)) : decode c pc = .ok (.l2i, 1) := dz_de (by
  show Except.bind ((Jvm.ClassFile.Reader.u1 : Jvm.ClassFile.Decoder Nat) c pc) _ = _
  rw [dz_hd h]
  rfl)
theorem dq_lcmp (h : dz_bs c pc (148 :: r)) : decode c pc = .ok (.lcmp, 1) := dz_de (by
  show Except.bind ((Jvm.ClassFile.Reader.u1 : Jvm.ClassFile.Decoder Nat) c pc) _ = _
  rw [dz_hd h]
  rfl)
theorem dq_ireturn (h : dz_bs c pc (172 :: r)) : decode c pc = .ok (.ireturn, 1) := dz_de (by
  show Except.bind ((Jvm.ClassFile.Reader.u1 : Jvm.ClassFile.Decoder Nat) c pc) _ = _
  rw [dz_hd h]
  rfl)
theorem dq_lreturn (h : dz_bs c pc (173 :: r)) : decode c pc = .ok (.lreturn, 1) := dz_de (by
  show Except.bind ((Jvm.ClassFile.Reader.u1 : Jvm.ClassFile.Decoder Nat) c pc) _ = _
  rw [dz_hd h]
  rfl)
theorem dq_areturn (h : dz_bs c pc (176 :: r)) : decode c pc = .ok (.areturn, 1) := dz_de (by
  show Except.bind ((Jvm.ClassFile.Reader.u1 : Jvm.ClassFile.Decoder Nat) c pc) _ = _
  rw [dz_hd h]
  rfl)
theorem dq_return_ (h : dz_bs c pc (177 :: r)) : decode c pc = .ok (.return_, 1) := dz_de (by
  show Except.bind ((Jvm.ClassFile.Reader.u1 : Jvm.ClassFile.Decoder Nat) c pc) _ = _
  rw [dz_hd h]
  rfl)
theorem dq_arraylength (h : dz_bs c pc (190 :: r)) : decode c pc = .ok (.arraylength, 1) := dz_de (by
  show Except.bind ((Jvm.ClassFile.Reader.u1 : Jvm.ClassFile.Decoder Nat) c pc) _ = _
  rw [dz_hd h]
  rfl)
theorem dq_aconst_null (h : dz_bs c pc (1 :: r)) : decode c pc = .ok (.aconst_null, 1) := dz_de (by
  show Except.bind ((Jvm.ClassFile.Reader.u1 : Jvm.ClassFile.Decoder Nat) c pc) _ = _
  rw [dz_hd h]
  rfl)
theorem dq_iload_n0 (h : dz_bs c pc (26 :: r)) : decode c pc = .ok (.iload_n 0, 1) := dz_de (by
  show Except.bind ((Jvm.ClassFile.Reader.u1 : Jvm.ClassFile.Decoder Nat) c pc) _ = _
  rw [dz_hd h]
  rfl)
theorem dq_iload_n1 (h : dz_bs c pc (27 :: r)) : decode c pc = .ok (.iload_n 1, 1) := dz_de (by
  show Except.bind ((Jvm.ClassFile.Reader.u1 : Jvm.ClassFile.Decoder Nat) c pc) _ = _
  rw [dz_hd h]
  rfl)
theorem dq_iload_n2 (h : dz_bs c pc (28 :: r)) : decode c pc = .ok (.iload_n 2, 1) := dz_de (by
  show Except.bind ((Jvm.ClassFile.Reader.u1 : Jvm.ClassFile.Decoder Nat) c pc) _ = _
  rw [dz_hd h]
  rfl)
theorem dq_iload_n3 (h : dz_bs c pc (29 :: r)) : decode c pc = .ok (.iload_n 3, 1) := dz_de (by
  show Except.bind ((Jvm.ClassFile.Reader.u1 : Jvm.ClassFile.Decoder Nat) c pc) _ = _
  rw [dz_hd h]
  rfl)
theorem dq_lload_n0 (h : dz_bs c pc (30 :: r)) : decode c pc = .ok (.lload_n 0, 1) := dz_de (by
  show Except.bind ((Jvm.ClassFile.Reader.u1 : Jvm.ClassFile.Decoder Nat) c pc) _ = _
  rw [dz_hd h]
  rfl)
theorem dq_lload_n1 (h : dz_bs c pc (31 :: r)) : decode c pc = .ok (.lload_n 1, 1) := dz_de (by
  show Except.bind ((Jvm.ClassFile.Reader.u1 : Jvm.ClassFile.Decoder Nat) c pc) _ = _
  rw [dz_hd h]
  rfl)
theorem dq_lload_n2 (h : dz_bs c pc (32 :: r)) : decode c pc = .ok (.lload_n 2, 1) := dz_de (by
  show Except.bind ((Jvm.ClassFile.Reader.u1 : Jvm.ClassFile.Decoder Nat) c pc) _ = _
  rw [dz_hd h]
  rfl)
theorem dq_lload_n3 (h : dz_bs c pc (33 :: r)) : decode c pc = .ok (.lload_n 3, 1) := dz_de (by
  show Except.bind ((Jvm.ClassFile.Reader.u1 : Jvm.ClassFile.Decoder Nat) c pc) _ = _
  rw [dz_hd h]
  rfl)
theorem dq_aload_n0 (h : dz_bs c pc (42 :: r)) : decode c pc = .ok (.aload_n 0, 1) := dz_de (by
  show Except.bind ((Jvm.ClassFile.Reader.u1 : Jvm.ClassFile.Decoder Nat) c pc) _ = _
  rw [dz_hd h]
  rfl)
theorem dq_aload_n1 (h : dz_bs c pc (43 :: r)) : decode c pc = .ok (.aload_n 1, 1) := dz_de (by
  show Except.bind ((Jvm.ClassFile.Reader.u1 : Jvm.ClassFile.Decoder Nat) c pc) _ = _
  rw [dz_hd h]
  rfl)
theorem dq_aload_n2 (h : dz_bs c pc (44 :: r)) : decode c pc = .ok (.aload_n 2, 1) := dz_de (by
  show Except.bind ((Jvm.ClassFile.Reader.u1 : Jvm.ClassFile.Decoder Nat) c pc) _ = _
  rw [dz_hd h]
  rfl)
theorem dq_aload_n3 (h : dz_bs c pc (45 :: r)) : decode c pc = .ok (.aload_n 3, 1) := dz_de (by
  show Except.bind ((Jvm.ClassFile.Reader.u1 : Jvm.ClassFile.Decoder Nat) c pc) _ = _
  rw [dz_hd h]
  rfl)
theorem dq_istore_n0 (h : dz_bs c pc (59 :: r)) : decode c pc = .ok (.istore_n 0, 1) := dz_de (by
  show Except.bind ((Jvm.ClassFile.Reader.u1 : Jvm.ClassFile.Decoder Nat) c pc) _ = _
  rw [dz_hd h]
  rfl)
theorem dq_istore_n1 (h : dz_bs c pc (60 :: r)) : decode c pc = .ok (.istore_n 1, 1) := dz_de (by
  show Except.bind ((Jvm.ClassFile.Reader.u1 : Jvm.ClassFile.Decoder Nat) c pc) _ = _
  rw [dz_hd h]
  rfl)
theorem dq_istore_n2 (h : dz_bs c pc (61 :: r)) : decode c pc = .ok (.istore_n 2, 1) := dz_de (by
  show Except.bind ((Jvm.ClassFile.Reader.u1 : Jvm.ClassFile.Decoder Nat) c pc) _ = _
  rw [dz_hd h]
  rfl)
theorem dq_istore_n3 (h : dz_bs c pc (62 :: r)) : decode c pc = .ok (.istore_n 3, 1) := dz_de (by
  show Except.bind ((Jvm.ClassFile.Reader.u1 : Jvm.ClassFile.Decoder Nat) c pc) _ = _
  rw [dz_hd h]
  rfl)
theorem dq_lstore_n0 (h : dz_bs c pc (63 :: r)) : decode c pc = .ok (.lstore_n 0, 1) := dz_de (by
  show Except.bind ((Jvm.ClassFile.Reader.u1 : Jvm.ClassFile.Decoder Nat) c pc) _ = _
  rw [dz_hd h]
  rfl)
theorem dq_lstore_n1 (h : dz_bs c pc (64 :: r)) : decode c pc = .ok (.lstore_n 1, 1) := dz_de (by
  show Except.bind ((Jvm.ClassFile.Reader.u1 : Jvm.ClassFile.Decoder Nat) c pc) _ = _
  rw [dz_hd h]
  rfl)
theorem dq_lstore_n2 (h : dz_bs c pc (65 :: r)) : decode c pc = .ok (.lstore_n 2, 1) := dz_de (by
  show Except.bind ((Jvm.ClassFile.Reader.u1 : Jvm.ClassFile.Decoder Nat) c pc) _ = _
  rw [dz_hd h]
  rfl)
theorem dq_lstore_n3 (h : dz_bs c pc (66 :: r)) : decode c pc = .ok (.lstore_n 3, 1) := dz_de (by
  show Except.bind ((Jvm.ClassFile.Reader.u1 : Jvm.ClassFile.Decoder Nat) c pc) _ = _
  rw [dz_hd h]
  rfl)
theorem dq_astore_n0 (h : dz_bs c pc (75 :: r)) : decode c pc = .ok (.astore_n 0, 1) := dz_de (by
  show Except.bind ((Jvm.ClassFile.Reader.u1 : Jvm.ClassFile.Decoder Nat) c pc) _ = _
  rw [dz_hd h]
  rfl)
theorem dq_astore_n1 (h : dz_bs c pc (76 :: r)) : decode c pc = .ok (.astore_n 1, 1) := dz_de (by
  show Except.bind ((Jvm.ClassFile.Reader.u1 : Jvm.ClassFile.Decoder Nat) c pc) _ = _
  rw [dz_hd h]
  rfl)
theorem dq_astore_n2 (h : dz_bs c pc (77 :: r)) : decode c pc = .ok (.astore_n 2, 1) := dz_de (by
  show Except.bind ((Jvm.ClassFile.Reader.u1 : Jvm.ClassFile.Decoder Nat) c pc) _ = _
  rw [dz_hd h]
  rfl)
theorem dq_astore_n3 (h : dz_bs c pc (78 :: r)) : decode c pc = .ok (.astore_n 3, 1) := dz_de (by
  show Except.bind ((Jvm.ClassFile.Reader.u1 : Jvm.ClassFile.Decoder Nat) c pc) _ = _
  rw [dz_hd h]
  rfl)
theorem dq_iconst0 (h : dz_bs c pc (2 :: r)) : decode c pc = .ok (.iconst (-1), 1) := dz_de (by
  show Except.bind ((Jvm.ClassFile.Reader.u1 : Jvm.ClassFile.Decoder Nat) c pc) _ = _
  rw [dz_hd h]
  rfl)
theorem dq_iconst1 (h : dz_bs c pc (3 :: r)) : decode c pc = .ok (.iconst (0), 1) := dz_de (by
  show Except.bind ((Jvm.ClassFile.Reader.u1 : Jvm.ClassFile.Decoder Nat) c pc) _ = _
  rw [dz_hd h]
  rfl)
theorem dq_iconst2 (h : dz_bs c pc (4 :: r)) : decode c pc = .ok (.iconst (1), 1) := dz_de (by
  show Except.bind ((Jvm.ClassFile.Reader.u1 : Jvm.ClassFile.Decoder Nat) c pc) _ = _
  rw [dz_hd h]
  rfl)
theorem dq_iconst3 (h : dz_bs c pc (5 :: r)) : decode c pc = .ok (.iconst (2), 1) := dz_de (by
  show Except.bind ((Jvm.ClassFile.Reader.u1 : Jvm.ClassFile.Decoder Nat) c pc) _ = _
  rw [dz_hd h]
  rfl)
theorem dq_iconst4 (h : dz_bs c pc (6 :: r)) : decode c pc = .ok (.iconst (3), 1) := dz_de (by
  show Except.bind ((Jvm.ClassFile.Reader.u1 : Jvm.ClassFile.Decoder Nat) c pc) _ = _
  rw [dz_hd h]
  rfl)
theorem dq_iconst5 (h : dz_bs c pc (7 :: r)) : decode c pc = .ok (.iconst (4), 1) := dz_de (by
  show Except.bind ((Jvm.ClassFile.Reader.u1 : Jvm.ClassFile.Decoder Nat) c pc) _ = _
  rw [dz_hd h]
  rfl)
theorem dq_iconst6 (h : dz_bs c pc (8 :: r)) : decode c pc = .ok (.iconst (5), 1) := dz_de (by
  show Except.bind ((Jvm.ClassFile.Reader.u1 : Jvm.ClassFile.Decoder Nat) c pc) _ = _
  rw [dz_hd h]
  rfl)
theorem dq_lconst0 (h : dz_bs c pc (9 :: r)) : decode c pc = .ok (.lconst 0, 1) := dz_de (by
  show Except.bind ((Jvm.ClassFile.Reader.u1 : Jvm.ClassFile.Decoder Nat) c pc) _ = _
  rw [dz_hd h]
  rfl)
theorem dq_lconst1 (h : dz_bs c pc (10 :: r)) : decode c pc = .ok (.lconst 1, 1) := dz_de (by
  show Except.bind ((Jvm.ClassFile.Reader.u1 : Jvm.ClassFile.Decoder Nat) c pc) _ = _
  rw [dz_hd h]
  rfl)
theorem dq_ldc (h : dz_bs c pc (18 :: a :: r)) : decode c pc = .ok (.ldc a, 2) := dz_de (by
  show Except.bind ((Jvm.ClassFile.Reader.u1 : Jvm.ClassFile.Decoder Nat) c pc) _ = _
  rw [dz_hd h]
  show Except.bind ((Jvm.ClassFile.Reader.u1 : Jvm.ClassFile.Decoder Nat) c (pc + 1)) _ = _
  rw [dz_hd (dz_tl h)]
  rfl)
theorem dq_iload (h : dz_bs c pc (21 :: a :: r)) : decode c pc = .ok (.iload a, 2) := dz_de (by
  show Except.bind ((Jvm.ClassFile.Reader.u1 : Jvm.ClassFile.Decoder Nat) c pc) _ = _
  rw [dz_hd h]
  show Except.bind ((Jvm.ClassFile.Reader.u1 : Jvm.ClassFile.Decoder Nat) c (pc + 1)) _ = _
  rw [dz_hd (dz_tl h)]
  rfl)
theorem dq_lload (h : dz_bs c pc (22 :: a :: r)) : decode c pc = .ok (.lload a, 2) := dz_de (by
  show Except.bind ((Jvm.ClassFile.Reader.u1 : Jvm.ClassFile.Decoder Nat) c pc) _ = _
  rw [dz_hd h]
  show Except.bind ((Jvm.ClassFile.Reader.u1 : Jvm.ClassFile.Decoder Nat) c (pc + 1)) _ = _
  rw [dz_hd (dz_tl h)]
  rfl)
theorem dq_aload (h : dz_bs c pc (25 :: a :: r)) : decode c pc = .ok (.aload a, 2) := dz_de (by
  show Except.bind ((Jvm.ClassFile.Reader.u1 : Jvm.ClassFile.Decoder Nat) c pc) _ = _
  rw [dz_hd h]
  show Except.bind ((Jvm.ClassFile.Reader.u1 : Jvm.ClassFile.Decoder Nat) c (pc + 1)) _ = _
  rw [dz_hd (dz_tl h)]
  rfl)
theorem dq_istore (h : dz_bs c pc (54 :: a :: r)) : decode c pc = .ok (.istore a, 2) := dz_de (by
  show Except.bind ((Jvm.ClassFile.Reader.u1 : Jvm.ClassFile.Decoder Nat) c pc) _ = _
  rw [dz_hd h]
  show Except.bind ((Jvm.ClassFile.Reader.u1 : Jvm.ClassFile.Decoder Nat) c (pc + 1)) _ = _
  rw [dz_hd (dz_tl h)]
  rfl)
theorem dq_lstore (h : dz_bs c pc (55 :: a :: r)) : decode c pc = .ok (.lstore a, 2) := dz_de (by
  show Except.bind ((Jvm.ClassFile.Reader.u1 : Jvm.ClassFile.Decoder Nat) c pc) _ = _
  rw [dz_hd h]
  show Except.bind ((Jvm.ClassFile.Reader.u1 : Jvm.ClassFile.Decoder Nat) c (pc + 1)) _ = _
  rw [dz_hd (dz_tl h)]
  rfl)
theorem dq_astore (h : dz_bs c pc (58 :: a :: r)) : decode c pc = .ok (.astore a, 2) := dz_de (by
  show Except.bind ((Jvm.ClassFile.Reader.u1 : Jvm.ClassFile.Decoder Nat) c pc) _ = _
  rw [dz_hd h]
  show Except.bind ((Jvm.ClassFile.Reader.u1 : Jvm.ClassFile.Decoder Nat) c (pc + 1)) _ = _
  rw [dz_hd (dz_tl h)]
  rfl)
theorem dq_ldc_w (h : dz_bs c pc (19 :: a :: b :: r)) : decode c pc = .ok (.ldc_w (a * 256 + b), 3) := dz_de (by
  show Except.bind ((Jvm.ClassFile.Reader.u1 : Jvm.ClassFile.Decoder Nat) c pc) _ = _
  rw [dz_hd h]
  show Except.bind ((Jvm.ClassFile.Reader.u2 : Jvm.ClassFile.Decoder Nat) c (pc + 1)) _ = _
  rw [dz_u2 (dz_tl h)]
  rfl)
theorem dq_ldc2_w (h : dz_bs c pc (20 :: a :: b :: r)) : decode c pc = .ok (.ldc2_w (a * 256 + b), 3) := dz_de (by
  show Except.bind ((Jvm.ClassFile.Reader.u1 : Jvm.ClassFile.Decoder Nat) c pc) _ = _
  rw [dz_hd h]
  show Except.bind ((Jvm.ClassFile.Reader.u2 : Jvm.ClassFile.Decoder Nat) c (pc + 1)) _ = _
  rw [dz_u2 (dz_tl h)]
  rfl)
theorem dq_getstatic (h : dz_bs c pc (178 :: a :: b :: r)) : decode c pc = .ok (.getstatic (a * 256 + b), 3) := dz_de (by
  show Except.bind ((Jvm.ClassFile.Reader.u1 : Jvm.ClassFile.Decoder Nat) c pc) _ = _
  rw [dz_hd h]
  show Except.bind ((Jvm.ClassFile.Reader.u2 : Jvm.ClassFile.Decoder Nat) c (pc + 1)) _ = _
  rw [dz_u2 (dz_tl h)]
  rfl)
theorem dq_getfield (h : dz_bs c pc (180 :: a :: b :: r)) : decode c pc = .ok (.getfield (a * 256 + b), 3) := dz_de (by
  show Except.bind ((Jvm.ClassFile.Reader.u1 : Jvm.ClassFile.Decoder Nat) c pc) _ = _
  rw [dz_hd h]
  show Except.bind ((Jvm.ClassFile.Reader.u2 : Jvm.ClassFile.Decoder Nat) c (pc + 1)) _ = _
  rw [dz_u2 (dz_tl h)]
  rfl)
theorem dq_putfield (h : dz_bs c pc (181 :: a :: b :: r)) : decode c pc = .ok (.putfield (a * 256 + b), 3) := dz_de (by
  show Except.bind ((Jvm.ClassFile.Reader.u1 : Jvm.ClassFile.Decoder Nat) c pc) _ = _
  rw [dz_hd h]
  show Except.bind ((Jvm.ClassFile.Reader.u2 : Jvm.ClassFile.Decoder Nat) c (pc + 1)) _ = _
  rw [dz_u2 (dz_tl h)]
  rfl)
theorem dq_invokevirtual (h : dz_bs c pc (182 :: a :: b :: r)) : decode c pc = .ok (.invokevirtual (a * 256 + b), 3) := dz_de (by
  show Except.bind ((Jvm.ClassFile.Reader.u1 : Jvm.ClassFile.Decoder Nat) c pc) _ = _
  rw [dz_hd h]
  show Except.bind ((Jvm.ClassFile.Reader.u2 : Jvm.ClassFile.Decoder Nat) c (pc + 1)) _ = _
  rw [dz_u2 (dz_tl h)]
  rfl)
theorem dq_invokespecial (h : dz_bs c pc (183 :: a :: b :: r)) : decode c pc = .ok (.invokespecial (a * 256 + b), 3) := dz_de (by
  show Except.bind ((Jvm.ClassFile.Reader.u1 : Jvm.ClassFile.Decoder Nat) c pc) _ = _
  rw [dz_hd h]
  show Except.bind ((Jvm.ClassFile.Reader.u2 : Jvm.ClassFile.Decoder Nat) c (pc + 1)) _ = _
  rw [dz_u2 (dz_tl h)]
  rfl)
theorem dq_invokestatic (h : dz_bs c pc (184 :: a :: b :: r)) : decode c pc = .ok (.invokestatic (a * 256 + b), 3) := dz_de (by
  show Except.bind ((Jvm.ClassFile.Reader.u1 : Jvm.ClassFile.Decoder Nat) c pc) _ = _
  rw [dz_hd h]
  show Except.bind ((Jvm.ClassFile.Reader.u2 : Jvm.ClassFile.Decoder Nat) c (pc + 1)) _ = _
  rw [dz_u2 (dz_tl h)]
  rfl)
theorem dq_new (h : dz_bs c pc (187 :: a :: b :: r)) : decode c pc = .ok (.new (a * 256 + b), 3) := dz_de (by
  show Except.bind ((Jvm.ClassFile.Reader.u1 : Jvm.ClassFile.Decoder Nat) c pc) _ = _
  rw [dz_hd h]
  show Except.bind ((Jvm.ClassFile.Reader.u2 : Jvm.ClassFile.Decoder Nat) c (pc + 1)) _ = _
  rw [dz_u2 (dz_tl h)]
  rfl)
theorem dq_anewarray (h : dz_bs c pc (189 :: a :: b :: r)) : decode c pc = .ok (.anewarray (a * 256 + b), 3) := dz_de (by
  show Except.bind ((Jvm.ClassFile.Reader.u1 : Jvm.ClassFile.Decoder Nat) c pc) _ = _
  rw [dz_hd h]
  show Except.bind ((Jvm.ClassFile.Reader.u2 : Jvm.ClassFile.Decoder Nat) c (pc + 1)) _ = _
  rw [dz_u2 (dz_tl h)]
  rfl)
theorem dq_sipush (h : dz_bs c pc (17 :: a :: b :: r)) : decode c pc = .ok (.sipush (Jvm.ClassFile.Reader.signed 16 (a * 256 + b)), 3) := dz_de (by
  show Except.bind ((Jvm.ClassFile.Reader.u1 : Jvm.ClassFile.Decoder Nat) c pc) _ = _
  rw [dz_hd h]
  show Except.bind ((Jvm.ClassFile.Reader.s2 : Jvm.ClassFile.Decoder Int) c (pc + 1)) _ = _
  rw [dz_s2 (dz_tl h)]
  rfl)
theorem dq_goto (h : dz_bs c pc (167 :: a :: b :: r)) : decode c pc = .ok (.goto (Jvm.ClassFile.Reader.signed 16 (a * 256 + b)), 3) := dz_de (by
  show Except.bind ((Jvm.ClassFile.Reader.u1 : Jvm.ClassFile.Decoder Nat) c pc) _ = _
  rw [dz_hd h]
  show Except.bind ((Jvm.ClassFile.Reader.s2 : Jvm.ClassFile.Decoder Int) c (pc + 1)) _ = _
  rw [dz_s2 (dz_tl h)]
  rfl)
theorem dq_ifnull (h : dz_bs c pc (198 :: a :: b :: r)) : decode c pc = .ok (.ifnull (Jvm.ClassFile.Reader.signed 16 (a * 256 + b)), 3) := dz_de (by
  show Except.bind ((Jvm.ClassFile.Reader.u1 : Jvm.ClassFile.Decoder Nat) c pc) _ = _
  rw [dz_hd h]
  show Except.bind ((Jvm.ClassFile.Reader.s2 : Jvm.ClassFile.Decoder Int) c (pc + 1)) _ = _
  rw [dz_s2 (dz_tl h)]
  rfl)
theorem dq_ifnonnull (h : dz_bs c pc (199 :: a :: b :: r)) : decode c pc = .ok (.ifnonnull (Jvm.ClassFile.Reader.signed 16 (a * 256 + b)), 3) := dz_de (by
  show Except.bind ((Jvm.ClassFile.Reader.u1 : Jvm.ClassFile.Decoder Nat) c pc) _ = _
  rw [dz_hd h]
  show Except.bind ((Jvm.ClassFile.Reader.s2 : Jvm.ClassFile.Decoder Int) c (pc + 1)) _ = _
  rw [dz_s2 (dz_tl h)]
  rfl)
theorem dq_if_eq (h : dz_bs c pc (153 :: a :: b :: r)) : decode c pc = .ok (.ifCond .eq (Jvm.ClassFile.Reader.signed 16 (a * 256 + b)), 3) := dz_de (by
  show Except.bind ((Jvm.ClassFile.Reader.u1 : Jvm.ClassFile.Decoder Nat) c pc) _ = _
  rw [dz_hd h]
  show Except.bind ((Jvm.ClassFile.Reader.s2 : Jvm.ClassFile.Decoder Int) c (pc + 1)) _ = _
  rw [dz_s2 (dz_tl h)]
  rfl)
theorem dq_ic_eq (h : dz_bs c pc (159 :: a :: b :: r)) : decode c pc = .ok (.if_icmp .eq (Jvm.ClassFile.Reader.signed 16 (a * 256 + b)), 3) := dz_de (by
  show Except.bind ((Jvm.ClassFile.Reader.u1 : Jvm.ClassFile.Decoder Nat) c pc) _ = _
  rw [dz_hd h]
  show Except.bind ((Jvm.ClassFile.Reader.s2 : Jvm.ClassFile.Decoder Int) c (pc + 1)) _ = _
  rw [dz_s2 (dz_tl h)]
  rfl)
theorem dq_if_ne (h : dz_bs c pc (154 :: a :: b :: r)) : decode c pc = .ok (.ifCond .ne (Jvm.ClassFile.Reader.signed 16 (a * 256 + b)), 3) := dz_de (by
  show Except.bind ((Jvm.ClassFile.Reader.u1 : Jvm.ClassFile.Decoder Nat) c pc) _ = _
  rw [dz_hd h]
  show Except.bind ((Jvm.ClassFile.Reader.s2 : Jvm.ClassFile.Decoder Int) c (pc + 1)) _ = _
  rw [dz_s2 (dz_tl h)]
  rfl)
theorem dq_ic_ne (h : dz_bs c pc (160 :: a :: b :: r)) : decode c pc = .ok (.if_icmp .ne (Jvm.ClassFile.Reader.signed 16 (a * 256 + b)), 3) := dz_de (by
  show Except.bind ((Jvm.ClassFile.Reader.u1 : Jvm.ClassFile.Decoder Nat) c pc) _ = _
  rw [dz_hd h]
  show Except.bind ((Jvm.ClassFile.Reader.s2 : Jvm.ClassFile.Decoder Int) c (pc + 1)) _ = _
  rw [dz_s2 (dz_tl h)]
  rfl)
theorem dq_if_lt (h : dz_bs c pc (155 :: a :: b :: r)) : decode c pc = .ok (.ifCond .lt (Jvm.ClassFile.Reader.signed 16 (a * 256 + b)), 3) := dz_de (by
  show Except.bind ((Jvm.ClassFile.Reader.u1 : Jvm.ClassFile.Decoder Nat) c pc) _ = _
  rw [dz_hd h]
  show Except.bind ((Jvm.ClassFile.Reader.s2 : Jvm.ClassFile.Decoder Int) c (pc + 1)) _ = _
  rw [dz_s2 (dz_tl h)]
  rfl)
theorem dq_ic_lt (h : dz_bs c pc (161 :: a :: b :: r)) : decode c pc = .ok (.if_icmp .lt (Jvm.ClassFile.Reader.signed 16 (a * 256 + b)), 3) := dz_de (by
  show Except.bind ((Jvm.ClassFile.Reader.u1 : Jvm.ClassFile.Decoder Nat) c pc) _ = _
  rw [dz_hd h]
  show Except.bind ((Jvm.ClassFile.Reader.s2 : Jvm.ClassFile.Decoder Int) c (pc + 1)) _ = _
  rw [dz_s2 (dz_tl h)]
  rfl)
theorem dq_if_ge (h : dz_bs c pc (156 :: a :: b :: r)) : decode c pc = .ok (.ifCond .ge (Jvm.ClassFile.Reader.signed 16 (a * 256 + b)), 3) := dz_de (by
  show Except.bind ((Jvm.ClassFile.Reader.u1 : Jvm.ClassFile.Decoder Nat) c pc) _ = _
  rw [dz_hd h]
  show Except.bind ((Jvm.ClassFile.Reader.s2 : Jvm.ClassFile.Decoder Int) c (pc + 1)) _ = _
  rw [dz_s2 (dz_tl h)]
  rfl)
theorem dq_ic_ge (h : dz_bs c pc (162 :: a :: b :: r)) : decode c pc = .ok (.if_icmp .ge (Jvm.ClassFile.Reader.signed 16 (a * 256 + b)), 3) := dz_de (by
  show Except.bind ((Jvm.ClassFile.Reader.u1 : Jvm.ClassFile.Decoder Nat) c pc) _ = _
  rw [dz_hd h]
  show Except.bind ((Jvm.ClassFile.Reader.s2 : Jvm.ClassFile.Decoder Int) c (pc + 1)) _ = _
  rw [dz_s2 (dz_tl h)]
  rfl)
theorem dq_if_gt (h : dz_bs c pc (157 :: a :: b :: r)) : decode c pc = .ok (.ifCond .gt (Jvm.ClassFile.Reader.signed 16 (a * 256 + b)), 3) := dz_de (by
  show Except.bind ((Jvm.ClassFile.Reader.u1 : Jvm.ClassFile.Decoder Nat) c pc) _ = _
  rw [dz_hd h]
  show Except.bind ((Jvm.ClassFile.Reader.s2 : Jvm.ClassFile.Decoder Int) c (pc + 1)) _ = _
  rw [dz_s2 (dz_tl h)]
  rfl)
theorem dq_ic_gt (h : dz_bs c pc (163 :: a :: b :: r)) : decode c pc = .ok (.if_icmp .gt (Jvm.ClassFile.Reader.signed 16 (a * 256 + b)), 3) := dz_de (by
  show Except.bind ((Jvm.ClassFile.Reader.u1 : Jvm.ClassFile.Decoder Nat) c pc) _ = _
  rw [dz_hd h]
  show Except.bind ((Jvm.ClassFile.Reader.s2 : Jvm.ClassFile.Decoder Int) c (pc + 1)) _ = _
  rw [dz_s2 (dz_tl h)]
  rfl)
theorem dq_if_le (h : dz_bs c pc (158 :: a :: b :: r)) : decode c pc = .ok (.ifCond .le (Jvm.ClassFile.Reader.signed 16 (a * 256 + b)), 3) := dz_de (by
  show Except.bind ((Jvm.ClassFile.Reader.u1 : Jvm.ClassFile.Decoder Nat) c pc) _ = _
  rw [dz_hd h]
  show Except.bind ((Jvm.ClassFile.Reader.s2 : Jvm.ClassFile.Decoder Int) c (pc + 1)) _ = _
  rw [dz_s2 (dz_tl h)]
  rfl)
theorem dq_ic_le (h : dz_bs c pc (164 :: a :: b :: r)) : decode c pc = .ok (.if_icmp .le (Jvm.ClassFile.Reader.signed 16 (a * 256 + b)), 3) := dz_de (by
  show Except.bind ((Jvm.ClassFile.Reader.u1 : Jvm.ClassFile.Decoder Nat) c pc) _ = _
  rw [dz_hd h]
  show Except.bind ((Jvm.ClassFile.Reader.s2 : Jvm.ClassFile.Decoder Int) c (pc + 1)) _ = _
  rw [dz_s2 (dz_tl h)]
  rfl)
theorem dq_bipush (h : dz_bs c pc (16 :: a :: r)) : decode c pc = .ok (.bipush (Jvm.ClassFile.Reader.signed 8 a), 2) := dz_de (by
  show Except.bind ((Jvm.ClassFile.Reader.u1 : Jvm.ClassFile.Decoder Nat) c pc) _ = _
  rw [dz_hd h]
  show Except.bind ((Jvm.ClassFile.Reader.s1 : Jvm.ClassFile.Decoder Int) c (pc + 1)) _ = _
  rw [dz_s1 (dz_tl h)]
  rfl)
theorem dq_iinc (h : dz_bs c pc (132 :: a :: d :: r)) : decode c pc = .ok (.iinc a (Jvm.ClassFile.Reader.signed 8 d), 3) := dz_de (by
  show Except.bind ((Jvm.ClassFile.Reader.u1 : Jvm.ClassFile.Decoder Nat) c pc) _ = _
  rw [dz_hd h]
  show Except.bind ((Jvm.ClassFile.Reader.u1 : Jvm.ClassFile.Decoder Nat) c (pc + 1)) _ = _
  rw [dz_hd (dz_tl h)]
  show Except.bind ((Jvm.ClassFile.Reader.s1 : Jvm.ClassFile.Decoder Int) c (pc + 1 + 1)) _ = _
  rw [dz_s1 (dz_tl (dz_tl h))]
  rfl)
theorem dq_newarray_boolean (h : dz_bs c pc (188 :: 4 :: r)) : decode c pc = .ok (.newarray .boolean, 2) := dz_de (by
  show Except.bind ((Jvm.ClassFile.Reader.u1 : Jvm.ClassFile.Decoder Nat) c pc) _ = _
  rw [dz_hd h]
  show Except.bind ((Jvm.ClassFile.Reader.u1 : Jvm.ClassFile.Decoder Nat) c (pc + 1)) _ = _
  rw [dz_hd (dz_tl h)]
  rfl)
theorem dq_newarray_int (h : dz_bs c pc (188 :: 10 :: r)) : decode c pc = .ok (.newarray .int, 2) := dz_de (by
  show Except.bind ((Jvm.ClassFile.Reader.u1 : Jvm.ClassFile.Decoder Nat) c pc) _ = _
  rw [dz_hd h]
  show Except.bind ((Jvm.ClassFile.Reader.u1 : Jvm.ClassFile.Decoder Nat) c (pc + 1)) _ = _
  rw [dz_hd (dz_tl h)]
  rfl)
theorem dq_newarray_long (h : dz_bs c pc (188 :: 11 :: r)) : decode c pc = .ok (.newarray .long, 2) := dz_de (by
  show Except.bind ((Jvm.ClassFile.Reader.u1 : Jvm.ClassFile.Decoder Nat) c pc) _ = _
  rw [dz_hd h]
  show Except.bind ((Jvm.ClassFile.Reader.u1 : Jvm.ClassFile.Decoder Nat) c (pc + 1)) _ = _
  rw [dz_hd (dz_tl h)]
  rfl)
def dz_k (i : Instr) : Nat → List Nat → Bool := match i with
  | .iaload => dz_0 46
  | .laload => dz_0 47
  | .aaload => dz_0 50
  | .baload => dz_0 51
  | .iastore => dz_0 79
  | .lastore => dz_0 80
  | .aastore => dz_0 83
  | .bastore => dz_0 84
  | .pop => dz_0 87
  | .pop2 => dz_0 88
  | .dup => dz_0 89
  | .dup2 => dz_0 92
  | .iadd => dz_0 96
  | .ladd => dz_0 97
  | .isub => dz_0 100
  | .lsub => dz_0 101
  | .imul => dz_0 104
  | .lmul => dz_0 105
  | .idiv => dz_0 108
  | .ldiv => dz_0 109
  | .irem => dz_0 112
  | .lrem => dz_0 113
  | .ineg => dz_0 116
  | .lneg => dz_0 117
  | .ishl => dz_0 120
  | .lshl => dz_0 121
  | .ishr => dz_0 122
  | .lshr => dz_0 123
  | .iushr => dz_0 124
  | .lushr => dz_0 125
  | .iand => dz_0 126
  | .land => dz_0 127
  | .ior => dz_0 128
  | .lor => dz_0 129
  | .ixor => dz_0 130
  | .lxor => dz_0 131
  | .i2l => dz_0 133
  | .l2i => dz_0 136
  | .lcmp => dz_0 148
  | .ireturn => dz_0 172
  | .lreturn => dz_0 173
  | .areturn => dz_0 176
  | .return_ => dz_0 177
  | .arraylength => dz_0 190
  | .aconst_null => dz_0 1
  | .iload_n k => dz_0 (26 + k.val)
  | .lload_n k => dz_0 (30 + k.val)
  | .aload_n k => dz_0 (42 + k.val)
  | .istore_n k => dz_0 (59 + k.val)
  | .lstore_n k => dz_0 (63 + k.val)
  | .astore_n k => dz_0 (75 + k.val)
  | .iconst v => match v with
    | .ofNat m => fun n bs => Nat.ble m 5 && dz_0 (3 + m) n bs
    | .negSucc m => fun n bs => Nat.beq m 0 && dz_0 2 n bs
  | .lconst k => dz_0 (9 + k.val)
  | .ldc i => dz_1 18 i
  | .iload i => dz_1 21 i
  | .lload i => dz_1 22 i
  | .aload i => dz_1 25 i
  | .istore i => dz_1 54 i
  | .lstore i => dz_1 55 i
  | .astore i => dz_1 58 i
  | .ldc_w i => dz_2 19 i
  | .ldc2_w i => dz_2 20 i
  | .getstatic i => dz_2 178 i
  | .getfield i => dz_2 180 i
  | .putfield i => dz_2 181 i
  | .invokevirtual i => dz_2 182 i
  | .invokespecial i => dz_2 183 i
  | .invokestatic i => dz_2 184 i
  | .new i => dz_2 187 i
  | .anewarray i => dz_2 189 i
  | .sipush v => dz_q2 17 v
  | .goto v => dz_q2 167 v
  | .ifnull v => dz_q2 198 v
  | .ifnonnull v => dz_q2 199 v
  | .bipush v => dz_q1 16 v
  | .iinc i v => dz_ii i v
  | .ifCond c v => match c with
    | .eq => dz_q2 153 v
    | .ne => dz_q2 154 v
    | .lt => dz_q2 155 v
    | .ge => dz_q2 156 v
    | .gt => dz_q2 157 v
    | .le => dz_q2 158 v
  | .if_icmp c v => match c with
    | .eq => dz_q2 159 v
    | .ne => dz_q2 160 v
    | .lt => dz_q2 161 v
    | .ge => dz_q2 162 v
    | .gt => dz_q2 163 v
    | .le => dz_q2 164 v
  | .newarray t => match t with
    | .int => dz_1 188 10
    | .long => dz_1 188 11
    | .boolean => dz_1 188 4
    | _ => fun _ _ => false
  | _ => fun _ _ => false
theorem dz_ok {i : Instr} {n : Nat} (hb : dz_bs c pc bs) (h : dz_k i n bs = true) : decode c pc = .ok (i, n) := by
  cases i with
  | iaload => obtain ⟨r, rfl, rfl⟩ := dz_0i h; exact dq_iaload hb
  | laload => obtain ⟨r, rfl, rfl⟩ := dz_0i h; exact dq_laload hb
  | aaload => obtain ⟨r, rfl, rfl⟩ := dz_0i h; exact dq_aaload hb
  | baload => obtain ⟨r, rfl, rfl⟩ := dz_0i h; exact dq_baload hb
  | iastore => obtain ⟨r, rfl, rfl⟩ := dz_0i h; exact dq_iastore hb
  | lastore => obtain ⟨r, rfl, rfl⟩ := dz_0i h; exact dq_lastore hb
  | aastore => obtain ⟨r, rfl, rfl⟩ := dz_0i h; exact dq_aastore hb
  | bastore => obtain ⟨r, rfl, rfl⟩ := dz_0i h; exact dq_bastore hb
  | pop => obtain ⟨r, rfl, rfl⟩ := dz_0i h; exact dq_pop hb
  | pop2 => obtain ⟨r, rfl, rfl⟩ := dz_0i h; exact dq_pop2 hb
  | dup => obtain ⟨r, rfl, rfl⟩ := dz_0i h; exact dq_dup hb
  | dup2 => obtain ⟨r, rfl, rfl⟩ := dz_0i h; exact dq_dup2 hb
  | iadd => obtain ⟨r, rfl, rfl⟩ := dz_0i h; exact dq_iadd hb
  | ladd => obtain ⟨r, rfl, rfl⟩ := dz_0i h; exact dq_ladd hb
  | isub => obtain ⟨r, rfl, rfl⟩ := dz_0i h; exact dq_isub hb
  | lsub => obtain ⟨r, rfl, rfl⟩ := dz_0i h; exact dq_lsub hb
  | imul => obtain ⟨r, rfl, rfl⟩ := dz_0i h; exact dq_imul hb
  | lmul => obtain ⟨r, rfl, rfl⟩ := dz_0i h; exact dq_lmul hb
  | idiv => obtain ⟨r, rfl, rfl⟩ := dz_0i h; exact dq_idiv hb
  | ldiv => obtain ⟨r, rfl, rfl⟩ := dz_0i h; exact dq_ldiv hb
  | irem => obtain ⟨r, rfl, rfl⟩ := dz_0i h; exact dq_irem hb
  | lrem => obtain ⟨r, rfl, rfl⟩ := dz_0i h; exact dq_lrem hb
  | ineg => obtain ⟨r, rfl, rfl⟩ := dz_0i h; exact dq_ineg hb
  | lneg => obtain ⟨r, rfl, rfl⟩ := dz_0i h; exact dq_lneg hb
  | ishl => obtain ⟨r, rfl, rfl⟩ := dz_0i h; exact dq_ishl hb
  | lshl => obtain ⟨r, rfl, rfl⟩ := dz_0i h; exact dq_lshl hb
  | ishr => obtain ⟨r, rfl, rfl⟩ := dz_0i h; exact dq_ishr hb
  | lshr => obtain ⟨r, rfl, rfl⟩ := dz_0i h; exact dq_lshr hb
  | iushr => obtain ⟨r, rfl, rfl⟩ := dz_0i h; exact dq_iushr hb
  | lushr => obtain ⟨r, rfl, rfl⟩ := dz_0i h; exact dq_lushr hb
  | iand => obtain ⟨r, rfl, rfl⟩ := dz_0i h; exact dq_iand hb
  | land => obtain ⟨r, rfl, rfl⟩ := dz_0i h; exact dq_land hb
  | ior => obtain ⟨r, rfl, rfl⟩ := dz_0i h; exact dq_ior hb
  | lor => obtain ⟨r, rfl, rfl⟩ := dz_0i h; exact dq_lor hb
  | ixor => obtain ⟨r, rfl, rfl⟩ := dz_0i h; exact dq_ixor hb
  | lxor => obtain ⟨r, rfl, rfl⟩ := dz_0i h; exact dq_lxor hb
  | i2l => obtain ⟨r, rfl, rfl⟩ := dz_0i h; exact dq_i2l hb
  | l2i => obtain ⟨r, rfl, rfl⟩ := dz_0i h; exact dq_l2i hb
  | lcmp => obtain ⟨r, rfl, rfl⟩ := dz_0i h; exact dq_lcmp hb
  | ireturn => obtain ⟨r, rfl, rfl⟩ := dz_0i h; exact dq_ireturn hb
  | lreturn => obtain ⟨r, rfl, rfl⟩ := dz_0i h; exact dq_lreturn hb
  | areturn => obtain ⟨r, rfl, rfl⟩ := dz_0i h; exact dq_areturn hb
  | return_ => obtain ⟨r, rfl, rfl⟩ := dz_0i h; exact dq_return_ hb
  | arraylength => obtain ⟨r, rfl, rfl⟩ := dz_0i h; exact dq_arraylength hb
  | aconst_null => obtain ⟨r, rfl, rfl⟩ := dz_0i h; exact dq_aconst_null hb
  | iload_n k =>
    obtain ⟨r, rfl, rfl⟩ := dz_0i h
    match k, hb with
    | ⟨0, _⟩, hb => exact dq_iload_n0 hb
    | ⟨1, _⟩, hb => exact dq_iload_n1 hb
    | ⟨2, _⟩, hb => exact dq_iload_n2 hb
    | ⟨3, _⟩, hb => exact dq_iload_n3 hb
  | lload_n k =>
    obtain ⟨r, rfl, rfl⟩ := dz_0i h
    match k, hb with
    | ⟨0, _⟩, hb => exact dq_lload_n0 hb
    | ⟨1, _⟩, hb => exact dq_lload_n1 hb
    | ⟨2, _⟩, hb => exact dq_lload_n2 hb
    | ⟨3, _⟩, hb => exact dq_lload_n3 hb
  | aload_n k =>
    obtain ⟨r, rfl, rfl⟩ := dz_0i h
    match k, hb with
    | ⟨0, _⟩, hb => exact dq_aload_n0 hb
    | ⟨1, _⟩, hb => exact dq_aload_n1 hb
    | ⟨2, _⟩, hb => exact dq_aload_n2 hb
    | ⟨3, _⟩, hb => exact dq_aload_n3 hb
  | istore_n k =>
    obtain ⟨r, rfl, rfl⟩ := dz_0i h
    match k, hb with
    | ⟨0, _⟩, hb => exact dq_istore_n0 hb
    | ⟨1, _⟩, hb => exact dq_istore_n1 hb
    | ⟨2, _⟩, hb => exact dq_istore_n2 hb
    | ⟨3, _⟩, hb => exact dq_istore_n3 hb
  | lstore_n k =>
    obtain ⟨r, rfl, rfl⟩ := dz_0i h
    match k, hb with
    | ⟨0, _⟩, hb => exact dq_lstore_n0 hb
    | ⟨1, _⟩, hb => exact dq_lstore_n1 hb
    | ⟨2, _⟩, hb => exact dq_lstore_n2 hb
    | ⟨3, _⟩, hb => exact dq_lstore_n3 hb
  | astore_n k =>
    obtain ⟨r, rfl, rfl⟩ := dz_0i h
    match k, hb with
    | ⟨0, _⟩, hb => exact dq_astore_n0 hb
    | ⟨1, _⟩, hb => exact dq_astore_n1 hb
    | ⟨2, _⟩, hb => exact dq_astore_n2 hb
    | ⟨3, _⟩, hb => exact dq_astore_n3 hb
  | iconst v =>
    cases v with
    | ofNat m =>
      have q := dz_an h
      obtain ⟨r, rfl, rfl⟩ := dz_0i q.2
      have hm := Nat.le_of_ble_eq_true q.1
      match m, hm, hb with
      | 0, _, hb => exact dq_iconst1 hb
      | 1, _, hb => exact dq_iconst2 hb
      | 2, _, hb => exact dq_iconst3 hb
      | 3, _, hb => exact dq_iconst4 hb
      | 4, _, hb => exact dq_iconst5 hb
      | 5, _, hb => exact dq_iconst6 hb
    | negSucc m =>
      have q := dz_an h
      have hm := Nat.eq_of_beq_eq_true q.1
      subst hm
      obtain ⟨r, rfl, rfl⟩ := dz_0i q.2
      exact dq_iconst0 hb
  | lconst k =>
    obtain ⟨r, rfl, rfl⟩ := dz_0i h
    match k, hb with
    | ⟨0, _⟩, hb => exact dq_lconst0 hb
    | ⟨1, _⟩, hb => exact dq_lconst1 hb
  | ldc i => obtain ⟨r, rfl, rfl⟩ := dz_1i h; exact dq_ldc hb
  | iload i => obtain ⟨r, rfl, rfl⟩ := dz_1i h; exact dq_iload hb
  | lload i => obtain ⟨r, rfl, rfl⟩ := dz_1i h; exact dq_lload hb
  | aload i => obtain ⟨r, rfl, rfl⟩ := dz_1i h; exact dq_aload hb
  | istore i => obtain ⟨r, rfl, rfl⟩ := dz_1i h; exact dq_istore hb
  | lstore i => obtain ⟨r, rfl, rfl⟩ := dz_1i h; exact dq_lstore hb
  | astore i => obtain ⟨r, rfl, rfl⟩ := dz_1i h; exact dq_astore hb
  | ldc_w i => obtain ⟨x, y, r, rfl, rfl, rfl⟩ := dz_2i h; exact dq_ldc_w hb
  | ldc2_w i => obtain ⟨x, y, r, rfl, rfl, rfl⟩ := dz_2i h; exact dq_ldc2_w hb
  | getstatic i => obtain ⟨x, y, r, rfl, rfl, rfl⟩ := dz_2i h; exact dq_getstatic hb
  | getfield i => obtain ⟨x, y, r, rfl, rfl, rfl⟩ := dz_2i h; exact dq_getfield hb
  | putfield i => obtain ⟨x, y, r, rfl, rfl, rfl⟩ := dz_2i h; exact dq_putfield hb
  | invokevirtual i => obtain ⟨x, y, r, rfl, rfl, rfl⟩ := dz_2i h; exact dq_invokevirtual hb
  | invokespecial i => obtain ⟨x, y, r, rfl, rfl, rfl⟩ := dz_2i h; exact dq_invokespecial hb
  | invokestatic i => obtain ⟨x, y, r, rfl, rfl, rfl⟩ := dz_2i h; exact dq_invokestatic hb
  | new i => obtain ⟨x, y, r, rfl, rfl, rfl⟩ := dz_2i h; exact dq_new hb
  | anewarray i => obtain ⟨x, y, r, rfl, rfl, rfl⟩ := dz_2i h; exact dq_anewarray hb
  | sipush v => obtain ⟨x, y, r, rfl, rfl, rfl⟩ := dz_q2i h; exact dq_sipush hb
  | goto v => obtain ⟨x, y, r, rfl, rfl, rfl⟩ := dz_q2i h; exact dq_goto hb
  | ifnull v => obtain ⟨x, y, r, rfl, rfl, rfl⟩ := dz_q2i h; exact dq_ifnull hb
  | ifnonnull v => obtain ⟨x, y, r, rfl, rfl, rfl⟩ := dz_q2i h; exact dq_ifnonnull hb
  | bipush v => obtain ⟨x, r, rfl, rfl, rfl⟩ := dz_q1i h; exact dq_bipush hb
  | iinc i v => obtain ⟨x, r, rfl, rfl, rfl⟩ := dz_iii h; exact dq_iinc hb
  | ifCond k v =>
    cases k with
    | eq => obtain ⟨x, y, r, rfl, rfl, rfl⟩ := dz_q2i h; exact dq_if_eq hb
    | ne => obtain ⟨x, y, r, rfl, rfl, rfl⟩ := dz_q2i h; exact dq_if_ne hb
    | lt => obtain ⟨x, y, r, rfl, rfl, rfl⟩ := dz_q2i h; exact dq_if_lt hb
    | ge => obtain ⟨x, y, r, rfl, rfl, rfl⟩ := dz_q2i h; exact dq_if_ge hb
    | gt => obtain ⟨x, y, r, rfl, rfl, rfl⟩ := dz_q2i h; exact dq_if_gt hb
    | le => obtain ⟨x, y, r, rfl, rfl, rfl⟩ := dz_q2i h; exact dq_if_le hb
  | if_icmp k v =>
    cases k with
    | eq => obtain ⟨x, y, r, rfl, rfl, rfl⟩ := dz_q2i h; exact dq_ic_eq hb
    | ne => obtain ⟨x, y, r, rfl, rfl, rfl⟩ := dz_q2i h; exact dq_ic_ne hb
    | lt => obtain ⟨x, y, r, rfl, rfl, rfl⟩ := dz_q2i h; exact dq_ic_lt hb
    | ge => obtain ⟨x, y, r, rfl, rfl, rfl⟩ := dz_q2i h; exact dq_ic_ge hb
    | gt => obtain ⟨x, y, r, rfl, rfl, rfl⟩ := dz_q2i h; exact dq_ic_gt hb
    | le => obtain ⟨x, y, r, rfl, rfl, rfl⟩ := dz_q2i h; exact dq_ic_le hb
  | newarray t =>
    cases t with
    | int => obtain ⟨r, rfl, rfl⟩ := dz_1i h; exact dq_newarray_int hb
    | long => obtain ⟨r, rfl, rfl⟩ := dz_1i h; exact dq_newarray_long hb
    | boolean => obtain ⟨r, rfl, rfl⟩ := dz_1i h; exact dq_newarray_boolean hb
    | _ => exact absurd h Bool.false_ne_true
  | _ => exact absurd h Bool.false_ne_true
def dz_chk : List dz_r → Nat → List Nat → Bool
  | [], _, _ => true
  | q :: l, pc, bs => Nat.beq q.1 pc && (dz_k q.2.1 q.2.2 bs && dz_chk l (q.1 + q.2.2) (bs.drop q.2.2))
def dz (c : ByteArray) : List dz_r → Prop
  | [] => True
  | q :: l => decode c q.1 = .ok q.2 ∧ dz c l
theorem dz_al (c : ByteArray) : ∀ (l : List dz_r) (pc : Nat) (bs : List Nat), dz_chk l pc bs = true → dz_bs c pc bs → dz c l
  | [], _, _, _, _ => trivial
  | q :: l, pc, bs, h, hb => by
    have h1 := dz_an h
    have h2 := dz_an h1.2
    have e := Nat.eq_of_beq_eq_true h1.1
    subst e
    exact ⟨dz_ok hb h2.1, dz_al c l _ _ h2.2 (dz_dr _ hb)⟩
theorem dz_all {c : ByteArray} {l : List dz_r} (lo : Nat) (h : dz_chk l lo ((c.data.toList.drop lo).map UInt8.toNat) = true) : dz c l := dz_al c l lo _ h rfl
theorem am_kd {c : ByteArray} {P : Nat × am_S → Prop} {s : am_S} {k : am_code} {pc n : Nat} {i : Instr} {l : List dz_r} (h : decode c pc = .ok (i, n) → P (pc, s)) (hl : dz c l → ∀ q ∈ k, P q) : dz c ((pc, i, n) :: l) → ∀ q ∈ (pc, s) :: k, P q := fun H q hq => by
  rcases List.mem_cons.mp hq with rfl | h2
  · exact h H.1
  · exact hl H.2 q h2
theorem am_kz {c : ByteArray} {l : List dz_r} {G : Prop} (H : dz c l) (f : dz c l → G) : G := f H
theorem an_ks {c : ByteArray} {l : List dz_r} {q : dz_r} {G : Prop} (f : dz c l → G) : dz c (q :: l) → G := fun H => f H.2
theorem am_kdn {c : ByteArray} {P : Nat × am_S → Prop} : dz c [] → ∀ q ∈ ([] : am_code), P q := fun _ _ h => absurd h List.not_mem_nil
theorem an_kd {c : ByteArray} {P : Nat × an_S → Prop} {s : an_S} {k : an_code} {pc n : Nat} {i : Instr} {l : List dz_r} (h : decode c pc = .ok (i, n) → P (pc, s)) (hl : dz c l → ∀ q ∈ k, P q) : dz c ((pc, i, n) :: l) → ∀ q ∈ (pc, s) :: k, P q := fun H q hq => by
  rcases List.mem_cons.mp hq with rfl | h2
  · exact h H.1
  · exact hl H.2 q h2
theorem an_kdn {c : ByteArray} {P : Nat × an_S → Prop} : dz c [] → ∀ q ∈ ([] : an_code), P q := fun _ _ h => absurd h List.not_mem_nil
end DZ
