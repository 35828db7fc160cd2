/-! what each instruction does to names, and that the machine does so -/
def am_const (v : Value) (nx : Nat) : am_S := fun L st M K => K nx L (v :: st) M
def am_iload (i nx : Nat) : am_S := fun L st M K => match am_g L i with
  | some (.int x) => K nx L (.int x :: st) M
  | _ => False
def am_lload (i nx : Nat) : am_S := fun L st M K => match am_g L i with
  | some (.long x) => K nx L (.long x :: st) M
  | _ => False
def am_aload (i nx : Nat) : am_S := fun L st M K => match am_g L i with
  | some (.ref x) => K nx L (.ref x :: st) M
  | _ => False
def am_istore (i nL nx : Nat) : am_S := fun L st M K => match st with
  | .int x :: r => am_if (Nat.blt i nL) (am_force (am_s1 i (.int x) L) (fun L' => K nx L' r M))
  | _ => False
def am_astore (i nL nx : Nat) : am_S := fun L st M K => match st with
  | .ref x :: r => am_if (Nat.blt i nL) (am_force (am_s1 i (.ref x) L) (fun L' => K nx L' r M))
  | _ => False
def am_lstore (i nL nx : Nat) : am_S := fun L st M K => match st with
  | .long x :: r => am_if (Nat.blt (i + 1) nL) (am_force (am_s2 i (.long x) L) (fun L' => K nx L' r M))
  | _ => False
def am_iinc (i nL : Nat) (d : Int32) (nx : Nat) : am_S := fun L st M K => match am_g L i with
  | some (.int x) => am_if (Nat.blt i nL) (am_force (am_s1 i (.int (x + d)) L) (fun L' => K nx L' st M))
  | _ => False
def am_i2 (f : Int32 → Int32 → Int32) (nx : Nat) : am_S := fun L st M K => match st with
  | .int y :: .int x :: r => K nx L (.int (f x y) :: r) M
  | _ => False
def am_i2z (f : Int32 → Int32 → Int32) (nx : Nat) : am_S := fun L st M K => match st with
  | .int y :: .int x :: r => (¬ y = 0) ∧ K nx L (.int (f x y) :: r) M
  | _ => False
def am_i1 (f : Int32 → Int32) (nx : Nat) : am_S := fun L st M K => match st with
  | .int x :: r => K nx L (.int (f x) :: r) M
  | _ => False
def am_l2 (f : Int64 → Int64 → Int64) (nx : Nat) : am_S := fun L st M K => match st with
  | .long y :: .long x :: r => K nx L (.long (f x y) :: r) M
  | _ => False
def am_l2z (f : Int64 → Int64 → Int64) (nx : Nat) : am_S := fun L st M K => match st with
  | .long y :: .long x :: r => (¬ y = 0) ∧ K nx L (.long (f x y) :: r) M
  | _ => False
def am_l1 (f : Int64 → Int64) (nx : Nat) : am_S := fun L st M K => match st with
  | .long x :: r => K nx L (.long (f x) :: r) M
  | _ => False
def am_lsh (f : Int64 → Int32 → Int64) (nx : Nat) : am_S := fun L st M K => match st with
  | .int y :: .long x :: r => K nx L (.long (f x y) :: r) M
  | _ => False
def am_i2l (nx : Nat) : am_S := fun L st M K => match st with
  | .int x :: r => K nx L (.long x.toInt64 :: r) M
  | _ => False
def am_l2i (nx : Nat) : am_S := fun L st M K => match st with
  | .long x :: r => K nx L (.int x.toInt32 :: r) M
  | _ => False
def am_lcmp (nx : Nat) : am_S := fun L st M K => match st with
  | .long y :: .long x :: r => K nx L (.int (lg_cmp x y) :: r) M
  | _ => False
def am_dup (nx : Nat) : am_S := fun L st M K => match st with
  | v :: r => am_if (Nat.beq v.category 1) (K nx L (v :: v :: r) M)
  | _ => False
def am_dup2 (nx : Nat) : am_S := fun L st M K => match st with
  | .long x :: r => K nx L (.long x :: .long x :: r) M
  | v :: w :: r => am_if (Nat.beq v.category 1 && Nat.beq w.category 1) (K nx L (v :: w :: v :: w :: r) M)
  | _ => False
def am_pop (nx : Nat) : am_S := fun L st M K => match st with
  | v :: r => am_if (Nat.beq v.category 1) (K nx L r M)
  | _ => False
def am_pop2 (nx : Nat) : am_S := fun L st M K => match st with
  | .long _ :: r => K nx L r M
  | _ => False
def am_if1 (cd : Int32 → Prop) (tg nx : Nat) : am_S := fun L st M K => match st with
  | .int x :: r => (cd x → K tg L r M) ∧ (¬ cd x → K nx L r M)
  | _ => False
def am_if2 (cd : Int32 → Int32 → Prop) (tg nx : Nat) : am_S := fun L st M K => match st with
  | .int y :: .int x :: r => (cd x y → K tg L r M) ∧ (¬ cd x y → K nx L r M)
  | _ => False
def am_goto (tg : Nat) : am_S := fun L st M K => K tg L st M
def am_switch (cs : List (Int32 × Nat)) (d : Nat) : am_S := fun L st M K => match st with
  | .int x :: r => am_swc x cs d (fun t => K t L r M)
  | _ => False
def am_getI (live : am_E) (ci k nx : Nat) : am_S := fun L st M K => match st with
  | .ref n :: r => am_if (am_isO live ci n) (K nx L (.int (M.1 n k) :: r) M)
  | _ => False
def am_getJ (live : am_E) (ci k nx : Nat) : am_S := fun L st M K => match st with
  | .ref n :: r => am_if (am_isO live ci n) (K nx L (.long (M.2 n k) :: r) M)
  | _ => False
def am_getR (live : am_E) (ci k nx : Nat) : am_S := fun L st M K => match st with
  | .ref n :: r => am_if (am_isO live ci n) (am_ex (live.2 n k) (fun q => K nx L (.ref q :: r) M))
  | _ => False
def am_putI (live : am_E) (ci k nx : Nat) : am_S := fun L st M K => match st with
  | .int x :: .ref n :: r => am_if (am_isO live ci n) (K nx L r (am_wI M n k x))
  | _ => False
def am_putZ (live : am_E) (ci k nx : Nat) : am_S := fun L st M K => match st with
  | .int x :: .ref n :: r => am_if (am_isO live ci n) ((x = 0 ∨ x = 1) ∧ K nx L r (am_wI M n k x))
  | _ => False
def am_putJ (live : am_E) (ci k nx : Nat) : am_S := fun L st M K => match st with
  | .long x :: .ref n :: r => am_if (am_isO live ci n) (K nx L r (am_wJ M n k x))
  | _ => False
def am_in (j : Int32) (N : Nat) : Prop := 0 ≤ j.toInt ∧ j.toInt < (N : Int)
def am_ald (live : am_E) (t nx : Nat) : am_S := fun L st M K => match st with
  | .int j :: .ref n :: r => am_if (am_isA live t n) (am_in j (am_len n) ∧ K nx L (.int (M.1 n j.toNatClampNeg) :: r) M)
  | _ => False
def am_sld (k nx : Nat) : am_S := fun L st M K => match st with
  | .int j :: .ref n :: r => am_if (Nat.beq n (1000 + k)) (am_in j (am_sN k) ∧ K nx L (.int (am_sf k j.toNatClampNeg) :: r) M)
  | _ => False
def am_lald (live : am_E) (t nx : Nat) : am_S := fun L st M K => match st with
  | .int j :: .ref n :: r => am_if (am_isA live t n) (am_in j (am_len n) ∧ K nx L (.long (M.2 n j.toNatClampNeg) :: r) M)
  | _ => False
def am_aald (live : am_E) (t nx : Nat) : am_S := fun L st M K => match st with
  | .int j :: .ref n :: r => am_if (am_isA live t n) (am_in j (am_len n) ∧ (am_ex (live.2 n j.toNatClampNeg) (fun q => K nx L (.ref q :: r) M)))
  | _ => False
def am_ast (live : am_E) (t nx : Nat) : am_S := fun L st M K => match st with
  | .int x :: .int j :: .ref n :: r => am_if (am_isA live t n) (am_in j (am_len n) ∧ K nx L r (am_wI M n j.toNatClampNeg x))
  | _ => False
def am_zst (live : am_E) (t nx : Nat) : am_S := fun L st M K => match st with
  | .int x :: .int j :: .ref n :: r => am_if (am_isA live t n) (am_in j (am_len n) ∧ K nx L r (am_wI M n j.toNatClampNeg (vp_nar .boolean x)))
  | _ => False
def am_last (live : am_E) (t nx : Nat) : am_S := fun L st M K => match st with
  | .long x :: .int j :: .ref n :: r => am_if (am_isA live t n) (am_in j (am_len n) ∧ K nx L r (am_wJ M n j.toNatClampNeg x))
  | _ => False
def am_alen (live : am_E) (t nx : Nat) : am_S := fun L st M K => match st with
  | .ref n :: r => am_if (am_isA live t n) (K nx L (.int (Int32.ofNat (am_len n)) :: r) M)
  | _ => False
def am_retI (Ret : am_R) : am_S := fun L st M K => match st with
  | [.int v] => Ret (some (.int v)) M
  | _ => False
def am_retZ (Ret : am_R) : am_S := fun L st M K => match st with
  | [.int v] => (v = 0 ∨ v = 1) ∧ Ret (some (.int v)) M
  | _ => False
def am_retL (Ret : am_R) : am_S := fun L st M K => match st with
  | [.long v] => Ret (some (.long v)) M
  | _ => False
def am_retV (Ret : am_R) : am_S := fun L st M K => match st with
  | [] => Ret none M
  | _ => False
def am_cats (st : List Value) : Nat := (st.map fun v => v.category).sum
def am_callV (live : am_E) (ci n : Nat) (T : am_T) (nx : Nat) : am_S := fun L st M K => match st.drop n with
  | .ref q :: r => am_if (am_isO live ci q && Nat.beq (st.take n).length n && Nat.ble (am_cats r) 8) (T live (.ref q :: (st.take n).reverse) M (fun v M' => K nx L (v.toList ++ r) M'))
  | _ => False
def am_callS (live : am_E) (n : Nat) (T : am_T) (nx : Nat) : am_S := fun L st M K => am_if (Nat.beq (st.take n).length n && Nat.ble (am_cats (st.drop n)) 8) (T live (st.take n).reverse M (fun v M' => K nx L (v.toList ++ st.drop n) M'))
def am_math2 (f : Int32 → Int32 → Int32) (rl nx : Nat) : am_S := fun L st M K => match st with
  | .int y :: .int x :: r => am_if (Nat.ble (am_cats r + 13) rl) (K nx L (.int (f x y) :: r) M)
  | _ => False
def am_math1 (f : Int32 → Int32) (rl nx : Nat) : am_S := fun L st M K => match st with
  | .int x :: r => am_if (Nat.ble (am_cats r + 13) rl) (K nx L (.int (f x) :: r) M)
  | _ => False
def am_mathl (f : Int64 → Int64 → Int64) (rl nx : Nat) : am_S := fun L st M K => match st with
  | .long y :: .long x :: r => am_if (Nat.ble (am_cats r + 15) rl) (K nx L (.long (f x y) :: r) M)
  | _ => False
theorem am_in_vp {j : Int32} {N : Nat} (h : am_in j N) : vp_in j N := vp_in_iff.mpr h
theorem am_cats_cv (al : Nat → Nat) : ∀ st : List Value, ((st.map (am_cv al)).map fun v => v.category).sum = am_cats st
  | [] => rfl
  | v :: r => by
    show (am_cv al v).category + _ = v.category + am_cats r
    rw [am_cv_cat]
    exact congrArg (v.category + ·) (am_cats_cv al r)
section AK
variable {own : String} {cc : ByteArray} {nL : Nat} {rt : Option FieldType} {rf rl : Nat} {live : am_E} {Ret : am_R} {pc nx : Nat}
theorem ak_iconst {n : Int} {v : Int32} (hd : decode cc pc = .ok (.iconst n, 1)) (hv : Int32.ofInt n = v) (hn : pc + 1 = nx) : am_ok own cc nL rt rf rl live Ret pc (am_const (.int v) nx) := by
  subst hn
  intro p l e s m args below meth c D cA al B hC Y hY L st M K hK h H locs ls hP hS hl
  exact lv_iconst hC.1 hC.2.1 hd hv (hK _ _ _ _ h H locs ls hP hS hl)
theorem ak_bipush {n : Int} {v : Int32} (hd : decode cc pc = .ok (.bipush n, 2)) (hv : (Int8.ofInt n).toInt32 = v) (hn : pc + 2 = nx) : am_ok own cc nL rt rf rl live Ret pc (am_const (.int v) nx) := by
  subst hn
  intro p l e s m args below meth c D cA al B hC Y hY L st M K hK h H locs ls hP hS hl
  exact lv_bipush hC.1 hC.2.1 hd hv (hK _ _ _ _ h H locs ls hP hS hl)
theorem ak_sipush {n : Int} {v : Int32} (hd : decode cc pc = .ok (.sipush n, 3)) (hv : (Int16.ofInt n).toInt32 = v) (hn : pc + 3 = nx) : am_ok own cc nL rt rf rl live Ret pc (am_const (.int v) nx) := by
  subst hn
  intro p l e s m args below meth c D cA al B hC Y hY L st M K hK h H locs ls hP hS hl
  exact lv_sipush hC.1 hC.2.1 hd hv (hK _ _ _ _ h H locs ls hP hS hl)
theorem ak_lconst {n : Fin 2} {v : Int64} (hd : decode cc pc = .ok (.lconst n, 1)) (hv : Int64.ofNat (n : Nat) = v) (hn : pc + 1 = nx) : am_ok own cc nL rt rf rl live Ret pc (am_const (.long v) nx) := by
  subst hn
  intro p l e s m args below meth c D cA al B hC Y hY L st M K hK h H locs ls hP hS hl
  exact lv_lconst hC.1 hC.2.1 hd hv (hK _ _ _ _ h H locs ls hP hS hl)
theorem ak_ldc {idx : Nat} {v : Int32} (hw : Jvm.Cond.constant own idx v ∈ am_ws) (hd : decode cc pc = .ok (.ldc idx, 2)) (hn : pc + 2 = nx) : am_ok own cc nL rt rf rl live Ret pc (am_const (.int v) nx) := by
  subst hn
  intro p l e s m args below meth c D cA al B hC Y hY L st M K hK h H locs ls hP hS hl
  exact lv_ldc hC.1 hC.2.1 hC.2.2.2.1 (hC.2.2.2.2.1 _ hw) hd (hK _ _ _ _ h H locs ls hP hS hl)
theorem ak_ldcw {idx : Nat} {v : Int32} (hw : Jvm.Cond.constant own idx v ∈ am_ws) (hd : decode cc pc = .ok (.ldc_w idx, 3)) (hn : pc + 3 = nx) : am_ok own cc nL rt rf rl live Ret pc (am_const (.int v) nx) := by
  subst hn
  intro p l e s m args below meth c D cA al B hC Y hY L st M K hK h H locs ls hP hS hl
  exact lv_ldcw hC.1 hC.2.1 hC.2.2.2.1 (hC.2.2.2.2.1 _ hw) hd (hK _ _ _ _ h H locs ls hP hS hl)
theorem ak_ldc2 {idx : Nat} {v : Int64} (hw : Jvm.Cond.constantLong own idx v ∈ am_ws) (hd : decode cc pc = .ok (.ldc2_w idx, 3)) (hn : pc + 3 = nx) : am_ok own cc nL rt rf rl live Ret pc (am_const (.long v) nx) := by
  subst hn
  intro p l e s m args below meth c D cA al B hC Y hY L st M K hK h H locs ls hP hS hl
  exact lv_ldc2 hC.1 hC.2.1 hC.2.2.2.1 (hC.2.2.2.2.1 _ hw) hd (hK _ _ _ _ h H locs ls hP hS hl)
theorem am_ild {L : am_L} {i : Nat} {P : Int32 → Prop} (h : match am_g L i with | some (.int x) => P x | _ => False) : ∃ x, am_g L i = some (.int x) ∧ P x := by
  split at h
  · next x hx => exact ⟨x, hx, h⟩
  · exact h.elim
theorem am_lld {L : am_L} {i : Nat} {P : Int64 → Prop} (h : match am_g L i with | some (.long x) => P x | _ => False) : ∃ x, am_g L i = some (.long x) ∧ P x := by
  split at h
  · next x hx => exact ⟨x, hx, h⟩
  · exact h.elim
theorem am_all {L : am_L} {i : Nat} {P : Nat → Prop} (h : match am_g L i with | some (.ref x) => P x | _ => False) : ∃ x, am_g L i = some (.ref x) ∧ P x := by
  split at h
  · next x hx => exact ⟨x, hx, h⟩
  · exact h.elim
theorem ak_iload_n {k : Fin 4} {i : Nat} (hd : decode cc pc = .ok (.iload_n k, 1)) (hi : (k : Nat) = i) (hn : pc + 1 = nx) : am_ok own cc nL rt rf rl live Ret pc (am_iload i nx) := by
  subst hn
  intro p l e s m args below meth c D cA al B hC Y hY L st M K hK h H locs ls hP hS hl
  obtain ⟨x, hx, h⟩ := am_ild (P := fun x => K (pc + 1) L (.int x :: st) M) h
  exact lv_iload_n hC.1 hC.2.1 hd hi (am_lc_at hl hx) (hK _ _ _ _ h H locs ls hP hS hl)
theorem ak_iload {i : Nat} (hd : decode cc pc = .ok (.iload i, 2)) (hn : pc + 2 = nx) : am_ok own cc nL rt rf rl live Ret pc (am_iload i nx) := by
  subst hn
  intro p l e s m args below meth c D cA al B hC Y hY L st M K hK h H locs ls hP hS hl
  obtain ⟨x, hx, h⟩ := am_ild (P := fun x => K (pc + 2) L (.int x :: st) M) h
  exact lv_iload hC.1 hC.2.1 hd (am_lc_at hl hx) (hK _ _ _ _ h H locs ls hP hS hl)
theorem ak_lload_n {k : Fin 4} {i : Nat} (hd : decode cc pc = .ok (.lload_n k, 1)) (hi : (k : Nat) = i) (hn : pc + 1 = nx) : am_ok own cc nL rt rf rl live Ret pc (am_lload i nx) := by
  subst hn
  intro p l e s m args below meth c D cA al B hC Y hY L st M K hK h H locs ls hP hS hl
  obtain ⟨x, hx, h⟩ := am_lld (P := fun x => K (pc + 1) L (.long x :: st) M) h
  exact lv_lload_n hC.1 hC.2.1 hd hi (am_lc_at hl hx) (hK _ _ _ _ h H locs ls hP hS hl)
theorem ak_lload {i : Nat} (hd : decode cc pc = .ok (.lload i, 2)) (hn : pc + 2 = nx) : am_ok own cc nL rt rf rl live Ret pc (am_lload i nx) := by
  subst hn
  intro p l e s m args below meth c D cA al B hC Y hY L st M K hK h H locs ls hP hS hl
  obtain ⟨x, hx, h⟩ := am_lld (P := fun x => K (pc + 2) L (.long x :: st) M) h
  exact lv_lload hC.1 hC.2.1 hd (am_lc_at hl hx) (hK _ _ _ _ h H locs ls hP hS hl)
theorem ak_aload_n {k : Fin 4} {i : Nat} (hd : decode cc pc = .ok (.aload_n k, 1)) (hi : (k : Nat) = i) (hn : pc + 1 = nx) : am_ok own cc nL rt rf rl live Ret pc (am_aload i nx) := by
  subst hn
  intro p l e s m args below meth c D cA al B hC Y hY L st M K hK h H locs ls hP hS hl
  obtain ⟨x, hx, h⟩ := am_all (P := fun x => K (pc + 1) L (.ref x :: st) M) h
  exact lv_aload_n hC.1 hC.2.1 hd hi (am_lc_at hl hx) (hK _ _ _ _ h H locs ls hP hS hl)
theorem ak_aload {i : Nat} (hd : decode cc pc = .ok (.aload i, 2)) (hn : pc + 2 = nx) : am_ok own cc nL rt rf rl live Ret pc (am_aload i nx) := by
  subst hn
  intro p l e s m args below meth c D cA al B hC Y hY L st M K hK h H locs ls hP hS hl
  obtain ⟨x, hx, h⟩ := am_all (P := fun x => K (pc + 2) L (.ref x :: st) M) h
  exact lv_aload hC.1 hC.2.1 hd (am_lc_at hl hx) (hK _ _ _ _ h H locs ls hP hS hl)
theorem ak_istore_n {k : Fin 4} {i : Nat} (hd : decode cc pc = .ok (.istore_n k, 1)) (hi : (k : Nat) = i) (hn : pc + 1 = nx) : am_ok own cc nL rt rf rl live Ret pc (am_istore i nL nx) := by
  subst hn
  intro p l e s m args below meth c D cA al B hC Y hY L st M K hK h H locs ls hP hS hl
  unfold am_istore at h
  split at h
  · next x r =>
    obtain ⟨hb, h⟩ := am_if_mp h
    rw [am_force_iff] at h
    exact lv_istore_n hC.1 hC.2.1 hd hi hl (Nat.le_of_ble_eq_true hb) (am_lc_s1 al i (.int x) L) (fun ls' hl' => hK _ _ _ _ h H locs ls' hP hS hl')
  · exact h.elim
theorem ak_istore {i : Nat} (hd : decode cc pc = .ok (.istore i, 2)) (hn : pc + 2 = nx) : am_ok own cc nL rt rf rl live Ret pc (am_istore i nL nx) := by
  subst hn
  intro p l e s m args below meth c D cA al B hC Y hY L st M K hK h H locs ls hP hS hl
  unfold am_istore at h
  split at h
  · next x r =>
    obtain ⟨hb, h⟩ := am_if_mp h
    rw [am_force_iff] at h
    exact lv_istore hC.1 hC.2.1 hd hl (Nat.le_of_ble_eq_true hb) (am_lc_s1 al i (.int x) L) (fun ls' hl' => hK _ _ _ _ h H locs ls' hP hS hl')
  · exact h.elim
theorem ak_astore_n {k : Fin 4} {i : Nat} (hd : decode cc pc = .ok (.astore_n k, 1)) (hi : (k : Nat) = i) (hn : pc + 1 = nx) : am_ok own cc nL rt rf rl live Ret pc (am_astore i nL nx) := by
  subst hn
  intro p l e s m args below meth c D cA al B hC Y hY L st M K hK h H locs ls hP hS hl
  unfold am_astore at h
  split at h
  · next x r =>
    obtain ⟨hb, h⟩ := am_if_mp h
    rw [am_force_iff] at h
    exact lv_astore_n hC.1 hC.2.1 hd hi hl (Nat.le_of_ble_eq_true hb) (am_lc_s1 al i (.ref x) L) (fun ls' hl' => hK _ _ _ _ h H locs ls' hP hS hl')
  · exact h.elim
theorem ak_astore {i : Nat} (hd : decode cc pc = .ok (.astore i, 2)) (hn : pc + 2 = nx) : am_ok own cc nL rt rf rl live Ret pc (am_astore i nL nx) := by
  subst hn
  intro p l e s m args below meth c D cA al B hC Y hY L st M K hK h H locs ls hP hS hl
  unfold am_astore at h
  split at h
  · next x r =>
    obtain ⟨hb, h⟩ := am_if_mp h
    rw [am_force_iff] at h
    exact lv_astore hC.1 hC.2.1 hd hl (Nat.le_of_ble_eq_true hb) (am_lc_s1 al i (.ref x) L) (fun ls' hl' => hK _ _ _ _ h H locs ls' hP hS hl')
  · exact h.elim
theorem ak_lstore_n {k : Fin 4} {i : Nat} (hd : decode cc pc = .ok (.lstore_n k, 1)) (hi : (k : Nat) = i) (hn : pc + 1 = nx) : am_ok own cc nL rt rf rl live Ret pc (am_lstore i nL nx) := by
  subst hn
  intro p l e s m args below meth c D cA al B hC Y hY L st M K hK h H locs ls hP hS hl
  unfold am_lstore at h
  split at h
  · next x r =>
    obtain ⟨hb, h⟩ := am_if_mp h
    rw [am_force_iff] at h
    exact lv_lstore_n hC.1 hC.2.1 hd hi hl (Nat.le_of_ble_eq_true hb) (am_lc_s2 al i (.long x) L) (fun ls' hl' => hK _ _ _ _ h H locs ls' hP hS hl')
  · exact h.elim
theorem ak_lstore {i : Nat} (hd : decode cc pc = .ok (.lstore i, 2)) (hn : pc + 2 = nx) : am_ok own cc nL rt rf rl live Ret pc (am_lstore i nL nx) := by
  subst hn
  intro p l e s m args below meth c D cA al B hC Y hY L st M K hK h H locs ls hP hS hl
  unfold am_lstore at h
  split at h
  · next x r =>
    obtain ⟨hb, h⟩ := am_if_mp h
    rw [am_force_iff] at h
    exact lv_lstore hC.1 hC.2.1 hd hl (Nat.le_of_ble_eq_true hb) (am_lc_s2 al i (.long x) L) (fun ls' hl' => hK _ _ _ _ h H locs ls' hP hS hl')
  · exact h.elim
theorem ak_iinc {i : Nat} {n : Int} {d : Int32} (hd : decode cc pc = .ok (.iinc i n, 3)) (hv : Int32.ofInt n = d) (hn : pc + 3 = nx) : am_ok own cc nL rt rf rl live Ret pc (am_iinc i nL d nx) := by
  subst hn
  subst hv
  intro p l e s m args below meth c D cA al B hC Y hY L st M K hK h H locs ls hP hS hl
  obtain ⟨x, hx, h⟩ := am_ild (P := fun x => am_if (Nat.blt i nL) (am_force (am_s1 i (.int (x + Int32.ofInt n)) L) (fun L' => K (pc + 3) L' st M))) h
  obtain ⟨hb, h⟩ := am_if_mp h
  rw [am_force_iff] at h
  obtain ⟨k, hk⟩ := am_lc_pl (al := al) hx
  exact lv_iinc hC.1 hC.2.1 hd hl hk rfl (Nat.le_of_ble_eq_true hb) (am_lc_s1 al i (.int (x + Int32.ofInt n)) L) (fun ls' hl' => hK _ _ _ _ h H locs ls' hP hS hl')
theorem ak_iadd (hd : decode cc pc = .ok (.iadd, 1)) (hn : pc + 1 = nx) : am_ok own cc nL rt rf rl live Ret pc (am_i2 (fun x y => x + y) nx) := by
  subst hn
  intro p l e s m args below meth c D cA al B hC Y hY L st M K hK h H locs ls hP hS hl
  unfold am_i2 at h
  split at h
  · exact lv_iadd hC.1 hC.2.1 hd (hK _ _ _ _ h H locs ls hP hS hl)
  · exact h.elim
theorem ak_isub (hd : decode cc pc = .ok (.isub, 1)) (hn : pc + 1 = nx) : am_ok own cc nL rt rf rl live Ret pc (am_i2 (fun x y => x - y) nx) := by
  subst hn
  intro p l e s m args below meth c D cA al B hC Y hY L st M K hK h H locs ls hP hS hl
  unfold am_i2 at h
  split at h
  · exact lv_isub hC.1 hC.2.1 hd (hK _ _ _ _ h H locs ls hP hS hl)
  · exact h.elim
theorem ak_imul (hd : decode cc pc = .ok (.imul, 1)) (hn : pc + 1 = nx) : am_ok own cc nL rt rf rl live Ret pc (am_i2 (fun x y => x * y) nx) := by
  subst hn
  intro p l e s m args below meth c D cA al B hC Y hY L st M K hK h H locs ls hP hS hl
  unfold am_i2 at h
  split at h
  · exact lv_imul hC.1 hC.2.1 hd (hK _ _ _ _ h H locs ls hP hS hl)
  · exact h.elim
theorem ak_iand (hd : decode cc pc = .ok (.iand, 1)) (hn : pc + 1 = nx) : am_ok own cc nL rt rf rl live Ret pc (am_i2 (fun x y => x &&& y) nx) := by
  subst hn
  intro p l e s m args below meth c D cA al B hC Y hY L st M K hK h H locs ls hP hS hl
  unfold am_i2 at h
  split at h
  · exact lv_iand hC.1 hC.2.1 hd (hK _ _ _ _ h H locs ls hP hS hl)
  · exact h.elim
theorem ak_ior (hd : decode cc pc = .ok (.ior, 1)) (hn : pc + 1 = nx) : am_ok own cc nL rt rf rl live Ret pc (am_i2 (fun x y => x ||| y) nx) := by
  subst hn
  intro p l e s m args below meth c D cA al B hC Y hY L st M K hK h H locs ls hP hS hl
  unfold am_i2 at h
  split at h
  · exact lv_ior hC.1 hC.2.1 hd (hK _ _ _ _ h H locs ls hP hS hl)
  · exact h.elim
theorem ak_ixor (hd : decode cc pc = .ok (.ixor, 1)) (hn : pc + 1 = nx) : am_ok own cc nL rt rf rl live Ret pc (am_i2 (fun x y => x ^^^ y) nx) := by
  subst hn
  intro p l e s m args below meth c D cA al B hC Y hY L st M K hK h H locs ls hP hS hl
  unfold am_i2 at h
  split at h
  · exact lv_ixor hC.1 hC.2.1 hd (hK _ _ _ _ h H locs ls hP hS hl)
  · exact h.elim
theorem ak_ishl (hd : decode cc pc = .ok (.ishl, 1)) (hn : pc + 1 = nx) : am_ok own cc nL rt rf rl live Ret pc (am_i2 (fun x y => x <<< (y &&& 31)) nx) := by
  subst hn
  intro p l e s m args below meth c D cA al B hC Y hY L st M K hK h H locs ls hP hS hl
  unfold am_i2 at h
  split at h
  · exact lv_ishl hC.1 hC.2.1 hd (hK _ _ _ _ h H locs ls hP hS hl)
  · exact h.elim
theorem ak_idiv (hd : decode cc pc = .ok (.idiv, 1)) (hn : pc + 1 = nx) : am_ok own cc nL rt rf rl live Ret pc (am_i2z (fun x y => x / y) nx) := by
  subst hn
  intro p l e s m args below meth c D cA al B hC Y hY L st M K hK h H locs ls hP hS hl
  unfold am_i2z at h
  split at h
  · exact lv_idiv hC.1 hC.2.1 hd h.1 (hK _ _ _ _ h.2 H locs ls hP hS hl)
  · exact h.elim
theorem ak_irem (hd : decode cc pc = .ok (.irem, 1)) (hn : pc + 1 = nx) : am_ok own cc nL rt rf rl live Ret pc (am_i2z (fun x y => x - x / y * y) nx) := by
  subst hn
  intro p l e s m args below meth c D cA al B hC Y hY L st M K hK h H locs ls hP hS hl
  unfold am_i2z at h
  split at h
  · exact lv_irem hC.1 hC.2.1 hd h.1 (hK _ _ _ _ h.2 H locs ls hP hS hl)
  · exact h.elim
theorem ak_ladd (hd : decode cc pc = .ok (.ladd, 1)) (hn : pc + 1 = nx) : am_ok own cc nL rt rf rl live Ret pc (am_l2 (fun x y => x + y) nx) := by
  subst hn
  intro p l e s m args below meth c D cA al B hC Y hY L st M K hK h H locs ls hP hS hl
  unfold am_l2 at h
  split at h
  · exact lv_ladd hC.1 hC.2.1 hd (hK _ _ _ _ h H locs ls hP hS hl)
  · exact h.elim
theorem ak_lsub (hd : decode cc pc = .ok (.lsub, 1)) (hn : pc + 1 = nx) : am_ok own cc nL rt rf rl live Ret pc (am_l2 (fun x y => x - y) nx) := by
  subst hn
  intro p l e s m args below meth c D cA al B hC Y hY L st M K hK h H locs ls hP hS hl
  unfold am_l2 at h
  split at h
  · exact lv_lsub hC.1 hC.2.1 hd (hK _ _ _ _ h H locs ls hP hS hl)
  · exact h.elim
theorem ak_lmul (hd : decode cc pc = .ok (.lmul, 1)) (hn : pc + 1 = nx) : am_ok own cc nL rt rf rl live Ret pc (am_l2 (fun x y => x * y) nx) := by
  subst hn
  intro p l e s m args below meth c D cA al B hC Y hY L st M K hK h H locs ls hP hS hl
  unfold am_l2 at h
  split at h
  · exact lv_lmul hC.1 hC.2.1 hd (hK _ _ _ _ h H locs ls hP hS hl)
  · exact h.elim
theorem ak_land (hd : decode cc pc = .ok (.land, 1)) (hn : pc + 1 = nx) : am_ok own cc nL rt rf rl live Ret pc (am_l2 (fun x y => x &&& y) nx) := by
  subst hn
  intro p l e s m args below meth c D cA al B hC Y hY L st M K hK h H locs ls hP hS hl
  unfold am_l2 at h
  split at h
  · exact lv_land hC.1 hC.2.1 hd (hK _ _ _ _ h H locs ls hP hS hl)
  · exact h.elim
theorem ak_lor (hd : decode cc pc = .ok (.lor, 1)) (hn : pc + 1 = nx) : am_ok own cc nL rt rf rl live Ret pc (am_l2 (fun x y => x ||| y) nx) := by
  subst hn
  intro p l e s m args below meth c D cA al B hC Y hY L st M K hK h H locs ls hP hS hl
  unfold am_l2 at h
  split at h
  · exact lv_lor hC.1 hC.2.1 hd (hK _ _ _ _ h H locs ls hP hS hl)
  · exact h.elim
theorem ak_lxor (hd : decode cc pc = .ok (.lxor, 1)) (hn : pc + 1 = nx) : am_ok own cc nL rt rf rl live Ret pc (am_l2 (fun x y => x ^^^ y) nx) := by
  subst hn
  intro p l e s m args below meth c D cA al B hC Y hY L st M K hK h H locs ls hP hS hl
  unfold am_l2 at h
  split at h
  · exact lv_lxor hC.1 hC.2.1 hd (hK _ _ _ _ h H locs ls hP hS hl)
  · exact h.elim
theorem ak_ldiv (hd : decode cc pc = .ok (.ldiv, 1)) (hn : pc + 1 = nx) : am_ok own cc nL rt rf rl live Ret pc (am_l2z (fun x y => x / y) nx) := by
  subst hn
  intro p l e s m args below meth c D cA al B hC Y hY L st M K hK h H locs ls hP hS hl
  unfold am_l2z at h
  split at h
  · exact lv_ldiv hC.1 hC.2.1 hd h.1 (hK _ _ _ _ h.2 H locs ls hP hS hl)
  · exact h.elim
theorem ak_lrem (hd : decode cc pc = .ok (.lrem, 1)) (hn : pc + 1 = nx) : am_ok own cc nL rt rf rl live Ret pc (am_l2z (fun x y => x - x / y * y) nx) := by
  subst hn
  intro p l e s m args below meth c D cA al B hC Y hY L st M K hK h H locs ls hP hS hl
  unfold am_l2z at h
  split at h
  · exact lv_lrem hC.1 hC.2.1 hd h.1 (hK _ _ _ _ h.2 H locs ls hP hS hl)
  · exact h.elim
theorem ak_ineg (hd : decode cc pc = .ok (.ineg, 1)) (hn : pc + 1 = nx) : am_ok own cc nL rt rf rl live Ret pc (am_i1 (fun x => -x) nx) := by
  subst hn
  intro p l e s m args below meth c D cA al B hC Y hY L st M K hK h H locs ls hP hS hl
  unfold am_i1 at h
  split at h
  · exact lv_ineg hC.1 hC.2.1 hd (hK _ _ _ _ h H locs ls hP hS hl)
  · exact h.elim
theorem ak_lneg (hd : decode cc pc = .ok (.lneg, 1)) (hn : pc + 1 = nx) : am_ok own cc nL rt rf rl live Ret pc (am_l1 (fun x => -x) nx) := by
  subst hn
  intro p l e s m args below meth c D cA al B hC Y hY L st M K hK h H locs ls hP hS hl
  unfold am_l1 at h
  split at h
  · exact lv_lneg hC.1 hC.2.1 hd (hK _ _ _ _ h H locs ls hP hS hl)
  · exact h.elim
theorem ak_i2l (hd : decode cc pc = .ok (.i2l, 1)) (hn : pc + 1 = nx) : am_ok own cc nL rt rf rl live Ret pc (am_i2l nx) := by
  subst hn
  intro p l e s m args below meth c D cA al B hC Y hY L st M K hK h H locs ls hP hS hl
  unfold am_i2l at h
  split at h
  · exact lv_i2l hC.1 hC.2.1 hd rfl (hK _ _ _ _ h H locs ls hP hS hl)
  · exact h.elim
theorem ak_l2i (hd : decode cc pc = .ok (.l2i, 1)) (hn : pc + 1 = nx) : am_ok own cc nL rt rf rl live Ret pc (am_l2i nx) := by
  subst hn
  intro p l e s m args below meth c D cA al B hC Y hY L st M K hK h H locs ls hP hS hl
  unfold am_l2i at h
  split at h
  · exact lv_l2i hC.1 hC.2.1 hd rfl (hK _ _ _ _ h H locs ls hP hS hl)
  · exact h.elim
theorem ak_lcmp (hd : decode cc pc = .ok (.lcmp, 1)) (hn : pc + 1 = nx) : am_ok own cc nL rt rf rl live Ret pc (am_lcmp nx) := by
  subst hn
  intro p l e s m args below meth c D cA al B hC Y hY L st M K hK h H locs ls hP hS hl
  unfold am_lcmp at h
  split at h
  · exact W.lcmp hC.1 hC.2.1 hd (hK _ _ _ _ h H locs ls hP hS hl)
  · exact h.elim
theorem ak_lshl (hd : decode cc pc = .ok (.lshl, 1)) (hn : pc + 1 = nx) : am_ok own cc nL rt rf rl live Ret pc (am_lsh (fun x y => x <<< (y.toInt64 &&& 63)) nx) := by
  subst hn
  intro p l e s m args below meth c D cA al B hC Y hY L st M K hK h H locs ls hP hS hl
  unfold am_lsh at h
  split at h
  · exact lv_lshl hC.1 hC.2.1 hd rfl (hK _ _ _ _ h H locs ls hP hS hl)
  · exact h.elim
theorem ak_dup (hd : decode cc pc = .ok (.dup, 1)) (hn : pc + 1 = nx) : am_ok own cc nL rt rf rl live Ret pc (am_dup nx) := by
  subst hn
  intro p l e s m args below meth c D cA al B hC Y hY L st M K hK h H locs ls hP hS hl
  unfold am_dup at h
  split at h
  · obtain ⟨hb, h⟩ := am_if_mp h
    exact lv_dup hC.1 hC.2.1 hd (by rw [am_cv_cat]; exact Nat.eq_of_beq_eq_true hb) (hK _ _ _ _ h H locs ls hP hS hl)
  · exact h.elim
theorem ak_pop (hd : decode cc pc = .ok (.pop, 1)) (hn : pc + 1 = nx) : am_ok own cc nL rt rf rl live Ret pc (am_pop nx) := by
  subst hn
  intro p l e s m args below meth c D cA al B hC Y hY L st M K hK h H locs ls hP hS hl
  unfold am_pop at h
  split at h
  · obtain ⟨hb, h⟩ := am_if_mp h
    exact lv_pop hC.1 hC.2.1 hd (by rw [am_cv_cat]; exact Nat.eq_of_beq_eq_true hb) (hK _ _ _ _ h H locs ls hP hS hl)
  · exact h.elim
theorem ak_pop2 (hd : decode cc pc = .ok (.pop2, 1)) (hn : pc + 1 = nx) : am_ok own cc nL rt rf rl live Ret pc (am_pop2 nx) := by
  subst hn
  intro p l e s m args below meth c D cA al B hC Y hY L st M K hK h H locs ls hP hS hl
  unfold am_pop2 at h
  split at h
  · exact lv_pop2_2 hC.1 hC.2.1 hd rfl (hK _ _ _ _ h H locs ls hP hS hl)
  · exact h.elim
theorem ak_dup2 (hd : decode cc pc = .ok (.dup2, 1)) (hn : pc + 1 = nx) : am_ok own cc nL rt rf rl live Ret pc (am_dup2 nx) := by
  subst hn
  intro p l e s m args below meth c D cA al B hC Y hY L st M K hK h H locs ls hP hS hl
  unfold am_dup2 at h
  split at h
  · exact lv_dup2_2 hC.1 hC.2.1 hd rfl (hK _ _ _ _ h H locs ls hP hS hl)
  · obtain ⟨hb, h⟩ := am_if_mp h
    rw [Bool.and_eq_true] at hb
    exact lv_dup2_11 hC.1 hC.2.1 hd (by rw [am_cv_cat]; exact Nat.eq_of_beq_eq_true hb.1) (by rw [am_cv_cat]; exact Nat.eq_of_beq_eq_true hb.2) (hK _ _ _ _ h H locs ls hP hS hl)
  · exact h.elim
theorem ak_goto {off : Int} {tg : Nat} (hd : decode cc pc = .ok (.goto off, 3)) (ht : (pc : Int) + off = (tg : Int)) : am_ok own cc nL rt rf rl live Ret pc (am_goto tg) := by
  intro p l e s m args below meth c D cA al B hC Y hY L st M K hK h H locs ls hP hS hl
  exact lv_goto hC.1 hC.2.1 hd ht (hK _ _ _ _ h H locs ls hP hS hl)
theorem ak_if_eq {off : Int} {tg : Nat} (hd : decode cc pc = .ok (.ifCond .eq off, 3)) (ht : (pc : Int) + off = (tg : Int)) (hn : pc + 3 = nx) : am_ok own cc nL rt rf rl live Ret pc (am_if1 (fun x => x = 0) tg nx) := by
  subst hn
  intro p l e s m args below meth c D cA al B hC Y hY L st M K hK h H locs ls hP hS hl
  unfold am_if1 at h
  split at h
  · exact lv_if_eq hC.1 hC.2.1 hd ht (fun z => hK _ _ _ _ (h.1 z) H locs ls hP hS hl) (fun z => hK _ _ _ _ (h.2 z) H locs ls hP hS hl)
  · exact h.elim
theorem ak_icmp_eq {off : Int} {tg : Nat} (hd : decode cc pc = .ok (.if_icmp .eq off, 3)) (ht : (pc : Int) + off = (tg : Int)) (hn : pc + 3 = nx) : am_ok own cc nL rt rf rl live Ret pc (am_if2 (fun x y => x = y) tg nx) := by
  subst hn
  intro p l e s m args below meth c D cA al B hC Y hY L st M K hK h H locs ls hP hS hl
  unfold am_if2 at h
  split at h
  · exact lv_icmp_eq hC.1 hC.2.1 hd ht (fun z => hK _ _ _ _ (h.1 z) H locs ls hP hS hl) (fun z => hK _ _ _ _ (h.2 z) H locs ls hP hS hl)
  · exact h.elim
theorem ak_if_ne {off : Int} {tg : Nat} (hd : decode cc pc = .ok (.ifCond .ne off, 3)) (ht : (pc : Int) + off = (tg : Int)) (hn : pc + 3 = nx) : am_ok own cc nL rt rf rl live Ret pc (am_if1 (fun x => x = 0) nx tg) := by
  subst hn
  intro p l e s m args below meth c D cA al B hC Y hY L st M K hK h H locs ls hP hS hl
  unfold am_if1 at h
  split at h
  · exact lv_if_ne hC.1 hC.2.1 hd ht (fun z => hK _ _ _ _ (h.2 z) H locs ls hP hS hl) (fun z => hK _ _ _ _ (h.1 z) H locs ls hP hS hl)
  · exact h.elim
theorem ak_icmp_ne {off : Int} {tg : Nat} (hd : decode cc pc = .ok (.if_icmp .ne off, 3)) (ht : (pc : Int) + off = (tg : Int)) (hn : pc + 3 = nx) : am_ok own cc nL rt rf rl live Ret pc (am_if2 (fun x y => x = y) nx tg) := by
  subst hn
  intro p l e s m args below meth c D cA al B hC Y hY L st M K hK h H locs ls hP hS hl
  unfold am_if2 at h
  split at h
  · exact lv_icmp_ne hC.1 hC.2.1 hd ht (fun z => hK _ _ _ _ (h.2 z) H locs ls hP hS hl) (fun z => hK _ _ _ _ (h.1 z) H locs ls hP hS hl)
  · exact h.elim
theorem ak_if_lt {off : Int} {tg : Nat} (hd : decode cc pc = .ok (.ifCond .lt off, 3)) (ht : (pc : Int) + off = (tg : Int)) (hn : pc + 3 = nx) : am_ok own cc nL rt rf rl live Ret pc (am_if1 (fun x => x < 0) tg nx) := by
  subst hn
  intro p l e s m args below meth c D cA al B hC Y hY L st M K hK h H locs ls hP hS hl
  unfold am_if1 at h
  split at h
  · exact lv_if_lt hC.1 hC.2.1 hd ht (fun z => hK _ _ _ _ (h.1 z) H locs ls hP hS hl) (fun z => hK _ _ _ _ (h.2 z) H locs ls hP hS hl)
  · exact h.elim
theorem ak_icmp_lt {off : Int} {tg : Nat} (hd : decode cc pc = .ok (.if_icmp .lt off, 3)) (ht : (pc : Int) + off = (tg : Int)) (hn : pc + 3 = nx) : am_ok own cc nL rt rf rl live Ret pc (am_if2 (fun x y => x < y) tg nx) := by
  subst hn
  intro p l e s m args below meth c D cA al B hC Y hY L st M K hK h H locs ls hP hS hl
  unfold am_if2 at h
  split at h
  · exact lv_icmp_lt hC.1 hC.2.1 hd ht (fun z => hK _ _ _ _ (h.1 z) H locs ls hP hS hl) (fun z => hK _ _ _ _ (h.2 z) H locs ls hP hS hl)
  · exact h.elim
theorem ak_if_ge {off : Int} {tg : Nat} (hd : decode cc pc = .ok (.ifCond .ge off, 3)) (ht : (pc : Int) + off = (tg : Int)) (hn : pc + 3 = nx) : am_ok own cc nL rt rf rl live Ret pc (am_if1 (fun x => 0 ≤ x) tg nx) := by
  subst hn
  intro p l e s m args below meth c D cA al B hC Y hY L st M K hK h H locs ls hP hS hl
  unfold am_if1 at h
  split at h
  · exact lv_if_ge hC.1 hC.2.1 hd ht (fun z => hK _ _ _ _ (h.1 z) H locs ls hP hS hl) (fun z => hK _ _ _ _ (h.2 z) H locs ls hP hS hl)
  · exact h.elim
theorem ak_icmp_ge {off : Int} {tg : Nat} (hd : decode cc pc = .ok (.if_icmp .ge off, 3)) (ht : (pc : Int) + off = (tg : Int)) (hn : pc + 3 = nx) : am_ok own cc nL rt rf rl live Ret pc (am_if2 (fun x y => y ≤ x) tg nx) := by
  subst hn
  intro p l e s m args below meth c D cA al B hC Y hY L st M K hK h H locs ls hP hS hl
  unfold am_if2 at h
  split at h
  · exact lv_icmp_ge hC.1 hC.2.1 hd ht (fun z => hK _ _ _ _ (h.1 z) H locs ls hP hS hl) (fun z => hK _ _ _ _ (h.2 z) H locs ls hP hS hl)
  · exact h.elim
theorem ak_if_gt {off : Int} {tg : Nat} (hd : decode cc pc = .ok (.ifCond .gt off, 3)) (ht : (pc : Int) + off = (tg : Int)) (hn : pc + 3 = nx) : am_ok own cc nL rt rf rl live Ret pc (am_if1 (fun x => 0 < x) tg nx) := by
  subst hn
  intro p l e s m args below meth c D cA al B hC Y hY L st M K hK h H locs ls hP hS hl
  unfold am_if1 at h
  split at h
  · exact lv_if_gt hC.1 hC.2.1 hd ht (fun z => hK _ _ _ _ (h.1 z) H locs ls hP hS hl) (fun z => hK _ _ _ _ (h.2 z) H locs ls hP hS hl)
  · exact h.elim
theorem ak_icmp_gt {off : Int} {tg : Nat} (hd : decode cc pc = .ok (.if_icmp .gt off, 3)) (ht : (pc : Int) + off = (tg : Int)) (hn : pc + 3 = nx) : am_ok own cc nL rt rf rl live Ret pc (am_if2 (fun x y => y < x) tg nx) := by
  subst hn
  intro p l e s m args below meth c D cA al B hC Y hY L st M K hK h H locs ls hP hS hl
  unfold am_if2 at h
  split at h
  · exact lv_icmp_gt hC.1 hC.2.1 hd ht (fun z => hK _ _ _ _ (h.1 z) H locs ls hP hS hl) (fun z => hK _ _ _ _ (h.2 z) H locs ls hP hS hl)
  · exact h.elim
theorem ak_if_le {off : Int} {tg : Nat} (hd : decode cc pc = .ok (.ifCond .le off, 3)) (ht : (pc : Int) + off = (tg : Int)) (hn : pc + 3 = nx) : am_ok own cc nL rt rf rl live Ret pc (am_if1 (fun x => x ≤ 0) tg nx) := by
  subst hn
  intro p l e s m args below meth c D cA al B hC Y hY L st M K hK h H locs ls hP hS hl
  unfold am_if1 at h
  split at h
  · exact lv_if_le hC.1 hC.2.1 hd ht (fun z => hK _ _ _ _ (h.1 z) H locs ls hP hS hl) (fun z => hK _ _ _ _ (h.2 z) H locs ls hP hS hl)
  · exact h.elim
theorem ak_icmp_le {off : Int} {tg : Nat} (hd : decode cc pc = .ok (.if_icmp .le off, 3)) (ht : (pc : Int) + off = (tg : Int)) (hn : pc + 3 = nx) : am_ok own cc nL rt rf rl live Ret pc (am_if2 (fun x y => x ≤ y) tg nx) := by
  subst hn
  intro p l e s m args below meth c D cA al B hC Y hY L st M K hK h H locs ls hP hS hl
  unfold am_if2 at h
  split at h
  · exact lv_icmp_le hC.1 hC.2.1 hd ht (fun z => hK _ _ _ _ (h.1 z) H locs ls hP hS hl) (fun z => hK _ _ _ _ (h.2 z) H locs ls hP hS hl)
  · exact h.elim
end AK
