/-! System.arraycopy: the whole memory as one world of the kit's -/
def am_wl (live : am_E) : List Nat := (List.range 400).filter live.1
def am_ws0 (cA : Nat → ClassId) (al : Nat → Nat) (live : am_E) (M : am_M) : va_W := (am_wl live).map (fun n => (al n, am_ce live.2 cA al M n))
theorem am_wl_nd (live : am_E) : (am_wl live).Pairwise (fun a b => a ≠ b) := List.Pairwise.filter _ List.nodup_range
theorem am_wl_at {live : am_E} {n : Nat} (h : live.1 n = true) (hb : n < 400) : ∃ k : Nat, (am_wl live)[k]? = some n := List.getElem?_of_mem (List.mem_filter.mpr ⟨List.mem_range.mpr hb, h⟩)
theorem am_wl_live {live : am_E} {k n : Nat} (h : (am_wl live)[k]? = some n) : live.1 n = true := (List.mem_filter.mp (List.mem_of_getElem? h)).2
theorem am_ws0_at {cA : Nat → ClassId} {al : Nat → Nat} {live : am_E} {M : am_M} {k n : Nat} (h : (am_wl live)[k]? = some n) : (am_ws0 cA al live M)[k]? = some (al n, am_ce live.2 cA al M n) := by
  unfold am_ws0
  rw [List.getElem?_map, h]
  rfl
theorem am_ws0_of {cA : Nat → ClassId} {al : Nat → Nat} {live : am_E} {M : am_M} {k : Nat} {q : Nat × va_E} (h : (am_ws0 cA al live M)[k]? = some q) : ∃ n, (am_wl live)[k]? = some n ∧ q = (al n, am_ce live.2 cA al M n) := by
  unfold am_ws0 at h
  rw [List.getElem?_map] at h
  cases hn : (am_wl live)[k]? with
  | none => rw [hn] at h; cases h
  | some n => rw [hn] at h; exact ⟨n, rfl, (Option.some.inj h).symm⟩
theorem am_wl_inj {live : am_E} {i j n : Nat} (hi : (am_wl live)[i]? = some n) (hj : (am_wl live)[j]? = some n) : i = j := by
  obtain ⟨h1, e1⟩ := List.getElem?_eq_some_iff.mp hi
  obtain ⟨h2, e2⟩ := List.getElem?_eq_some_iff.mp hj
  have hp := List.pairwise_iff_getElem.mp (am_wl_nd live)
  rcases Nat.lt_trichotomy i j with h | h | h
  · exact absurd (e1.trans e2.symm) (hp i j h1 h2 h)
  · exact h
  · exact absurd (e2.trans e1.symm) (hp j i h2 h1 h)
theorem am_P_ws {D : va_G} {cA : Nat → ClassId} {al : Nat → Nat} {B : Nat} {live : am_E} {M : am_M} {H : Heap} (h : am_P D cA al B live M H) : va_P D am_cl (am_ws0 cA al live M) H ∧ va_D (fun q => B ≤ q) (am_ws0 cA al live M) := by
  refine ⟨fun k q hq => ?_, fun i j x y hx hy hxy => ?_, fun k q hq => ?_⟩
  · obtain ⟨n, hn, rfl⟩ := am_ws0_of hq
    exact h.1 n (am_wl_live hn)
  · obtain ⟨n, hn, rfl⟩ := am_ws0_of hx
    obtain ⟨m, hm, rfl⟩ := am_ws0_of hy
    have e := h.2.1 n m (am_wl_live hn) (am_wl_live hm) hxy
    subst e
    exact am_wl_inj hn hm
  · obtain ⟨n, hn, rfl⟩ := am_ws0_of hq
    exact h.2.2.1 n (am_wl_live hn)
theorem am_ws_P {D : va_G} {cA : Nat → ClassId} {al : Nat → Nat} {B : Nat} {live : am_E} {M M' : am_M} {H H1 : Heap} {d k : Nat} {e : va_E} (h : am_P D cA al B live M H) (hk : (am_wl live)[k]? = some d) (hP1 : va_P D am_cl ((am_ws0 cA al live M).set k (al d, e)) H1) (he : am_ce live.2 cA al M' d = e) (ho : ∀ m, m ≠ d → am_ce live.2 cA al M' m = am_ce live.2 cA al M m) : am_P D cA al B live M' H1 := by
  refine ⟨fun n hn => ?_, h.2⟩
  obtain ⟨j, hj⟩ := am_wl_at hn (h.2.2.2 n hn)
  have hlt : j < (am_ws0 cA al live M).length := by
    unfold am_ws0
    rw [List.length_map]
    exact (List.getElem?_eq_some_iff.mp hj).1
  by_cases hd : n = d
  · subst hd
    have hjk := am_wl_inj hj hk
    subst hjk
    have := hP1 j (al n, e) (by rw [List.getElem?_set_self hlt])
    rw [he]
    exact this
  · have hjk : k ≠ j := fun q => by
      subst q
      rw [hj] at hk
      exact hd (Option.some.inj hk)
    rw [ho n hd]
    exact hP1 j _ (by rw [List.getElem?_set_ne hjk]; exact am_ws0_at hj)
def am_cpw : Nat := nativeFrameWords "java/lang/System" "arraycopy" 5 + 11
def am_cpin (sp dp n : Int32) (ls ld : Nat) : Prop := 0 ≤ sp.toInt ∧ 0 ≤ dp.toInt ∧ 0 ≤ n.toInt ∧ sp.toInt + n.toInt ≤ (ls : Int) ∧ dp.toInt + n.toInt ≤ (ld : Int)
def am_copyI (live : am_E) (rl nx : Nat) : am_S := fun L st M K => match st with
  | .int n :: .int dp :: .ref d :: .int sp :: .ref q :: r => am_if (am_isA live 0 q && am_isA live 0 d && Nat.ble (am_cats r + 23) rl) (am_cpin sp dp n (am_len q) (am_len d) ∧ K nx L r (am_cI M d (va_cpy (M.1 q) (M.1 d) sp.toNatClampNeg dp.toNatClampNeg n.toNatClampNeg)))
  | _ => False
def am_copyJ (live : am_E) (rl nx : Nat) : am_S := fun L st M K => match st with
  | .int n :: .int dp :: .ref d :: .int sp :: .ref q :: r => am_if (am_isA live 1 q && am_isA live 1 d && Nat.ble (am_cats r + 23) rl) (am_cpin sp dp n (am_len q) (am_len d) ∧ K nx L r (am_cJ M d (va_cpy (M.2 q) (M.2 d) sp.toNatClampNeg dp.toNatClampNeg n.toNatClampNeg)))
  | _ => False
theorem am_cpw_le : am_cpw ≤ 23 := by decide +kernel
theorem am_nneg {z : Int32} (h : 0 ≤ z.toInt) : ¬ z < 0 ∧ (z.toNatClampNeg : Int) = z.toInt := by
  refine ⟨fun q => ?_, ?_⟩
  · have := Int32.lt_iff_toInt_lt.mp q
    rw [Int32.toInt_zero] at this
    omega
  · show ((z.toInt.toNat : Nat) : Int) = z.toInt
    omega
theorem ak_copyI {own : String} {cc : ByteArray} {nL : Nat} {rt : Option FieldType} {rf rl : Nat} {live : am_E} {Ret : am_R} {pc nx idx : Nat} (hw : ∀ w ∈ ([.methodLink own idx arraycopyName, .native arraycopyName, .static arraycopyName, .initialized "java/lang/System"] : List Cond), w ∈ am_ws) (hfr : 1 ≤ rf) (hd : decode cc pc = .ok (.invokestatic idx, 3)) (hn : pc + 3 = nx) : am_ok own cc nL rt rf rl live Ret pc (am_copyI live rl nx) := by
  subst hn
  intro p l e s m args below meth c D cA al B hC Y hY L st M K hKK h H locs ls hP hS hl
  obtain ⟨hx, hb, hml, hown, hts, hlk, hr, hK, hB, hZ, hN⟩ := id hC
  unfold am_copyI at h
  split at h
  · next n dp d sp q r =>
    obtain ⟨hbb, ⟨c1, c2, c3, c4, c5⟩, h⟩ := am_if_mp h
    rw [Bool.and_eq_true, Bool.and_eq_true] at hbb
    obtain ⟨⟨hq, hd2⟩, hle⟩ := hbb
    have hle := Nat.le_of_ble_eq_true hle
    obtain ⟨hlq, hsq⟩ := am_isA_spec hq
    obtain ⟨hld, hsd⟩ := am_isA_spec hd2
    obtain ⟨kq, hkq⟩ := am_wl_at hlq (hP.2.2.2 q hlq)
    obtain ⟨kd, hkd⟩ := am_wl_at hld (hP.2.2.2 d hld)
    obtain ⟨hP0, hD0⟩ := am_P_ws hP
    have e0 := am_ws0_at (cA := cA) (al := al) (M := M) hkq
    have e1 := am_ws0_at (cA := cA) (al := al) (M := M) hkd
    rw [am_ceA hsq, am_ae0 (t := 0) rfl] at e0
    rw [am_ceA hsd, am_ae0 (t := 0) rfl] at e1
    obtain ⟨n1, m1⟩ := am_nneg c1
    obtain ⟨n2, m2⟩ := am_nneg c2
    obtain ⟨n3, m3⟩ := am_nneg c3
    refine va_copyi (D := D) (cl := am_cl) (tys := am_tys cA) (ty := .int) hx hb (by rw [hml]; exact hl.1.symm) hown (hts _ (hw _ (by simp))) (hts _ (hw _ (by simp))) (hts _ (hw _ (by simp))) (hts _ (hw _ (by simp))) hK hP0 hD0 hS kq kd 0 0 e0 e1 rfl rfl rfl n1 n2 n3 (by omega) (by omega) (fun _ _ => rfl) (Nat.le_trans hfr hY.1) (by rw [am_cats_cv]; have := am_cpw_le; unfold am_cpw at this; refine Nat.le_trans ?_ hY.2.1; omega) hd (fun H1 locs1 hP1 hD1 hS1 => ?_)
    refine hKK _ _ _ _ h H1 locs1 ls (am_ws_P hP hkd hP1 ?_ (fun m hm => ?_)) hS1 hl
    · rw [am_ceA hsd, am_ae0 (t := 0) rfl]
      refine congrArg (fun f => Sum.inl (cA 0, am_len d, Sum.inl f)) ?_
      funext j
      exact if_pos rfl
    · refine am_ceO ?_ rfl
      funext j
      exact if_neg hm
  · exact h.elim
theorem ak_copyJ {own : String} {cc : ByteArray} {nL : Nat} {rt : Option FieldType} {rf rl : Nat} {live : am_E} {Ret : am_R} {pc nx idx : Nat} (hw : ∀ w ∈ ([.methodLink own idx arraycopyName, .native arraycopyName, .static arraycopyName, .initialized "java/lang/System"] : List Cond), w ∈ am_ws) (hfr : 1 ≤ rf) (hd : decode cc pc = .ok (.invokestatic idx, 3)) (hn : pc + 3 = nx) : am_ok own cc nL rt rf rl live Ret pc (am_copyJ live rl nx) := by
  subst hn
  intro p l e s m args below meth c D cA al B hC Y hY L st M K hKK h H locs ls hP hS hl
  obtain ⟨hx, hb, hml, hown, hts, hlk, hr, hK, hB, hZ, hN⟩ := id hC
  unfold am_copyJ at h
  split at h
  · next n dp d sp q r =>
    obtain ⟨hbb, ⟨c1, c2, c3, c4, c5⟩, h⟩ := am_if_mp h
    rw [Bool.and_eq_true, Bool.and_eq_true] at hbb
    obtain ⟨⟨hq, hd2⟩, hle⟩ := hbb
    have hle := Nat.le_of_ble_eq_true hle
    obtain ⟨hlq, hsq⟩ := am_isA_spec hq
    obtain ⟨hld, hsd⟩ := am_isA_spec hd2
    obtain ⟨kq, hkq⟩ := am_wl_at hlq (hP.2.2.2 q hlq)
    obtain ⟨kd, hkd⟩ := am_wl_at hld (hP.2.2.2 d hld)
    obtain ⟨hP0, hD0⟩ := am_P_ws hP
    have e0 := am_ws0_at (cA := cA) (al := al) (M := M) hkq
    have e1 := am_ws0_at (cA := cA) (al := al) (M := M) hkd
    rw [am_ceA hsq, am_ae1 (t := 1) rfl] at e0
    rw [am_ceA hsd, am_ae1 (t := 1) rfl] at e1
    obtain ⟨n1, m1⟩ := am_nneg c1
    obtain ⟨n2, m2⟩ := am_nneg c2
    obtain ⟨n3, m3⟩ := am_nneg c3
    refine va_copyl (D := D) (cl := am_cl) (tys := am_tys cA) (ty := .long) hx hb (by rw [hml]; exact hl.1.symm) hown (hts _ (hw _ (by simp))) (hts _ (hw _ (by simp))) (hts _ (hw _ (by simp))) (hts _ (hw _ (by simp))) hK hP0 hD0 hS kq kd 1 1 e0 e1 rfl rfl rfl n1 n2 n3 (by omega) (by omega) (fun _ _ => rfl) (Nat.le_trans hfr hY.1) (by rw [am_cats_cv]; have := am_cpw_le; unfold am_cpw at this; refine Nat.le_trans ?_ hY.2.1; omega) hd (fun H1 locs1 hP1 hD1 hS1 => ?_)
    refine hKK _ _ _ _ h H1 locs1 ls (am_ws_P hP hkd hP1 ?_ (fun m hm => ?_)) hS1 hl
    · rw [am_ceA hsd, am_ae1 (t := 1) rfl]
      refine congrArg (fun f => Sum.inl (cA 1, am_len d, Sum.inr (Sum.inl f))) ?_
      funext j
      exact if_pos rfl
    · refine am_ceO rfl ?_
      funext j
      exact if_neg hm
  · exact h.elim
