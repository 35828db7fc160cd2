/-! calls by contract, Math, arraycopy, switches -/
theorem am_good_all {big : List Cond} (ws : List Cond) (h1 : ∀ w ∈ ws, w ∈ am_ws) (hb : big = am_ws) : GoodIn big ws := fun w hw => ⟨by rw [hb]; exact h1 w hw, good_of_word (am_wsg (h1 w hw))⟩
theorem am_Z.moved {al : Nat → Nat} {B : Nat} {s U : State} (h : am_Z al B s) (hvm : s.vm.Alike U.vm) (hS : ∀ q : Nat, q < s.heap.size → ¬ B ≤ q → U.heap[q]? = s.heap[q]?) : am_Z al B U := fun k hk =>
  ⟨((h k hk).1.moved hvm).kept (fun a h1 h2 => hS a h1 h2), ((h k hk).2.moved hvm).kept (fun a h1 h2 => hS a h1 h2)⟩
theorem am_blind {D : va_G} {cA : Nat → ClassId} {al : Nat → Nat} {B : Nat} {live : am_E} {as : List Value} {M : am_M} : FrameBlind (am_Pc D cA al B live as M) := by
  intro a U g mk q
  obtain ⟨q1, q2, q3, q4, q5, q6⟩ := q
  exact ⟨q1, q2, q3, va_K.moved (u := U) (U := U.calling g mk a) (Vm.Alike.refl U.vm) q4, q5.moved (U := U.calling g mk a) (Vm.Alike.refl U.vm) (fun _ _ _ => rfl), q6.vm rfl⟩
section AKC
variable {own : String} {cc : ByteArray} {nL : Nat} {rt : Option FieldType} {rf rl : Nat} {live : am_E} {Ret : am_R} {pc nx : Nat}
theorem am_frm {s : State} {args : Array Value} {below : List Frame} {D : va_G} {cA : Nat → ClassId} {al : Nat → Nat} {B : Nat} {Y : am_Y} {a b : Nat} (hY : am_Yk s args below D cA al B live Ret rf rl Y) (h : a ≤ rf ∧ b ≤ rl) : a ≤ Y.1.frames ∧ b ≤ Y.1.locals := ⟨Nat.le_trans h.1 hY.1, Nat.le_trans h.2 hY.2.1⟩
theorem am_pcU {p : Program} {s : State} {m : MethodId} {args : Array Value} {meth : Method} {c : Code} {D : va_G} {cA : Nat → ClassId} {al : Nat → Nat} {B : Nat} {H : Heap} {locs : List Loc} {M : am_M} {as : List Value} (hC : am_C p s m args meth c D cA al B own cc nL rt) (hP : am_P D cA al B live M H) (hS : va_S (fun q => B ≤ q) s.heap H locs) :
    ∀ U : State, U.heap = H → s.WarmedH U.vm → am_Pc D cA al B live as M (as.map (am_cv al)).toArray U := by
  intro U hU hW
  obtain ⟨hx, hb, hml, hown, hts, hlk, hr, hK, hB, hZ, hN⟩ := hC
  exact ⟨rfl, by rw [hU]; exact Nat.le_trans hB hS.1, by rw [hU]; exact hP, va_K.moved hW.alike hK, hZ.moved hW.alike (fun q h1 h2 => by rw [hU]; exact hS.2.1 q h1 h2), hN.warm hW⟩
theorem am_after {p : Program} {l : Launch} {e : Env} {s : State} {m : MethodId} {args a : Array Value} {below : List Frame} {meth : Method} {c : Code} {H : Heap} {locs : List Loc} {ls : Array Slot} {D : va_G} {cA : Nat → ClassId} {al : Nat → Nat} {B : Nat} {L : am_L} {st0 : List Value} {rest : List Value} {K : am_K} {R2 : am_R} {Y : am_Y}
    (hr : va_Run p l e Y.1 s m args below meth c H locs Y.2.1 Y.2.2.1 0 0 (F0 m pc ls st0) (rest.map (am_cv al)) (am_Qc D cA al B live R2 a) (fun q => B ≤ q)) (hS : va_S (fun q => B ≤ q) s.heap H locs) (hl : lv_has ls nL (am_lc al L))
    (hKK : ∀ pc' L' st' M', K pc' L' st' M' → am_W p l e Y s m args below meth c D cA al B live nL pc' L' st' M') (hR2 : ∀ v M', R2 v M' → K (pc + 3) L (v.toList ++ rest) M') :
    W p l e Y.1 s m args below meth c H locs Y.2.1 Y.2.2.1 Y.2.2.2 (F0 m pc ls st0) := by
  intro T hT X
  obtain ⟨v, st₀, t, T', L2, h0, X', hL, e1, e2, ⟨r, M', hk, hv, hP', hz, hkp⟩, st⟩ := hr T hT X
  have hv2 : v = r.map (am_cv al) := by injection hv
  subst hv2
  rw [h0] at hz hkp
  obtain ⟨t2, a1, b1⟩ := hKK _ _ _ _ (hR2 r M' hk) T'.heap (locs ++ L2) ls (by rw [e1]; exact hP')
    ⟨Nat.le_trans hS.1 (by rw [e1]; exact hz), fun q h1 h2 => by rw [e1, hkp q (Nat.lt_of_lt_of_le h1 hS.1) h2]; exact hS.2.1 q h1 h2, fun q hq => by
      rcases List.mem_append.mp hq with h | h
      · exact hS.2.2 q h
      · exact hL q h⟩ hl T' rfl X'
  refine ⟨t2, st t2 ?_, b1⟩
  cases r with
  | none => exact a1
  | some w => exact a1
theorem ak_callV {ci n idx maxL rf' rl' N : Nat} {y : MethodName} {bytes : ByteArray} {ret' : Option FieldType} {C : String} {F : u_T} {T : am_T} (hM : am_Met y bytes maxL ret' rf' rl' T) (hc : am_cl[ci]? = some (C, F, N)) (hy : y.cls = C ∧ y.cls ≠ "java/lang/invoke/MethodHandle" ∧ y.cls ≠ "java/lang/invoke/VarHandle" ∧ (parseMethodDescriptor y.desc).map (fun d => d.parameters.length) = some n)
    (hw : ∀ w ∈ ([.methodLink own idx y, .instanceMethod y, .selects C y y, .initialized C, .code y bytes maxL ret'] : List Cond), w ∈ am_ws) (hfr : rf' + 1 ≤ rf ∧ 8 + (maxL + 11) + rl' ≤ rl) (hd : decode cc pc = .ok (.invokevirtual idx, 3)) (hn : pc + 3 = nx) :
    am_ok own cc nL rt rf rl live Ret pc (am_callV live ci n T nx) := by
  subst hn
  intro p l e s m args below meth c D cA al B hC Y hY L st M K hKK h H locs ls hP hS hl
  unfold am_callV at h
  split at h
  · next q r hst =>
    obtain ⟨hbb, h⟩ := am_if_mp h
    rw [Bool.and_eq_true, Bool.and_eq_true] at hbb
    obtain ⟨⟨hO, hln⟩, hle⟩ := hbb
    obtain ⟨hlv, hsh⟩ := am_isO_spec hO
    have hln := Nat.eq_of_beq_eq_true hln
    have hle := Nat.le_of_ble_eq_true hle
    have hcell := hP.1 q hlv
    rw [am_ceF hsh] at hcell
    have hstk : st.map (am_cv al) = ((st.take n).reverse.map (am_cv al)).reverse ++ .ref (al q) :: r.map (am_cv al) := by
      rw [List.map_reverse, List.reverse_reverse]
      have e1 : st = st.take n ++ .ref q :: r := by rw [← hst]; exact (List.take_append_drop n st).symm
      conv => lhs; rw [e1]
      rw [List.map_append]
      rfl
    have hG : GoodIn am_ws (wsV own idx C y (.code y bytes maxL ret' :: am_ws)) := am_good_all _ (fun w hh => by
      rcases List.mem_append.mp hh with h1 | h1
      · exact hw w (by
          simp only [List.mem_cons, List.not_mem_nil, or_false] at h1 ⊢
          rcases h1 with h1 | h1 | h1 | h1
          · exact Or.inl h1
          · exact Or.inr (Or.inl h1)
          · exact Or.inr (Or.inr (Or.inl h1))
          · exact Or.inr (Or.inr (Or.inr (Or.inl h1))))
      · rcases List.mem_cons.mp h1 with h2 | h2
        · exact hw w (by rw [h2]; simp)
        · exact h2) rfl
    obtain ⟨hx, hb, hml, hown, hts, hlk, hr, hK, hB, hZ, hN⟩ := id hC
    have hrun := va_runV (p := p) (l := l) (e := e) (R := Y.1) (s := s) (m := m) (args := args) (below := below) (meth := meth) (c := c) (H := H) (locs := locs) (cells := Y.2.1) (slots := Y.2.2.1) (g := F0 m pc ls (st.map (am_cv al))) (As := (st.take n).reverse.map (am_cv al)) (rest := r.map (am_cv al)) (b := al q)
      ⟨hx, hb, hml, hown, hts⟩ (hM l D cA al B live (.ref q :: (st.take n).reverse) M _ h) (cwV n hts hG rfl rfl rfl hy (am_frm hY hfr)) ⟨am_blind, va_recv hK (am_P1 hcell) (ci := ci) (q0 := 0) hc rfl, am_pcU hC hP hS⟩ rfl (by rw [List.length_map, List.length_reverse]; exact hln) hl.1 hstk (lv_room (by rw [am_cats_cv]; exact hle)) hd ⟨hY.2.2.1, hY.2.2.2.1⟩
    exact am_after hrun hS hl hKK (fun v M' hk => hk)
  · exact h.elim
theorem ak_callS {n idx maxL rf' rl' : Nat} {y : MethodName} {bytes : ByteArray} {ret' : Option FieldType} {T : am_T} (hM : am_Met y bytes maxL ret' rf' rl' T) (hy : y.cls = own ∧ y.cls ≠ "java/lang/invoke/MethodHandle" ∧ y.cls ≠ "java/lang/invoke/VarHandle" ∧ (parseMethodDescriptor y.desc).map (fun d => d.parameters.length) = some n)
    (hw : ∀ w ∈ ([.methodLink own idx y, .static y, .initialized own, .code y bytes maxL ret'] : List Cond), w ∈ am_ws) (hfr : rf' + 1 ≤ rf ∧ 8 + (maxL + 11) + rl' ≤ rl) (hd : decode cc pc = .ok (.invokestatic idx, 3)) (hn : pc + 3 = nx) :
    am_ok own cc nL rt rf rl live Ret pc (am_callS live n T nx) := by
  subst hn
  intro p l e s m args below meth c D cA al B hC Y hY L st M K hKK h H locs ls hP hS hl
  unfold am_callS at h
  obtain ⟨hbb, h⟩ := am_if_mp h
  rw [Bool.and_eq_true] at hbb
  obtain ⟨hln, hle⟩ := hbb
  have hln := Nat.eq_of_beq_eq_true hln
  have hle := Nat.le_of_ble_eq_true hle
  have hstk : st.map (am_cv al) = ((st.take n).reverse.map (am_cv al)).reverse ++ (st.drop n).map (am_cv al) := by
    rw [List.map_reverse, List.reverse_reverse, ← List.map_append, List.take_append_drop]
  have hG : GoodIn am_ws (wsS own idx y (.code y bytes maxL ret' :: am_ws)) := am_good_all _ (fun w hh => by
    rcases List.mem_append.mp hh with h1 | h1
    · exact hw w (by
        simp only [List.mem_cons, List.not_mem_nil, or_false] at h1 ⊢
        rcases h1 with h1 | h1 | h1
        · exact Or.inl h1
        · exact Or.inr (Or.inl h1)
        · exact Or.inr (Or.inr (Or.inl h1)))
    · rcases List.mem_cons.mp h1 with h2 | h2
      · exact hw w (by rw [h2]; simp)
      · exact h2) rfl
  obtain ⟨hx, hb, hml, hown, hts, hlk, hr, hK, hB, hZ, hN⟩ := id hC
  have hrun := va_runS (p := p) (l := l) (e := e) (R := Y.1) (s := s) (m := m) (args := args) (below := below) (meth := meth) (c := c) (H := H) (locs := locs) (cells := Y.2.1) (slots := Y.2.2.1) (g := F0 m pc ls (st.map (am_cv al))) (As := (st.take n).reverse.map (am_cv al)) (rest := (st.drop n).map (am_cv al))
    ⟨hx, hb, hml, hown, hts⟩ (hM l D cA al B live (st.take n).reverse M _ h) (cwS n hts hG rfl rfl rfl hy (am_frm hY hfr)) ⟨am_blind, am_pcU hC hP hS⟩ rfl (by rw [List.length_map, List.length_reverse]; exact hln) hl.1 hstk (lv_room (by rw [am_cats_cv]; exact hle)) hd ⟨hY.2.2.1, hY.2.2.2.1⟩
  exact am_after hrun hS hl hKK (fun v M' hk => hk)
theorem ak_imax {idx : Nat} (hw : ∀ w ∈ ([.methodLink own idx Lib.Math.max.name, .static Lib.Math.max.name, .initialized "java/lang/Math", .code Lib.Math.max.name Lib.Math.max.code 2 (some .int)] : List Cond), w ∈ am_ws) (hfr : 1 ≤ rf) (hd : decode cc pc = .ok (.invokestatic idx, 3)) (hn : pc + 3 = nx) : am_ok own cc nL rt rf rl live Ret pc (am_math2 (fun x y => if x < y then y else x) rl nx) := by
  subst hn
  intro p l e s m args below meth c D cA al B hC Y hY L st M K hKK h H locs ls hP hS hl
  obtain ⟨hx, hb, hml, hown, hts, hlk, hr, hK, hB, hZ, hN⟩ := id hC
  unfold am_math2 at h
  split at h
  · obtain ⟨hbb, h⟩ := am_if_mp h
    have hle := Nat.le_of_ble_eq_true hbb
    exact va_mmax hx hb (by rw [hml]; exact hl.1.symm) hown (hts _ (hw _ (by simp))) (hts _ (hw _ (by simp))) (hts _ (hw _ (by simp))) (hts _ (hw _ (by simp))) (Nat.le_trans hfr hY.1) (by rw [am_cats_cv]; exact Nat.le_trans hle hY.2.1) hY.2.2.1 hY.2.2.2.1 hd (hKK _ _ _ _ h H locs ls hP hS hl)
  · exact h.elim
theorem ak_imin {idx : Nat} (hw : ∀ w ∈ ([.methodLink own idx Lib.Math.min.name, .static Lib.Math.min.name, .initialized "java/lang/Math", .code Lib.Math.min.name Lib.Math.min.code 2 (some .int)] : List Cond), w ∈ am_ws) (hfr : 1 ≤ rf) (hd : decode cc pc = .ok (.invokestatic idx, 3)) (hn : pc + 3 = nx) : am_ok own cc nL rt rf rl live Ret pc (am_math2 (fun x y => if y < x then y else x) rl nx) := by
  subst hn
  intro p l e s m args below meth c D cA al B hC Y hY L st M K hKK h H locs ls hP hS hl
  obtain ⟨hx, hb, hml, hown, hts, hlk, hr, hK, hB, hZ, hN⟩ := id hC
  unfold am_math2 at h
  split at h
  · obtain ⟨hbb, h⟩ := am_if_mp h
    have hle := Nat.le_of_ble_eq_true hbb
    exact va_mmin hx hb (by rw [hml]; exact hl.1.symm) hown (hts _ (hw _ (by simp))) (hts _ (hw _ (by simp))) (hts _ (hw _ (by simp))) (hts _ (hw _ (by simp))) (Nat.le_trans hfr hY.1) (by rw [am_cats_cv]; exact Nat.le_trans hle hY.2.1) hY.2.2.1 hY.2.2.2.1 hd (hKK _ _ _ _ h H locs ls hP hS hl)
  · exact h.elim
theorem ak_iabs {idx : Nat} (hw : ∀ w ∈ ([.methodLink own idx Lib.Math.abs.name, .static Lib.Math.abs.name, .initialized "java/lang/Math", .code Lib.Math.abs.name Lib.Math.abs.code 1 (some .int)] : List Cond), w ∈ am_ws) (hfr : 1 ≤ rf) (hd : decode cc pc = .ok (.invokestatic idx, 3)) (hn : pc + 3 = nx) : am_ok own cc nL rt rf rl live Ret pc (am_math1 (fun x => if 0 ≤ x then x else 0 - x) rl nx) := by
  subst hn
  intro p l e s m args below meth c D cA al B hC Y hY L st M K hKK h H locs ls hP hS hl
  obtain ⟨hx, hb, hml, hown, hts, hlk, hr, hK, hB, hZ, hN⟩ := id hC
  unfold am_math1 at h
  split at h
  · obtain ⟨hbb, h⟩ := am_if_mp h
    have hle := Nat.le_of_ble_eq_true hbb
    exact va_mabs hx hb (by rw [hml]; exact hl.1.symm) hown (hts _ (hw _ (by simp))) (hts _ (hw _ (by simp))) (hts _ (hw _ (by simp))) (hts _ (hw _ (by simp))) (Nat.le_trans hfr hY.1) (by rw [am_cats_cv]; exact Nat.le_trans hle hY.2.1) hY.2.2.1 hY.2.2.2.1 hd (hKK _ _ _ _ h H locs ls hP hS hl)
  · exact h.elim
theorem ak_lmax {idx : Nat} (hw : ∀ w ∈ ([.methodLink own idx Lib.MathLoose.max_long.x, .static Lib.MathLoose.max_long.x, .initialized "java/lang/Math", .code Lib.MathLoose.max_long.x Lib.MathLoose.max_long.code 4 (some .long)] : List Cond), w ∈ am_ws) (hfr : 1 ≤ rf) (hd : decode cc pc = .ok (.invokestatic idx, 3)) (hn : pc + 3 = nx) : am_ok own cc nL rt rf rl live Ret pc (am_mathl (fun x y => if y < x then x else y) rl nx) := by
  subst hn
  intro p l e s m args below meth c D cA al B hC Y hY L st M K hKK h H locs ls hP hS hl
  obtain ⟨hx, hb, hml, hown, hts, hlk, hr, hK, hB, hZ, hN⟩ := id hC
  unfold am_mathl at h
  split at h
  · obtain ⟨hbb, h⟩ := am_if_mp h
    have hle := Nat.le_of_ble_eq_true hbb
    exact va_mmax_long hx hb (by rw [hml]; exact hl.1.symm) hown (hts _ (hw _ (by simp))) (hts _ (hw _ (by simp))) (hts _ (hw _ (by simp))) (hts _ (hw _ (by simp))) (Nat.le_trans hfr hY.1) (by rw [am_cats_cv]; exact Nat.le_trans hle hY.2.1) hY.2.2.1 hY.2.2.2.1 hd (hKK _ _ _ _ h H locs ls hP hS hl)
  · exact h.elim
theorem ak_lmin {idx : Nat} (hw : ∀ w ∈ ([.methodLink own idx Lib.MathLoose.min_long.x, .static Lib.MathLoose.min_long.x, .initialized "java/lang/Math", .code Lib.MathLoose.min_long.x Lib.MathLoose.min_long.code 4 (some .long)] : List Cond), w ∈ am_ws) (hfr : 1 ≤ rf) (hd : decode cc pc = .ok (.invokestatic idx, 3)) (hn : pc + 3 = nx) : am_ok own cc nL rt rf rl live Ret pc (am_mathl (fun x y => if y < x then y else x) rl nx) := by
  subst hn
  intro p l e s m args below meth c D cA al B hC Y hY L st M K hKK h H locs ls hP hS hl
  obtain ⟨hx, hb, hml, hown, hts, hlk, hr, hK, hB, hZ, hN⟩ := id hC
  unfold am_mathl at h
  split at h
  · obtain ⟨hbb, h⟩ := am_if_mp h
    have hle := Nat.le_of_ble_eq_true hbb
    exact va_mmin_long hx hb (by rw [hml]; exact hl.1.symm) hown (hts _ (hw _ (by simp))) (hts _ (hw _ (by simp))) (hts _ (hw _ (by simp))) (hts _ (hw _ (by simp))) (Nat.le_trans hfr hY.1) (by rw [am_cats_cv]; exact Nat.le_trans hle hY.2.1) hY.2.2.1 hY.2.2.2.1 hd (hKK _ _ _ _ h H locs ls hP hS hl)
  · exact h.elim
/-- switches: what the bytes say, as a list of values and targets -/
def am_tsc (pc : Nat) (lo : Int) : List Int → List (Int32 × Nat)
  | [] => []
  | o :: os => (Int32.ofInt lo, ((pc : Int) + o).toNat) :: am_tsc pc (lo + 1) os
theorem ak_tswitch {dflt lo hi : Int} {offs : Array Int} {len d : Nat} {cs : List (Int32 × Nat)} (hd : decode cc pc = .ok (.tableswitch dflt lo hi offs, len)) (hcs : cs.map Prod.fst = (List.range offs.size).map (fun i : Nat => Int32.ofInt (lo + (i : Int)))) (htg : cs.map (fun q => (q.2 : Int)) = offs.toList.map (fun o => (pc : Int) + o)) (hdf : (pc : Int) + dflt = (d : Int))
    (hb1 : (-2147483648) ≤ lo) (hb2 : hi < 2147483648) (hsz : hi = lo + (offs.size : Int) - 1) : am_ok own cc nL rt rf rl live Ret pc (am_switch cs d) := by
  intro p l e s m args below meth c D cA al B hC Y hY L st M K hKK h H locs ls hP hS hl
  unfold am_switch at h
  split at h
  · next x r =>
    have key : ∀ (cs : List (Int32 × Nat)) (P : Nat → Prop), am_swc x cs d P → (∃ (i : Nat) (q : Int32 × Nat), cs[i]? = some q ∧ x = q.1 ∧ P q.2) ∨ ((∀ (i : Nat) (q : Int32 × Nat), cs[i]? = some q → x ≠ q.1) ∧ P d) := by
      intro cs
      induction cs with
      | nil => intro P hp; exact Or.inr ⟨fun i q hq => by simp at hq, hp⟩
      | cons a cs ih =>
        intro P hp
        by_cases hx : x = a.1
        · exact Or.inl ⟨0, a, rfl, hx, hp.1 hx⟩
        · rcases ih P (hp.2 hx) with ⟨i, q, h1, h2, h3⟩ | ⟨h1, h2⟩
          · exact Or.inl ⟨i + 1, q, h1, h2, h3⟩
          · refine Or.inr ⟨fun i q hq => ?_, h2⟩
            cases i with
            | zero => cases hq; exact hx
            | succ i => exact h1 i q hq
    have hsz2 : cs.length = offs.size := by
      have := congrArg List.length hcs
      simpa using this
    have hfst : ∀ (i : Nat) (q : Int32 × Nat), cs[i]? = some q → i < offs.size ∧ q.1 = Int32.ofInt (lo + (i : Int)) := by
      intro i q hq
      have hi : i < offs.size := by rw [← hsz2]; exact (List.getElem?_eq_some_iff.mp hq).1
      have h1 : (cs.map Prod.fst)[i]? = some q.1 := by rw [List.getElem?_map, hq]; rfl
      rw [hcs, List.getElem?_map, List.getElem?_range hi] at h1
      exact ⟨hi, (Option.some.inj h1).symm⟩
    have htoi : ∀ i : Nat, i < offs.size → (Int32.ofInt (lo + (i : Int))).toInt = lo + (i : Int) := by
      intro i hi
      exact Int32.toInt_ofInt_of_le (by omega) (by omega)
    rcases key cs _ h with ⟨i, q, h1, h2, h3⟩ | ⟨h1, h2⟩
    · obtain ⟨hi, hq⟩ := hfst i q h1
      have hxi : x.toInt = lo + (i : Int) := by rw [h2, hq]; exact htoi i hi
      have ho : (cs.map (fun q => (q.2 : Int)))[i]? = some (q.2 : Int) := by rw [List.getElem?_map, h1]; rfl
      rw [htg, List.getElem?_map] at ho
      cases hoo : offs.toList[i]? with
      | none => rw [hoo] at ho; cases ho
      | some off =>
        rw [hoo] at ho
        exact lv_tableIn hC.1 hC.2.1 hd (by omega) (by omega) (off := off) (by rw [show (x.toInt - lo).toNat = i by omega, ← Array.getElem?_toList]; exact hoo) (Option.some.inj ho) (hKK _ _ _ _ h3 H locs ls hP hS hl)
    · refine lv_tableOut hC.1 hC.2.1 hd ?_ hdf (hKK _ _ _ _ h2 H locs ls hP hS hl)
      rcases Int.lt_or_le x.toInt lo with h3 | h3
      · exact Or.inl h3
      · refine Or.inr ?_
        rcases Int.lt_or_le hi x.toInt with h4 | h4
        · exact h4
        · exfalso
          have hi2 : (x.toInt - lo).toNat < offs.size := by omega
          have hi3 : (x.toInt - lo).toNat < cs.length := by omega
          have h5 := List.getElem?_eq_getElem hi3
          have h6 := (hfst _ _ h5).2
          refine h1 _ _ h5 ?_
          rw [h6]
          apply Int32.toInt_inj.mp
          rw [htoi _ hi2]
          omega
  · exact h.elim
theorem ak_lswitch {dflt : Int} {ps : Array (Int × Int)} {len d : Nat} {cs : List (Int32 × Nat)} (hd : decode cc pc = .ok (.lookupswitch dflt ps, len)) (hp : (ps.toList.zip (ps.toList.drop 1)).all (fun (a, next) => a.1 < next.1) = true) (hcs : cs.map (fun q => (q.1.toInt, (q.2 : Int))) = ps.toList.map (fun q => (q.1, (pc : Int) + q.2))) (hdf : (pc : Int) + dflt = (d : Int)) : am_ok own cc nL rt rf rl live Ret pc (am_switch cs d) := by
  intro p l e s m args below meth c D cA al B hC Y hY L st M K hKK h H locs ls hP hS hl
  unfold am_switch at h
  split at h
  · next x r =>
    have key : ∀ (cs : List (Int32 × Nat)) (qs : List (Int × Int)) (P : Nat → Prop), cs.map (fun q => (q.1.toInt, (q.2 : Int))) = qs.map (fun q => (q.1, (pc : Int) + q.2)) → am_swc x cs d P → ∃ (off : Int) (tg : Nat), Op.lookupswitch.offset qs dflt x.toInt = off ∧ (pc : Int) + off = (tg : Int) ∧ P tg := by
      intro cs
      induction cs with
      | nil =>
        intro qs P he hp
        cases qs with
        | nil => exact ⟨dflt, d, rfl, hdf, hp⟩
        | cons b qs => simp at he
      | cons a cs ih =>
        intro qs P he hp
        cases qs with
        | nil => simp at he
        | cons b qs =>
          rw [List.map_cons, List.map_cons] at he
          injection he with he1 he2
          have e1 : a.1.toInt = b.1 := congrArg Prod.fst he1
          have e2 : (a.2 : Int) = (pc : Int) + b.2 := congrArg Prod.snd he1
          obtain ⟨b1, b2⟩ := b
          by_cases hx : x = a.1
          · refine ⟨b2, a.2, ?_, e2.symm, hp.1 hx⟩
            have e3 : x.toInt = b1 := by rw [hx]; exact e1
            simp [Op.lookupswitch.offset, e3]
          · obtain ⟨off, tg, h1, h2, h3⟩ := ih qs P he2 (hp.2 hx)
            refine ⟨off, tg, ?_, h2, h3⟩
            rw [lv_osw hx e1]
            exact h1
    obtain ⟨off, tg, h1, h2, h3⟩ := key cs ps.toList _ hcs h
    exact lv_lookup hC.1 hC.2.1 hd hp h1 h2 (hKK _ _ _ _ h3 H locs ls hP hS hl)
  · exact h.elim
end AKC
