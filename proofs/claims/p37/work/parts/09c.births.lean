/-! births: the rows -/
theorem an_kc {P : Nat × an_S → Prop} {a : Nat × an_S} {l : an_code} (h : P a) (hl : ∀ q ∈ l, P q) : ∀ q ∈ a :: l, P q := fun q hq => by
  rcases List.mem_cons.mp hq with rfl | h2
  · exact h
  · exact hl q h2
theorem an_kn {P : Nat × an_S → Prop} : ∀ q ∈ ([] : an_code), P q := fun _ h => absurd h List.not_mem_nil
def an_isO (E : am_E) (ci n : Nat) : Bool := E.1 n && (match am_sh n with | .inl c => Nat.beq c ci | .inr _ => false)
def an_shO (ci n : Nat) : Bool := match am_sh n with | .inl c => Nat.beq c ci | .inr _ => false
def an_shA (t len n : Nat) : Bool := match am_sh n with | .inl _ => false | .inr q => Nat.beq q.1 t && Nat.beq q.2 len
theorem an_shO_spec {ci n : Nat} (h : an_shO ci n = true) : am_sh n = .inl ci := by
  unfold an_shO at h
  cases hs : am_sh n with
  | inl c => rw [hs] at h; rw [Nat.eq_of_beq_eq_true h]
  | inr q => rw [hs] at h; cases h
theorem an_shA_spec {t len n : Nat} (h : an_shA t len n = true) : am_sh n = .inr (t, len) := by
  unfold an_shA at h
  cases hs : am_sh n with
  | inl c => rw [hs] at h; cases h
  | inr q =>
    rw [hs] at h
    have h : (Nat.beq q.1 t && Nat.beq q.2 len) = true := h
    rw [Bool.and_eq_true] at h
    rw [← Nat.eq_of_beq_eq_true h.1, ← Nat.eq_of_beq_eq_true h.2]
/-- the fields of a new object -/
def an_z (ci k : Nat) : Value := match am_ft ci k with
  | 0 => .int 0
  | 1 => .long 0
  | _ => .null
theorem an_fv_new (E : am_E) (M : am_M) (al : Nat → Nat) (n ci k : Nat) : am_fv (an_bE E n).2 al (an_bM M n) n ci k = an_z ci k := by
  unfold am_fv an_z
  rw [an_bM_1n, an_bM_2n, an_bE_2n]
  rfl
def an_new (ci N : Nat) (f : am_L → Nat) (mc ms nx : Nat) : an_S := fun L st X K => match X with
  | (E, kc, kn, M) => am_if (an_fr E kc kn L st (f L) mc ms 1 N && an_shO ci (f L)) (K nx L (.ref (f L) :: st) (an_bE E (f L), kc + 1, kn + N, an_bM M (f L)))
def an_newa (t len : Nat) (f : am_L → Nat) (mc ms nx : Nat) : an_S := fun L st X K => match X with
  | (E, kc, kn, M) => match st with
    | .int x :: r => am_if (an_fr E kc kn L r (f L) mc ms 1 len && (an_shA t len (f L) && Nat.blt len 100000)) (x = Int32.ofNat len ∧ K nx L (.ref (f L) :: r) (an_bE E (f L), kc + 1, kn + len, an_bM M (f L)))
    | _ => False
/-- a reference is put -/
def an_rE (E : am_E) (n k v : Nat) : am_E := (E.1, fun a b => match Nat.beq a n && Nat.beq b k with | true => some v | false => E.2 a b)
def an_putFI (ci k nx : Nat) : an_S := fun L st X K => match X with
  | (E, kc, kn, M) => match st with
    | .int v :: .ref n :: r => am_if (an_isO E ci n) (K nx L r (E, kc, kn, am_wI M n k v))
    | _ => False
def an_putFR (ci k nx : Nat) : an_S := fun L st X K => match X with
  | (E, kc, kn, M) => match st with
    | .ref v :: .ref n :: r => am_if (an_isO E ci n && E.1 v) (K nx L r (an_rE E n k v, kc, kn, M))
    | _ => False
def an_astR (t ci nx : Nat) : an_S := fun L st X K => match X with
  | (E, kc, kn, M) => match st with
    | .ref v :: .int j :: .ref n :: r => am_if (am_isA E t n && an_isO E ci v) (am_in j (am_len n) ∧ K nx L r (an_rE E n j.toNatClampNeg v, kc, kn, M))
    | _ => False
def an_aldN (t nx : Nat) : an_S := fun L st X K => match X with
  | (E, kc, kn, M) => match st with
    | .int j :: .ref n :: r => am_if (am_isA E t n) (am_in j (am_len n) ∧ K nx L ((match E.2 n j.toNatClampNeg with | some q => .ref q | none => .null) :: r) (E, kc, kn, M))
    | _ => False
def an_ifnn (tg nx : Nat) : an_S := fun L st X K => match st with
  | .ref _ :: r => K tg L r X
  | .null :: r => K nx L r X
  | _ => False
def an_obj (rl nx : Nat) : an_S := fun L st X K => match st with
  | .ref _ :: r => am_if (Nat.ble (am_cats r + 12) rl) (K nx L r X)
  | _ => False
def an_callI (ci n : Nat) (T : an_T) (mc ms mc' ms' nx : Nat) : an_S := fun L st X K => match X with
  | (E, kc, kn, M) => match st.drop n with
    | .ref q :: r => am_if (an_isO E ci q && (Nat.beq (st.take n).length n && (Nat.ble (am_cats r) 8 && (Nat.ble (kc + mc') mc && (Nat.ble (kn + ms') ms && (L.all (fun q => an_rk E q.2) && r.all (an_rk E))))))) (T E (.ref q :: (st.take n).reverse) M (fun v E2 M2 => K nx L (v.toList ++ r) (E2, kc + mc', kn + ms', M2)))
    | _ => False
def an_retV (Ret : an_R) : an_S := fun _ st X _ => match X with
  | (E, _, _, M) => match st with
    | [] => Ret none E M
    | _ => False
def an_retI (Ret : an_R) : an_S := fun _ st X _ => match X with
  | (E, _, _, M) => match st with
    | [.int v] => Ret (some (.int v)) E M
    | _ => False
theorem an_isO_spec {E : am_E} {ci n : Nat} (h : an_isO E ci n = true) : E.1 n = true ∧ am_sh n = .inl ci := by
  unfold an_isO at h
  rw [Bool.and_eq_true] at h
  exact ⟨h.1, an_shO_spec h.2⟩
theorem an_ws_P {D : va_G} {cA : Nat → ClassId} {al : Nat → Nat} {B : Nat} {E E' : am_E} {M M' : am_M} {H H1 : Heap} {d k : Nat} {e : va_E} (h : am_P D cA al B E M H) (hE : E'.1 = E.1) (hk : (am_wl E)[k]? = some d) (hP1 : va_P D am_cl ((am_ws0 cA al E M).set k (al d, e)) H1) (he : am_ce E'.2 cA al M' d = e) (ho : ∀ m, m ≠ d → am_ce E'.2 cA al M' m = am_ce E.2 cA al M m) : am_P D cA al B E' M' H1 := by
  unfold am_P
  rw [hE]
  refine ⟨fun n hn => ?_, h.2⟩
  obtain ⟨j, hj⟩ := am_wl_at hn (h.2.2.2 n hn)
  have hlt : j < (am_ws0 cA al E M).length := by
    unfold am_ws0
    rw [List.length_map]
    exact (List.getElem?_eq_some_iff.mp hj).1
  by_cases hd : n = d
  · subst hd
    have hjk := am_wl_inj hj hk
    subst hjk
    have := hP1 j (al n, e) (by rw [List.getElem?_set_self hlt])
    rw [he]
    exact this
  · have hjk : k ≠ j := fun q => by
      subst q
      rw [hj] at hk
      exact hd (Option.some.inj hk)
    rw [ho n hd]
    exact hP1 j _ (by rw [List.getElem?_set_ne hjk]; exact am_ws0_at hj)
theorem an_map_set {N k : Nat} (f g : Nat → Value) (h : ∀ j, j ≠ k → g j = f j) : (List.range N).map g = ((List.range N).map f).set k (g k) := by
  apply List.ext_getElem?
  intro j
  rw [List.getElem?_set]
  by_cases e : k = j
  · subst e
    rw [if_pos rfl]
    by_cases hlt : k < N
    · rw [if_pos (by rw [List.length_map, List.length_range]; exact hlt), List.getElem?_map, List.getElem?_range hlt]
      rfl
    · rw [if_neg (by rw [List.length_map, List.length_range]; exact hlt), List.getElem?_map, List.getElem?_eq_none (by rw [List.length_range]; omega)]
      rfl
  · rw [if_neg e, List.getElem?_map, List.getElem?_map]
    by_cases hlt : j < N
    · rw [List.getElem?_range hlt]
      exact congrArg some (h j (fun z => e z.symm))
    · rw [List.getElem?_eq_none (by rw [List.length_range]; omega)]
      rfl
theorem an_rE_n (E : am_E) (n k v : Nat) : (an_rE E n k v).2 n k = some v := by
  show (match Nat.beq n n && Nat.beq k k with | true => some v | false => E.2 n k) = _
  rw [an_beq, an_beq]
  rfl
theorem an_rE_k (E : am_E) (n v : Nat) {k j : Nat} (h : j ≠ k) : (an_rE E n k v).2 n j = E.2 n j := by
  show (match Nat.beq n n && Nat.beq j k with | true => some v | false => E.2 n j) = _
  rw [an_bne h, Bool.and_false]
theorem an_rE_o (E : am_E) (k v j : Nat) {n m : Nat} (h : m ≠ n) : (an_rE E n k v).2 m j = E.2 m j := by
  show (match Nat.beq m n && Nat.beq j k with | true => some v | false => E.2 m j) = _
  rw [an_bne h, Bool.false_and]
theorem an_rI {live0 E : am_E} {n k v : Nat} (h : an_I live0 E) (hv : E.1 v = true) : an_I live0 (an_rE E n k v) := by
  refine ⟨h.1, fun a j r ha hr => ?_⟩
  by_cases e : a = n
  · subst e
    by_cases e2 : j = k
    · subst e2
      rw [an_rE_n] at hr
      cases hr
      exact hv
    · rw [an_rE_k E a v e2] at hr
      exact h.2 a j r ha hr
  · rw [an_rE_o E k v j e] at hr
    exact h.2 a j r ha hr
section ANR
variable {own : String} {cc : ByteArray} {nL : Nat} {rt : Option FieldType} {rf rl mc ms : Nat} {ini : Bool} {Pp : State → (Nat → Nat) → Nat → Prop} {Ret : an_R} {pc nx : Nat}
theorem nk_new {ci N idx : Nat} {C : String} {T : u_T} {f : am_L → Nat} {ty : Nat → FieldType} (hc : am_cl[ci]? = some (C, T, N)) (hin : ∀ w ∈ u_ws C T N, w ∈ am_ws) (hty : ∀ k, k < N → parseFieldDescriptor (T k).2.2.1 = some (ty k)) (hnf : am_nf ci = N) (hz : ∀ j, j < N → defaultValue (ty j) = an_z ci j)
    (hw : ∀ w ∈ ([.classLink own idx C, .instantiable C N, .initialized C] : List Cond), w ∈ am_ws) (hd : decode cc pc = .ok (.new idx, 3)) (hn : pc + 3 = nx) : an_ok own cc nL rt rf rl mc ms ini Pp Ret pc (an_new ci N f mc ms nx) := by
  subst hn
  intro p l e R Q s m args below meth c D cA al0 B live0 hC hR hQ hni hPp L st X K hK h al hal hI hcc hcn H locs ls hP hS hl
  obtain ⟨E, kc, kn, M⟩ := X
  obtain ⟨hbb, h⟩ := am_if_mp h
  rw [Bool.and_eq_true] at hbb
  obtain ⟨f1, f2, f3, f4, f5, f6⟩ := an_fr_spec hbb.1
  have hsh := an_shO_spec hbb.2
  generalize f L = n at h f1 f2 hsh
  obtain ⟨hx, hb, hml, hown, hts, hlk, hr, hKK, hB, hZ, hN⟩ := hC.al (al := al) (fun q hq => hal q (Or.inr hq))
  obtain ⟨w1, w2⟩ := am_P_ws hP
  refine va_new (ci := ci) (fs := (List.range N).map (an_z ci)) (C := C) (T := T) (N := N) hx hb hts hin ty hty hown (hts _ (hw _ (by simp))) (hts _ (hw _ (by simp))) (hts _ (hw _ (by simp))) hKK w1 w2 hS (fun q hq => Nat.le_trans hB hq) hc (fun j hj => by rw [am_V _ hj]; exact hz j hj) (by rw [hR.2.2.1]; exact f3) (by rw [hR.2.2.2]; exact f4) hd (fun q H1 hP1 hD1 hS1 => ?_)
  have hP2 := an_born hP hI.2 f1 f2 hP1 hD1 (by
    rw [am_ceF hsh, hnf]
    exact congrArg (fun z => Sum.inr (ci, List.map z (List.range N))) (funext fun k => an_fv_new E M _ n ci k))
  have hup := an_up_old (E := E) (al := al) (q := q) f1 f2
  have hg := hK _ _ _ _ h (an_up al n q) (hal.up hI.1 f1 f2) (an_bI hI) (by rw [hR.2.2.1]; exact f3) (by rw [hR.2.2.2]; exact f4) H1 locs ls hP2 hS1 (by rw [an_lc_cv hup f5]; exact hl)
  rw [List.map_cons, an_st_cv hup f6, show am_cv (an_up al n q) (.ref n) = .ref q from congrArg Value.ref (if_pos rfl)] at hg
  exact hg
theorem an_ae_new (E : am_E) (M : am_M) (al : Nat → Nat) (n t : Nat) : am_ae (an_bE E n).2 al (an_bM M n) n t = (match am_tk t with | 0 => .inl (fun _ => 0) | 1 => .inr (.inl (fun _ => 0)) | _ => .inr (.inr (.inr (.inr (fun _ => none))))) := by
  unfold am_ae
  rw [show (an_bM M n).1 n = fun _ => 0 from funext (an_bM_1n M n), show (an_bM M n).2 n = fun _ => 0 from funext (an_bM_2n M n), show (fun k => ((an_bE E n).2 n k).map al) = fun _ => none from funext (fun k => by rw [an_bE_2n]; rfl)]
  all_goals rfl
theorem nk_newa {t len : Nat} {atype : ArrayType} {ty : FieldType} {f : am_L → Nat} (hty : newarray.typeOf atype = ty) (ht : ∀ cA : Nat → ClassId, (am_tys cA)[t]? = some (cA t, ty)) (hno : ∀ C, ty ≠ .object C) (hcell : ∀ cA : ClassId, vp_cell cA (len, (match am_tk t with | 0 => .inl (fun _ => 0) | 1 => .inr (.inl (fun _ => 0)) | _ => .inr (.inr (.inr (.inr (fun _ => none)))))) = arrV cA len (fun _ => defaultValue ty))
    (hw : Cond.arrayClass (newarray.typeOf atype) ∈ am_ws) (hby : componentBytes ty ≤ 8) (hd : decode cc pc = .ok (.newarray atype, 2)) (hn : pc + 2 = nx) : an_ok own cc nL rt rf rl mc ms ini Pp Ret pc (an_newa t len f mc ms nx) := by
  subst hn
  intro p l e R Q s m args below meth c D cA al0 B live0 hC hR hQ hni hPp L st X K hK h al hal hI hcc hcn H locs ls hP hS hl
  obtain ⟨E, kc, kn, M⟩ := X
  unfold an_newa at h
  dsimp only at h
  split at h
  · next x r =>
    obtain ⟨hbb, hxx, h⟩ := am_if_mp h
    rw [Bool.and_eq_true, Bool.and_eq_true] at hbb
    obtain ⟨f1, f2, f3, f4, f5, f6⟩ := an_fr_spec hbb.1
    have hsh := an_shA_spec hbb.2.1
    have hlen : len < 100000 := Nat.le_of_ble_eq_true hbb.2.2
    generalize f L = n at h f1 f2 hsh
    obtain ⟨hx, hb, hml, hown, hts, hlk, hr, hKK, hB, hZ, hN⟩ := hC.al (al := al) (fun q hq => hal q (Or.inr hq))
    obtain ⟨w1, w2⟩ := am_P_ws hP
    have e1 : x.toInt = (len : Int) := by rw [hxx]; exact Int32.toInt_ofNat_small (by omega)
    have e2 : x.toNatClampNeg = len := by
      show x.toInt.toNat = len
      omega
    refine va_newa (ty := ty) (N' := len) (a0 := (len, (match am_tk t with | 0 => .inl (fun _ => 0) | 1 => .inr (.inl (fun _ => 0)) | _ => .inr (.inr (.inr (.inr (fun _ => none))))))) hx hb (hts _ hw) hty hKK w1 w2 hS (fun q hq => Nat.le_trans hB hq) hcell (fun z => by rw [Int32.lt_iff_toInt_lt, Int32.toInt_zero] at z; omega) e2 (Nat.le_trans (Nat.mul_le_mul (Nat.le_of_lt hlen) hby) (by decide)) (by rw [hR.2.2.1]; exact f3) (by rw [hR.2.2.2]; exact f4) hd (fun q cA' H1 hK1 hP1 hD1 hS1 => ?_)
    have a1 := (hKK.2 t _ (ht cA)).2
    have a2 := (hK1.2 (am_tys cA).length (cA', ty) (by rw [List.getElem?_append_right (Nat.le_refl _), Nat.sub_self]; rfl)).2
    have e3 : cA' = cA t := by
      cases ty with
      | object C => exact absurd rfl (hno C)
      | _ => exact Option.some.inj (a2.symm.trans a1)
    subst e3
    have hP2 := an_born hP hI.2 f1 f2 hP1 hD1 (by rw [am_ceA hsh, an_ae_new])
    have hup := an_up_old (E := E) (al := al) (q := q) f1 f2
    have hg := hK _ _ _ _ h (an_up al n q) (hal.up hI.1 f1 f2) (an_bI hI) (by rw [hR.2.2.1]; exact f3) (by rw [hR.2.2.2]; exact f4) H1 locs ls hP2 hS1 (by rw [an_lc_cv hup f5]; exact hl)
    rw [List.map_cons, an_st_cv hup f6, show am_cv (an_up al n q) (.ref n) = .ref q from congrArg Value.ref (if_pos rfl)] at hg
    exact hg
  · exact h.elim
theorem nk_newq {t len idx : Nat} {C : String} {f : am_L → Nat} (ht : ∀ cA : Nat → ClassId, (am_tys cA)[t]? = some (cA t, .object C)) (htk : am_tk t = 2) (hov : C ∈ am_over) (hw : Cond.classLink own idx C ∈ am_ws) (hd : decode cc pc = .ok (.anewarray idx, 3)) (hn : pc + 3 = nx) : an_ok own cc nL rt rf rl mc ms ini Pp Ret pc (an_newa t len f mc ms nx) := by
  subst hn
  intro p l e R Q s m args below meth c D cA al0 B live0 hC hR hQ hni hPp L st X K hK h al hal hI hcc hcn H locs ls hP hS hl
  obtain ⟨E, kc, kn, M⟩ := X
  unfold an_newa at h
  dsimp only at h
  split at h
  · next x r =>
    obtain ⟨hbb, hxx, h⟩ := am_if_mp h
    rw [Bool.and_eq_true, Bool.and_eq_true] at hbb
    obtain ⟨f1, f2, f3, f4, f5, f6⟩ := an_fr_spec hbb.1
    have hsh := an_shA_spec hbb.2.1
    have hlen : len < 100000 := Nat.le_of_ble_eq_true hbb.2.2
    generalize f L = n at h f1 f2 hsh
    obtain ⟨hx, hb, hml, hown, hts, hlk, hr, hKK, hB, hZ, hN⟩ := hC.al (al := al) (fun q hq => hal q (Or.inr hq))
    obtain ⟨w1, w2⟩ := am_P_ws hP
    have e1 : x.toInt = (len : Int) := by rw [hxx]; exact Int32.toInt_ofNat_small (by omega)
    have e2 : x.toNatClampNeg = len := by
      show x.toInt.toNat = len
      omega
    refine va_newq (C := C) (N' := len) hx hb hown (hts _ hw) (hN.2.2 C hov) hKK w1 w2 hS (fun q hq => Nat.le_trans hB hq) (fun z => by rw [Int32.lt_iff_toInt_lt, Int32.toInt_zero] at z; omega) e2 (by omega) (by rw [hR.2.2.1]; exact f3) (by rw [hR.2.2.2]; exact f4) hd (fun q cA' H1 hK1 hP1 hD1 hS1 => ?_)
    obtain ⟨_, _, -, -, -, a1⟩ := (hKK.2 t _ (ht cA)).2
    obtain ⟨_, _, -, -, -, a2⟩ := (hK1.2 (am_tys cA).length (cA', .object C) (by rw [List.getElem?_append_right (Nat.le_refl _), Nat.sub_self]; rfl)).2
    have e3 : cA' = cA t := Option.some.inj (a2.symm.trans a1)
    subst e3
    have hP2 := an_born hP hI.2 f1 f2 hP1 hD1 (by rw [am_ceA hsh, an_ae_new, htk] <;> rfl)
    have hup := an_up_old (E := E) (al := al) (q := q) f1 f2
    have hg := hK _ _ _ _ h (an_up al n q) (hal.up hI.1 f1 f2) (an_bI hI) (by rw [hR.2.2.1]; exact f3) (by rw [hR.2.2.2]; exact f4) H1 locs ls hP2 hS1 (by rw [an_lc_cv hup f5]; exact hl)
    rw [List.map_cons, an_st_cv hup f6, show am_cv (an_up al n q) (.ref n) = .ref q from congrArg Value.ref (if_pos rfl)] at hg
    exact hg
  · exact h.elim
theorem nk_putFI {ci k N idx : Nat} {C : String} {T : u_T} {ty0 : Nat → FieldType} (hc : am_cl[ci]? = some (C, T, N)) (hin : ∀ w ∈ u_ws C T N, w ∈ am_ws) (hty : ∀ k, k < N → parseFieldDescriptor (T k).2.2.1 = some (ty0 k)) (hnm : ∀ a, a < N → ∀ b, b < N → a ≠ b → (T a).2.1 ≠ (T b).2.1) (hk : k < N) (hnf : am_nf ci = N) (hft : am_ft ci k = 0) (hdc : (T k).1 = C) (hco : C = own) (hfin : (T k).2.2.2 = true) (hd0 : parseFieldDescriptor (T k).2.2.1 = some .int) (hini : ini = true) (hw : Cond.fieldLink own idx C (T k).2.1 (T k).2.2.1 ∈ am_ws) (hd : decode cc pc = .ok (.putfield idx, 3)) (hn : pc + 3 = nx) : an_ok own cc nL rt rf rl mc ms ini Pp Ret pc (an_putFI ci k nx) := by
  subst hn
  intro p l e R Q s m args below meth c D cA al0 B live0 hC hR hQ hni hPp L st X K hK h al hal hI hcc hcn H locs ls hP hS hl
  obtain ⟨E, kc, kn, M⟩ := X
  unfold an_putFI at h
  dsimp only at h
  split at h
  · next v n r =>
    obtain ⟨hbb, h⟩ := am_if_mp h
    obtain ⟨hlv, hsh⟩ := an_isO_spec hbb
    obtain ⟨hx, hb, hml, hown, hts, hlk, hr, hKK, hB, hZ, hN⟩ := hC.al (al := al) (fun q hq => hal q (Or.inr hq))
    obtain ⟨w1, w2⟩ := am_P_ws hP
    obtain ⟨k0, hk0⟩ := am_wl_at hlv (hP.2.2.2 n hlv)
    have he := am_ws0_at (cA := cA) (al := al) (M := M) hk0
    rw [am_ceF hsh] at he
    refine va_putF (ci := ci) (C := C) (T := T) (N := N) (v := .int v) hx hb hts hin ty0 hty hnm hown hKK w1 w2 hS k0 he hc k hk (hts _ hw) (fun x hx => by rw [hdc] at hx; exact hx) hfin (hni hini) (by rw [hdc, hco]) hd0 rfl rfl (by rw [List.length_map, List.length_range, hnf]; exact hk) hd (fun H1 locs1 hP1 hD1 hS1 => ?_)
    have hP2 : am_P D cA al B E (am_wI M n k v) H1 := an_ws_P hP rfl hk0 hP1 (by
      rw [am_ceF hsh]
      refine congrArg (fun z => Sum.inr (ci, z)) ?_
      have e1 : Value.int v = am_fv E.2 al (am_wI M n k v) n ci k := by
        rw [am_fv0 hft]
        exact congrArg Value.int (by rw [am_wI_1, if_pos ⟨rfl, rfl⟩])
      rw [e1]
      refine an_map_set _ _ (fun j hj => ?_)
      unfold am_fv
      rw [am_wI_1, if_neg (fun z => hj z.2)]
      rfl) (fun q hq => an_ce_cg (fun j => by rw [am_wI_1, if_neg (fun z => hq z.1)]) (fun _ => rfl) (fun _ => rfl))
    exact hK _ _ _ _ h al hal hI hcc hcn H1 locs1 ls hP2 hS1 hl
  · exact h.elim
theorem nk_putFR {ci k N idx : Nat} {C C2 : String} {T : u_T} {ty0 : Nat → FieldType} {ty : FieldType} (hc : am_cl[ci]? = some (C, T, N)) (hin : ∀ w ∈ u_ws C T N, w ∈ am_ws) (hty : ∀ k, k < N → parseFieldDescriptor (T k).2.2.1 = some (ty0 k)) (hnm : ∀ a, a < N → ∀ b, b < N → a ≠ b → (T a).2.1 ≠ (T b).2.1) (hk : k < N) (hnf : am_nf ci = N) (hft : am_ft ci k = 2) (hdc : (T k).1 = C) (hco : C = own) (hfin : (T k).2.2.2 = true) (hd0 : parseFieldDescriptor (T k).2.2.1 = some ty) (hnr : ∀ a : Nat, narrow ty (.ref a) = .ref a ∧ fits ty (.ref a) = true) (hini : ini = true) (hw : Cond.fieldLink own idx C (T k).2.1 (T k).2.2.1 ∈ am_ws) (hd : decode cc pc = .ok (.putfield idx, 3)) (hn : pc + 3 = nx) : an_ok own cc nL rt rf rl mc ms ini Pp Ret pc (an_putFR ci k nx) := by
  subst hn
  intro p l e R Q s m args below meth c D cA al0 B live0 hC hR hQ hni hPp L st X K hK h al hal hI hcc hcn H locs ls hP hS hl
  obtain ⟨E, kc, kn, M⟩ := X
  unfold an_putFR at h
  dsimp only at h
  split at h
  · next v n r =>
    obtain ⟨hbb, h⟩ := am_if_mp h
    rw [Bool.and_eq_true] at hbb
    obtain ⟨hlv, hsh⟩ := an_isO_spec hbb.1
    obtain ⟨hx, hb, hml, hown, hts, hlk, hr, hKK, hB, hZ, hN⟩ := hC.al (al := al) (fun q hq => hal q (Or.inr hq))
    obtain ⟨w1, w2⟩ := am_P_ws hP
    obtain ⟨k0, hk0⟩ := am_wl_at hlv (hP.2.2.2 n hlv)
    have he := am_ws0_at (cA := cA) (al := al) (M := M) hk0
    rw [am_ceF hsh] at he
    refine va_putF (ci := ci) (C := C) (T := T) (N := N) (v := .ref (al v)) hx hb hts hin ty0 hty hnm hown hKK w1 w2 hS k0 he hc k hk (hts _ hw) (fun x hx => by rw [hdc] at hx; exact hx) hfin (hni hini) (by rw [hdc, hco]) hd0 (hnr _).1 (hnr _).2 (by rw [List.length_map, List.length_range, hnf]; exact hk) hd (fun H1 locs1 hP1 hD1 hS1 => ?_)
    have hP2 : am_P D cA al B (an_rE E n k v) M H1 := an_ws_P hP rfl hk0 hP1 (by
      rw [am_ceF hsh]
      refine congrArg (fun z => Sum.inr (ci, z)) ?_
      have e1 : Value.ref (al v) = am_fv (an_rE E n k v).2 al M n ci k := by
        rw [am_fv2 hft, an_rE_n]
        rfl
      rw [e1]
      refine an_map_set _ _ (fun j hj => ?_)
      unfold am_fv
      rw [an_rE_k E n v hj]) (fun q hq => an_ce_cg (fun _ => rfl) (fun _ => rfl) (fun j => by rw [an_rE_o E k v j hq]))
    exact hK _ _ _ _ h al hal (an_rI hI hbb.2) hcc hcn H1 locs1 ls hP2 hS1 hl
  · exact h.elim
theorem nk_astR {t ci : Nat} {r0 : vw_C} (ht : ∀ cA : Nat → ClassId, (am_tys cA)[t]? = some (cA t, .object r0.1)) (htk : am_tk t = 2) (hc : am_cl[ci]? = some r0) (hd : decode cc pc = .ok (.aastore, 1)) (hn : pc + 1 = nx) : an_ok own cc nL rt rf rl mc ms ini Pp Ret pc (an_astR t ci nx) := by
  subst hn
  intro p l e R Q s m args below meth c D cA al0 B live0 hC hR hQ hni hPp L st X K hK h al hal hI hcc hcn H locs ls hP hS hl
  obtain ⟨E, kc, kn, M⟩ := X
  unfold an_astR at h
  dsimp only at h
  split at h
  · next v j n r =>
    obtain ⟨hbb, hj, h⟩ := am_if_mp h
    rw [Bool.and_eq_true] at hbb
    obtain ⟨hlv, hsh⟩ := am_isA_spec hbb.1
    obtain ⟨hlo, hso⟩ := an_isO_spec hbb.2
    obtain ⟨hx, hb, hml, hown, hts, hlk, hr, hKK, hB, hZ, hN⟩ := hC.al (al := al) (fun q hq => hal q (Or.inr hq))
    obtain ⟨w1, w2⟩ := am_P_ws hP
    obtain ⟨k0, hk0⟩ := am_wl_at hlv (hP.2.2.2 n hlv)
    obtain ⟨k1, hk1⟩ := am_wl_at hlo (hP.2.2.2 v hlo)
    have he := am_ws0_at (cA := cA) (al := al) (M := M) hk0
    have he1 := am_ws0_at (cA := cA) (al := al) (M := M) hk1
    rw [am_ceA hsh, am_ae2 htk] at he
    rw [am_ceF hso] at he1
    refine va_astq hx hb hKK w1 w2 hS k0 t k1 ci he (ht cA) he1 hc (am_in_vp hj) hd (fun H1 locs1 hP1 hD1 hS1 => ?_)
    have hP2 : am_P D cA al B (an_rE E n j.toNatClampNeg v) M H1 := an_ws_P hP rfl hk0 hP1 (by
      rw [am_ceA hsh, am_ae2 htk]
      refine congrArg (fun z => Sum.inl (cA t, am_len n, Sum.inr (Sum.inr (Sum.inr (Sum.inr z))))) ?_
      funext q
      by_cases e : q = j.toNatClampNeg
      · subst e
        rw [an_rE_n]
        simp [va_up]
      · rw [an_rE_k E n v e]
        simp [va_up, e]) (fun q hq => an_ce_cg (fun _ => rfl) (fun _ => rfl) (fun i => by rw [an_rE_o E j.toNatClampNeg v i hq]))
    exact hK _ _ _ _ h al hal (an_rI hI hlo) hcc hcn H1 locs1 ls hP2 hS1 hl
  · exact h.elim
theorem nk_aldN {t : Nat} {C : String} (ht : ∀ cA : Nat → ClassId, (am_tys cA)[t]? = some (cA t, .object C)) (htk : am_tk t = 2) (hd : decode cc pc = .ok (.aaload, 1)) (hn : pc + 1 = nx) : an_ok own cc nL rt rf rl mc ms ini Pp Ret pc (an_aldN t nx) := by
  subst hn
  intro p l e R Q s m args below meth c D cA al0 B live0 hC hR hQ hni hPp L st X K hK h al hal hI hcc hcn H locs ls hP hS hl
  obtain ⟨E, kc, kn, M⟩ := X
  unfold an_aldN at h
  dsimp only at h
  split at h
  · next j n r =>
    obtain ⟨hbb, hj, h⟩ := am_if_mp h
    obtain ⟨hlv, hsh⟩ := am_isA_spec hbb
    obtain ⟨hx, hb, hml, hown, hts, hlk, hr, hKK, hB, hZ, hN⟩ := hC.al (al := al) (fun q hq => hal q (Or.inr hq))
    obtain ⟨w1, w2⟩ := am_P_ws hP
    obtain ⟨k0, hk0⟩ := am_wl_at hlv (hP.2.2.2 n hlv)
    have he := am_ws0_at (cA := cA) (al := al) (M := M) hk0
    rw [am_ceA hsh, am_ae2 htk] at he
    refine va_aldq hx hb hKK w1 k0 t he (ht cA) (am_in_vp hj) hd ?_
    have hg := hK _ _ _ _ h al hal hI hcc hcn H locs ls hP hS hl
    cases ho : E.2 n j.toNatClampNeg with
    | none => rw [ho] at hg; exact hg
    | some q => rw [ho] at hg; exact hg
  · exact h.elim
theorem nk_ifnn {off : Int} {tg : Nat} (hd : decode cc pc = .ok (.ifnonnull off, 3)) (ht : (pc : Int) + off = (tg : Int)) (hn : pc + 3 = nx) : an_ok own cc nL rt rf rl mc ms ini Pp Ret pc (an_ifnn tg nx) := by
  subst hn
  intro p l e R Q s m args below meth c D cA al0 B live0 hC hR hQ hni hPp L st X K hK h al hal hI hcc hcn H locs ls hP hS hl
  obtain ⟨E, kc, kn, M⟩ := X
  unfold an_ifnn at h
  split at h
  · exact lv_ifnonnull hC.1 hC.2.1 hd ht (hK _ _ _ _ h al hal hI hcc hcn H locs ls hP hS hl)
  · exact lv_ifnonnullN hC.1 hC.2.1 hd (hK _ _ _ _ h al hal hI hcc hcn H locs ls hP hS hl)
  · exact h.elim
theorem nk_obj {idx : Nat} (hw : ∀ w ∈ ([.methodLink own idx objectInit, .instanceMethod objectInit, .code objectInit ⟨#[0xb1]⟩ 1 none] : List Cond), w ∈ am_ws) (hrf : 1 ≤ rf) (hd : decode cc pc = .ok (.invokespecial idx, 3)) (hn : pc + 3 = nx) : an_ok own cc nL rt rf rl mc ms ini Pp Ret pc (an_obj rl nx) := by
  subst hn
  intro p l e R Q s m args below meth c D cA al0 B live0 hC hR hQ hni hPp L st X K hK h al hal hI hcc hcn H locs ls hP hS hl
  obtain ⟨E, kc, kn, M⟩ := X
  unfold an_obj at h
  split at h
  · next q r =>
    obtain ⟨hbb, h⟩ := am_if_mp h
    have hle := Nat.le_of_ble_eq_true hbb
    obtain ⟨hx, hb, hml, hown, hts, hlk, hr, hKK, hB, hZ, hN⟩ := hC.al (al := al) (fun q hq => hal q (Or.inr hq))
    refine W.objInit hx hb hown (hts _ (hw _ (by simp))) (hts _ (hw _ (by simp))) (hts _ (hw _ (by simp))) rfl (by rw [hml]; exact hl.1) rfl hd (Nat.le_trans hrf hR.1) (by
      show 2 * 0 + ((r.map (am_cv al)).map fun v => v.category).sum + 12 ≤ R.locals
      rw [am_cats_cv]
      have := hR.2.1
      omega) ?_
    exact hK _ _ _ _ h al hal hI hcc hcn H locs ls hP hS hl
  · exact h.elim
theorem nk_retV (hd : decode cc pc = .ok (.return_, 1)) : an_ok own cc nL none rf rl mc ms ini Pp Ret pc (an_retV Ret) := by
  intro p l e R Q s m args below meth c D cA al0 B live0 hC hR hQ hni hPp L st X K hK h al hal hI hcc hcn H locs ls hP hS hl
  obtain ⟨E, kc, kn, M⟩ := X
  unfold an_retV at h
  dsimp only at h
  split at h
  · rcases hQ with rfl | hno
    · refine W.widen (k := mc) (n := ms) (by rw [← hR.2.2.1]; exact hcc) (by rw [← hR.2.2.2]; exact hcn) ?_
      exact W.vret hC.1 hC.2.1 hC.2.2.2.2.2.2.1 (fun t ht hW => ⟨none, E, M, al, hal, hI, h, rfl, by rw [ht]; exact hP, hS.F ht⟩) hS.2.2 hd (hlocks := hC.2.2.2.2.2.1)
    · exact absurd h (hno _ _ _)
  · exact h.elim
theorem nk_retI (hd : decode cc pc = .ok (.ireturn, 1)) : an_ok own cc nL (some .int) rf rl mc ms ini Pp Ret pc (an_retI Ret) := by
  intro p l e R Q s m args below meth c D cA al0 B live0 hC hR hQ hni hPp L st X K hK h al hal hI hcc hcn H locs ls hP hS hl
  obtain ⟨E, kc, kn, M⟩ := X
  unfold an_retI at h
  dsimp only at h
  split at h
  · next v =>
    rcases hQ with rfl | hno
    · refine W.widen (k := mc) (n := ms) (by rw [← hR.2.2.1]; exact hcc) (by rw [← hR.2.2.2]; exact hcn) ?_
      exact W.iret hC.1 hC.2.1 hC.2.2.2.2.2.2.1 (fun t ht hW => ⟨some (.int v), E, M, al, hal, hI, h, rfl, by rw [ht]; exact hP, hS.F ht⟩) hS.2.2 hd (hlocks := hC.2.2.2.2.2.1)
    · exact absurd h (hno _ _ _)
  · exact h.elim
/-- behind a call that may give birth -/
theorem an_after {p : Program} {l : Launch} {e : Env} {R : Room} {Q : State → Prop} {s : State} {m : MethodId} {args a : Array Value} {below : List Frame} {meth : Method} {c : Code} {H : Heap} {locs : List Loc} {ls : Array Slot} {D : va_G} {cA : Nat → ClassId} {al0 al : Nat → Nat} {B : Nat} {live0 : am_E} {L : am_L} {st0 : List Value} {rest : List Value} {K : an_K} {R2 : an_R} {X : am_X} {mc' ms' : Nat}
    (hr : va_Run p l e R s m args below meth c H locs X.2.1 X.2.2.1 mc' ms' (F0 m pc ls st0) (rest.map (am_cv al)) (an_Qc D cA al B X.1 R2 a) (fun q => B ≤ q)) (hal : an_agree live0 al0 al) (hI : an_I live0 X.1) (hcc : X.2.1 + mc' ≤ R.cells) (hcn : X.2.2.1 + ms' ≤ R.slots) (hS : va_S (fun q => B ≤ q) s.heap H locs) (hl : lv_has ls nL (am_lc al L)) (hL : L.all (fun q => an_rk X.1 q.2) = true) (hst : rest.all (an_rk X.1) = true)
    (hKK : ∀ pc' L' st' X', K pc' L' st' X' → an_W p l e R Q s m args below meth c D cA al0 B live0 nL pc' L' st' X') (hR2 : ∀ v E M, R2 v E M → K (pc + 3) L (v.toList ++ rest) (E, X.2.1 + mc', X.2.2.1 + ms', M)) :
    W p l e R s m args below meth c H locs X.2.1 X.2.2.1 Q (F0 m pc ls st0) := by
  intro T hT Y
  obtain ⟨v, st₀, t, T', L2, h0, Y', hL2, e1, e2, ⟨r, E', M', al', ha', hI', hk, hv, hP', hz, hkp⟩, st⟩ := hr T hT Y
  have hv2 : v = r.map (am_cv al') := by injection hv
  subst hv2
  rw [h0] at hz hkp
  have hag : ∀ q, (X.1.1 q = true ∨ 1000 ≤ q) → al' q = al q := ha'
  obtain ⟨t2, a1, b1⟩ := hKK _ _ _ _ (hR2 r E' M' hk) al' (fun q hq => (hag q (hq.imp (hI.1 q) (fun z => z))).trans (hal q hq)) ⟨fun q hq => hI'.1 q (hI.1 q hq), hI'.2⟩ hcc hcn T'.heap (locs ++ L2) ls (by rw [e1]; exact hP')
    ⟨Nat.le_trans hS.1 (by rw [e1]; exact hz), fun q h1 h2 => by rw [e1, hkp q (Nat.lt_of_lt_of_le h1 hS.1) h2]; exact hS.2.1 q h1 h2, fun q hq => by
      rcases List.mem_append.mp hq with h | h
      · exact hS.2.2 q h
      · exact hL2 q h⟩ (by rw [an_lc_cv hag hL]; exact hl) T' rfl Y'
  refine ⟨t2, st t2 ?_, b1⟩
  rw [List.map_append, an_st_cv hag hst] at a1
  cases r with
  | none => exact a1
  | some w => exact a1
theorem an_pcU {p : Program} {s : State} {m : MethodId} {args : Array Value} {meth : Method} {c : Code} {D : va_G} {cA : Nat → ClassId} {al : Nat → Nat} {B : Nat} {H : Heap} {locs : List Loc} {E : am_E} {M : am_M} {as : List Value} (hC : am_C p s m args meth c D cA al B own cc nL rt) (hP : am_P D cA al B E M H) (hS : va_S (fun q => B ≤ q) s.heap H locs) :
    ∀ U : State, U.heap = H → s.WarmedH U.vm → am_Pc D cA al B E as M (as.map (am_cv al)).toArray U := am_pcU (rt := rt) hC hP hS
theorem an_call_spec {E : am_E} {ci q n mc mc' ms ms' k j : Nat} {st r : List Value} {L : am_L} (h : (an_isO E ci q && (Nat.beq (st.take n).length n && (Nat.ble (am_cats r) 8 && (Nat.ble (k + mc') mc && (Nat.ble (j + ms') ms && (L.all (fun q => an_rk E q.2) && r.all (an_rk E))))))) = true) : E.1 q = true ∧ am_sh q = .inl ci ∧ (st.take n).length = n ∧ am_cats r ≤ 8 ∧ k + mc' ≤ mc ∧ j + ms' ≤ ms ∧ L.all (fun q => an_rk E q.2) = true ∧ r.all (an_rk E) = true := by
  simp only [Bool.and_eq_true] at h
  obtain ⟨h1, h2, h3, h4, h5, h6, h7⟩ := h
  exact ⟨(an_isO_spec h1).1, (an_isO_spec h1).2, Nat.eq_of_beq_eq_true h2, Nat.le_of_ble_eq_true h3, Nat.le_of_ble_eq_true h4, Nat.le_of_ble_eq_true h5, h6, h7⟩
theorem an_stk {al : Nat → Nat} {st r : List Value} {q n : Nat} (hst : st.drop n = .ref q :: r) : st.map (am_cv al) = ((st.take n).reverse.map (am_cv al)).reverse ++ .ref (al q) :: r.map (am_cv al) := by
  rw [List.map_reverse, List.reverse_reverse]
  have e1 : st = st.take n ++ .ref q :: r := by rw [← hst]; exact (List.take_append_drop n st).symm
  conv => lhs; rw [e1]
  rw [List.map_append]
  rfl
theorem nk_callI {ci n idx maxL rf' rl' mc' ms' : Nat} {y : MethodName} {bytes : ByteArray} {T : an_T} (hM : an_Met y bytes maxL none rf' rl' mc' ms' T) (hy1 : y.name = "<init>") (hy : y.cls ≠ "java/lang/invoke/MethodHandle" ∧ y.cls ≠ "java/lang/invoke/VarHandle" ∧ (parseMethodDescriptor y.desc).map (fun d => d.parameters.length) = some n)
    (hw : ∀ w ∈ ([.initialized y.cls, .methodLink own idx y, .instanceMethod y, .code y bytes maxL none] : List Cond), w ∈ am_ws) (hfr : rf' + 1 ≤ rf ∧ 8 + (maxL + 11) + rl' ≤ rl) (hd : decode cc pc = .ok (.invokespecial idx, 3)) (hn : pc + 3 = nx) :
    an_ok own cc nL rt rf rl mc ms ini Pp Ret pc (an_callI ci n T mc ms mc' ms' nx) := by
  subst hn
  intro p l e R Q s m args below meth c D cA al0 B live0 hC hR hQ hni hPp L st X K hK h al hal hI hcc hcn H locs ls hP hS hl
  obtain ⟨E, kc, kn, M⟩ := X
  unfold an_callI at h
  dsimp only at h
  split at h
  · next q r hst =>
    obtain ⟨hbb, h⟩ := am_if_mp h
    obtain ⟨hlv, hsh, hln, hle, f3, f4, f5, f6⟩ := an_call_spec hbb
    have hC' := hC.al (al := al) (fun q hq => hal q (Or.inr hq))
    obtain ⟨hx, hb, hml, hown, hts, hlk, hr, hKK, hB, hZ, hN⟩ := id hC'
    have hG : GoodIn am_ws (.code y bytes maxL none :: am_ws) := am_good_all _ (fun w hh => by
      rcases List.mem_cons.mp hh with h2 | h2
      · exact hw w (by rw [h2]; simp)
      · exact h2) rfl
    have f3' : kc + mc' ≤ R.cells := by rw [hR.2.2.1]; exact f3
    have f4' : kn + ms' ≤ R.slots := by rw [hR.2.2.2]; exact f4
    have hrun := va_runI (p := p) (l := l) (e := e) (R := R) (s := s) (m := m) (args := args) (below := below) (meth := meth) (c := c) (H := H) (locs := locs) (cells := kc) (slots := kn) (g := F0 m pc ls (st.map (am_cv al))) (As := (st.take n).reverse.map (am_cv al)) (rest := r.map (am_cv al)) (b := al q)
      ⟨hx, hb, hml, hown, hts⟩ (hM l D cA al B E (.ref q :: (st.take n).reverse) M _ hI.2 h) (cwI n hts hG rfl rfl rfl (hts _ (hw _ (by simp))) (hts _ (hw _ (by simp))) (hts _ (hw _ (by simp))) hy1 hy ⟨Nat.le_trans hfr.1 hR.1, Nat.le_trans hfr.2 hR.2.1⟩) ⟨am_blind, am_pcU (rt := rt) hC' hP hS⟩ rfl (by rw [List.length_map, List.length_reverse]; exact hln) hl.1 (an_stk hst) (lv_room (by rw [am_cats_cv]; exact hle)) hd ⟨f3', f4'⟩
    exact an_after (X := (E, kc, kn, M)) hrun hal hI f3' f4' hS hl f5 f6 hK (fun v E2 M2 hk => hk)
  · exact h.elim
theorem nk_callIN {ci n idx maxL rf' rl' mc' ms' : Nat} {y : MethodName} {host : String} {bytes : ByteArray} {T : an_T} (hM : an_Met y bytes maxL none rf' rl' mc' ms' T) (hy1 : y.name = "<init>") (hy : y.cls ≠ "java/lang/invoke/MethodHandle" ∧ y.cls ≠ "java/lang/invoke/VarHandle" ∧ (parseMethodDescriptor y.desc).map (fun d => d.parameters.length) = some n)
    (hnest : (own, idx, y, host) ∈ am_nestM) (hw : ∀ w ∈ ([.initialized y.cls, .instanceMethod y, .code y bytes maxL none] : List Cond), w ∈ am_ws) (hfr : rf' + 1 ≤ rf ∧ 8 + (maxL + 11) + rl' ≤ rl) (hd : decode cc pc = .ok (.invokespecial idx, 3)) (hn : pc + 3 = nx) :
    an_ok own cc nL rt rf rl mc ms ini Pp Ret pc (an_callI ci n T mc ms mc' ms' nx) := by
  subst hn
  intro p l e R Q s m args below meth c D cA al0 B live0 hC hR hQ hni hPp L st X K hK h al hal hI hcc hcn H locs ls hP hS hl
  obtain ⟨E, kc, kn, M⟩ := X
  unfold an_callI at h
  dsimp only at h
  split at h
  · next q r hst =>
    obtain ⟨hbb, h⟩ := am_if_mp h
    obtain ⟨hlv, hsh, hln, hle, f3, f4, f5, f6⟩ := an_call_spec hbb
    have hC' := hC.al (al := al) (fun q hq => hal q (Or.inr hq))
    obtain ⟨hx, hb, hml, hown, hts, hlk, hr, hKK, hB, hZ, hN⟩ := id hC'
    have hG : GoodIn am_ws (.code y bytes maxL none :: am_ws) := am_good_all _ (fun w hh => by
      rcases List.mem_cons.mp hh with h2 | h2
      · exact hw w (by rw [h2]; simp)
      · exact h2) rfl
    have f3' : kc + mc' ≤ R.cells := by rw [hR.2.2.1]; exact f3
    have f4' : kn + ms' ≤ R.slots := by rw [hR.2.2.2]; exact f4
    have hrun := va_runIN (p := p) (l := l) (e := e) (R := R) (s := s) (m := m) (args := args) (below := below) (meth := meth) (c := c) (H := H) (locs := locs) (cells := kc) (slots := kn) (g := F0 m pc ls (st.map (am_cv al))) (As := (st.take n).reverse.map (am_cv al)) (rest := r.map (am_cv al)) (b := al q)
      ⟨hx, hb, hml, hown, hts⟩ (hM l D cA al B E (.ref q :: (st.take n).reverse) M _ hI.2 h) ⟨va_cnB n hts hG rfl rfl rfl (hN.2.1 _ hnest) (hts _ (hw _ (by simp))) hy ⟨Nat.le_trans hfr.1 hR.1, Nat.le_trans hfr.2 hR.2.1⟩, hy1, hts _ (hw _ (by simp))⟩ ⟨am_blind, am_pcU (rt := rt) hC' hP hS⟩ rfl (by rw [List.length_map, List.length_reverse]; exact hln) hl.1 (an_stk hst) (lv_room (by rw [am_cats_cv]; exact hle)) hd ⟨f3', f4'⟩
    exact an_after (X := (E, kc, kn, M)) hrun hal hI f3' f4' hS hl f5 f6 hK (fun v E2 M2 hk => hk)
  · exact h.elim
theorem nk_callV {ci n idx maxL rf' rl' mc' ms' N : Nat} {y : MethodName} {bytes : ByteArray} {ret' : Option FieldType} {C : String} {F : u_T} {T : an_T} (hM : an_Met y bytes maxL ret' rf' rl' mc' ms' T) (hc : am_cl[ci]? = some (C, F, N)) (hy : y.cls = C ∧ y.cls ≠ "java/lang/invoke/MethodHandle" ∧ y.cls ≠ "java/lang/invoke/VarHandle" ∧ (parseMethodDescriptor y.desc).map (fun d => d.parameters.length) = some n)
    (hw : ∀ w ∈ ([.methodLink own idx y, .instanceMethod y, .selects C y y, .initialized C, .code y bytes maxL ret'] : List Cond), w ∈ am_ws) (hfr : rf' + 1 ≤ rf ∧ 8 + (maxL + 11) + rl' ≤ rl) (hd : decode cc pc = .ok (.invokevirtual idx, 3)) (hn : pc + 3 = nx) :
    an_ok own cc nL rt rf rl mc ms ini Pp Ret pc (an_callI ci n T mc ms mc' ms' nx) := by
  subst hn
  intro p l e R Q s m args below meth c D cA al0 B live0 hC hR hQ hni hPp L st X K hK h al hal hI hcc hcn H locs ls hP hS hl
  obtain ⟨E, kc, kn, M⟩ := X
  unfold an_callI at h
  dsimp only at h
  split at h
  · next q r hst =>
    obtain ⟨hbb, h⟩ := am_if_mp h
    obtain ⟨hlv, hsh, hln, hle, f3, f4, f5, f6⟩ := an_call_spec hbb
    have hC' := hC.al (al := al) (fun q hq => hal q (Or.inr hq))
    obtain ⟨hx, hb, hml, hown, hts, hlk, hr, hKK, hB, hZ, hN⟩ := id hC'
    have hcell := hP.1 q hlv
    rw [am_ceF hsh] at hcell
    have hG : GoodIn am_ws (wsV own idx C y (.code y bytes maxL ret' :: am_ws)) := am_good_all _ (fun w hh => by
      rcases List.mem_append.mp hh with h1 | h1
      · exact hw w (by
          simp only [List.mem_cons, List.not_mem_nil, or_false] at h1 ⊢
          rcases h1 with h1 | h1 | h1 | h1
          · exact Or.inl h1
          · exact Or.inr (Or.inl h1)
          · exact Or.inr (Or.inr (Or.inl h1))
          · exact Or.inr (Or.inr (Or.inr (Or.inl h1))))
      · rcases List.mem_cons.mp h1 with h2 | h2
        · exact hw w (by rw [h2]; simp)
        · exact h2) rfl
    have f3' : kc + mc' ≤ R.cells := by rw [hR.2.2.1]; exact f3
    have f4' : kn + ms' ≤ R.slots := by rw [hR.2.2.2]; exact f4
    have hrun := va_runV (p := p) (l := l) (e := e) (R := R) (s := s) (m := m) (args := args) (below := below) (meth := meth) (c := c) (H := H) (locs := locs) (cells := kc) (slots := kn) (g := F0 m pc ls (st.map (am_cv al))) (As := (st.take n).reverse.map (am_cv al)) (rest := r.map (am_cv al)) (b := al q)
      ⟨hx, hb, hml, hown, hts⟩ (hM l D cA al B E (.ref q :: (st.take n).reverse) M _ hI.2 h) (cwV n hts hG rfl rfl rfl hy ⟨Nat.le_trans hfr.1 hR.1, Nat.le_trans hfr.2 hR.2.1⟩) ⟨am_blind, va_recv hKK (am_P1 hcell) (ci := ci) (q0 := 0) hc rfl, am_pcU (rt := rt) hC' hP hS⟩ rfl (by rw [List.length_map, List.length_reverse]; exact hln) hl.1 (an_stk hst) (lv_room (by rw [am_cats_cv]; exact hle)) hd ⟨f3', f4'⟩
    exact an_after (X := (E, kc, kn, M)) hrun hal hI f3' f4' hS hl f5 f6 hK (fun v E2 M2 hk => hk)
  · exact h.elim
end ANR
section ANS
variable {own : String} {cc : ByteArray} {nL : Nat} {rt : Option FieldType} {rf rl : Nat} {live : am_E} {Ret : am_R} {pc nx : Nat}
/-- a static method of another class -/
theorem ak_callSO {n idx maxL rf' rl' : Nat} {y : MethodName} {bytes : ByteArray} {ret' : Option FieldType} {T : am_T} (hM : am_Met y bytes maxL ret' rf' rl' T) (hy : y.cls ≠ "java/lang/invoke/MethodHandle" ∧ y.cls ≠ "java/lang/invoke/VarHandle" ∧ (parseMethodDescriptor y.desc).map (fun d => d.parameters.length) = some n)
    (hw : ∀ w ∈ ([.methodLink own idx y, .static y, .initialized y.cls, .code y bytes maxL ret'] : List Cond), w ∈ am_ws) (hfr : rf' + 1 ≤ rf ∧ 8 + (maxL + 11) + rl' ≤ rl) (hd : decode cc pc = .ok (.invokestatic idx, 3)) (hn : pc + 3 = nx) :
    am_ok own cc nL rt rf rl live Ret pc (am_callS live n T nx) := by
  subst hn
  intro p l e s m args below meth c D cA al B hC Y hY L st M K hKK h H locs ls hP hS hl
  unfold am_callS at h
  obtain ⟨hbb, h⟩ := am_if_mp h
  rw [Bool.and_eq_true] at hbb
  obtain ⟨hln, hle⟩ := hbb
  have hln := Nat.eq_of_beq_eq_true hln
  have hle := Nat.le_of_ble_eq_true hle
  have hstk : st.map (am_cv al) = ((st.take n).reverse.map (am_cv al)).reverse ++ (st.drop n).map (am_cv al) := by
    rw [List.map_reverse, List.reverse_reverse, ← List.map_append, List.take_append_drop]
  obtain ⟨hx, hb, hml, hown, hts, hlk, hr, hK, hB, hZ, hN⟩ := id hC
  have hG : GoodIn am_ws (.code y bytes maxL ret' :: am_ws) := am_good_all _ (fun w hh => by
    rcases List.mem_cons.mp hh with h2 | h2
    · exact hw w (by rw [h2]; simp)
    · exact h2) rfl
  have hrun := va_runS (p := p) (l := l) (e := e) (R := Y.1) (s := s) (m := m) (args := args) (below := below) (meth := meth) (c := c) (H := H) (locs := locs) (cells := Y.2.1) (slots := Y.2.2.1) (g := F0 m pc ls (st.map (am_cv al))) (As := (st.take n).reverse.map (am_cv al)) (rest := (st.drop n).map (am_cv al))
    ⟨hx, hb, hml, hown, hts⟩ (hM l D cA al B live (st.take n).reverse M _ h) ⟨callB_of n hts hG rfl rfl rfl (hts _ (hw _ (by simp))) (hts _ (hw _ (by simp))) hy (am_frm hY hfr), hts _ (hw _ (by simp))⟩ ⟨am_blind, am_pcU hC hP hS⟩ rfl (by rw [List.length_map, List.length_reverse]; exact hln) hl.1 hstk (lv_room (by rw [am_cats_cv]; exact hle)) hd ⟨hY.2.2.1, hY.2.2.2.1⟩
  exact am_after hrun hS hl hKK (fun v M' hk => hk)
end ANS
