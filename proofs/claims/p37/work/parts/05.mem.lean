/-! fields, arrays, statics, returns -/
theorem am_P1 {D : va_G} {cl : List vw_C} {q : Nat × va_E} {H : Heap} (h : va_at D cl q H) : va_P D cl [q] H := by
  intro k r hr
  cases k with
  | zero => cases hr; exact h
  | succ k => simp at hr
theorem am_V {N j : Nat} (f : Nat → Value) (h : j < N) : vp_V ((List.range N).map f) j = f j := by
  unfold vp_V
  rw [List.getD_eq_getElem?_getD, List.getElem?_map, List.getElem?_range h]
  rfl
theorem am_fvO {Q : Nat → Nat → Option Nat} {al : Nat → Nat} {M M' : am_M} {n ci : Nat} (h1 : ∀ k, M'.1 n k = M.1 n k) (h2 : ∀ k, M'.2 n k = M.2 n k) : am_fv Q al M' n ci = am_fv Q al M n ci := by
  funext k
  unfold am_fv
  rw [h1, h2]
theorem am_ceO {Q : Nat → Nat → Option Nat} {cA : Nat → ClassId} {al : Nat → Nat} {M M' : am_M} {n : Nat} (h1 : M'.1 n = M.1 n) (h2 : M'.2 n = M.2 n) : am_ce Q cA al M' n = am_ce Q cA al M n := by
  unfold am_ce
  cases am_sh n with
  | inl ci => exact congrArg (fun f => Sum.inr (ci, (List.range (am_nf ci)).map f)) (am_fvO (M := M) (M' := M') (fun k => congrFun h1 k) (fun k => congrFun h2 k))
  | inr q =>
    refine congrArg (fun f => Sum.inl (cA q.1, q.2, f)) ?_
    unfold am_ae
    rw [h1, h2]
theorem am_ce_wI {Q : Nat → Nat → Option Nat} {cA : Nat → ClassId} {al : Nat → Nat} {M : am_M} {n k m : Nat} {x : Int32} (h : m ≠ n) : am_ce Q cA al (am_wI M n k x) m = am_ce Q cA al M m := by
  refine am_ceO ?_ rfl
  funext j
  show (if m = n ∧ j = k then x else M.1 m j) = _
  rw [if_neg (fun q => h q.1)]
theorem am_ce_wJ {Q : Nat → Nat → Option Nat} {cA : Nat → ClassId} {al : Nat → Nat} {M : am_M} {n k m : Nat} {x : Int64} (h : m ≠ n) : am_ce Q cA al (am_wJ M n k x) m = am_ce Q cA al M m := by
  refine am_ceO rfl ?_
  funext j
  show (if m = n ∧ j = k then x else M.2 m j) = _
  rw [if_neg (fun q => h q.1)]
theorem am_ceA {Q : Nat → Nat → Option Nat} {cA : Nat → ClassId} {al : Nat → Nat} {M : am_M} {n t len : Nat} (hsh : am_sh n = .inr (t, len)) : am_ce Q cA al M n = .inl (cA t, len, am_ae Q al M n t) := by
  unfold am_ce; rw [hsh]
theorem am_ceF {Q : Nat → Nat → Option Nat} {cA : Nat → ClassId} {al : Nat → Nat} {M : am_M} {n ci : Nat} (hsh : am_sh n = .inl ci) : am_ce Q cA al M n = .inr (ci, (List.range (am_nf ci)).map (am_fv Q al M n ci)) := by
  unfold am_ce; rw [hsh]
theorem am_ae0 {Q : Nat → Nat → Option Nat} {al : Nat → Nat} {M : am_M} {n t : Nat} (h : am_tk t = 0) : am_ae Q al M n t = .inl (M.1 n) := by unfold am_ae; rw [h]; rfl
theorem am_ae1 {Q : Nat → Nat → Option Nat} {al : Nat → Nat} {M : am_M} {n t : Nat} (h : am_tk t = 1) : am_ae Q al M n t = .inr (.inl (M.2 n)) := by unfold am_ae; rw [h]; rfl
theorem am_ae2 {Q : Nat → Nat → Option Nat} {al : Nat → Nat} {M : am_M} {n t : Nat} (h : am_tk t = 2) : am_ae Q al M n t = .inr (.inr (.inr (.inr (fun k => (Q n k).map al)))) := by unfold am_ae; rw [h]; rfl
theorem am_fv0 {Q : Nat → Nat → Option Nat} {al : Nat → Nat} {M : am_M} {n ci k : Nat} (h : am_ft ci k = 0) : am_fv Q al M n ci k = .int (M.1 n k) := by unfold am_fv; rw [h]; rfl
theorem am_fv1 {Q : Nat → Nat → Option Nat} {al : Nat → Nat} {M : am_M} {n ci k : Nat} (h : am_ft ci k = 1) : am_fv Q al M n ci k = .long (M.2 n k) := by unfold am_fv; rw [h]; rfl
theorem am_fv2 {Q : Nat → Nat → Option Nat} {al : Nat → Nat} {M : am_M} {n ci k : Nat} (h : am_ft ci k = 2) : am_fv Q al M n ci k = va_rf ((Q n k).map al) := by unfold am_fv; rw [h]; rfl
theorem am_wI_row (M : am_M) (n k : Nat) (x : Int32) : (am_wI M n k x).1 n = upd (M.1 n) k x := by
  funext j
  show (if n = n ∧ j = k then x else M.1 n j) = if j = k then x else M.1 n j
  by_cases h : j = k
  · rw [if_pos ⟨rfl, h⟩, if_pos h]
  · rw [if_neg (fun q => h q.2), if_neg h]
theorem am_wJ_row (M : am_M) (n k : Nat) (x : Int64) : (am_wJ M n k x).2 n = vp_updL (M.2 n) k x := by
  funext j
  show (if n = n ∧ j = k then x else M.2 n j) = if j = k then x else M.2 n j
  by_cases h : j = k
  · rw [if_pos ⟨rfl, h⟩, if_pos h]
  · rw [if_neg (fun q => h q.2), if_neg h]
theorem am_arr_i (cA : ClassId) (n k : Nat) (f : Nat → Int32) (x : Int32) : (vp_cell cA (n, .inl f)).setSlot k (.int x) = vp_cell cA (n, .inl (upd f k x)) := by
  rw [vp_cell_i, vp_cell_i, arrV_store]
  congr 1
  funext q
  by_cases hq : q = k
  · subst hq
    simp [updV, upd]
  · simp [updV, upd, hq]
theorem am_arr_l (cA : ClassId) (n k : Nat) (f : Nat → Int64) (x : Int64) : (vp_cell cA (n, .inr (.inl f))).setSlot k (.long x) = vp_cell cA (n, .inr (.inl (vp_updL f k x))) := by
  rw [vp_cell_l, vp_cell_l, arrV_store]
  congr 1
  funext q
  by_cases hq : q = k
  · subst hq
    simp [updV, vp_updL]
  · simp [updV, vp_updL, hq]
section AKM
variable {own : String} {cc : ByteArray} {nL : Nat} {rt : Option FieldType} {rf rl : Nat} {live : am_E} {Ret : am_R} {pc nx : Nat}
theorem ak_iald {t : Nat} (ht : ∀ cA : Nat → ClassId, (am_tys cA)[t]? = some (cA t, .int)) (hk : am_tk t = 0) (hd : decode cc pc = .ok (.iaload, 1)) (hn : pc + 1 = nx) : am_ok own cc nL rt rf rl live Ret pc (am_ald live t nx) := by
  subst hn
  intro p l e s m args below meth c D cA al B hC Y hY L st M K hKK h H locs ls hP hS hl
  obtain ⟨hx, hb, hml, hown, hts, hlk, hr, hK, hB, hZ, hN⟩ := hC
  unfold am_ald at h
  split at h
  · next j n r =>
    obtain ⟨hbb, hin, h⟩ := am_if_mp h
    obtain ⟨hlv, hsh⟩ := am_isA_spec hbb
    have hcell := hP.1 n hlv
    rw [am_ceA hsh, am_ae0 hk] at hcell
    exact va_iald (D := D) (cl := am_cl) (tys := am_tys cA) hx hb hK (am_P1 hcell) 0 t rfl (ht cA) (am_in_vp hin) hd (hKK _ _ _ _ h H locs ls hP hS hl)
  · exact h.elim
theorem ak_zald {t : Nat} (ht : ∀ cA : Nat → ClassId, (am_tys cA)[t]? = some (cA t, .boolean)) (hk : am_tk t = 0) (hd : decode cc pc = .ok (.baload, 1)) (hn : pc + 1 = nx) : am_ok own cc nL rt rf rl live Ret pc (am_ald live t nx) := by
  subst hn
  intro p l e s m args below meth c D cA al B hC Y hY L st M K hKK h H locs ls hP hS hl
  obtain ⟨hx, hb, hml, hown, hts, hlk, hr, hK, hB, hZ, hN⟩ := hC
  unfold am_ald at h
  split at h
  · next j n r =>
    obtain ⟨hbb, hin, h⟩ := am_if_mp h
    obtain ⟨hlv, hsh⟩ := am_isA_spec hbb
    have hcell := hP.1 n hlv
    rw [am_ceA hsh, am_ae0 hk] at hcell
    exact va_zald (D := D) (cl := am_cl) (tys := am_tys cA) hx hb hK (am_P1 hcell) 0 t rfl (ht cA) (am_in_vp hin) hd (hKK _ _ _ _ h H locs ls hP hS hl)
  · exact h.elim
theorem ak_lald {t : Nat} (ht : ∀ cA : Nat → ClassId, (am_tys cA)[t]? = some (cA t, .long)) (hk : am_tk t = 1) (hd : decode cc pc = .ok (.laload, 1)) (hn : pc + 1 = nx) : am_ok own cc nL rt rf rl live Ret pc (am_lald live t nx) := by
  subst hn
  intro p l e s m args below meth c D cA al B hC Y hY L st M K hKK h H locs ls hP hS hl
  obtain ⟨hx, hb, hml, hown, hts, hlk, hr, hK, hB, hZ, hN⟩ := hC
  unfold am_lald at h
  split at h
  · next j n r =>
    obtain ⟨hbb, hin, h⟩ := am_if_mp h
    obtain ⟨hlv, hsh⟩ := am_isA_spec hbb
    have hcell := hP.1 n hlv
    rw [am_ceA hsh, am_ae1 hk] at hcell
    exact va_lald (D := D) (cl := am_cl) (tys := am_tys cA) hx hb hK (am_P1 hcell) 0 t rfl (ht cA) (am_in_vp hin) hd (hKK _ _ _ _ h H locs ls hP hS hl)
  · exact h.elim
theorem ak_aald {t : Nat} {C : String} (ht : ∀ cA : Nat → ClassId, (am_tys cA)[t]? = some (cA t, .object C)) (hk : am_tk t = 2) (hd : decode cc pc = .ok (.aaload, 1)) (hn : pc + 1 = nx) : am_ok own cc nL rt rf rl live Ret pc (am_aald live t nx) := by
  subst hn
  intro p l e s m args below meth c D cA al B hC Y hY L st M K hKK h H locs ls hP hS hl
  obtain ⟨hx, hb, hml, hown, hts, hlk, hr, hK, hB, hZ, hN⟩ := hC
  unfold am_aald at h
  split at h
  · next j n r =>
    obtain ⟨hbb, hin, h⟩ := am_if_mp h
    obtain ⟨hlv, hsh⟩ := am_isA_spec hbb
    have hcell := hP.1 n hlv
    rw [am_ceA hsh, am_ae2 hk] at hcell
    obtain ⟨q, hq, h⟩ := am_qm (P := fun q => K (pc + 1) L (.ref q :: r) M) h
    refine va_aldq (D := D) (cl := am_cl) (tys := am_tys cA) hx hb hK (am_P1 hcell) 0 t rfl (ht cA) (am_in_vp hin) hd ?_
    show W p l e _ s m args below meth c H locs Y.2.1 Y.2.2.1 _ (F0 m (pc + 1) ls (va_rf ((live.2 n j.toNatClampNeg).map al) :: r.map (am_cv al)))
    rw [hq]
    exact hKK _ _ _ _ h H locs ls hP hS hl
  · exact h.elim
theorem ak_iast {t : Nat} (ht : ∀ cA : Nat → ClassId, (am_tys cA)[t]? = some (cA t, .int)) (hk : am_tk t = 0) (hd : decode cc pc = .ok (.iastore, 1)) (hn : pc + 1 = nx) : am_ok own cc nL rt rf rl live Ret pc (am_ast live t nx) := by
  subst hn
  intro p l e s m args below meth c D cA al B hC Y hY L st M K hKK h H locs ls hP hS hl
  obtain ⟨hx, hb, hml, hown, hts, hlk, hr, hK, hB, hZ, hN⟩ := hC
  unfold am_ast at h
  split at h
  · next x j n r =>
    obtain ⟨hbb, hin, h⟩ := am_if_mp h
    obtain ⟨hlv, hsh⟩ := am_isA_spec hbb
    have hcell := hP.1 n hlv
    rw [am_ceA hsh, am_ae0 hk] at hcell
    refine W.iast hx hb (cell := vp_cell (cA t) (am_len n, .inl (M.1 n))) hcell ((hK.2 t _ (ht cA)).1 (am_len n) (fun j => .int (M.1 n j))) (fun q => by cases q) (by show ¬ (j < 0 ∨ (arrV _ _ _).slots.size ≤ _); rw [arrV_size]; exact am_in_vp hin) rfl rfl hd fun H1 e1 z oq => ?_
    refine hKK _ _ _ _ h H1 _ ls (hP.put hlv ?_ (fun m hm => am_ce_wI hm) oq) (hS.put z oq (hP.2.2.1 n hlv)) hl
    rw [am_ceA hsh, am_ae0 hk, am_wI_row]
    show H1[al n]? = some (vp_cell _ _)
    rw [e1, am_arr_i]
  · exact h.elim
theorem ak_zast {t : Nat} (ht : ∀ cA : Nat → ClassId, (am_tys cA)[t]? = some (cA t, .boolean)) (hk : am_tk t = 0) (hd : decode cc pc = .ok (.bastore, 1)) (hn : pc + 1 = nx) : am_ok own cc nL rt rf rl live Ret pc (am_zst live t nx) := by
  subst hn
  intro p l e s m args below meth c D cA al B hC Y hY L st M K hKK h H locs ls hP hS hl
  obtain ⟨hx, hb, hml, hown, hts, hlk, hr, hK, hB, hZ, hN⟩ := hC
  unfold am_zst at h
  split at h
  · next x j n r =>
    obtain ⟨hbb, hin, h⟩ := am_if_mp h
    obtain ⟨hlv, hsh⟩ := am_isA_spec hbb
    have hcell := hP.1 n hlv
    rw [am_ceA hsh, am_ae0 hk] at hcell
    refine W.zast hx hb (cell := vp_cell (cA t) (am_len n, .inl (M.1 n))) hcell ((hK.2 t _ (ht cA)).1 (am_len n) (fun j => .int (M.1 n j))) (fun q => by cases q) (by show ¬ (j < 0 ∨ (arrV _ _ _).slots.size ≤ _); rw [arrV_size]; exact am_in_vp hin) rfl rfl hd fun H1 e1 z oq => ?_
    refine hKK _ _ _ _ h H1 _ ls (hP.put hlv ?_ (fun m hm => am_ce_wI hm) oq) (hS.put z oq (hP.2.2.1 n hlv)) hl
    rw [am_ceA hsh, am_ae0 hk, am_wI_row]
    show H1[al n]? = some (vp_cell _ _)
    rw [e1]
    exact congrArg some (am_arr_i _ _ _ _ (vp_nar .boolean x))
  · exact h.elim
theorem ak_last {t : Nat} (ht : ∀ cA : Nat → ClassId, (am_tys cA)[t]? = some (cA t, .long)) (hk : am_tk t = 1) (hd : decode cc pc = .ok (.lastore, 1)) (hn : pc + 1 = nx) : am_ok own cc nL rt rf rl live Ret pc (am_last live t nx) := by
  subst hn
  intro p l e s m args below meth c D cA al B hC Y hY L st M K hKK h H locs ls hP hS hl
  obtain ⟨hx, hb, hml, hown, hts, hlk, hr, hK, hB, hZ, hN⟩ := hC
  unfold am_last at h
  split at h
  · next x j n r =>
    obtain ⟨hbb, hin, h⟩ := am_if_mp h
    obtain ⟨hlv, hsh⟩ := am_isA_spec hbb
    have hcell := hP.1 n hlv
    rw [am_ceA hsh, am_ae1 hk] at hcell
    refine W.last hx hb (cell := vp_cell (cA t) (am_len n, .inr (.inl (M.2 n)))) hcell ((hK.2 t _ (ht cA)).1 (am_len n) (fun j => .long (M.2 n j))) (fun q => by cases q) (by show ¬ (j < 0 ∨ (arrV _ _ _).slots.size ≤ _); rw [arrV_size]; exact am_in_vp hin) rfl rfl hd fun H1 e1 z oq => ?_
    refine hKK _ _ _ _ h H1 _ ls (hP.put hlv ?_ (fun m hm => am_ce_wJ hm) oq) (hS.put z oq (hP.2.2.1 n hlv)) hl
    rw [am_ceA hsh, am_ae1 hk, am_wJ_row]
    show H1[al n]? = some (vp_cell _ _)
    rw [e1, am_arr_l]
  · exact h.elim
theorem ak_alen {t : Nat} {ty : FieldType} (ht : ∀ cA : Nat → ClassId, (am_tys cA)[t]? = some (cA t, ty)) (hd : decode cc pc = .ok (.arraylength, 1)) (hn : pc + 1 = nx) : am_ok own cc nL rt rf rl live Ret pc (am_alen live t nx) := by
  subst hn
  intro p l e s m args below meth c D cA al B hC Y hY L st M K hKK h H locs ls hP hS hl
  obtain ⟨hx, hb, hml, hown, hts, hlk, hr, hK, hB, hZ, hN⟩ := hC
  unfold am_alen at h
  split at h
  · next n r =>
    obtain ⟨hbb, h⟩ := am_if_mp h
    obtain ⟨hlv, hsh⟩ := am_isA_spec hbb
    have hcell := hP.1 n hlv
    rw [am_ceA hsh] at hcell
    exact va_alen (D := D) (cl := am_cl) (tys := am_tys cA) hx hb hK (am_P1 hcell) 0 t rfl (ht cA) rfl hd (hKK _ _ _ _ h H locs ls hP hS hl)
  · exact h.elim
theorem ak_getI {ci k N idx : Nat} {C : String} {T : u_T} (hc : am_cl[ci]? = some (C, T, N)) (hin : ∀ w ∈ u_ws C T N, w ∈ am_ws) (hk : k < N) (hnf : am_nf ci = N) (hft : am_ft ci k = 0) (hdc : (T k).1 = C) (hw : Cond.fieldLink own idx C (T k).2.1 (T k).2.2.1 ∈ am_ws) (hd : decode cc pc = .ok (.getfield idx, 3)) (hn : pc + 3 = nx) : am_ok own cc nL rt rf rl live Ret pc (am_getI live ci k nx) := by
  subst hn
  intro p l e s m args below meth c D cA al B hC Y hY L st M K hKK h H locs ls hP hS hl
  obtain ⟨hx, hb, hml, hown, hts, hlk, hr, hK, hB, hZ, hN⟩ := hC
  unfold am_getI at h
  split at h
  · next n r =>
    obtain ⟨hbb, h⟩ := am_if_mp h
    obtain ⟨hlv, hsh⟩ := am_isO_spec hbb
    have hcell := hP.1 n hlv
    rw [am_ceF hsh] at hcell
    exact va_get (D := D) (cl := am_cl) (tys := am_tys cA) hx hb hts hin hown hK (am_P1 hcell) 0 rfl hc k hk (hts _ hw) (fun x hx => by rw [hdc] at hx; exact hx) (by rw [hnf, List.getElem?_map, List.getElem?_range hk]; exact congrArg some (am_fv0 hft)) hd (hKK _ _ _ _ h H locs ls hP hS hl)
  · exact h.elim
theorem ak_getJ {ci k N idx : Nat} {C : String} {T : u_T} (hc : am_cl[ci]? = some (C, T, N)) (hin : ∀ w ∈ u_ws C T N, w ∈ am_ws) (hk : k < N) (hnf : am_nf ci = N) (hft : am_ft ci k = 1) (hdc : (T k).1 = C) (hw : Cond.fieldLink own idx C (T k).2.1 (T k).2.2.1 ∈ am_ws) (hd : decode cc pc = .ok (.getfield idx, 3)) (hn : pc + 3 = nx) : am_ok own cc nL rt rf rl live Ret pc (am_getJ live ci k nx) := by
  subst hn
  intro p l e s m args below meth c D cA al B hC Y hY L st M K hKK h H locs ls hP hS hl
  obtain ⟨hx, hb, hml, hown, hts, hlk, hr, hK, hB, hZ, hN⟩ := hC
  unfold am_getJ at h
  split at h
  · next n r =>
    obtain ⟨hbb, h⟩ := am_if_mp h
    obtain ⟨hlv, hsh⟩ := am_isO_spec hbb
    have hcell := hP.1 n hlv
    rw [am_ceF hsh] at hcell
    exact va_get (D := D) (cl := am_cl) (tys := am_tys cA) hx hb hts hin hown hK (am_P1 hcell) 0 rfl hc k hk (hts _ hw) (fun x hx => by rw [hdc] at hx; exact hx) (by rw [hnf, List.getElem?_map, List.getElem?_range hk]; exact congrArg some (am_fv1 hft)) hd (hKK _ _ _ _ h H locs ls hP hS hl)
  · exact h.elim
theorem ak_getR {ci k N idx : Nat} {C : String} {T : u_T} (hc : am_cl[ci]? = some (C, T, N)) (hin : ∀ w ∈ u_ws C T N, w ∈ am_ws) (hk : k < N) (hnf : am_nf ci = N) (hft : am_ft ci k = 2) (hdc : (T k).1 = C) (hw : Cond.fieldLink own idx C (T k).2.1 (T k).2.2.1 ∈ am_ws) (hd : decode cc pc = .ok (.getfield idx, 3)) (hn : pc + 3 = nx) : am_ok own cc nL rt rf rl live Ret pc (am_getR live ci k nx) := by
  subst hn
  intro p l e s m args below meth c D cA al B hC Y hY L st M K hKK h H locs ls hP hS hl
  obtain ⟨hx, hb, hml, hown, hts, hlk, hr, hK, hB, hZ, hN⟩ := hC
  unfold am_getR at h
  split at h
  · next n r =>
    obtain ⟨hbb, h⟩ := am_if_mp h
    obtain ⟨hlv, hsh⟩ := am_isO_spec hbb
    have hcell := hP.1 n hlv
    rw [am_ceF hsh] at hcell
    obtain ⟨q, hq, h⟩ := am_qm (P := fun q => K (pc + 3) L (.ref q :: r) M) h
    exact va_get (D := D) (cl := am_cl) (tys := am_tys cA) (v := .ref (al q)) hx hb hts hin hown hK (am_P1 hcell) 0 rfl hc k hk (hts _ hw) (fun x hx => by rw [hdc] at hx; exact hx) (by rw [hnf, List.getElem?_map, List.getElem?_range hk]; exact congrArg some ((am_fv2 hft).trans (by rw [hq]; rfl))) hd (hKK _ _ _ _ h H locs ls hP hS hl)
  · exact h.elim
/-- a store into a field of a kind -/
theorem am_pf {p : Program} {l : Launch} {e : Env} {R : Room} {s : State} {m : MethodId} {args : Array Value} {below : List Frame} {meth : Method} {c : Code} {H : Heap} {locs : List Loc} {Q : State → Prop} {kc kn : Nat} {ls : Array Slot} {D : va_G} {cA : Nat → ClassId} {al : Nat → Nat} {B n : Nat} {M M' : am_M} {rest : List Value} {v : Value}
    {ci k N idx : Nat} {C : String} {T : u_T} {ty0 : Nat → FieldType} {ty : FieldType} (hx : p.tables.exec = Jvm.exec) (hb : c.code = cc) (hown : s.vm.findClass own = some m.cls) (hts : ∀ w ∈ am_ws, w.before args s = true) (hK : va_K D am_cl (am_tys cA) s) (hP : am_P D cA al B live M H) (hlv : live.1 n = true) (hsh : am_sh n = .inl ci)
    (hc : am_cl[ci]? = some (C, T, N)) (hin : ∀ w ∈ u_ws C T N, w ∈ am_ws) (hty : ∀ k, k < N → parseFieldDescriptor (T k).2.2.1 = some (ty0 k)) (hnm : ∀ a, a < N → ∀ b, b < N → a ≠ b → (T a).2.1 ≠ (T b).2.1) (hk : k < N) (hnf : am_nf ci = N) (hdc : (T k).1 = C) (hfin : (T k).2.2.2 = false) (hd0 : parseFieldDescriptor (T k).2.2.1 = some ty) (hnr : narrow ty v = v) (hfit : fits ty v = true) (hw : Cond.fieldLink own idx C (T k).2.1 (T k).2.2.1 ∈ am_ws) (hd : decode cc pc = .ok (.putfield idx, 3))
    (hm1 : am_fv live.2 al M' n ci k = v) (hm2 : ∀ j, j ≠ k → am_fv live.2 al M' n ci j = am_fv live.2 al M n ci j) (hm3 : ∀ m, m ≠ n → am_ce live.2 cA al M' m = am_ce live.2 cA al M m)
    (kk : ∀ (H1 : Heap) (k2 : Nat), am_P D cA al B live M' H1 → H1.size = H.size → (∀ q : Nat, q ≠ al n → H1[q]? = H[q]?) → W p l e R s m args below meth c H1 (locs ++ [⟨al n, k2⟩]) kc kn Q (F0 m (pc + 3) ls rest)) : W p l e R s m args below meth c H locs kc kn Q (F0 m pc ls (v :: .ref (al n) :: rest)) := by
  have hap := va_apart (own := own) (D := D) (s := s) (args := args) hts hin ty0 hty hnm hK hc
  have hcell := hP.1 n hlv
  rw [am_ceF hsh] at hcell
  obtain ⟨r, h1, cell, q1, q2, q3, q4⟩ := hcell
  have hr : r = (C, T, N) := Option.some.inj (h1.symm.trans hc)
  subst hr
  obtain ⟨hS, hfc, kC, hkC, hkind⟩ := hK.1 ci _ hc
  obtain ⟨cf, kf, fi, f, hi, hsl⟩ := hS k hk
  have hlay := hts _ (hin _ (u_in_lay hk))
  unfold u_lay at hlay
  rw [if_neg (by rw [hfin]; decide)] at hlay
  have hst := (u_facts hfc hkC (u_lays hts hin hk) hi).1
  have h6 := u_store hfc hkC hkind hlay hi hd0 hnr hfit
  have hi2 : s.fieldFound? C (T k).2.1 (T k).2.2.1 = some (cf, kf, fi, f) := by rw [← hdc]; exact hi
  refine W.putK hx hb (f := f) ⟨hown, hts _ hw, ⟨_, _, _, hi2⟩, hst⟩ (by rw [q2]; exact h6) q1 q3 (by rw [hsl]; exact k2_hasslot (q4 k hk)) rfl rfl hd fun H' e1 e2 e3 => ?_
  rw [hsl] at e1 ⊢
  refine kk H' _ (hP.put hlv ?_ hm3 e3) e2 e3
  rw [am_ceF hsh]
  refine ⟨(C, T, N), hc, t_OB.to (V := updV (vp_V ((List.range (am_nf ci)).map (am_fv live.2 al M n ci))) k v) ⟨_, e1, q2, q3, t_set q4 hap hk v⟩ (fun j hj => ?_)⟩
  rw [hnf, am_V _ hj]
  unfold updV
  by_cases hjk : j = k
  · subst hjk
    rw [if_pos rfl, hm1]
  · rw [if_neg hjk, am_V _ hj, hm2 j hjk]
theorem ak_putI {ci k N idx : Nat} {C : String} {T : u_T} {ty0 : Nat → FieldType} (hc : am_cl[ci]? = some (C, T, N)) (hin : ∀ w ∈ u_ws C T N, w ∈ am_ws) (hty : ∀ k, k < N → parseFieldDescriptor (T k).2.2.1 = some (ty0 k)) (hnm : ∀ a, a < N → ∀ b, b < N → a ≠ b → (T a).2.1 ≠ (T b).2.1) (hk : k < N) (hnf : am_nf ci = N) (hft : am_ft ci k = 0) (hdc : (T k).1 = C) (hfin : (T k).2.2.2 = false) (hd0 : parseFieldDescriptor (T k).2.2.1 = some .int) (hw : Cond.fieldLink own idx C (T k).2.1 (T k).2.2.1 ∈ am_ws) (hd : decode cc pc = .ok (.putfield idx, 3)) (hn : pc + 3 = nx) : am_ok own cc nL rt rf rl live Ret pc (am_putI live ci k nx) := by
  subst hn
  intro p l e s m args below meth c D cA al B hC Y hY L st M K hKK h H locs ls hP hS hl
  obtain ⟨hx, hb, hml, hown, hts, hlk, hr, hK, hB, hZ, hN⟩ := hC
  unfold am_putI at h
  split at h
  · next x n r =>
    obtain ⟨hbb, h⟩ := am_if_mp h
    obtain ⟨hlv, hsh⟩ := am_isO_spec hbb
    refine am_pf (M' := am_wI M n k x) (v := .int x) hx hb hown hts hK hP hlv hsh hc hin hty hnm hk hnf hdc hfin hd0 rfl rfl hw hd ?_ (fun j hj => ?_) (fun m hm => am_ce_wI hm) (fun H1 k2 hP1 z oq => hKK _ _ _ _ h H1 _ ls hP1 (hS.put z oq (hP.2.2.1 n hlv)) hl)
    · rw [am_fv0 hft]
      exact congrArg Value.int (if_pos ⟨rfl, rfl⟩)
    · unfold am_fv
      rw [show (am_wI M n k x).1 n j = M.1 n j from if_neg (fun q => hj q.2)]
      rfl
  · exact h.elim
theorem ak_putZ {ci k N idx : Nat} {C : String} {T : u_T} {ty0 : Nat → FieldType} (hc : am_cl[ci]? = some (C, T, N)) (hin : ∀ w ∈ u_ws C T N, w ∈ am_ws) (hty : ∀ k, k < N → parseFieldDescriptor (T k).2.2.1 = some (ty0 k)) (hnm : ∀ a, a < N → ∀ b, b < N → a ≠ b → (T a).2.1 ≠ (T b).2.1) (hk : k < N) (hnf : am_nf ci = N) (hft : am_ft ci k = 0) (hdc : (T k).1 = C) (hfin : (T k).2.2.2 = false) (hd0 : parseFieldDescriptor (T k).2.2.1 = some .boolean) (hw : Cond.fieldLink own idx C (T k).2.1 (T k).2.2.1 ∈ am_ws) (hd : decode cc pc = .ok (.putfield idx, 3)) (hn : pc + 3 = nx) : am_ok own cc nL rt rf rl live Ret pc (am_putZ live ci k nx) := by
  subst hn
  intro p l e s m args below meth c D cA al B hC Y hY L st M K hKK h H locs ls hP hS hl
  obtain ⟨hx, hb, hml, hown, hts, hlk, hr, hK, hB, hZ, hN⟩ := hC
  unfold am_putZ at h
  split at h
  · next x n r =>
    obtain ⟨hbb, h01, h⟩ := am_if_mp h
    obtain ⟨hlv, hsh⟩ := am_isO_spec hbb
    have hnr : narrow .boolean (.int x) = .int x := by rcases h01 with rfl | rfl <;> rfl
    have hfi : fits .boolean (.int x) = true := by rcases h01 with rfl | rfl <;> rfl
    refine am_pf (M' := am_wI M n k x) (v := .int x) hx hb hown hts hK hP hlv hsh hc hin hty hnm hk hnf hdc hfin hd0 hnr hfi hw hd ?_ (fun j hj => ?_) (fun m hm => am_ce_wI hm) (fun H1 k2 hP1 z oq => hKK _ _ _ _ h H1 _ ls hP1 (hS.put z oq (hP.2.2.1 n hlv)) hl)
    · rw [am_fv0 hft]
      exact congrArg Value.int (if_pos ⟨rfl, rfl⟩)
    · unfold am_fv
      rw [show (am_wI M n k x).1 n j = M.1 n j from if_neg (fun q => hj q.2)]
      rfl
  · exact h.elim
theorem ak_putJ {ci k N idx : Nat} {C : String} {T : u_T} {ty0 : Nat → FieldType} (hc : am_cl[ci]? = some (C, T, N)) (hin : ∀ w ∈ u_ws C T N, w ∈ am_ws) (hty : ∀ k, k < N → parseFieldDescriptor (T k).2.2.1 = some (ty0 k)) (hnm : ∀ a, a < N → ∀ b, b < N → a ≠ b → (T a).2.1 ≠ (T b).2.1) (hk : k < N) (hnf : am_nf ci = N) (hft : am_ft ci k = 1) (hdc : (T k).1 = C) (hfin : (T k).2.2.2 = false) (hd0 : parseFieldDescriptor (T k).2.2.1 = some .long) (hw : Cond.fieldLink own idx C (T k).2.1 (T k).2.2.1 ∈ am_ws) (hd : decode cc pc = .ok (.putfield idx, 3)) (hn : pc + 3 = nx) : am_ok own cc nL rt rf rl live Ret pc (am_putJ live ci k nx) := by
  subst hn
  intro p l e s m args below meth c D cA al B hC Y hY L st M K hKK h H locs ls hP hS hl
  obtain ⟨hx, hb, hml, hown, hts, hlk, hr, hK, hB, hZ, hN⟩ := hC
  unfold am_putJ at h
  split at h
  · next x n r =>
    obtain ⟨hbb, h⟩ := am_if_mp h
    obtain ⟨hlv, hsh⟩ := am_isO_spec hbb
    refine am_pf (M' := am_wJ M n k x) (v := .long x) hx hb hown hts hK hP hlv hsh hc hin hty hnm hk hnf hdc hfin hd0 rfl rfl hw hd ?_ (fun j hj => ?_) (fun m hm => am_ce_wJ hm) (fun H1 k2 hP1 z oq => hKK _ _ _ _ h H1 _ ls hP1 (hS.put z oq (hP.2.2.1 n hlv)) hl)
    · rw [am_fv1 hft]
      exact congrArg Value.long (if_pos ⟨rfl, rfl⟩)
    · unfold am_fv
      rw [show (am_wJ M n k x).2 n j = M.2 n j from if_neg (fun q => hj q.2)]
      rfl
  · exact h.elim
theorem ak_gets {k idx : Nat} {C n d : String} (hk : k < am_ns) (hs : am_sC k = (C, n, d)) (hw : Cond.fieldLink own idx C n d ∈ am_ws) (hd : decode cc pc = .ok (.getstatic idx, 3)) (hn : pc + 3 = nx) : am_ok own cc nL rt rf rl live Ret pc (am_const (.ref (1000 + k)) nx) := by
  subst hn
  intro p l e s m args below meth c D cA al B hC Y hY L st M K hKK h H locs ls hP hS hl
  obtain ⟨hx, hb, hml, hown, hts, hlk, hr, hK, hB, hZ, hN⟩ := hC
  have hz := (hZ k hk).1
  rw [hs] at hz
  exact va_gets hx hb hz hS hown (hts _ hw) (fun _ h => h) hd (hKK _ _ _ _ h H locs ls hP hS hl)
theorem ak_getsN {k idx : Nat} {C n d host : String} (hk : k < am_ns) (hs : am_sC k = (C, n, d)) (hw : (own, idx, C, n, d, host) ∈ am_nest) (hd : decode cc pc = .ok (.getstatic idx, 3)) (hn : pc + 3 = nx) : am_ok own cc nL rt rf rl live Ret pc (am_const (.ref (1000 + k)) nx) := by
  subst hn
  intro p l e s m args below meth c D cA al B hC Y hY L st M K hKK h H locs ls hP hS hl
  obtain ⟨hx, hb, hml, hown, hts, hlk, hr, hK, hB, hZ, hN⟩ := hC
  have hz := (hZ k hk).1
  rw [hs] at hz
  exact va_getsN hx hb hz hS hown (va_Nw.use rfl (hN.1 _ hw)) (fun _ h => h) hd (hKK _ _ _ _ h H locs ls hP hS hl)
theorem ak_sld {k : Nat} (hk : k < am_ns) (hd : decode cc pc = .ok (.iaload, 1)) (hn : pc + 1 = nx) : am_ok own cc nL rt rf rl live Ret pc (am_sld k nx) := by
  subst hn
  intro p l e s m args below meth c D cA al B hC Y hY L st M K hKK h H locs ls hP hS hl
  obtain ⟨hx, hb, hml, hown, hts, hlk, hr, hK, hB, hZ, hN⟩ := hC
  unfold am_sld at h
  split at h
  · next j n r =>
    obtain ⟨hbb, hin, h2⟩ := am_if_mp h
    clear h
    have hn := Nat.eq_of_beq_eq_true hbb
    subst hn
    exact va_ti hx hb (hZ k hk).2 hS (am_in_vp hin) rfl hd (hKK _ _ _ _ h2 H locs ls hP hS hl)
  · exact h.elim
theorem am_ro {p : Program} {s : State} {m : MethodId} {args : Array Value} {meth : Method} {c : Code} {D : va_G} {cA : Nat → ClassId} {al : Nat → Nat} {B : Nat} {H : Heap} {locs : List Loc} {M : am_M} {r : Option Value} (hC : am_C p s m args meth c D cA al B own cc nL rt) (hP : am_P D cA al B live M H) (hS : va_S (fun q => B ≤ q) s.heap H locs) (h : Ret r M) :
    ∀ t : State, t.heap = H → s.WarmedH t.vm → am_Qc D cA al B live Ret args s (.returned (r.map (am_cv al))) t := fun t ht _ => ⟨r, M, h, rfl, by rw [ht]; exact hP, hS.F ht⟩
theorem am_rt {s : State} {args : Array Value} {below : List Frame} {D : va_G} {cA : Nat → ClassId} {al : Nat → Nat} {B : Nat} {Y : am_Y} {r : Option Value} {M : am_M} {P : Prop} (hY : am_Yk s args below D cA al B live Ret rf rl Y) (h : Ret r M) (k : Y.2.1 = 0 → Y.2.2.1 = 0 → Y.2.2.2 = MQ below (am_Qc D cA al B live Ret) args s 0 0 (fun q => B ≤ q) → P) : P := by
  rcases hY.2.2.2.2 with ⟨e1, e2, e3⟩ | hn
  · exact k e1 e2 e3
  · exact absurd h (hn r M)
theorem ak_retI (hd : decode cc pc = .ok (.ireturn, 1)) : am_ok own cc nL (some .int) rf rl live Ret pc (am_retI Ret) := by
  intro p l e s m args below meth c D cA al B hC Y hY L st M K hKK h H locs ls hP hS hl
  unfold am_retI at h
  split at h
  · next v => exact am_rt hY h (fun e1 e2 e3 => by rw [e1, e2, e3]; exact W.iret hC.1 hC.2.1 hC.2.2.2.2.2.2.1 (am_ro (r := some (.int v)) hC hP hS h) hS.2.2 hd (hlocks := hC.2.2.2.2.2.1))
  · exact h.elim
theorem ak_retZ (hd : decode cc pc = .ok (.ireturn, 1)) : am_ok own cc nL (some .boolean) rf rl live Ret pc (am_retZ Ret) := by
  intro p l e s m args below meth c D cA al B hC Y hY L st M K hKK h H locs ls hP hS hl
  unfold am_retZ at h
  split at h
  · next v => exact am_rt hY h.2 (fun e1 e2 e3 => by rw [e1, e2, e3]; exact W.zret hC.1 hC.2.1 hC.2.2.2.2.2.2.1 (by rcases h.1 with rfl | rfl <;> rfl) (am_ro (r := some (.int v)) hC hP hS h.2) hS.2.2 hd (hlocks := hC.2.2.2.2.2.1))
  · exact h.elim
theorem ak_retL (hd : decode cc pc = .ok (.lreturn, 1)) : am_ok own cc nL (some .long) rf rl live Ret pc (am_retL Ret) := by
  intro p l e s m args below meth c D cA al B hC Y hY L st M K hKK h H locs ls hP hS hl
  unfold am_retL at h
  split at h
  · next v => exact am_rt hY h (fun e1 e2 e3 => by rw [e1, e2, e3]; exact W.lret hC.1 hC.2.1 hC.2.2.2.2.2.2.1 (am_ro (r := some (.long v)) hC hP hS h) hS.2.2 hd (hlocks := hC.2.2.2.2.2.1))
  · exact h.elim
theorem ak_retV (hd : decode cc pc = .ok (.return_, 1)) : am_ok own cc nL none rf rl live Ret pc (am_retV Ret) := by
  intro p l e s m args below meth c D cA al B hC Y hY L st M K hKK h H locs ls hP hS hl
  unfold am_retV at h
  split at h
  · exact am_rt hY h (fun e1 e2 e3 => by rw [e1, e2, e3]; exact W.vret hC.1 hC.2.1 hC.2.2.2.2.2.2.1 (am_ro (r := none) hC hP hS h) hS.2.2 hd (hlocks := hC.2.2.2.2.2.1))
  · exact h.elim
end AKM
