/-! AM: a machine of names over the kit's rows. A name stands for a cell; the memory holds int-like, long and reference contents by name and place. -/
/-- the words that every method of ours is given -/
def am_ws : List Cond := lw_tbl.filter goodWord
theorem am_wsi {w : Cond} (h : w ∈ lw_tbl) (hg : goodWord w = true) : w ∈ am_ws := List.mem_filter.mpr ⟨h, hg⟩
theorem am_wsg {w : Cond} (h : w ∈ am_ws) : goodWord w = true := (List.mem_filter.mp h).2
def am_N (s : State) : Prop := (∀ q ∈ am_nest, va_Nw (.fieldLinkNest q.1 q.2.1 q.2.2.1 q.2.2.2.1 q.2.2.2.2.1 q.2.2.2.2.2) s) ∧ (∀ q ∈ am_nestM, va_Nw (.methodLinkNest q.1 q.2.1 q.2.2.1 q.2.2.2) s) ∧ ∀ C ∈ am_over, va_AO C s
theorem am_N.vm {s U : State} (h : s.vm = U.vm) (hN : am_N s) : am_N U := ⟨fun q hq => va_Nw.same rfl h (hN.1 q hq), fun q hq => va_Nw.same rfl h (hN.2.1 q hq), fun C hC => va_AO.moved (by rw [h]; exact Vm.Alike.refl U.vm) (hN.2.2 C hC)⟩
theorem am_N.warm {s U : State} (hW : s.WarmedH U.vm) (hN : am_N s) : am_N U := ⟨fun q hq => va_Nw.warmF hW (hN.1 q hq), fun q hq => va_Nw.warmM hW (hN.2.1 q hq), fun C hC => va_AO.moved hW.alike (hN.2.2 C hC)⟩
abbrev am_M : Type := (Nat → Nat → Int32) × (Nat → Nat → Int64)
/-- which names stand for cells, and what the references hold -/
abbrev am_E : Type := (Nat → Bool) × (Nat → Nat → Option Nat)
abbrev am_L : Type := List (Nat × Value)
abbrev am_K : Type := Nat → am_L → List Value → am_M → Prop
abbrev am_S : Type := am_L → List Value → am_M → am_K → Prop
abbrev am_R : Type := Option Value → am_M → Prop
abbrev am_T : Type := am_E → List Value → am_M → am_R → Prop
def am_wI (M : am_M) (n k : Nat) (v : Int32) : am_M := (fun a b => if a = n ∧ b = k then v else M.1 a b, M.2)
def am_wJ (M : am_M) (n k : Nat) (v : Int64) : am_M := (M.1, fun a b => if a = n ∧ b = k then v else M.2 a b)
def am_cI (M : am_M) (n : Nat) (f : Nat → Int32) : am_M := (fun a b => if a = n then f b else M.1 a b, M.2)
def am_cJ (M : am_M) (n : Nat) (f : Nat → Int64) : am_M := (M.1, fun a b => if a = n then f b else M.2 a b)
def am_cv (al : Nat → Nat) (v : Value) : Value := match v with
  | .ref n => .ref (al n)
  | w => w
theorem am_cv_cat (al : Nat → Nat) (v : Value) : (am_cv al v).category = v.category := by cases v <;> rfl
def am_g : am_L → Nat → Option Value
  | [], _ => none
  | q :: r, i => match Nat.beq q.1 i with
    | true => some q.2
    | false => am_g r i
theorem am_g_mem : ∀ {L : am_L} {i : Nat} {v : Value}, am_g L i = some v → (i, v) ∈ L
  | [], _, _, h => by cases h
  | q :: r, i, v, h => by
    unfold am_g at h
    cases hb : Nat.beq q.1 i with
    | true =>
      rw [hb] at h
      have e : q.1 = i := Nat.eq_of_beq_eq_true hb
      have e2 : q.2 = v := Option.some.inj h
      rw [← e, ← e2]
      exact List.mem_cons_self
    | false =>
      rw [hb] at h
      exact List.mem_cons_of_mem _ (am_g_mem h)
def am_lc (al : Nat → Nat) (L : am_L) : am_L := L.map (fun q => (q.1, am_cv al q.2))
theorem am_lc_mem {al : Nat → Nat} {L : am_L} {i : Nat} {v : Value} (h : (i, v) ∈ L) : (i, am_cv al v) ∈ am_lc al L := List.mem_map.mpr ⟨(i, v), h, rfl⟩
theorem am_lc_at {al : Nat → Nat} {L : am_L} {i : Nat} {v : Value} {ls : Array Slot} {nL : Nat} (hl : lv_has ls nL (am_lc al L)) (h : am_g L i = some v) : ls[i]? = some (.val (am_cv al v)) := hl.2.2 (i, am_cv al v) (am_lc_mem (am_g_mem h))
theorem am_lc_pl {al : Nat → Nat} {L : am_L} {i : Nat} {v : Value} (h : am_g L i = some v) : ∃ k : Nat, (am_lc al L)[k]? = some (i, am_cv al v) := List.getElem?_of_mem (am_lc_mem (am_g_mem h))
def am_s1 (i : Nat) (v : Value) (L : am_L) : am_L := (i, v) :: L.filter (fun q => !(q.1 == i) && !(q.1 + 1 == i && q.2.category == 2))
def am_s2 (i : Nat) (v : Value) (L : am_L) : am_L := (i, v) :: L.filter (fun q => !(q.1 == i) && (!(q.1 == i + 1) && !(q.1 + 1 == i && q.2.category == 2)))
theorem am_lc_s1 (al : Nat → Nat) (i : Nat) (v : Value) (L : am_L) : (i, am_cv al v) :: (am_lc al L).filter (fun q => !(q.1 == i) && !(q.1 + 1 == i && q.2.category == 2)) = am_lc al (am_s1 i v L) := by
  unfold am_s1 am_lc
  rw [List.map_cons, List.filter_map]
  refine congrArg _ (congrArg _ (congrArg (fun f => List.filter f L) ?_))
  funext q
  simp [Function.comp, am_cv_cat]
theorem am_lc_s2 (al : Nat → Nat) (i : Nat) (v : Value) (L : am_L) : (i, am_cv al v) :: (am_lc al L).filter (fun q => !(q.1 == i) && (!(q.1 == i + 1) && !(q.1 + 1 == i && q.2.category == 2))) = am_lc al (am_s2 i v L) := by
  unfold am_s2 am_lc
  rw [List.map_cons, List.filter_map]
  refine congrArg _ (congrArg _ (congrArg (fun f => List.filter f L) ?_))
  funext q
  simp [Function.comp, am_cv_cat]
def am_force : am_L → (am_L → Prop) → Prop
  | [], K => K []
  | q :: r, K => am_force r (fun r' => K (q :: r'))
theorem am_force_iff : ∀ (L : am_L) (K : am_L → Prop), am_force L K ↔ K L
  | [], _ => Iff.rfl
  | q :: r, K => am_force_iff r (fun r' => K (q :: r'))
def am_if (b : Bool) (P : Prop) : Prop := b = true ∧ P
theorem am_if_mp {b : Bool} {P : Prop} (h : am_if b P) : b = true ∧ P := h
theorem am_if_in {b : Bool} {P : Prop} (h : b = true) (k : P) : am_if b P := ⟨h, k⟩
def am_ex (o : Option Nat) (P : Nat → Prop) : Prop := ∃ q, o = some q ∧ P q
theorem am_qm {q : Option Nat} {P : Nat → Prop} (h : am_ex q P) : ∃ x, q = some x ∧ P x := h
def am_swc (x : Int32) : List (Int32 × Nat) → Nat → (Nat → Prop) → Prop
  | [], d, K => K d
  | q :: cs, d, K => (x = q.1 → K q.2) ∧ (¬ x = q.1 → am_swc x cs d K)
/-! the cells that names stand for -/
def am_fv (Q : Nat → Nat → Option Nat) (al : Nat → Nat) (M : am_M) (n ci k : Nat) : Value := match am_ft ci k with
  | 0 => .int (M.1 n k)
  | 1 => .long (M.2 n k)
  | _ => va_rf ((Q n k).map al)
def am_ae (Q : Nat → Nat → Option Nat) (al : Nat → Nat) (M : am_M) (n t : Nat) : (Nat → Int32) ⊕ (Nat → Int64) ⊕ (Nat → UInt32) ⊕ (Nat → UInt64) ⊕ (Nat → Option Nat) := match am_tk t with
  | 0 => .inl (M.1 n)
  | 1 => .inr (.inl (M.2 n))
  | _ => .inr (.inr (.inr (.inr (fun k => (Q n k).map al))))
def am_ce (Q : Nat → Nat → Option Nat) (cA : Nat → ClassId) (al : Nat → Nat) (M : am_M) (n : Nat) : va_E := match am_sh n with
  | .inl ci => .inr (ci, (List.range (am_nf ci)).map (am_fv Q al M n ci))
  | .inr q => .inl (cA q.1, q.2, am_ae Q al M n q.1)
def am_P (D : va_G) (cA : Nat → ClassId) (al : Nat → Nat) (B : Nat) (live : am_E) (M : am_M) (H : Heap) : Prop :=
  (∀ n, live.1 n = true → va_at D am_cl (al n, am_ce live.2 cA al M n) H) ∧ (∀ n m, live.1 n = true → live.1 m = true → al n = al m → n = m) ∧ (∀ n, live.1 n = true → B ≤ al n) ∧ (∀ n, live.1 n = true → n < 400)
theorem am_P.put {D : va_G} {cA : Nat → ClassId} {al : Nat → Nat} {B : Nat} {live : am_E} {M M' : am_M} {H H1 : Heap} {n : Nat} (h : am_P D cA al B live M H) (hn : live.1 n = true) (he : va_at D am_cl (al n, am_ce live.2 cA al M' n) H1)
    (ho : ∀ m, m ≠ n → am_ce live.2 cA al M' m = am_ce live.2 cA al M m) (oq : ∀ q : Nat, q ≠ al n → H1[q]? = H[q]?) : am_P D cA al B live M' H1 := by
  refine ⟨fun m hm => ?_, h.2.1, h.2.2⟩
  by_cases e : m = n
  · subst e; exact he
  · rw [ho m e]
    exact (h.1 m hm).kept (oq _ (fun q => e (h.2.1 m n hm hn q)))
def am_isO (live : am_E) (ci n : Nat) : Bool := live.1 n && (match am_sh n with
  | .inl c => Nat.beq c ci
  | .inr _ => false)
def am_isA (live : am_E) (t n : Nat) : Bool := live.1 n && (match am_sh n with
  | .inl _ => false
  | .inr q => Nat.beq q.1 t)
def am_len (n : Nat) : Nat := match am_sh n with
  | .inl _ => 0
  | .inr q => q.2
theorem am_isO_spec {live : am_E} {ci n : Nat} (h : am_isO live ci n = true) : live.1 n = true ∧ am_sh n = .inl ci := by
  unfold am_isO at h
  rw [Bool.and_eq_true] at h
  refine ⟨h.1, ?_⟩
  have h2 := h.2
  revert h2
  cases am_sh n with
  | inl c => intro h2; exact congrArg Sum.inl (Nat.eq_of_beq_eq_true h2)
  | inr q => intro h2; cases h2
theorem am_isA_spec {live : am_E} {t n : Nat} (h : am_isA live t n = true) : live.1 n = true ∧ am_sh n = .inr (t, am_len n) := by
  unfold am_isA at h
  rw [Bool.and_eq_true] at h
  refine ⟨h.1, ?_⟩
  have h2 := h.2
  revert h2
  unfold am_len
  cases am_sh n with
  | inl c => intro h2; cases h2
  | inr q => intro h2; rw [← Nat.eq_of_beq_eq_true h2]
/-- the static arrays, by their names from 1000 on -/
def am_Z (al : Nat → Nat) (B : Nat) (s : State) : Prop := ∀ k, k < am_ns → va_Z (am_sC k).1 (am_sC k).2.1 (am_sC k).2.2 (.ref (al (1000 + k))) (fun q => B ≤ q) s s.heap ∧ va_T .int (al (1000 + k)) (am_sN k) (fun j => .int (am_sf k j)) (fun q => B ≤ q) s s.heap
def am_C (p : Program) (s : State) (m : MethodId) (args : Array Value) (meth : Method) (c : Code) (D : va_G) (cA : Nat → ClassId) (al : Nat → Nat) (B : Nat) (own : String) (cc : ByteArray) (nL : Nat) (rt : Option FieldType) : Prop :=
  p.tables.exec = Jvm.exec ∧ c.code = cc ∧ c.maxLocals = nL ∧ s.vm.findClass own = some m.cls ∧ (∀ w ∈ am_ws, w.before args s = true) ∧ meth.locks = false ∧ meth.sig.returnType = rt ∧ va_K D am_cl (am_tys cA) s ∧ B ≤ s.heap.size ∧ am_Z al B s ∧ am_N s
def am_Qc (D : va_G) (cA : Nat → ClassId) (al : Nat → Nat) (B : Nat) (live : am_E) (Ret : am_R) : Array Value → State → Outcome → State → Prop := fun _ st o t =>
  ∃ (r : Option Value) (M' : am_M), Ret r M' ∧ o = .returned (r.map (am_cv al)) ∧ am_P D cA al B live M' t.heap ∧ va_F (fun q => B ≤ q) st t
def am_Pc (D : va_G) (cA : Nat → ClassId) (al : Nat → Nat) (B : Nat) (live : am_E) (as : List Value) (M : am_M) : Array Value → State → Prop := fun v U =>
  v = (as.map (am_cv al)).toArray ∧ B ≤ U.heap.size ∧ am_P D cA al B live M U.heap ∧ va_K D am_cl (am_tys cA) U ∧ am_Z al B U ∧ am_N U
def am_rm (rf rl : Nat) : Room := { frames := rf, cells := 0, slots := 0, locals := rl }
/-- room, cells and slots made so far, aim -/
abbrev am_Y : Type := Room × Nat × Nat × (State → Prop)
def am_W (p : Program) (l : Launch) (e : Env) (Y : am_Y) (s : State) (m : MethodId) (args : Array Value) (below : List Frame) (meth : Method) (c : Code) (D : va_G) (cA : Nat → ClassId) (al : Nat → Nat) (B : Nat) (live : am_E) (nL : Nat) : am_K := fun pc L st M =>
  ∀ (H : Heap) (locs : List Loc) (ls : Array Slot), am_P D cA al B live M H → va_S (fun q => B ≤ q) s.heap H locs → lv_has ls nL (am_lc al L) →
    W p l e Y.1 s m args below meth c H locs Y.2.1 Y.2.2.1 Y.2.2.2 (F0 m pc ls (st.map (am_cv al)))
def am_Yk (s : State) (args : Array Value) (below : List Frame) (D : va_G) (cA : Nat → ClassId) (al : Nat → Nat) (B : Nat) (live : am_E) (Ret : am_R) (rf rl : Nat) (Y : am_Y) : Prop :=
  rf ≤ Y.1.frames ∧ rl ≤ Y.1.locals ∧ Y.2.1 ≤ Y.1.cells ∧ Y.2.2.1 ≤ Y.1.slots ∧ ((Y.2.1 = 0 ∧ Y.2.2.1 = 0 ∧ Y.2.2.2 = MQ below (am_Qc D cA al B live Ret) args s 0 0 (fun q => B ≤ q)) ∨ ∀ r M', ¬ Ret r M')
def am_ok (own : String) (cc : ByteArray) (nL : Nat) (rt : Option FieldType) (rf rl : Nat) (live : am_E) (Ret : am_R) (pc : Nat) (sem : am_S) : Prop :=
  ∀ (p : Program) (l : Launch) (e : Env) (s : State) (m : MethodId) (args : Array Value) (below : List Frame) (meth : Method) (c : Code) (D : va_G) (cA : Nat → ClassId) (al : Nat → Nat) (B : Nat), am_C p s m args meth c D cA al B own cc nL rt →
    ∀ (Y : am_Y), am_Yk s args below D cA al B live Ret rf rl Y → ∀ (L : am_L) (st : List Value) (M : am_M) (K : am_K), (∀ pc' L' st' M', K pc' L' st' M' → am_W p l e Y s m args below meth c D cA al B live nL pc' L' st' M') → sem L st M K → am_W p l e Y s m args below meth c D cA al B live nL pc L st M
/-! a method as a list of what its instructions do; its run with cuts -/
abbrev am_code : Type := List (Nat × am_S)
def am_go : am_code → Nat → am_code
  | [], _ => []
  | q :: r, pc => match Nat.beq q.1 pc with
    | true => q :: r
    | false => am_go r pc
def am_nxt (code rest : am_code) (pc : Nat) : am_code := match rest with
  | [] => am_go code pc
  | r :: rs => match Nat.beq r.1 pc with
    | true => r :: rs
    | false => am_go code pc
abbrev am_cut : Type := Nat → Option (am_L → List Value → am_M → Prop)
/-- by the recursor itself: so the kernel unfolds it step by step -/
noncomputable def am_wp (code : am_code) (cut : am_cut) (n : Nat) : am_code → am_L → List Value → am_M → Prop :=
  @Nat.rec (fun _ => am_code → am_L → List Value → am_M → Prop) (fun _ _ _ _ => False) (fun _ ih cs L st M => match cs with
    | [] => False
    | q :: rest => q.2 L st M (fun pc' L' st' M' => match cut pc' with
      | some I => I L' st' M'
      | none => ih (am_nxt code rest pc') L' st' M')) n
theorem am_go_hd : ∀ (code : am_code) (pc : Nat) (q : Nat × am_S) (r : am_code), am_go code pc = q :: r → q.1 = pc
  | [], _, _, _, h => by cases h
  | a :: rs, pc, q, r, h => by
    unfold am_go at h
    cases hb : Nat.beq a.1 pc with
    | true =>
      rw [hb] at h
      have e : a :: rs = q :: r := h
      cases e
      exact Nat.eq_of_beq_eq_true hb
    | false =>
      rw [hb] at h
      exact am_go_hd rs pc q r h
theorem am_go_in : ∀ (code : am_code) (pc : Nat) (q : Nat × am_S), q ∈ am_go code pc → q ∈ code
  | [], _, _, h => by cases h
  | a :: rs, pc, q, h => by
    unfold am_go at h
    cases hb : Nat.beq a.1 pc with
    | true => rw [hb] at h; exact h
    | false => rw [hb] at h; exact List.mem_cons_of_mem _ (am_go_in rs pc q h)
theorem am_nxt_hd {code rest : am_code} {pc : Nat} {q : Nat × am_S} {r : am_code} (h : am_nxt code rest pc = q :: r) : q.1 = pc := by
  unfold am_nxt at h
  cases rest with
  | nil => exact am_go_hd _ _ _ _ h
  | cons a rs =>
    cases hb : Nat.beq a.1 pc with
    | true =>
      simp only [hb] at h
      cases h
      exact Nat.eq_of_beq_eq_true hb
    | false =>
      simp only [hb] at h
      exact am_go_hd _ _ _ _ h
theorem am_nxt_in {code rest : am_code} {pc : Nat} {q : Nat × am_S} (hr : ∀ x ∈ rest, x ∈ code) (h : q ∈ am_nxt code rest pc) : q ∈ code := by
  unfold am_nxt at h
  cases rest with
  | nil => exact am_go_in _ _ _ h
  | cons a rs =>
    cases hb : Nat.beq a.1 pc with
    | true =>
      simp only [hb] at h
      exact hr _ h
    | false =>
      simp only [hb] at h
      exact am_go_in _ _ _ h
section AMW
variable {own : String} {cc : ByteArray} {nL : Nat} {rt : Option FieldType} {rf rl : Nat} {live : am_E} {Ret : am_R} {p : Program} {l : Launch} {e : Env} {s : State} {m : MethodId} {args : Array Value} {below : List Frame} {meth : Method} {c : Code} {D : va_G} {cA : Nat → ClassId} {al : Nat → Nat} {B : Nat} {Y : am_Y}
theorem am_wp_ok {code : am_code} {cut : am_cut} (hok : ∀ q ∈ code, am_ok own cc nL rt rf rl live Ret q.1 q.2) (hC : am_C p s m args meth c D cA al B own cc nL rt) (hY : am_Yk s args below D cA al B live Ret rf rl Y)
    (hcut : ∀ pc I, cut pc = some I → ∀ L st M, I L st M → am_W p l e Y s m args below meth c D cA al B live nL pc L st M) :
    ∀ (n : Nat) (cs : am_code) (L : am_L) (st : List Value) (M : am_M), (∀ q ∈ cs, q ∈ code) → am_wp code cut n cs L st M → ∃ pc, (∃ q r, cs = q :: r ∧ q.1 = pc) ∧ am_W p l e Y s m args below meth c D cA al B live nL pc L st M
  | 0, _, _, _, _, _, h => h.elim
  | n + 1, [], _, _, _, _, h => h.elim
  | n + 1, q :: rest, L, st, M, hin, h => by
    refine ⟨q.1, ⟨q, rest, rfl, rfl⟩, ?_⟩
    refine hok q (hin q List.mem_cons_self) p l e s m args below meth c D cA al B hC Y hY L st M _ (fun pc' L' st' M' hk => ?_) h
    cases hc : cut pc' with
    | some I =>
      simp only [hc] at hk
      exact hcut pc' I hc L' st' M' hk
    | none =>
      simp only [hc] at hk
      obtain ⟨pc2, ⟨q2, r2, e1, e2⟩, hw⟩ := am_wp_ok hok hC hY hcut n _ L' st' M' (fun x hx => am_nxt_in (fun y hy => hin y (List.mem_cons_of_mem _ hy)) hx) hk
      have e3 := am_nxt_hd e1
      rw [← e3, e2]
      exact hw
/-- loops: invariants with a pair that falls -/
def am_lt (a b : Nat × Nat) : Prop := a.1 < b.1 ∨ (a.1 = b.1 ∧ a.2 < b.2)
abbrev am_inv : Type := Nat → Option (List Nat × (Nat × Nat → am_L → List Value → am_M → Prop))
def am_nm (ks : List Nat) (L : am_L) : am_L := ks.filterMap (fun k => (am_g L k).map (fun v => (k, v)))
theorem am_nm_mem {ks : List Nat} {L : am_L} {q : Nat × Value} (h : q ∈ am_nm ks L) : q ∈ L := by
  obtain ⟨k, -, hk⟩ := List.mem_filterMap.mp h
  cases hg : am_g L k with
  | none => rw [hg] at hk; cases hk
  | some v =>
    rw [hg] at hk
    cases hk
    exact am_g_mem hg
theorem am_W_nm {ks : List Nat} {pc : Nat} {L : am_L} {st : List Value} {M : am_M} (h : am_W p l e Y s m args below meth c D cA al B live nL pc (am_nm ks L) st M) : am_W p l e Y s m args below meth c D cA al B live nL pc L st M := by
  intro H locs ls hP hS hl
  refine h H locs ls hP hS ⟨hl.1, hl.2.1, fun q hq => ?_⟩
  obtain ⟨x, hx, rfl⟩ := List.mem_map.mp hq
  exact hl.2.2 _ (List.mem_map.mpr ⟨x, am_nm_mem hx, rfl⟩)
def am_cutl (inv : am_inv) (k : Nat × Nat) : am_cut := fun pc => match inv pc with
  | some I => some (fun L st M => ∃ k', am_lt k' k ∧ I.2 k' (am_nm I.1 L) st M)
  | none => none
def am_cut0 (inv : am_inv) : am_cut := fun pc => match inv pc with
  | some I => some (fun L st M => ∃ k', I.2 k' (am_nm I.1 L) st M)
  | none => none
theorem am_loops {code : am_code} {inv : am_inv} (hok : ∀ q ∈ code, am_ok own cc nL rt rf rl live Ret q.1 q.2) (hC : am_C p s m args meth c D cA al B own cc nL rt) (hY : am_Yk s args below D cA al B live Ret rf rl Y)
    (N : Nat) (h : ∀ (k : Nat × Nat) (pc : Nat) I, inv pc = some I → ∀ L st M, I.2 k L st M → am_wp code (am_cutl inv k) N (am_go code pc) L st M) :
    ∀ (a b : Nat) (pc : Nat) I, inv pc = some I → ∀ L st M, I.2 (a, b) L st M → am_W p l e Y s m args below meth c D cA al B live nL pc L st M := by
  intro a
  induction a using Nat.strongRecOn with
  | ind a iha =>
    intro b
    induction b using Nat.strongRecOn with
    | ind b ihb =>
      intro pc I hI L st M hi
      have hw := h (a, b) pc I hI L st M hi
      obtain ⟨pc2, ⟨q, r, e1, e2⟩, w⟩ := am_wp_ok (l := l) (e := e) (below := below) hok hC hY (cut := am_cutl inv (a, b)) (fun pc' I' hc L' st' M' hh => by
        unfold am_cutl at hc
        cases hi' : inv pc' with
        | none => rw [hi'] at hc; cases hc
        | some J =>
          rw [hi'] at hc
          cases hc
          obtain ⟨⟨a', b'⟩, hlt, hj⟩ := hh
          refine am_W_nm (ks := J.1) ?_
          rcases hlt with hlt | ⟨e, hlt⟩
          · exact iha a' hlt b' pc' J hi' _ st' M' hj
          · have e' : a' = a := e
            subst e'
            exact ihb b' hlt pc' J hi' _ st' M' hj) N _ L st M (fun x hx => am_go_in _ _ _ hx) hw
      rw [← am_go_hd _ _ _ _ e1, e2]
      exact w
end AMW
/-- a method's contract -/
def am_Met (y : MethodName) (cc : ByteArray) (nL : Nat) (rt : Option FieldType) (rf rl : Nat) (T : am_T) : Prop :=
  ∀ (l : Launch) (D : va_G) (cA : Nat → ClassId) (al : Nat → Nat) (B : Nat) (live : am_E) (as : List Value) (M : am_M) (Ret : am_R), T live as M Ret →
    Met l y (.code y cc nL rt :: am_ws) (am_rm rf rl) (am_Pc D cA al B live as M) (am_Qc D cA al B live Ret) 0 0 (fun q => B ≤ q)
theorem am_args : ∀ (al : Nat → Nat) (i : Nat) (vs : List Value), lv_args i (vs.map (am_cv al)) = am_lc al (lv_args i vs)
  | _, _, [] => rfl
  | al, i, v :: vs => by
    show (i, am_cv al v) :: lv_args (if (am_cv al v).category = 2 then i + 2 else i + 1) (vs.map (am_cv al)) = _
    rw [am_cv_cat, am_args al _ vs]
    rfl
theorem am_slen (al : Nat → Nat) : ∀ vs : List Value, (lg_sl (vs.map (am_cv al))).length = (lg_sl vs).length
  | [] => rfl
  | v :: vs => by
    show (lg_sl (am_cv al v :: vs.map (am_cv al))).length = (lg_sl (v :: vs)).length
    have ih := am_slen al vs
    unfold lg_sl at ih ⊢
    rw [List.flatMap_cons, List.flatMap_cons, List.length_append, List.length_append, ih, am_cv_cat]
    split <;> rfl
theorem am_met {y : MethodName} {own : String} {cc : ByteArray} {nL : Nat} {rt : Option FieldType} {rf rl : Nat} {T : am_T} (hy : plainName y.cls = true) (hown : y.cls = own) (code : am_E → am_R → am_code)
    (hok : ∀ live Ret, ∀ q ∈ code live Ret, am_ok own cc nL rt rf rl live Ret q.1 q.2) (N : Nat) (inv : am_E → List Value → am_M → am_R → am_inv)
    (hin : ∀ live as M Ret, T live as M Ret → (lg_sl as).length ≤ nL ∧ am_wp (code live Ret) (am_cut0 (inv live as M Ret)) N (am_go (code live Ret) 0) (lv_args 0 as) [] M)
    (hl : ∀ live as M0 Ret, T live as M0 Ret → ∀ (k : Nat × Nat) (pc : Nat) I, inv live as M0 Ret pc = some I → ∀ L st M, I.2 k L st M → am_wp (code live Ret) (am_cutl (inv live as M0 Ret) k) N (am_go (code live Ret) pc) L st M) :
    am_Met y cc nL rt rf rl T := by
  intro l D cA al B live as M Ret hT
  refine Met.ofW (cc := cc) (maxL := nL) (ret := rt) hy rfl ?_
  intro p e s m args below meth c s₁ Bd hml hv
  obtain ⟨rfl, hsz, hP, hK, hZ, hN⟩ := hv
  have hts0 := atoms_spec (ws := Cond.code y cc nL rt :: am_ws) Bd.pre
  have hC : am_C p s m (as.map (am_cv al)).toArray meth c D cA al B own cc nL rt := ⟨Bd.exec, Bd.bytes, hml, hown ▸ findClass_of_methodNamed Bd.named, fun w hw => hts0 w (List.mem_cons_of_mem _ hw), Bd.notSynchronized, Bd.returns, hK, hsz, hZ, hN⟩
  have hY : am_Yk s (as.map (am_cv al)).toArray below D cA al B live Ret rf rl (am_rm rf rl, 0, 0, MQ below (am_Qc D cA al B live Ret) (as.map (am_cv al)).toArray s 0 0 (fun q => B ≤ q)) := ⟨Nat.le_refl _, Nat.le_refl _, Nat.le_refl _, Nat.le_refl _, Or.inl ⟨rfl, rfl, rfl⟩⟩
  obtain ⟨hlen, hwp⟩ := hin live as M Ret hT
  obtain ⟨pc2, ⟨q, r, e1, e2⟩, w⟩ := am_wp_ok (l := l) (e := e) (below := below) (hok live Ret) hC hY (cut := am_cut0 (inv live as M Ret)) (fun pc' I' hc L' st' M' hh => by
    unfold am_cut0 at hc
    cases hi' : inv live as M Ret pc' with
    | none => rw [hi'] at hc; cases hc
    | some J =>
      rw [hi'] at hc
      cases hc
      obtain ⟨⟨a', b'⟩, hj⟩ := hh
      exact am_W_nm (ks := J.1) (am_loops (hok live Ret) hC hY N (hl live as M Ret hT) a' b' pc' J hi' _ st' M' hj)) N _ _ _ _ (fun x hx => am_go_in _ _ _ hx) hwp
  have e3 := am_go_hd _ _ _ _ e1
  have e4 : pc2 = 0 := by rw [← e2, e3]
  subst e4
  have hle := lv_entry (as.map (am_cv al)) (n := nL) (by rw [am_slen]; exact hlen)
  rw [am_args] at hle
  rw [lg_entry_eq]
  exact w s.heap [] _ hP va_S.rf hle
theorem am_met0 {y : MethodName} {own : String} {cc : ByteArray} {nL : Nat} {rt : Option FieldType} {rf rl : Nat} {T : am_T} (hy : plainName y.cls = true) (hown : y.cls = own) (code : am_E → am_R → am_code)
    (hok : ∀ live Ret, ∀ q ∈ code live Ret, am_ok own cc nL rt rf rl live Ret q.1 q.2) (N : Nat) (inv : am_E → List Value → am_M → am_R → am_inv)
    (hin : ∀ live as M Ret, T live as M Ret → (lg_sl as).length ≤ nL ∧ ∃ I k, inv live as M Ret 0 = some I ∧ I.2 k (am_nm I.1 (lv_args 0 as)) [] M)
    (hl : ∀ live as M0 Ret, T live as M0 Ret → ∀ (k : Nat × Nat) (pc : Nat) I, inv live as M0 Ret pc = some I → ∀ L st M, I.2 k L st M → am_wp (code live Ret) (am_cutl (inv live as M0 Ret) k) N (am_go (code live Ret) pc) L st M) :
    am_Met y cc nL rt rf rl T := by
  intro l D cA al B live as M Ret hT
  refine Met.ofW (cc := cc) (maxL := nL) (ret := rt) hy rfl ?_
  intro p e s m args below meth c s₁ Bd hml hv
  obtain ⟨rfl, hsz, hP, hK, hZ, hN⟩ := hv
  have hts0 := atoms_spec (ws := Cond.code y cc nL rt :: am_ws) Bd.pre
  have hC : am_C p s m (as.map (am_cv al)).toArray meth c D cA al B own cc nL rt := ⟨Bd.exec, Bd.bytes, hml, hown ▸ findClass_of_methodNamed Bd.named, fun w hw => hts0 w (List.mem_cons_of_mem _ hw), Bd.notSynchronized, Bd.returns, hK, hsz, hZ, hN⟩
  have hY : am_Yk s (as.map (am_cv al)).toArray below D cA al B live Ret rf rl (am_rm rf rl, 0, 0, MQ below (am_Qc D cA al B live Ret) (as.map (am_cv al)).toArray s 0 0 (fun q => B ≤ q)) := ⟨Nat.le_refl _, Nat.le_refl _, Nat.le_refl _, Nat.le_refl _, Or.inl ⟨rfl, rfl, rfl⟩⟩
  obtain ⟨hlen, J, ⟨a', b'⟩, hi', hj⟩ := hin live as M Ret hT
  have w := am_W_nm (ks := J.1) (am_loops (l := l) (e := e) (below := below) (hok live Ret) hC hY N (hl live as M Ret hT) a' b' 0 J hi' _ [] M hj)
  have hle := lv_entry (as.map (am_cv al)) (n := nL) (by rw [am_slen]; exact hlen)
  rw [am_args] at hle
  rw [lg_entry_eq]
  exact w s.heap [] _ hP va_S.rf hle
