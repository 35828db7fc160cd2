-- part 02.shape.lean.txt
section
/-! the shape of the cells: what each name is -/
abbrev am_cl : List vw_C := [(RX0, TX0, 13), (RX1, TX1, 7), (RX2, TX2, 8), (RX3, TX3, 3), (RX4, TX4, 19), (RX5, TX5, 7), (RX6, TX6, 9), (RX7, TX7, 4), (RX8, TX8, 27)]
def am_nfl : List Nat := [13, 7, 8, 3, 19, 7, 9, 4, 27]
def am_nf (ci : Nat) : Nat := am_nfl.getD ci 0
def am_ftl : List (List Nat) := [[2, 2, 2, 2, 2, 2, 2, 2, 2, 2, 2, 2, 0], [1, 1, 1, 1, 1, 1, 1], [2, 2, 2, 2, 2, 2, 2, 0], [2, 0, 0], [2, 2, 2, 2, 2, 2, 2, 0, 0, 0, 0, 0, 0, 0, 1, 1, 0, 0, 0], [2, 2, 0, 0, 0, 0, 0], [2, 2, 0, 0, 0, 1, 1, 1, 1], [2, 2, 2, 2], [2, 2, 2, 0, 0, 0, 0, 0, 0, 2, 2, 0, 0, 2, 0, 2, 2, 2, 2, 2, 2, 2, 1, 2, 2, 1, 1]]
def am_ft (ci k : Nat) : Nat := (am_ftl.getD ci []).getD k 0
abbrev am_tys (cA : Nat → ClassId) : List (ClassId × FieldType) := [(cA 0, .int), (cA 1, .long), (cA 2, .boolean), (cA 3, .object "LearnLoans$Text"), (cA 4, .object "LearnLoans$House")]
def am_tk (t : Nat) : Nat := match t with
  | 0 => 0
  | 1 => 1
  | 2 => 0
  | _ => 2
def am_sh0 : List (Nat ⊕ (Nat × Nat)) := [.inl 7, .inr (4, 2), .inl 6, .inr (1, 150), .inl 4, .inr (0, 1200), .inr (1, 180), .inr (0, 30), .inr (0, 30), .inl 1, .inr (1, 50)]
def am_sh1 : List (Nat ⊕ (Nat × Nat)) := [.inl 0, .inl 2, .inr (0, 12), .inr (0, 12), .inr (0, 480), .inr (0, 480), .inr (0, 480), .inr (0, 480), .inr (0, 480), .inr (0, 4), .inr (0, 40), .inl 3, .inr (0, 366), .inl 3, .inr (0, 240), .inl 3, .inr (0, 180), .inr (0, 1200), .inr (3, 5), .inl 5, .inr (0, 50), .inr (0, 50), .inl 5, .inr (0, 50), .inr (0, 50), .inl 5, .inr (0, 50), .inr (0, 50), .inl 5, .inr (0, 50), .inr (0, 50), .inl 5, .inr (0, 50), .inr (0, 50), .inl 3, .inr (0, 60), .inr (0, 160), .inr (0, 16), .inr (0, 9)]
def am_sh2 : List (Nat ⊕ (Nat × Nat)) := [.inl 8, .inr (0, 3760), .inr (0, 7520), .inr (2, 2), .inr (0, 120), .inr (1, 120), .inr (1, 7), .inr (1, 30), .inr (1, 30), .inr (1, 30), .inr (1, 30), .inr (1, 30), .inr (1, 30), .inr (2, 30), .inr (1, 30), .inr (2, 30)]
def am_sh (n : Nat) : Nat ⊕ (Nat × Nat) := match Nat.ble n 19 with
  | true => am_sh0.getD n (.inl 99)
  | false => match Nat.ble n 139 with
    | true => am_sh1.getD ((n - 20) % 40) (.inl 99)
    | false => am_sh2.getD (n - 200) (.inl 99)
def am_ns : Nat := 3
def am_sC (k : Nat) : String × String × String := match k with
  | 0 => ("LearnLoans", "AT_FIRST", "[I")
  | 1 => ("LearnLoans", "LEAST", "[I")
  | _ => ("LearnLoans", "MOST", "[I")
def am_sN (k : Nat) : Nat := 6
def am_sfl : List (List Int32) := [[2000000, 90, 30, 30, 0, 10000], [0, 0, 0, 1, 0, 0], [10000000, 1000, 500, 60, 9, 1000000]]
def am_sf (k j : Nat) : Int32 := (am_sfl.getD k []).getD j 0
def am_nest : List (String × Nat × String × String × String × String) := [("LearnLoans$Run", 107, "LearnLoans", "AT_FIRST", "[I", "LearnLoans"), ("LearnLoans$Run", 232, "LearnLoans", "MOST", "[I", "LearnLoans")]
def am_top : Nat := 216
def am_q8 : List (List (Option Nat)) := [[some 201, some 202, some 203, none, none, none, none, none, none, some 204, some 205, none, none, some 206, none, some 207, some 208, some 209, some 210, some 211, some 212, some 213, none, some 214, some 215, none, none]]
def am_nestM : List (String × Nat × MethodName × String) := [("LearnLoans", 11, yX6_init, "LearnLoans"), ("LearnLoans$House", 66, yX5_init, "LearnLoans"), ("LearnLoans$Run", 34, yX1_init, "LearnLoans"), ("LearnLoans$Ways", 11, yX4_init, "LearnLoans")]
def am_over : List String := ["LearnLoans$House", "LearnLoans$Text"]
def am_q0 : List (List (Option Nat)) := [[some 20, some 1, some 4, some 2], [], [some 4, some 3], [], [some 20, some 5, some 6, some 7, some 8, some 9, some 10], [], [], [], [], [], [], [], [], [], [], [], [], [], [], []]
def am_q1 : List (List (Option Nat)) := [[some 21, some 29, some 30, some 31, some 33, some 35, some 37, some 38, some 54, some 56, some 57, some 58], [some 22, some 23, some 24, some 25, some 26, some 27, some 28], [], [], [], [], [], [], [], [], [], [some 32], [], [some 34], [], [some 36], [], [], [some 39, some 42, some 45, some 48, some 51], [some 40, some 41], [], [], [some 43, some 44], [], [], [some 46, some 47], [], [], [some 49, some 50], [], [], [some 52, some 53], [], [], [some 55], [], [], [], [], []]
def am_q2 : List (List (Option Nat)) := [[some 61, some 69, some 70, some 71, some 73, some 75, some 77, some 78, some 94, some 96, some 97, some 98], [some 62, some 63, some 64, some 65, some 66, some 67, some 68], [], [], [], [], [], [], [], [], [], [some 72], [], [some 74], [], [some 76], [], [], [some 79, some 82, some 85, some 88, some 91], [some 80, some 81], [], [], [some 83, some 84], [], [], [some 86, some 87], [], [], [some 89, some 90], [], [], [some 92, some 93], [], [], [some 95], [], [], [], [], []]
def am_q3 : List (List (Option Nat)) := [[some 101, some 109, some 110, some 111, some 113, some 115, some 117, some 118, some 134, some 136, some 137, some 138], [some 102, some 103, some 104, some 105, some 106, some 107, some 108], [], [], [], [], [], [], [], [], [], [some 112], [], [some 114], [], [some 116], [], [], [some 119, some 122, some 125, some 128, some 131], [some 120, some 121], [], [], [some 123, some 124], [], [], [some 126, some 127], [], [], [some 129, some 130], [], [], [some 132, some 133], [], [], [some 135], [], [], [], [], []]
def am_qs (n : Nat) : List (Option Nat) := match Nat.blt n 20 with
  | true => am_q0.getD n []
  | false => match Nat.blt n 60 with
    | true => am_q1.getD (n - 20) []
    | false => match Nat.blt n 100 with
      | true => am_q2.getD (n - 60) []
      | false => match Nat.blt n 140 with
        | true => am_q3.getD (n - 100) []
        | false => am_q8.getD (n - 200) []
/-- which names stand for cells -/
def am_lv (i1 i2 : Bool) (n : Nat) : Bool := match Nat.blt n 20 with
  | true => Nat.blt n 11
  | false => match Nat.blt n 60 with
    | true => Nat.blt n 59
    | false => match Nat.blt n 100 with
      | true => i1 && Nat.blt n 99
      | false => match Nat.blt n 140 with
        | true => i2 && Nat.blt n 139
        | false => Nat.ble 200 n && Nat.blt n am_top
/-- what the references hold: all is fixed but the images -/
def am_q (i1 i2 : Bool) (n k : Nat) : Option Nat := match am_lv i1 i2 n with
  | false => none
  | true => match Nat.beq n 1 with
    | true => (match k with
      | 0 => (match i1 with | true => some 60 | false => none)
      | 1 => (match i2 with | true => some 100 | false => none)
      | _ => none)
    | false => (am_qs n).getD k none
end
-- part 03.am.lean.txt
section
/-! AM: a machine of names over the kit's rows. A name stands for a cell; the memory holds int-like, long and reference contents by name and place. -/
/-- the words that every method of ours is given -/
def am_ws : List Cond := lw_tbl.filter goodWord
theorem am_wsi {w : Cond} (h : w ∈ lw_tbl) (hg : goodWord w = true) : w ∈ am_ws := List.mem_filter.mpr ⟨h, hg⟩
theorem am_wsg {w : Cond} (h : w ∈ am_ws) : goodWord w = true := (List.mem_filter.mp h).2
def am_N (s : State) : Prop := (∀ q ∈ am_nest, va_Nw (.fieldLinkNest q.1 q.2.1 q.2.2.1 q.2.2.2.1 q.2.2.2.2.1 q.2.2.2.2.2) s) ∧ (∀ q ∈ am_nestM, va_Nw (.methodLinkNest q.1 q.2.1 q.2.2.1 q.2.2.2) s) ∧ ∀ C ∈ am_over, va_AO C s
theorem am_N.vm {s U : State} (h : s.vm = U.vm) (hN : am_N s) : am_N U := ⟨fun q hq => va_Nw.same rfl h (hN.1 q hq), fun q hq => va_Nw.same rfl h (hN.2.1 q hq), fun C hC => va_AO.moved (by rw [h]; exact Vm.Alike.refl U.vm) (hN.2.2 C hC)⟩
theorem am_N.warm {s U : State} (hW : s.WarmedH U.vm) (hN : am_N s) : am_N U := ⟨fun q hq => va_Nw.warmF hW (hN.1 q hq), fun q hq => va_Nw.warmM hW (hN.2.1 q hq), fun C hC => va_AO.moved hW.alike (hN.2.2 C hC)⟩
abbrev am_M : Type := (Nat → Nat → Int32) × (Nat → Nat → Int64)
/-- which names stand for cells, and what the references hold -/
abbrev am_E : Type := (Nat → Bool) × (Nat → Nat → Option Nat)
abbrev am_L : Type := List (Nat × Value)
abbrev am_K : Type := Nat → am_L → List Value → am_M → Prop
abbrev am_S : Type := am_L → List Value → am_M → am_K → Prop
abbrev am_R : Type := Option Value → am_M → Prop
abbrev am_T : Type := am_E → List Value → am_M → am_R → Prop
def am_wI (M : am_M) (n k : Nat) (v : Int32) : am_M := (fun a b => if a = n ∧ b = k then v else M.1 a b, M.2)
def am_wJ (M : am_M) (n k : Nat) (v : Int64) : am_M := (M.1, fun a b => if a = n ∧ b = k then v else M.2 a b)
def am_cI (M : am_M) (n : Nat) (f : Nat → Int32) : am_M := (fun a b => if a = n then f b else M.1 a b, M.2)
def am_cJ (M : am_M) (n : Nat) (f : Nat → Int64) : am_M := (M.1, fun a b => if a = n then f b else M.2 a b)
def am_cv (al : Nat → Nat) (v : Value) : Value := match v with
  | .ref n => .ref (al n)
  | w => w
theorem am_cv_cat (al : Nat → Nat) (v : Value) : (am_cv al v).category = v.category := by cases v <;> rfl
def am_g : am_L → Nat → Option Value
  | [], _ => none
  | q :: r, i => match Nat.beq q.1 i with
    | true => some q.2
    | false => am_g r i
theorem am_g_mem : ∀ {L : am_L} {i : Nat} {v : Value}, am_g L i = some v → (i, v) ∈ L
  | [], _, _, h => by cases h
  | q :: r, i, v, h => by
    unfold am_g at h
    cases hb : Nat.beq q.1 i with
    | true =>
      rw [hb] at h
      have e : q.1 = i := Nat.eq_of_beq_eq_true hb
      have e2 : q.2 = v := Option.some.inj h
      rw [← e, ← e2]
      exact List.mem_cons_self
    | false =>
      rw [hb] at h
      exact List.mem_cons_of_mem _ (am_g_mem h)
def am_lc (al : Nat → Nat) (L : am_L) : am_L := L.map (fun q => (q.1, am_cv al q.2))
theorem am_lc_mem {al : Nat → Nat} {L : am_L} {i : Nat} {v : Value} (h : (i, v) ∈ L) : (i, am_cv al v) ∈ am_lc al L := List.mem_map.mpr ⟨(i, v), h, rfl⟩
theorem am_lc_at {al : Nat → Nat} {L : am_L} {i : Nat} {v : Value} {ls : Array Slot} {nL : Nat} (hl : lv_has ls nL (am_lc al L)) (h : am_g L i = some v) : ls[i]? = some (.val (am_cv al v)) := hl.2.2 (i, am_cv al v) (am_lc_mem (am_g_mem h))
theorem am_lc_pl {al : Nat → Nat} {L : am_L} {i : Nat} {v : Value} (h : am_g L i = some v) : ∃ k : Nat, (am_lc al L)[k]? = some (i, am_cv al v) := List.getElem?_of_mem (am_lc_mem (am_g_mem h))
def am_s1 (i : Nat) (v : Value) (L : am_L) : am_L := (i, v) :: L.filter (fun q => !(q.1 == i) && !(q.1 + 1 == i && q.2.category == 2))
def am_s2 (i : Nat) (v : Value) (L : am_L) : am_L := (i, v) :: L.filter (fun q => !(q.1 == i) && (!(q.1 == i + 1) && !(q.1 + 1 == i && q.2.category == 2)))
theorem am_lc_s1 (al : Nat → Nat) (i : Nat) (v : Value) (L : am_L) : (i, am_cv al v) :: (am_lc al L).filter (fun q => !(q.1 == i) && !(q.1 + 1 == i && q.2.category == 2)) = am_lc al (am_s1 i v L) := by
  unfold am_s1 am_lc
  rw [List.map_cons, List.filter_map]
  refine congrArg _ (congrArg _ (congrArg (fun f => List.filter f L) ?_))
  funext q
  simp [Function.comp, am_cv_cat]
theorem am_lc_s2 (al : Nat → Nat) (i : Nat) (v : Value) (L : am_L) : (i, am_cv al v) :: (am_lc al L).filter (fun q => !(q.1 == i) && (!(q.1 == i + 1) && !(q.1 + 1 == i && q.2.category == 2))) = am_lc al (am_s2 i v L) := by
  unfold am_s2 am_lc
  rw [List.map_cons, List.filter_map]
  refine congrArg _ (congrArg _ (congrArg (fun f => List.filter f L) ?_))
  funext q
  simp [Function.comp, am_cv_cat]
def am_force : am_L → (am_L → Prop) → Prop
  | [], K => K []
  | q :: r, K => am_force r (fun r' => K (q :: r'))
theorem am_force_iff : ∀ (L : am_L) (K : am_L → Prop), am_force L K ↔ K L
  | [], _ => Iff.rfl
  | q :: r, K => am_force_iff r (fun r' => K (q :: r'))
def am_if (b : Bool) (P : Prop) : Prop := b = true ∧ P
theorem am_if_mp {b : Bool} {P : Prop} (h : am_if b P) : b = true ∧ P := h
theorem am_if_in {b : Bool} {P : Prop} (h : b = true) (k : P) : am_if b P := ⟨h, k⟩
def am_ex (o : Option Nat) (P : Nat → Prop) : Prop := ∃ q, o = some q ∧ P q
theorem am_qm {q : Option Nat} {P : Nat → Prop} (h : am_ex q P) : ∃ x, q = some x ∧ P x := h
def am_swc (x : Int32) : List (Int32 × Nat) → Nat → (Nat → Prop) → Prop
  | [], d, K => K d
  | q :: cs, d, K => (x = q.1 → K q.2) ∧ (¬ x = q.1 → am_swc x cs d K)
/-! the cells that names stand for -/
def am_fv (Q : Nat → Nat → Option Nat) (al : Nat → Nat) (M : am_M) (n ci k : Nat) : Value := match am_ft ci k with
  | 0 => .int (M.1 n k)
  | 1 => .long (M.2 n k)
  | _ => va_rf ((Q n k).map al)
def am_ae (Q : Nat → Nat → Option Nat) (al : Nat → Nat) (M : am_M) (n t : Nat) : (Nat → Int32) ⊕ (Nat → Int64) ⊕ (Nat → UInt32) ⊕ (Nat → UInt64) ⊕ (Nat → Option Nat) := match am_tk t with
  | 0 => .inl (M.1 n)
  | 1 => .inr (.inl (M.2 n))
  | _ => .inr (.inr (.inr (.inr (fun k => (Q n k).map al))))
def am_ce (Q : Nat → Nat → Option Nat) (cA : Nat → ClassId) (al : Nat → Nat) (M : am_M) (n : Nat) : va_E := match am_sh n with
  | .inl ci => .inr (ci, (List.range (am_nf ci)).map (am_fv Q al M n ci))
  | .inr q => .inl (cA q.1, q.2, am_ae Q al M n q.1)
def am_P (D : va_G) (cA : Nat → ClassId) (al : Nat → Nat) (B : Nat) (live : am_E) (M : am_M) (H : Heap) : Prop :=
  (∀ n, live.1 n = true → va_at D am_cl (al n, am_ce live.2 cA al M n) H) ∧ (∀ n m, live.1 n = true → live.1 m = true → al n = al m → n = m) ∧ (∀ n, live.1 n = true → B ≤ al n) ∧ (∀ n, live.1 n = true → n < 400)
theorem am_P.put {D : va_G} {cA : Nat → ClassId} {al : Nat → Nat} {B : Nat} {live : am_E} {M M' : am_M} {H H1 : Heap} {n : Nat} (h : am_P D cA al B live M H) (hn : live.1 n = true) (he : va_at D am_cl (al n, am_ce live.2 cA al M' n) H1)
    (ho : ∀ m, m ≠ n → am_ce live.2 cA al M' m = am_ce live.2 cA al M m) (oq : ∀ q : Nat, q ≠ al n → H1[q]? = H[q]?) : am_P D cA al B live M' H1 := by
  refine ⟨fun m hm => ?_, h.2.1, h.2.2⟩
  by_cases e : m = n
  · subst e; exact he
  · rw [ho m e]
    exact (h.1 m hm).kept (oq _ (fun q => e (h.2.1 m n hm hn q)))
def am_isO (live : am_E) (ci n : Nat) : Bool := live.1 n && (match am_sh n with
  | .inl c => Nat.beq c ci
  | .inr _ => false)
def am_isA (live : am_E) (t n : Nat) : Bool := live.1 n && (match am_sh n with
  | .inl _ => false
  | .inr q => Nat.beq q.1 t)
def am_len (n : Nat) : Nat := match am_sh n with
  | .inl _ => 0
  | .inr q => q.2
theorem am_isO_spec {live : am_E} {ci n : Nat} (h : am_isO live ci n = true) : live.1 n = true ∧ am_sh n = .inl ci := by
  unfold am_isO at h
  rw [Bool.and_eq_true] at h
  refine ⟨h.1, ?_⟩
  have h2 := h.2
  revert h2
  cases am_sh n with
  | inl c => intro h2; exact congrArg Sum.inl (Nat.eq_of_beq_eq_true h2)
  | inr q => intro h2; cases h2
theorem am_isA_spec {live : am_E} {t n : Nat} (h : am_isA live t n = true) : live.1 n = true ∧ am_sh n = .inr (t, am_len n) := by
  unfold am_isA at h
  rw [Bool.and_eq_true] at h
  refine ⟨h.1, ?_⟩
  have h2 := h.2
  revert h2
  unfold am_len
  cases am_sh n with
  | inl c => intro h2; cases h2
  | inr q => intro h2; rw [← Nat.eq_of_beq_eq_true h2]
/-- the static arrays, by their names from 1000 on -/
def am_Z (al : Nat → Nat) (B : Nat) (s : State) : Prop := ∀ k, k < am_ns → va_Z (am_sC k).1 (am_sC k).2.1 (am_sC k).2.2 (.ref (al (1000 + k))) (fun q => B ≤ q) s s.heap ∧ va_T .int (al (1000 + k)) (am_sN k) (fun j => .int (am_sf k j)) (fun q => B ≤ q) s s.heap
def am_C (p : Program) (s : State) (m : MethodId) (args : Array Value) (meth : Method) (c : Code) (D : va_G) (cA : Nat → ClassId) (al : Nat → Nat) (B : Nat) (own : String) (cc : ByteArray) (nL : Nat) (rt : Option FieldType) : Prop :=
  p.tables.exec = Jvm.exec ∧ c.code = cc ∧ c.maxLocals = nL ∧ s.vm.findClass own = some m.cls ∧ (∀ w ∈ am_ws, w.before args s = true) ∧ meth.locks = false ∧ meth.sig.returnType = rt ∧ va_K D am_cl (am_tys cA) s ∧ B ≤ s.heap.size ∧ am_Z al B s ∧ am_N s
def am_Qc (D : va_G) (cA : Nat → ClassId) (al : Nat → Nat) (B : Nat) (live : am_E) (Ret : am_R) : Array Value → State → Outcome → State → Prop := fun _ st o t =>
  ∃ (r : Option Value) (M' : am_M), Ret r M' ∧ o = .returned (r.map (am_cv al)) ∧ am_P D cA al B live M' t.heap ∧ va_F (fun q => B ≤ q) st t
def am_Pc (D : va_G) (cA : Nat → ClassId) (al : Nat → Nat) (B : Nat) (live : am_E) (as : List Value) (M : am_M) : Array Value → State → Prop := fun v U =>
  v = (as.map (am_cv al)).toArray ∧ B ≤ U.heap.size ∧ am_P D cA al B live M U.heap ∧ va_K D am_cl (am_tys cA) U ∧ am_Z al B U ∧ am_N U
def am_rm (rf rl : Nat) : Room := { frames := rf, cells := 0, slots := 0, locals := rl }
/-- room, cells and slots made so far, aim -/
abbrev am_Y : Type := Room × Nat × Nat × (State → Prop)
def am_W (p : Program) (l : Launch) (e : Env) (Y : am_Y) (s : State) (m : MethodId) (args : Array Value) (below : List Frame) (meth : Method) (c : Code) (D : va_G) (cA : Nat → ClassId) (al : Nat → Nat) (B : Nat) (live : am_E) (nL : Nat) : am_K := fun pc L st M =>
  ∀ (H : Heap) (locs : List Loc) (ls : Array Slot), am_P D cA al B live M H → va_S (fun q => B ≤ q) s.heap H locs → lv_has ls nL (am_lc al L) →
    W p l e Y.1 s m args below meth c H locs Y.2.1 Y.2.2.1 Y.2.2.2 (F0 m pc ls (st.map (am_cv al)))
def am_Yk (s : State) (args : Array Value) (below : List Frame) (D : va_G) (cA : Nat → ClassId) (al : Nat → Nat) (B : Nat) (live : am_E) (Ret : am_R) (rf rl : Nat) (Y : am_Y) : Prop :=
  rf ≤ Y.1.frames ∧ rl ≤ Y.1.locals ∧ Y.2.1 ≤ Y.1.cells ∧ Y.2.2.1 ≤ Y.1.slots ∧ ((Y.2.1 = 0 ∧ Y.2.2.1 = 0 ∧ Y.2.2.2 = MQ below (am_Qc D cA al B live Ret) args s 0 0 (fun q => B ≤ q)) ∨ ∀ r M', ¬ Ret r M')
def am_ok (own : String) (cc : ByteArray) (nL : Nat) (rt : Option FieldType) (rf rl : Nat) (live : am_E) (Ret : am_R) (pc : Nat) (sem : am_S) : Prop :=
  ∀ (p : Program) (l : Launch) (e : Env) (s : State) (m : MethodId) (args : Array Value) (below : List Frame) (meth : Method) (c : Code) (D : va_G) (cA : Nat → ClassId) (al : Nat → Nat) (B : Nat), am_C p s m args meth c D cA al B own cc nL rt →
    ∀ (Y : am_Y), am_Yk s args below D cA al B live Ret rf rl Y → ∀ (L : am_L) (st : List Value) (M : am_M) (K : am_K), (∀ pc' L' st' M', K pc' L' st' M' → am_W p l e Y s m args below meth c D cA al B live nL pc' L' st' M') → sem L st M K → am_W p l e Y s m args below meth c D cA al B live nL pc L st M
/-! a method as a list of what its instructions do; its run with cuts -/
abbrev am_code : Type := List (Nat × am_S)
def am_go : am_code → Nat → am_code
  | [], _ => []
  | q :: r, pc => match Nat.beq q.1 pc with
    | true => q :: r
    | false => am_go r pc
def am_nxt (code rest : am_code) (pc : Nat) : am_code := match rest with
  | [] => am_go code pc
  | r :: rs => match Nat.beq r.1 pc with
    | true => r :: rs
    | false => am_go code pc
abbrev am_cut : Type := Nat → Option (am_L → List Value → am_M → Prop)
/-- by the recursor itself: so the kernel unfolds it step by step -/
noncomputable def am_wp (code : am_code) (cut : am_cut) (n : Nat) : am_code → am_L → List Value → am_M → Prop :=
  @Nat.rec (fun _ => am_code → am_L → List Value → am_M → Prop) (fun _ _ _ _ => False) (fun _ ih cs L st M => match cs with
    | [] => False
    | q :: rest => q.2 L st M (fun pc' L' st' M' => match cut pc' with
      | some I => I L' st' M'
      | none => ih (am_nxt code rest pc') L' st' M')) n
theorem am_go_hd : ∀ (code : am_code) (pc : Nat) (q : Nat × am_S) (r : am_code), am_go code pc = q :: r → q.1 = pc
  | [], _, _, _, h => by cases h
  | a :: rs, pc, q, r, h => by
    unfold am_go at h
    cases hb : Nat.beq a.1 pc with
    | true =>
      rw [hb] at h
      have e : a :: rs = q :: r := h
      cases e
      exact Nat.eq_of_beq_eq_true hb
    | false =>
      rw [hb] at h
      exact am_go_hd rs pc q r h
theorem am_go_in : ∀ (code : am_code) (pc : Nat) (q : Nat × am_S), q ∈ am_go code pc → q ∈ code
  | [], _, _, h => by cases h
  | a :: rs, pc, q, h => by
    unfold am_go at h
    cases hb : Nat.beq a.1 pc with
    | true => rw [hb] at h; exact h
    | false => rw [hb] at h; exact List.mem_cons_of_mem _ (am_go_in rs pc q h)
theorem am_nxt_hd {code rest : am_code} {pc : Nat} {q : Nat × am_S} {r : am_code} (h : am_nxt code rest pc = q :: r) : q.1 = pc := by
  unfold am_nxt at h
  cases rest with
  | nil => exact am_go_hd _ _ _ _ h
  | cons a rs =>
    cases hb : Nat.beq a.1 pc with
    | true =>
      simp only [hb] at h
      cases h
      exact Nat.eq_of_beq_eq_true hb
    | false =>
      simp only [hb] at h
      exact am_go_hd _ _ _ _ h
theorem am_nxt_in {code rest : am_code} {pc : Nat} {q : Nat × am_S} (hr : ∀ x ∈ rest, x ∈ code) (h : q ∈ am_nxt code rest pc) : q ∈ code := by
  unfold am_nxt at h
  cases rest with
  | nil => exact am_go_in _ _ _ h
  | cons a rs =>
    cases hb : Nat.beq a.1 pc with
    | true =>
      simp only [hb] at h
      exact hr _ h
    | false =>
      simp only [hb] at h
      exact am_go_in _ _ _ h
section AMW
variable {own : String} {cc : ByteArray} {nL : Nat} {rt : Option FieldType} {rf rl : Nat} {live : am_E} {Ret : am_R} {p : Program} {l : Launch} {e : Env} {s : State} {m : MethodId} {args : Array Value} {below : List Frame} {meth : Method} {c : Code} {D : va_G} {cA : Nat → ClassId} {al : Nat → Nat} {B : Nat} {Y : am_Y}
theorem am_wp_ok {code : am_code} {cut : am_cut} (hok : ∀ q ∈ code, am_ok own cc nL rt rf rl live Ret q.1 q.2) (hC : am_C p s m args meth c D cA al B own cc nL rt) (hY : am_Yk s args below D cA al B live Ret rf rl Y)
    (hcut : ∀ pc I, cut pc = some I → ∀ L st M, I L st M → am_W p l e Y s m args below meth c D cA al B live nL pc L st M) :
    ∀ (n : Nat) (cs : am_code) (L : am_L) (st : List Value) (M : am_M), (∀ q ∈ cs, q ∈ code) → am_wp code cut n cs L st M → ∃ pc, (∃ q r, cs = q :: r ∧ q.1 = pc) ∧ am_W p l e Y s m args below meth c D cA al B live nL pc L st M
  | 0, _, _, _, _, _, h => h.elim
  | n + 1, [], _, _, _, _, h => h.elim
  | n + 1, q :: rest, L, st, M, hin, h => by
    refine ⟨q.1, ⟨q, rest, rfl, rfl⟩, ?_⟩
    refine hok q (hin q List.mem_cons_self) p l e s m args below meth c D cA al B hC Y hY L st M _ (fun pc' L' st' M' hk => ?_) h
    cases hc : cut pc' with
    | some I =>
      simp only [hc] at hk
      exact hcut pc' I hc L' st' M' hk
    | none =>
      simp only [hc] at hk
      obtain ⟨pc2, ⟨q2, r2, e1, e2⟩, hw⟩ := am_wp_ok hok hC hY hcut n _ L' st' M' (fun x hx => am_nxt_in (fun y hy => hin y (List.mem_cons_of_mem _ hy)) hx) hk
      have e3 := am_nxt_hd e1
      rw [← e3, e2]
      exact hw
/-- loops: invariants with a pair that falls -/
def am_lt (a b : Nat × Nat) : Prop := a.1 < b.1 ∨ (a.1 = b.1 ∧ a.2 < b.2)
abbrev am_inv : Type := Nat → Option (List Nat × (Nat × Nat → am_L → List Value → am_M → Prop))
def am_nm (ks : List Nat) (L : am_L) : am_L := ks.filterMap (fun k => (am_g L k).map (fun v => (k, v)))
theorem am_nm_mem {ks : List Nat} {L : am_L} {q : Nat × Value} (h : q ∈ am_nm ks L) : q ∈ L := by
  obtain ⟨k, -, hk⟩ := List.mem_filterMap.mp h
  cases hg : am_g L k with
  | none => rw [hg] at hk; cases hk
  | some v =>
    rw [hg] at hk
    cases hk
    exact am_g_mem hg
theorem am_W_nm {ks : List Nat} {pc : Nat} {L : am_L} {st : List Value} {M : am_M} (h : am_W p l e Y s m args below meth c D cA al B live nL pc (am_nm ks L) st M) : am_W p l e Y s m args below meth c D cA al B live nL pc L st M := by
  intro H locs ls hP hS hl
  refine h H locs ls hP hS ⟨hl.1, hl.2.1, fun q hq => ?_⟩
  obtain ⟨x, hx, rfl⟩ := List.mem_map.mp hq
  exact hl.2.2 _ (List.mem_map.mpr ⟨x, am_nm_mem hx, rfl⟩)
def am_cutl (inv : am_inv) (k : Nat × Nat) : am_cut := fun pc => match inv pc with
  | some I => some (fun L st M => ∃ k', am_lt k' k ∧ I.2 k' (am_nm I.1 L) st M)
  | none => none
def am_cut0 (inv : am_inv) : am_cut := fun pc => match inv pc with
  | some I => some (fun L st M => ∃ k', I.2 k' (am_nm I.1 L) st M)
  | none => none
theorem am_loops {code : am_code} {inv : am_inv} (hok : ∀ q ∈ code, am_ok own cc nL rt rf rl live Ret q.1 q.2) (hC : am_C p s m args meth c D cA al B own cc nL rt) (hY : am_Yk s args below D cA al B live Ret rf rl Y)
    (N : Nat) (h : ∀ (k : Nat × Nat) (pc : Nat) I, inv pc = some I → ∀ L st M, I.2 k L st M → am_wp code (am_cutl inv k) N (am_go code pc) L st M) :
    ∀ (a b : Nat) (pc : Nat) I, inv pc = some I → ∀ L st M, I.2 (a, b) L st M → am_W p l e Y s m args below meth c D cA al B live nL pc L st M := by
  intro a
  induction a using Nat.strongRecOn with
  | ind a iha =>
    intro b
    induction b using Nat.strongRecOn with
    | ind b ihb =>
      intro pc I hI L st M hi
      have hw := h (a, b) pc I hI L st M hi
      obtain ⟨pc2, ⟨q, r, e1, e2⟩, w⟩ := am_wp_ok (l := l) (e := e) (below := below) hok hC hY (cut := am_cutl inv (a, b)) (fun pc' I' hc L' st' M' hh => by
        unfold am_cutl at hc
        cases hi' : inv pc' with
        | none => rw [hi'] at hc; cases hc
        | some J =>
          rw [hi'] at hc
          cases hc
          obtain ⟨⟨a', b'⟩, hlt, hj⟩ := hh
          refine am_W_nm (ks := J.1) ?_
          rcases hlt with hlt | ⟨e, hlt⟩
          · exact iha a' hlt b' pc' J hi' _ st' M' hj
          · have e' : a' = a := e
            subst e'
            exact ihb b' hlt pc' J hi' _ st' M' hj) N _ L st M (fun x hx => am_go_in _ _ _ hx) hw
      rw [← am_go_hd _ _ _ _ e1, e2]
      exact w
end AMW
/-- a method's contract -/
def am_Met (y : MethodName) (cc : ByteArray) (nL : Nat) (rt : Option FieldType) (rf rl : Nat) (T : am_T) : Prop :=
  ∀ (l : Launch) (D : va_G) (cA : Nat → ClassId) (al : Nat → Nat) (B : Nat) (live : am_E) (as : List Value) (M : am_M) (Ret : am_R), T live as M Ret →
    Met l y (.code y cc nL rt :: am_ws) (am_rm rf rl) (am_Pc D cA al B live as M) (am_Qc D cA al B live Ret) 0 0 (fun q => B ≤ q)
theorem am_args : ∀ (al : Nat → Nat) (i : Nat) (vs : List Value), lv_args i (vs.map (am_cv al)) = am_lc al (lv_args i vs)
  | _, _, [] => rfl
  | al, i, v :: vs => by
    show (i, am_cv al v) :: lv_args (if (am_cv al v).category = 2 then i + 2 else i + 1) (vs.map (am_cv al)) = _
    rw [am_cv_cat, am_args al _ vs]
    rfl
theorem am_slen (al : Nat → Nat) : ∀ vs : List Value, (lg_sl (vs.map (am_cv al))).length = (lg_sl vs).length
  | [] => rfl
  | v :: vs => by
    show (lg_sl (am_cv al v :: vs.map (am_cv al))).length = (lg_sl (v :: vs)).length
    have ih := am_slen al vs
    unfold lg_sl at ih ⊢
    rw [List.flatMap_cons, List.flatMap_cons, List.length_append, List.length_append, ih, am_cv_cat]
    split <;> rfl
theorem am_met {y : MethodName} {own : String} {cc : ByteArray} {nL : Nat} {rt : Option FieldType} {rf rl : Nat} {T : am_T} (hy : plainName y.cls = true) (hown : y.cls = own) (code : am_E → am_R → am_code)
    (hok : ∀ live Ret, ∀ q ∈ code live Ret, am_ok own cc nL rt rf rl live Ret q.1 q.2) (N : Nat) (inv : am_E → List Value → am_M → am_R → am_inv)
    (hin : ∀ live as M Ret, T live as M Ret → (lg_sl as).length ≤ nL ∧ am_wp (code live Ret) (am_cut0 (inv live as M Ret)) N (am_go (code live Ret) 0) (lv_args 0 as) [] M)
    (hl : ∀ live as M0 Ret, T live as M0 Ret → ∀ (k : Nat × Nat) (pc : Nat) I, inv live as M0 Ret pc = some I → ∀ L st M, I.2 k L st M → am_wp (code live Ret) (am_cutl (inv live as M0 Ret) k) N (am_go (code live Ret) pc) L st M) :
    am_Met y cc nL rt rf rl T := by
  intro l D cA al B live as M Ret hT
  refine Met.ofW (cc := cc) (maxL := nL) (ret := rt) hy rfl ?_
  intro p e s m args below meth c s₁ Bd hml hv
  obtain ⟨rfl, hsz, hP, hK, hZ, hN⟩ := hv
  have hts0 := atoms_spec (ws := Cond.code y cc nL rt :: am_ws) Bd.pre
  have hC : am_C p s m (as.map (am_cv al)).toArray meth c D cA al B own cc nL rt := ⟨Bd.exec, Bd.bytes, hml, hown ▸ findClass_of_methodNamed Bd.named, fun w hw => hts0 w (List.mem_cons_of_mem _ hw), Bd.notSynchronized, Bd.returns, hK, hsz, hZ, hN⟩
  have hY : am_Yk s (as.map (am_cv al)).toArray below D cA al B live Ret rf rl (am_rm rf rl, 0, 0, MQ below (am_Qc D cA al B live Ret) (as.map (am_cv al)).toArray s 0 0 (fun q => B ≤ q)) := ⟨Nat.le_refl _, Nat.le_refl _, Nat.le_refl _, Nat.le_refl _, Or.inl ⟨rfl, rfl, rfl⟩⟩
  obtain ⟨hlen, hwp⟩ := hin live as M Ret hT
  obtain ⟨pc2, ⟨q, r, e1, e2⟩, w⟩ := am_wp_ok (l := l) (e := e) (below := below) (hok live Ret) hC hY (cut := am_cut0 (inv live as M Ret)) (fun pc' I' hc L' st' M' hh => by
    unfold am_cut0 at hc
    cases hi' : inv live as M Ret pc' with
    | none => rw [hi'] at hc; cases hc
    | some J =>
      rw [hi'] at hc
      cases hc
      obtain ⟨⟨a', b'⟩, hj⟩ := hh
      exact am_W_nm (ks := J.1) (am_loops (hok live Ret) hC hY N (hl live as M Ret hT) a' b' pc' J hi' _ st' M' hj)) N _ _ _ _ (fun x hx => am_go_in _ _ _ hx) hwp
  have e3 := am_go_hd _ _ _ _ e1
  have e4 : pc2 = 0 := by rw [← e2, e3]
  subst e4
  have hle := lv_entry (as.map (am_cv al)) (n := nL) (by rw [am_slen]; exact hlen)
  rw [am_args] at hle
  rw [lg_entry_eq]
  exact w s.heap [] _ hP va_S.rf hle
theorem am_met0 {y : MethodName} {own : String} {cc : ByteArray} {nL : Nat} {rt : Option FieldType} {rf rl : Nat} {T : am_T} (hy : plainName y.cls = true) (hown : y.cls = own) (code : am_E → am_R → am_code)
    (hok : ∀ live Ret, ∀ q ∈ code live Ret, am_ok own cc nL rt rf rl live Ret q.1 q.2) (N : Nat) (inv : am_E → List Value → am_M → am_R → am_inv)
    (hin : ∀ live as M Ret, T live as M Ret → (lg_sl as).length ≤ nL ∧ ∃ I k, inv live as M Ret 0 = some I ∧ I.2 k (am_nm I.1 (lv_args 0 as)) [] M)
    (hl : ∀ live as M0 Ret, T live as M0 Ret → ∀ (k : Nat × Nat) (pc : Nat) I, inv live as M0 Ret pc = some I → ∀ L st M, I.2 k L st M → am_wp (code live Ret) (am_cutl (inv live as M0 Ret) k) N (am_go (code live Ret) pc) L st M) :
    am_Met y cc nL rt rf rl T := by
  intro l D cA al B live as M Ret hT
  refine Met.ofW (cc := cc) (maxL := nL) (ret := rt) hy rfl ?_
  intro p e s m args below meth c s₁ Bd hml hv
  obtain ⟨rfl, hsz, hP, hK, hZ, hN⟩ := hv
  have hts0 := atoms_spec (ws := Cond.code y cc nL rt :: am_ws) Bd.pre
  have hC : am_C p s m (as.map (am_cv al)).toArray meth c D cA al B own cc nL rt := ⟨Bd.exec, Bd.bytes, hml, hown ▸ findClass_of_methodNamed Bd.named, fun w hw => hts0 w (List.mem_cons_of_mem _ hw), Bd.notSynchronized, Bd.returns, hK, hsz, hZ, hN⟩
  have hY : am_Yk s (as.map (am_cv al)).toArray below D cA al B live Ret rf rl (am_rm rf rl, 0, 0, MQ below (am_Qc D cA al B live Ret) (as.map (am_cv al)).toArray s 0 0 (fun q => B ≤ q)) := ⟨Nat.le_refl _, Nat.le_refl _, Nat.le_refl _, Nat.le_refl _, Or.inl ⟨rfl, rfl, rfl⟩⟩
  obtain ⟨hlen, J, ⟨a', b'⟩, hi', hj⟩ := hin live as M Ret hT
  have w := am_W_nm (ks := J.1) (am_loops (l := l) (e := e) (below := below) (hok live Ret) hC hY N (hl live as M Ret hT) a' b' 0 J hi' _ [] M hj)
  have hle := lv_entry (as.map (am_cv al)) (n := nL) (by rw [am_slen]; exact hlen)
  rw [am_args] at hle
  rw [lg_entry_eq]
  exact w s.heap [] _ hP va_S.rf hle
end
-- part 04.sems.lean.txt
section
/-! what each instruction does to names, and that the machine does so -/
def am_const (v : Value) (nx : Nat) : am_S := fun L st M K => K nx L (v :: st) M
def am_iload (i nx : Nat) : am_S := fun L st M K => match am_g L i with
  | some (.int x) => K nx L (.int x :: st) M
  | _ => False
def am_lload (i nx : Nat) : am_S := fun L st M K => match am_g L i with
  | some (.long x) => K nx L (.long x :: st) M
  | _ => False
def am_aload (i nx : Nat) : am_S := fun L st M K => match am_g L i with
  | some (.ref x) => K nx L (.ref x :: st) M
  | _ => False
def am_istore (i nL nx : Nat) : am_S := fun L st M K => match st with
  | .int x :: r => am_if (Nat.blt i nL) (am_force (am_s1 i (.int x) L) (fun L' => K nx L' r M))
  | _ => False
def am_astore (i nL nx : Nat) : am_S := fun L st M K => match st with
  | .ref x :: r => am_if (Nat.blt i nL) (am_force (am_s1 i (.ref x) L) (fun L' => K nx L' r M))
  | _ => False
def am_lstore (i nL nx : Nat) : am_S := fun L st M K => match st with
  | .long x :: r => am_if (Nat.blt (i + 1) nL) (am_force (am_s2 i (.long x) L) (fun L' => K nx L' r M))
  | _ => False
def am_iinc (i nL : Nat) (d : Int32) (nx : Nat) : am_S := fun L st M K => match am_g L i with
  | some (.int x) => am_if (Nat.blt i nL) (am_force (am_s1 i (.int (x + d)) L) (fun L' => K nx L' st M))
  | _ => False
def am_i2 (f : Int32 → Int32 → Int32) (nx : Nat) : am_S := fun L st M K => match st with
  | .int y :: .int x :: r => K nx L (.int (f x y) :: r) M
  | _ => False
def am_i2z (f : Int32 → Int32 → Int32) (nx : Nat) : am_S := fun L st M K => match st with
  | .int y :: .int x :: r => (¬ y = 0) ∧ K nx L (.int (f x y) :: r) M
  | _ => False
def am_i1 (f : Int32 → Int32) (nx : Nat) : am_S := fun L st M K => match st with
  | .int x :: r => K nx L (.int (f x) :: r) M
  | _ => False
def am_l2 (f : Int64 → Int64 → Int64) (nx : Nat) : am_S := fun L st M K => match st with
  | .long y :: .long x :: r => K nx L (.long (f x y) :: r) M
  | _ => False
def am_l2z (f : Int64 → Int64 → Int64) (nx : Nat) : am_S := fun L st M K => match st with
  | .long y :: .long x :: r => (¬ y = 0) ∧ K nx L (.long (f x y) :: r) M
  | _ => False
def am_l1 (f : Int64 → Int64) (nx : Nat) : am_S := fun L st M K => match st with
  | .long x :: r => K nx L (.long (f x) :: r) M
  | _ => False
def am_lsh (f : Int64 → Int32 → Int64) (nx : Nat) : am_S := fun L st M K => match st with
  | .int y :: .long x :: r => K nx L (.long (f x y) :: r) M
  | _ => False
def am_i2l (nx : Nat) : am_S := fun L st M K => match st with
  | .int x :: r => K nx L (.long x.toInt64 :: r) M
  | _ => False
def am_l2i (nx : Nat) : am_S := fun L st M K => match st with
  | .long x :: r => K nx L (.int x.toInt32 :: r) M
  | _ => False
def am_lcmp (nx : Nat) : am_S := fun L st M K => match st with
  | .long y :: .long x :: r => K nx L (.int (lg_cmp x y) :: r) M
  | _ => False
def am_dup (nx : Nat) : am_S := fun L st M K => match st with
  | v :: r => am_if (Nat.beq v.category 1) (K nx L (v :: v :: r) M)
  | _ => False
def am_dup2 (nx : Nat) : am_S := fun L st M K => match st with
  | .long x :: r => K nx L (.long x :: .long x :: r) M
  | v :: w :: r => am_if (Nat.beq v.category 1 && Nat.beq w.category 1) (K nx L (v :: w :: v :: w :: r) M)
  | _ => False
def am_pop (nx : Nat) : am_S := fun L st M K => match st with
  | v :: r => am_if (Nat.beq v.category 1) (K nx L r M)
  | _ => False
def am_pop2 (nx : Nat) : am_S := fun L st M K => match st with
  | .long _ :: r => K nx L r M
  | _ => False
def am_if1 (cd : Int32 → Prop) (tg nx : Nat) : am_S := fun L st M K => match st with
  | .int x :: r => (cd x → K tg L r M) ∧ (¬ cd x → K nx L r M)
  | _ => False
def am_if2 (cd : Int32 → Int32 → Prop) (tg nx : Nat) : am_S := fun L st M K => match st with
  | .int y :: .int x :: r => (cd x y → K tg L r M) ∧ (¬ cd x y → K nx L r M)
  | _ => False
def am_goto (tg : Nat) : am_S := fun L st M K => K tg L st M
def am_switch (cs : List (Int32 × Nat)) (d : Nat) : am_S := fun L st M K => match st with
  | .int x :: r => am_swc x cs d (fun t => K t L r M)
  | _ => False
def am_getI (live : am_E) (ci k nx : Nat) : am_S := fun L st M K => match st with
  | .ref n :: r => am_if (am_isO live ci n) (K nx L (.int (M.1 n k) :: r) M)
  | _ => False
def am_getJ (live : am_E) (ci k nx : Nat) : am_S := fun L st M K => match st with
  | .ref n :: r => am_if (am_isO live ci n) (K nx L (.long (M.2 n k) :: r) M)
  | _ => False
def am_getR (live : am_E) (ci k nx : Nat) : am_S := fun L st M K => match st with
  | .ref n :: r => am_if (am_isO live ci n) (am_ex (live.2 n k) (fun q => K nx L (.ref q :: r) M))
  | _ => False
def am_putI (live : am_E) (ci k nx : Nat) : am_S := fun L st M K => match st with
  | .int x :: .ref n :: r => am_if (am_isO live ci n) (K nx L r (am_wI M n k x))
  | _ => False
def am_putZ (live : am_E) (ci k nx : Nat) : am_S := fun L st M K => match st with
  | .int x :: .ref n :: r => am_if (am_isO live ci n) ((x = 0 ∨ x = 1) ∧ K nx L r (am_wI M n k x))
  | _ => False
def am_putJ (live : am_E) (ci k nx : Nat) : am_S := fun L st M K => match st with
  | .long x :: .ref n :: r => am_if (am_isO live ci n) (K nx L r (am_wJ M n k x))
  | _ => False
def am_in (j : Int32) (N : Nat) : Prop := 0 ≤ j.toInt ∧ j.toInt < (N : Int)
def am_ald (live : am_E) (t nx : Nat) : am_S := fun L st M K => match st with
  | .int j :: .ref n :: r => am_if (am_isA live t n) (am_in j (am_len n) ∧ K nx L (.int (M.1 n j.toNatClampNeg) :: r) M)
  | _ => False
def am_sld (k nx : Nat) : am_S := fun L st M K => match st with
  | .int j :: .ref n :: r => am_if (Nat.beq n (1000 + k)) (am_in j (am_sN k) ∧ K nx L (.int (am_sf k j.toNatClampNeg) :: r) M)
  | _ => False
def am_lald (live : am_E) (t nx : Nat) : am_S := fun L st M K => match st with
  | .int j :: .ref n :: r => am_if (am_isA live t n) (am_in j (am_len n) ∧ K nx L (.long (M.2 n j.toNatClampNeg) :: r) M)
  | _ => False
def am_aald (live : am_E) (t nx : Nat) : am_S := fun L st M K => match st with
  | .int j :: .ref n :: r => am_if (am_isA live t n) (am_in j (am_len n) ∧ (am_ex (live.2 n j.toNatClampNeg) (fun q => K nx L (.ref q :: r) M)))
  | _ => False
def am_ast (live : am_E) (t nx : Nat) : am_S := fun L st M K => match st with
  | .int x :: .int j :: .ref n :: r => am_if (am_isA live t n) (am_in j (am_len n) ∧ K nx L r (am_wI M n j.toNatClampNeg x))
  | _ => False
def am_zst (live : am_E) (t nx : Nat) : am_S := fun L st M K => match st with
  | .int x :: .int j :: .ref n :: r => am_if (am_isA live t n) (am_in j (am_len n) ∧ K nx L r (am_wI M n j.toNatClampNeg (vp_nar .boolean x)))
  | _ => False
def am_last (live : am_E) (t nx : Nat) : am_S := fun L st M K => match st with
  | .long x :: .int j :: .ref n :: r => am_if (am_isA live t n) (am_in j (am_len n) ∧ K nx L r (am_wJ M n j.toNatClampNeg x))
  | _ => False
def am_alen (live : am_E) (t nx : Nat) : am_S := fun L st M K => match st with
  | .ref n :: r => am_if (am_isA live t n) (K nx L (.int (Int32.ofNat (am_len n)) :: r) M)
  | _ => False
def am_retI (Ret : am_R) : am_S := fun L st M K => match st with
  | [.int v] => Ret (some (.int v)) M
  | _ => False
def am_retZ (Ret : am_R) : am_S := fun L st M K => match st with
  | [.int v] => (v = 0 ∨ v = 1) ∧ Ret (some (.int v)) M
  | _ => False
def am_retL (Ret : am_R) : am_S := fun L st M K => match st with
  | [.long v] => Ret (some (.long v)) M
  | _ => False
def am_retV (Ret : am_R) : am_S := fun L st M K => match st with
  | [] => Ret none M
  | _ => False
def am_cats (st : List Value) : Nat := (st.map fun v => v.category).sum
def am_callV (live : am_E) (ci n : Nat) (T : am_T) (nx : Nat) : am_S := fun L st M K => match st.drop n with
  | .ref q :: r => am_if (am_isO live ci q && Nat.beq (st.take n).length n && Nat.ble (am_cats r) 8) (T live (.ref q :: (st.take n).reverse) M (fun v M' => K nx L (v.toList ++ r) M'))
  | _ => False
def am_callS (live : am_E) (n : Nat) (T : am_T) (nx : Nat) : am_S := fun L st M K => am_if (Nat.beq (st.take n).length n && Nat.ble (am_cats (st.drop n)) 8) (T live (st.take n).reverse M (fun v M' => K nx L (v.toList ++ st.drop n) M'))
def am_math2 (f : Int32 → Int32 → Int32) (rl nx : Nat) : am_S := fun L st M K => match st with
  | .int y :: .int x :: r => am_if (Nat.ble (am_cats r + 13) rl) (K nx L (.int (f x y) :: r) M)
  | _ => False
def am_math1 (f : Int32 → Int32) (rl nx : Nat) : am_S := fun L st M K => match st with
  | .int x :: r => am_if (Nat.ble (am_cats r + 13) rl) (K nx L (.int (f x) :: r) M)
  | _ => False
def am_mathl (f : Int64 → Int64 → Int64) (rl nx : Nat) : am_S := fun L st M K => match st with
  | .long y :: .long x :: r => am_if (Nat.ble (am_cats r + 15) rl) (K nx L (.long (f x y) :: r) M)
  | _ => False
theorem am_in_vp {j : Int32} {N : Nat} (h : am_in j N) : vp_in j N := vp_in_iff.mpr h
theorem am_cats_cv (al : Nat → Nat) : ∀ st : List Value, ((st.map (am_cv al)).map fun v => v.category).sum = am_cats st
  | [] => rfl
  | v :: r => by
    show (am_cv al v).category + _ = v.category + am_cats r
    rw [am_cv_cat]
    exact congrArg (v.category + ·) (am_cats_cv al r)
section AK
variable {own : String} {cc : ByteArray} {nL : Nat} {rt : Option FieldType} {rf rl : Nat} {live : am_E} {Ret : am_R} {pc nx : Nat}
theorem ak_iconst {n : Int} {v : Int32} (hd : decode cc pc = .ok (.iconst n, 1)) (hv : Int32.ofInt n = v) (hn : pc + 1 = nx) : am_ok own cc nL rt rf rl live Ret pc (am_const (.int v) nx) := by
  subst hn
  intro p l e s m args below meth c D cA al B hC Y hY L st M K hK h H locs ls hP hS hl
  exact lv_iconst hC.1 hC.2.1 hd hv (hK _ _ _ _ h H locs ls hP hS hl)
theorem ak_bipush {n : Int} {v : Int32} (hd : decode cc pc = .ok (.bipush n, 2)) (hv : (Int8.ofInt n).toInt32 = v) (hn : pc + 2 = nx) : am_ok own cc nL rt rf rl live Ret pc (am_const (.int v) nx) := by
  subst hn
  intro p l e s m args below meth c D cA al B hC Y hY L st M K hK h H locs ls hP hS hl
  exact lv_bipush hC.1 hC.2.1 hd hv (hK _ _ _ _ h H locs ls hP hS hl)
theorem ak_sipush {n : Int} {v : Int32} (hd : decode cc pc = .ok (.sipush n, 3)) (hv : (Int16.ofInt n).toInt32 = v) (hn : pc + 3 = nx) : am_ok own cc nL rt rf rl live Ret pc (am_const (.int v) nx) := by
  subst hn
  intro p l e s m args below meth c D cA al B hC Y hY L st M K hK h H locs ls hP hS hl
  exact lv_sipush hC.1 hC.2.1 hd hv (hK _ _ _ _ h H locs ls hP hS hl)
theorem ak_lconst {n : Fin 2} {v : Int64} (hd : decode cc pc = .ok (.lconst n, 1)) (hv : Int64.ofNat (n : Nat) = v) (hn : pc + 1 = nx) : am_ok own cc nL rt rf rl live Ret pc (am_const (.long v) nx) := by
  subst hn
  intro p l e s m args below meth c D cA al B hC Y hY L st M K hK h H locs ls hP hS hl
  exact lv_lconst hC.1 hC.2.1 hd hv (hK _ _ _ _ h H locs ls hP hS hl)
theorem ak_ldc {idx : Nat} {v : Int32} (hw : Jvm.Cond.constant own idx v ∈ am_ws) (hd : decode cc pc = .ok (.ldc idx, 2)) (hn : pc + 2 = nx) : am_ok own cc nL rt rf rl live Ret pc (am_const (.int v) nx) := by
  subst hn
  intro p l e s m args below meth c D cA al B hC Y hY L st M K hK h H locs ls hP hS hl
  exact lv_ldc hC.1 hC.2.1 hC.2.2.2.1 (hC.2.2.2.2.1 _ hw) hd (hK _ _ _ _ h H locs ls hP hS hl)
theorem ak_ldcw {idx : Nat} {v : Int32} (hw : Jvm.Cond.constant own idx v ∈ am_ws) (hd : decode cc pc = .ok (.ldc_w idx, 3)) (hn : pc + 3 = nx) : am_ok own cc nL rt rf rl live Ret pc (am_const (.int v) nx) := by
  subst hn
  intro p l e s m args below meth c D cA al B hC Y hY L st M K hK h H locs ls hP hS hl
  exact lv_ldcw hC.1 hC.2.1 hC.2.2.2.1 (hC.2.2.2.2.1 _ hw) hd (hK _ _ _ _ h H locs ls hP hS hl)
theorem ak_ldc2 {idx : Nat} {v : Int64} (hw : Jvm.Cond.constantLong own idx v ∈ am_ws) (hd : decode cc pc = .ok (.ldc2_w idx, 3)) (hn : pc + 3 = nx) : am_ok own cc nL rt rf rl live Ret pc (am_const (.long v) nx) := by
  subst hn
  intro p l e s m args below meth c D cA al B hC Y hY L st M K hK h H locs ls hP hS hl
  exact lv_ldc2 hC.1 hC.2.1 hC.2.2.2.1 (hC.2.2.2.2.1 _ hw) hd (hK _ _ _ _ h H locs ls hP hS hl)
theorem am_ild {L : am_L} {i : Nat} {P : Int32 → Prop} (h : match am_g L i with | some (.int x) => P x | _ => False) : ∃ x, am_g L i = some (.int x) ∧ P x := by
  split at h
  · next x hx => exact ⟨x, hx, h⟩
  · exact h.elim
theorem am_lld {L : am_L} {i : Nat} {P : Int64 → Prop} (h : match am_g L i with | some (.long x) => P x | _ => False) : ∃ x, am_g L i = some (.long x) ∧ P x := by
  split at h
  · next x hx => exact ⟨x, hx, h⟩
  · exact h.elim
theorem am_all {L : am_L} {i : Nat} {P : Nat → Prop} (h : match am_g L i with | some (.ref x) => P x | _ => False) : ∃ x, am_g L i = some (.ref x) ∧ P x := by
  split at h
  · next x hx => exact ⟨x, hx, h⟩
  · exact h.elim
theorem ak_iload_n {k : Fin 4} {i : Nat} (hd : decode cc pc = .ok (.iload_n k, 1)) (hi : (k : Nat) = i) (hn : pc + 1 = nx) : am_ok own cc nL rt rf rl live Ret pc (am_iload i nx) := by
  subst hn
  intro p l e s m args below meth c D cA al B hC Y hY L st M K hK h H locs ls hP hS hl
  obtain ⟨x, hx, h⟩ := am_ild (P := fun x => K (pc + 1) L (.int x :: st) M) h
  exact lv_iload_n hC.1 hC.2.1 hd hi (am_lc_at hl hx) (hK _ _ _ _ h H locs ls hP hS hl)
theorem ak_iload {i : Nat} (hd : decode cc pc = .ok (.iload i, 2)) (hn : pc + 2 = nx) : am_ok own cc nL rt rf rl live Ret pc (am_iload i nx) := by
  subst hn
  intro p l e s m args below meth c D cA al B hC Y hY L st M K hK h H locs ls hP hS hl
  obtain ⟨x, hx, h⟩ := am_ild (P := fun x => K (pc + 2) L (.int x :: st) M) h
  exact lv_iload hC.1 hC.2.1 hd (am_lc_at hl hx) (hK _ _ _ _ h H locs ls hP hS hl)
theorem ak_lload_n {k : Fin 4} {i : Nat} (hd : decode cc pc = .ok (.lload_n k, 1)) (hi : (k : Nat) = i) (hn : pc + 1 = nx) : am_ok own cc nL rt rf rl live Ret pc (am_lload i nx) := by
  subst hn
  intro p l e s m args below meth c D cA al B hC Y hY L st M K hK h H locs ls hP hS hl
  obtain ⟨x, hx, h⟩ := am_lld (P := fun x => K (pc + 1) L (.long x :: st) M) h
  exact lv_lload_n hC.1 hC.2.1 hd hi (am_lc_at hl hx) (hK _ _ _ _ h H locs ls hP hS hl)
theorem ak_lload {i : Nat} (hd : decode cc pc = .ok (.lload i, 2)) (hn : pc + 2 = nx) : am_ok own cc nL rt rf rl live Ret pc (am_lload i nx) := by
  subst hn
  intro p l e s m args below meth c D cA al B hC Y hY L st M K hK h H locs ls hP hS hl
  obtain ⟨x, hx, h⟩ := am_lld (P := fun x => K (pc + 2) L (.long x :: st) M) h
  exact lv_lload hC.1 hC.2.1 hd (am_lc_at hl hx) (hK _ _ _ _ h H locs ls hP hS hl)
theorem ak_aload_n {k : Fin 4} {i : Nat} (hd : decode cc pc = .ok (.aload_n k, 1)) (hi : (k : Nat) = i) (hn : pc + 1 = nx) : am_ok own cc nL rt rf rl live Ret pc (am_aload i nx) := by
  subst hn
  intro p l e s m args below meth c D cA al B hC Y hY L st M K hK h H locs ls hP hS hl
  obtain ⟨x, hx, h⟩ := am_all (P := fun x => K (pc + 1) L (.ref x :: st) M) h
  exact lv_aload_n hC.1 hC.2.1 hd hi (am_lc_at hl hx) (hK _ _ _ _ h H locs ls hP hS hl)
theorem ak_aload {i : Nat} (hd : decode cc pc = .ok (.aload i, 2)) (hn : pc + 2 = nx) : am_ok own cc nL rt rf rl live Ret pc (am_aload i nx) := by
  subst hn
  intro p l e s m args below meth c D cA al B hC Y hY L st M K hK h H locs ls hP hS hl
  obtain ⟨x, hx, h⟩ := am_all (P := fun x => K (pc + 2) L (.ref x :: st) M) h
  exact lv_aload hC.1 hC.2.1 hd (am_lc_at hl hx) (hK _ _ _ _ h H locs ls hP hS hl)
theorem ak_istore_n {k : Fin 4} {i : Nat} (hd : decode cc pc = .ok (.istore_n k, 1)) (hi : (k : Nat) = i) (hn : pc + 1 = nx) : am_ok own cc nL rt rf rl live Ret pc (am_istore i nL nx) := by
  subst hn
  intro p l e s m args below meth c D cA al B hC Y hY L st M K hK h H locs ls hP hS hl
  unfold am_istore at h
  split at h
  · next x r =>
    obtain ⟨hb, h⟩ := am_if_mp h
    rw [am_force_iff] at h
    exact lv_istore_n hC.1 hC.2.1 hd hi hl (Nat.le_of_ble_eq_true hb) (am_lc_s1 al i (.int x) L) (fun ls' hl' => hK _ _ _ _ h H locs ls' hP hS hl')
  · exact h.elim
theorem ak_istore {i : Nat} (hd : decode cc pc = .ok (.istore i, 2)) (hn : pc + 2 = nx) : am_ok own cc nL rt rf rl live Ret pc (am_istore i nL nx) := by
  subst hn
  intro p l e s m args below meth c D cA al B hC Y hY L st M K hK h H locs ls hP hS hl
  unfold am_istore at h
  split at h
  · next x r =>
    obtain ⟨hb, h⟩ := am_if_mp h
    rw [am_force_iff] at h
    exact lv_istore hC.1 hC.2.1 hd hl (Nat.le_of_ble_eq_true hb) (am_lc_s1 al i (.int x) L) (fun ls' hl' => hK _ _ _ _ h H locs ls' hP hS hl')
  · exact h.elim
theorem ak_astore_n {k : Fin 4} {i : Nat} (hd : decode cc pc = .ok (.astore_n k, 1)) (hi : (k : Nat) = i) (hn : pc + 1 = nx) : am_ok own cc nL rt rf rl live Ret pc (am_astore i nL nx) := by
  subst hn
  intro p l e s m args below meth c D cA al B hC Y hY L st M K hK h H locs ls hP hS hl
  unfold am_astore at h
  split at h
  · next x r =>
    obtain ⟨hb, h⟩ := am_if_mp h
    rw [am_force_iff] at h
    exact lv_astore_n hC.1 hC.2.1 hd hi hl (Nat.le_of_ble_eq_true hb) (am_lc_s1 al i (.ref x) L) (fun ls' hl' => hK _ _ _ _ h H locs ls' hP hS hl')
  · exact h.elim
theorem ak_astore {i : Nat} (hd : decode cc pc = .ok (.astore i, 2)) (hn : pc + 2 = nx) : am_ok own cc nL rt rf rl live Ret pc (am_astore i nL nx) := by
  subst hn
  intro p l e s m args below meth c D cA al B hC Y hY L st M K hK h H locs ls hP hS hl
  unfold am_astore at h
  split at h
  · next x r =>
    obtain ⟨hb, h⟩ := am_if_mp h
    rw [am_force_iff] at h
    exact lv_astore hC.1 hC.2.1 hd hl (Nat.le_of_ble_eq_true hb) (am_lc_s1 al i (.ref x) L) (fun ls' hl' => hK _ _ _ _ h H locs ls' hP hS hl')
  · exact h.elim
theorem ak_lstore_n {k : Fin 4} {i : Nat} (hd : decode cc pc = .ok (.lstore_n k, 1)) (hi : (k : Nat) = i) (hn : pc + 1 = nx) : am_ok own cc nL rt rf rl live Ret pc (am_lstore i nL nx) := by
  subst hn
  intro p l e s m args below meth c D cA al B hC Y hY L st M K hK h H locs ls hP hS hl
  unfold am_lstore at h
  split at h
  · next x r =>
    obtain ⟨hb, h⟩ := am_if_mp h
    rw [am_force_iff] at h
    exact lv_lstore_n hC.1 hC.2.1 hd hi hl (Nat.le_of_ble_eq_true hb) (am_lc_s2 al i (.long x) L) (fun ls' hl' => hK _ _ _ _ h H locs ls' hP hS hl')
  · exact h.elim
theorem ak_lstore {i : Nat} (hd : decode cc pc = .ok (.lstore i, 2)) (hn : pc + 2 = nx) : am_ok own cc nL rt rf rl live Ret pc (am_lstore i nL nx) := by
  subst hn
  intro p l e s m args below meth c D cA al B hC Y hY L st M K hK h H locs ls hP hS hl
  unfold am_lstore at h
  split at h
  · next x r =>
    obtain ⟨hb, h⟩ := am_if_mp h
    rw [am_force_iff] at h
    exact lv_lstore hC.1 hC.2.1 hd hl (Nat.le_of_ble_eq_true hb) (am_lc_s2 al i (.long x) L) (fun ls' hl' => hK _ _ _ _ h H locs ls' hP hS hl')
  · exact h.elim
theorem ak_iinc {i : Nat} {n : Int} {d : Int32} (hd : decode cc pc = .ok (.iinc i n, 3)) (hv : Int32.ofInt n = d) (hn : pc + 3 = nx) : am_ok own cc nL rt rf rl live Ret pc (am_iinc i nL d nx) := by
  subst hn
  subst hv
  intro p l e s m args below meth c D cA al B hC Y hY L st M K hK h H locs ls hP hS hl
  obtain ⟨x, hx, h⟩ := am_ild (P := fun x => am_if (Nat.blt i nL) (am_force (am_s1 i (.int (x + Int32.ofInt n)) L) (fun L' => K (pc + 3) L' st M))) h
  obtain ⟨hb, h⟩ := am_if_mp h
  rw [am_force_iff] at h
  obtain ⟨k, hk⟩ := am_lc_pl (al := al) hx
  exact lv_iinc hC.1 hC.2.1 hd hl hk rfl (Nat.le_of_ble_eq_true hb) (am_lc_s1 al i (.int (x + Int32.ofInt n)) L) (fun ls' hl' => hK _ _ _ _ h H locs ls' hP hS hl')
theorem ak_iadd (hd : decode cc pc = .ok (.iadd, 1)) (hn : pc + 1 = nx) : am_ok own cc nL rt rf rl live Ret pc (am_i2 (fun x y => x + y) nx) := by
  subst hn
  intro p l e s m args below meth c D cA al B hC Y hY L st M K hK h H locs ls hP hS hl
  unfold am_i2 at h
  split at h
  · exact lv_iadd hC.1 hC.2.1 hd (hK _ _ _ _ h H locs ls hP hS hl)
  · exact h.elim
theorem ak_isub (hd : decode cc pc = .ok (.isub, 1)) (hn : pc + 1 = nx) : am_ok own cc nL rt rf rl live Ret pc (am_i2 (fun x y => x - y) nx) := by
  subst hn
  intro p l e s m args below meth c D cA al B hC Y hY L st M K hK h H locs ls hP hS hl
  unfold am_i2 at h
  split at h
  · exact lv_isub hC.1 hC.2.1 hd (hK _ _ _ _ h H locs ls hP hS hl)
  · exact h.elim
theorem ak_imul (hd : decode cc pc = .ok (.imul, 1)) (hn : pc + 1 = nx) : am_ok own cc nL rt rf rl live Ret pc (am_i2 (fun x y => x * y) nx) := by
  subst hn
  intro p l e s m args below meth c D cA al B hC Y hY L st M K hK h H locs ls hP hS hl
  unfold am_i2 at h
  split at h
  · exact lv_imul hC.1 hC.2.1 hd (hK _ _ _ _ h H locs ls hP hS hl)
  · exact h.elim
theorem ak_iand (hd : decode cc pc = .ok (.iand, 1)) (hn : pc + 1 = nx) : am_ok own cc nL rt rf rl live Ret pc (am_i2 (fun x y => x &&& y) nx) := by
  subst hn
  intro p l e s m args below meth c D cA al B hC Y hY L st M K hK h H locs ls hP hS hl
  unfold am_i2 at h
  split at h
  · exact lv_iand hC.1 hC.2.1 hd (hK _ _ _ _ h H locs ls hP hS hl)
  · exact h.elim
theorem ak_ior (hd : decode cc pc = .ok (.ior, 1)) (hn : pc + 1 = nx) : am_ok own cc nL rt rf rl live Ret pc (am_i2 (fun x y => x ||| y) nx) := by
  subst hn
  intro p l e s m args below meth c D cA al B hC Y hY L st M K hK h H locs ls hP hS hl
  unfold am_i2 at h
  split at h
  · exact lv_ior hC.1 hC.2.1 hd (hK _ _ _ _ h H locs ls hP hS hl)
  · exact h.elim
theorem ak_ixor (hd : decode cc pc = .ok (.ixor, 1)) (hn : pc + 1 = nx) : am_ok own cc nL rt rf rl live Ret pc (am_i2 (fun x y => x ^^^ y) nx) := by
  subst hn
  intro p l e s m args below meth c D cA al B hC Y hY L st M K hK h H locs ls hP hS hl
  unfold am_i2 at h
  split at h
  · exact lv_ixor hC.1 hC.2.1 hd (hK _ _ _ _ h H locs ls hP hS hl)
  · exact h.elim
theorem ak_ishl (hd : decode cc pc = .ok (.ishl, 1)) (hn : pc + 1 = nx) : am_ok own cc nL rt rf rl live Ret pc (am_i2 (fun x y => x <<< (y &&& 31)) nx) := by
  subst hn
  intro p l e s m args below meth c D cA al B hC Y hY L st M K hK h H locs ls hP hS hl
  unfold am_i2 at h
  split at h
  · exact lv_ishl hC.1 hC.2.1 hd (hK _ _ _ _ h H locs ls hP hS hl)
  · exact h.elim
theorem ak_idiv (hd : decode cc pc = .ok (.idiv, 1)) (hn : pc + 1 = nx) : am_ok own cc nL rt rf rl live Ret pc (am_i2z (fun x y => x / y) nx) := by
  subst hn
  intro p l e s m args below meth c D cA al B hC Y hY L st M K hK h H locs ls hP hS hl
  unfold am_i2z at h
  split at h
  · exact lv_idiv hC.1 hC.2.1 hd h.1 (hK _ _ _ _ h.2 H locs ls hP hS hl)
  · exact h.elim
theorem ak_irem (hd : decode cc pc = .ok (.irem, 1)) (hn : pc + 1 = nx) : am_ok own cc nL rt rf rl live Ret pc (am_i2z (fun x y => x - x / y * y) nx) := by
  subst hn
  intro p l e s m args below meth c D cA al B hC Y hY L st M K hK h H locs ls hP hS hl
  unfold am_i2z at h
  split at h
  · exact lv_irem hC.1 hC.2.1 hd h.1 (hK _ _ _ _ h.2 H locs ls hP hS hl)
  · exact h.elim
theorem ak_ladd (hd : decode cc pc = .ok (.ladd, 1)) (hn : pc + 1 = nx) : am_ok own cc nL rt rf rl live Ret pc (am_l2 (fun x y => x + y) nx) := by
  subst hn
  intro p l e s m args below meth c D cA al B hC Y hY L st M K hK h H locs ls hP hS hl
  unfold am_l2 at h
  split at h
  · exact lv_ladd hC.1 hC.2.1 hd (hK _ _ _ _ h H locs ls hP hS hl)
  · exact h.elim
theorem ak_lsub (hd : decode cc pc = .ok (.lsub, 1)) (hn : pc + 1 = nx) : am_ok own cc nL rt rf rl live Ret pc (am_l2 (fun x y => x - y) nx) := by
  subst hn
  intro p l e s m args below meth c D cA al B hC Y hY L st M K hK h H locs ls hP hS hl
  unfold am_l2 at h
  split at h
  · exact lv_lsub hC.1 hC.2.1 hd (hK _ _ _ _ h H locs ls hP hS hl)
  · exact h.elim
theorem ak_lmul (hd : decode cc pc = .ok (.lmul, 1)) (hn : pc + 1 = nx) : am_ok own cc nL rt rf rl live Ret pc (am_l2 (fun x y => x * y) nx) := by
  subst hn
  intro p l e s m args below meth c D cA al B hC Y hY L st M K hK h H locs ls hP hS hl
  unfold am_l2 at h
  split at h
  · exact lv_lmul hC.1 hC.2.1 hd (hK _ _ _ _ h H locs ls hP hS hl)
  · exact h.elim
theorem ak_land (hd : decode cc pc = .ok (.land, 1)) (hn : pc + 1 = nx) : am_ok own cc nL rt rf rl live Ret pc (am_l2 (fun x y => x &&& y) nx) := by
  subst hn
  intro p l e s m args below meth c D cA al B hC Y hY L st M K hK h H locs ls hP hS hl
  unfold am_l2 at h
  split at h
  · exact lv_land hC.1 hC.2.1 hd (hK _ _ _ _ h H locs ls hP hS hl)
  · exact h.elim
theorem ak_lor (hd : decode cc pc = .ok (.lor, 1)) (hn : pc + 1 = nx) : am_ok own cc nL rt rf rl live Ret pc (am_l2 (fun x y => x ||| y) nx) := by
  subst hn
  intro p l e s m args below meth c D cA al B hC Y hY L st M K hK h H locs ls hP hS hl
  unfold am_l2 at h
  split at h
  · exact lv_lor hC.1 hC.2.1 hd (hK _ _ _ _ h H locs ls hP hS hl)
  · exact h.elim
theorem ak_lxor (hd : decode cc pc = .ok (.lxor, 1)) (hn : pc + 1 = nx) : am_ok own cc nL rt rf rl live Ret pc (am_l2 (fun x y => x ^^^ y) nx) := by
  subst hn
  intro p l e s m args below meth c D cA al B hC Y hY L st M K hK h H locs ls hP hS hl
  unfold am_l2 at h
  split at h
  · exact lv_lxor hC.1 hC.2.1 hd (hK _ _ _ _ h H locs ls hP hS hl)
  · exact h.elim
theorem ak_ldiv (hd : decode cc pc = .ok (.ldiv, 1)) (hn : pc + 1 = nx) : am_ok own cc nL rt rf rl live Ret pc (am_l2z (fun x y => x / y) nx) := by
  subst hn
  intro p l e s m args below meth c D cA al B hC Y hY L st M K hK h H locs ls hP hS hl
  unfold am_l2z at h
  split at h
  · exact lv_ldiv hC.1 hC.2.1 hd h.1 (hK _ _ _ _ h.2 H locs ls hP hS hl)
  · exact h.elim
theorem ak_lrem (hd : decode cc pc = .ok (.lrem, 1)) (hn : pc + 1 = nx) : am_ok own cc nL rt rf rl live Ret pc (am_l2z (fun x y => x - x / y * y) nx) := by
  subst hn
  intro p l e s m args below meth c D cA al B hC Y hY L st M K hK h H locs ls hP hS hl
  unfold am_l2z at h
  split at h
  · exact lv_lrem hC.1 hC.2.1 hd h.1 (hK _ _ _ _ h.2 H locs ls hP hS hl)
  · exact h.elim
theorem ak_ineg (hd : decode cc pc = .ok (.ineg, 1)) (hn : pc + 1 = nx) : am_ok own cc nL rt rf rl live Ret pc (am_i1 (fun x => -x) nx) := by
  subst hn
  intro p l e s m args below meth c D cA al B hC Y hY L st M K hK h H locs ls hP hS hl
  unfold am_i1 at h
  split at h
  · exact lv_ineg hC.1 hC.2.1 hd (hK _ _ _ _ h H locs ls hP hS hl)
  · exact h.elim
theorem ak_lneg (hd : decode cc pc = .ok (.lneg, 1)) (hn : pc + 1 = nx) : am_ok own cc nL rt rf rl live Ret pc (am_l1 (fun x => -x) nx) := by
  subst hn
  intro p l e s m args below meth c D cA al B hC Y hY L st M K hK h H locs ls hP hS hl
  unfold am_l1 at h
  split at h
  · exact lv_lneg hC.1 hC.2.1 hd (hK _ _ _ _ h H locs ls hP hS hl)
  · exact h.elim
theorem ak_i2l (hd : decode cc pc = .ok (.i2l, 1)) (hn : pc + 1 = nx) : am_ok own cc nL rt rf rl live Ret pc (am_i2l nx) := by
  subst hn
  intro p l e s m args below meth c D cA al B hC Y hY L st M K hK h H locs ls hP hS hl
  unfold am_i2l at h
  split at h
  · exact lv_i2l hC.1 hC.2.1 hd rfl (hK _ _ _ _ h H locs ls hP hS hl)
  · exact h.elim
theorem ak_l2i (hd : decode cc pc = .ok (.l2i, 1)) (hn : pc + 1 = nx) : am_ok own cc nL rt rf rl live Ret pc (am_l2i nx) := by
  subst hn
  intro p l e s m args below meth c D cA al B hC Y hY L st M K hK h H locs ls hP hS hl
  unfold am_l2i at h
  split at h
  · exact lv_l2i hC.1 hC.2.1 hd rfl (hK _ _ _ _ h H locs ls hP hS hl)
  · exact h.elim
theorem ak_lcmp (hd : decode cc pc = .ok (.lcmp, 1)) (hn : pc + 1 = nx) : am_ok own cc nL rt rf rl live Ret pc (am_lcmp nx) := by
  subst hn
  intro p l e s m args below meth c D cA al B hC Y hY L st M K hK h H locs ls hP hS hl
  unfold am_lcmp at h
  split at h
  · exact W.lcmp hC.1 hC.2.1 hd (hK _ _ _ _ h H locs ls hP hS hl)
  · exact h.elim
theorem ak_lshl (hd : decode cc pc = .ok (.lshl, 1)) (hn : pc + 1 = nx) : am_ok own cc nL rt rf rl live Ret pc (am_lsh (fun x y => x <<< (y.toInt64 &&& 63)) nx) := by
  subst hn
  intro p l e s m args below meth c D cA al B hC Y hY L st M K hK h H locs ls hP hS hl
  unfold am_lsh at h
  split at h
  · exact lv_lshl hC.1 hC.2.1 hd rfl (hK _ _ _ _ h H locs ls hP hS hl)
  · exact h.elim
theorem ak_dup (hd : decode cc pc = .ok (.dup, 1)) (hn : pc + 1 = nx) : am_ok own cc nL rt rf rl live Ret pc (am_dup nx) := by
  subst hn
  intro p l e s m args below meth c D cA al B hC Y hY L st M K hK h H locs ls hP hS hl
  unfold am_dup at h
  split at h
  · obtain ⟨hb, h⟩ := am_if_mp h
    exact lv_dup hC.1 hC.2.1 hd (by rw [am_cv_cat]; exact Nat.eq_of_beq_eq_true hb) (hK _ _ _ _ h H locs ls hP hS hl)
  · exact h.elim
theorem ak_pop (hd : decode cc pc = .ok (.pop, 1)) (hn : pc + 1 = nx) : am_ok own cc nL rt rf rl live Ret pc (am_pop nx) := by
  subst hn
  intro p l e s m args below meth c D cA al B hC Y hY L st M K hK h H locs ls hP hS hl
  unfold am_pop at h
  split at h
  · obtain ⟨hb, h⟩ := am_if_mp h
    exact lv_pop hC.1 hC.2.1 hd (by rw [am_cv_cat]; exact Nat.eq_of_beq_eq_true hb) (hK _ _ _ _ h H locs ls hP hS hl)
  · exact h.elim
theorem ak_pop2 (hd : decode cc pc = .ok (.pop2, 1)) (hn : pc + 1 = nx) : am_ok own cc nL rt rf rl live Ret pc (am_pop2 nx) := by
  subst hn
  intro p l e s m args below meth c D cA al B hC Y hY L st M K hK h H locs ls hP hS hl
  unfold am_pop2 at h
  split at h
  · exact lv_pop2_2 hC.1 hC.2.1 hd rfl (hK _ _ _ _ h H locs ls hP hS hl)
  · exact h.elim
theorem ak_dup2 (hd : decode cc pc = .ok (.dup2, 1)) (hn : pc + 1 = nx) : am_ok own cc nL rt rf rl live Ret pc (am_dup2 nx) := by
  subst hn
  intro p l e s m args below meth c D cA al B hC Y hY L st M K hK h H locs ls hP hS hl
  unfold am_dup2 at h
  split at h
  · exact lv_dup2_2 hC.1 hC.2.1 hd rfl (hK _ _ _ _ h H locs ls hP hS hl)
  · obtain ⟨hb, h⟩ := am_if_mp h
    rw [Bool.and_eq_true] at hb
    exact lv_dup2_11 hC.1 hC.2.1 hd (by rw [am_cv_cat]; exact Nat.eq_of_beq_eq_true hb.1) (by rw [am_cv_cat]; exact Nat.eq_of_beq_eq_true hb.2) (hK _ _ _ _ h H locs ls hP hS hl)
  · exact h.elim
theorem ak_goto {off : Int} {tg : Nat} (hd : decode cc pc = .ok (.goto off, 3)) (ht : (pc : Int) + off = (tg : Int)) : am_ok own cc nL rt rf rl live Ret pc (am_goto tg) := by
  intro p l e s m args below meth c D cA al B hC Y hY L st M K hK h H locs ls hP hS hl
  exact lv_goto hC.1 hC.2.1 hd ht (hK _ _ _ _ h H locs ls hP hS hl)
theorem ak_if_eq {off : Int} {tg : Nat} (hd : decode cc pc = .ok (.ifCond .eq off, 3)) (ht : (pc : Int) + off = (tg : Int)) (hn : pc + 3 = nx) : am_ok own cc nL rt rf rl live Ret pc (am_if1 (fun x => x = 0) tg nx) := by
  subst hn
  intro p l e s m args below meth c D cA al B hC Y hY L st M K hK h H locs ls hP hS hl
  unfold am_if1 at h
  split at h
  · exact lv_if_eq hC.1 hC.2.1 hd ht (fun z => hK _ _ _ _ (h.1 z) H locs ls hP hS hl) (fun z => hK _ _ _ _ (h.2 z) H locs ls hP hS hl)
  · exact h.elim
theorem ak_icmp_eq {off : Int} {tg : Nat} (hd : decode cc pc = .ok (.if_icmp .eq off, 3)) (ht : (pc : Int) + off = (tg : Int)) (hn : pc + 3 = nx) : am_ok own cc nL rt rf rl live Ret pc (am_if2 (fun x y => x = y) tg nx) := by
  subst hn
  intro p l e s m args below meth c D cA al B hC Y hY L st M K hK h H locs ls hP hS hl
  unfold am_if2 at h
  split at h
  · exact lv_icmp_eq hC.1 hC.2.1 hd ht (fun z => hK _ _ _ _ (h.1 z) H locs ls hP hS hl) (fun z => hK _ _ _ _ (h.2 z) H locs ls hP hS hl)
  · exact h.elim
theorem ak_if_ne {off : Int} {tg : Nat} (hd : decode cc pc = .ok (.ifCond .ne off, 3)) (ht : (pc : Int) + off = (tg : Int)) (hn : pc + 3 = nx) : am_ok own cc nL rt rf rl live Ret pc (am_if1 (fun x => x = 0) nx tg) := by
  subst hn
  intro p l e s m args below meth c D cA al B hC Y hY L st M K hK h H locs ls hP hS hl
  unfold am_if1 at h
  split at h
  · exact lv_if_ne hC.1 hC.2.1 hd ht (fun z => hK _ _ _ _ (h.2 z) H locs ls hP hS hl) (fun z => hK _ _ _ _ (h.1 z) H locs ls hP hS hl)
  · exact h.elim
theorem ak_icmp_ne {off : Int} {tg : Nat} (hd : decode cc pc = .ok (.if_icmp .ne off, 3)) (ht : (pc : Int) + off = (tg : Int)) (hn : pc + 3 = nx) : am_ok own cc nL rt rf rl live Ret pc (am_if2 (fun x y => x = y) nx tg) := by
  subst hn
  intro p l e s m args below meth c D cA al B hC Y hY L st M K hK h H locs ls hP hS hl
  unfold am_if2 at h
  split at h
  · exact lv_icmp_ne hC.1 hC.2.1 hd ht (fun z => hK _ _ _ _ (h.2 z) H locs ls hP hS hl) (fun z => hK _ _ _ _ (h.1 z) H locs ls hP hS hl)
  · exact h.elim
theorem ak_if_lt {off : Int} {tg : Nat} (hd : decode cc pc = .ok (.ifCond .lt off, 3)) (ht : (pc : Int) + off = (tg : Int)) (hn : pc + 3 = nx) : am_ok own cc nL rt rf rl live Ret pc (am_if1 (fun x => x < 0) tg nx) := by
  subst hn
  intro p l e s m args below meth c D cA al B hC Y hY L st M K hK h H locs ls hP hS hl
  unfold am_if1 at h
  split at h
  · exact lv_if_lt hC.1 hC.2.1 hd ht (fun z => hK _ _ _ _ (h.1 z) H locs ls hP hS hl) (fun z => hK _ _ _ _ (h.2 z) H locs ls hP hS hl)
  · exact h.elim
theorem ak_icmp_lt {off : Int} {tg : Nat} (hd : decode cc pc = .ok (.if_icmp .lt off, 3)) (ht : (pc : Int) + off = (tg : Int)) (hn : pc + 3 = nx) : am_ok own cc nL rt rf rl live Ret pc (am_if2 (fun x y => x < y) tg nx) := by
  subst hn
  intro p l e s m args below meth c D cA al B hC Y hY L st M K hK h H locs ls hP hS hl
  unfold am_if2 at h
  split at h
  · exact lv_icmp_lt hC.1 hC.2.1 hd ht (fun z => hK _ _ _ _ (h.1 z) H locs ls hP hS hl) (fun z => hK _ _ _ _ (h.2 z) H locs ls hP hS hl)
  · exact h.elim
theorem ak_if_ge {off : Int} {tg : Nat} (hd : decode cc pc = .ok (.ifCond .ge off, 3)) (ht : (pc : Int) + off = (tg : Int)) (hn : pc + 3 = nx) : am_ok own cc nL rt rf rl live Ret pc (am_if1 (fun x => 0 ≤ x) tg nx) := by
  subst hn
  intro p l e s m args below meth c D cA al B hC Y hY L st M K hK h H locs ls hP hS hl
  unfold am_if1 at h
  split at h
  · exact lv_if_ge hC.1 hC.2.1 hd ht (fun z => hK _ _ _ _ (h.1 z) H locs ls hP hS hl) (fun z => hK _ _ _ _ (h.2 z) H locs ls hP hS hl)
  · exact h.elim
theorem ak_icmp_ge {off : Int} {tg : Nat} (hd : decode cc pc = .ok (.if_icmp .ge off, 3)) (ht : (pc : Int) + off = (tg : Int)) (hn : pc + 3 = nx) : am_ok own cc nL rt rf rl live Ret pc (am_if2 (fun x y => y ≤ x) tg nx) := by
  subst hn
  intro p l e s m args below meth c D cA al B hC Y hY L st M K hK h H locs ls hP hS hl
  unfold am_if2 at h
  split at h
  · exact lv_icmp_ge hC.1 hC.2.1 hd ht (fun z => hK _ _ _ _ (h.1 z) H locs ls hP hS hl) (fun z => hK _ _ _ _ (h.2 z) H locs ls hP hS hl)
  · exact h.elim
theorem ak_if_gt {off : Int} {tg : Nat} (hd : decode cc pc = .ok (.ifCond .gt off, 3)) (ht : (pc : Int) + off = (tg : Int)) (hn : pc + 3 = nx) : am_ok own cc nL rt rf rl live Ret pc (am_if1 (fun x => 0 < x) tg nx) := by
  subst hn
  intro p l e s m args below meth c D cA al B hC Y hY L st M K hK h H locs ls hP hS hl
  unfold am_if1 at h
  split at h
  · exact lv_if_gt hC.1 hC.2.1 hd ht (fun z => hK _ _ _ _ (h.1 z) H locs ls hP hS hl) (fun z => hK _ _ _ _ (h.2 z) H locs ls hP hS hl)
  · exact h.elim
theorem ak_icmp_gt {off : Int} {tg : Nat} (hd : decode cc pc = .ok (.if_icmp .gt off, 3)) (ht : (pc : Int) + off = (tg : Int)) (hn : pc + 3 = nx) : am_ok own cc nL rt rf rl live Ret pc (am_if2 (fun x y => y < x) tg nx) := by
  subst hn
  intro p l e s m args below meth c D cA al B hC Y hY L st M K hK h H locs ls hP hS hl
  unfold am_if2 at h
  split at h
  · exact lv_icmp_gt hC.1 hC.2.1 hd ht (fun z => hK _ _ _ _ (h.1 z) H locs ls hP hS hl) (fun z => hK _ _ _ _ (h.2 z) H locs ls hP hS hl)
  · exact h.elim
theorem ak_if_le {off : Int} {tg : Nat} (hd : decode cc pc = .ok (.ifCond .le off, 3)) (ht : (pc : Int) + off = (tg : Int)) (hn : pc + 3 = nx) : am_ok own cc nL rt rf rl live Ret pc (am_if1 (fun x => x ≤ 0) tg nx) := by
  subst hn
  intro p l e s m args below meth c D cA al B hC Y hY L st M K hK h H locs ls hP hS hl
  unfold am_if1 at h
  split at h
  · exact lv_if_le hC.1 hC.2.1 hd ht (fun z => hK _ _ _ _ (h.1 z) H locs ls hP hS hl) (fun z => hK _ _ _ _ (h.2 z) H locs ls hP hS hl)
  · exact h.elim
theorem ak_icmp_le {off : Int} {tg : Nat} (hd : decode cc pc = .ok (.if_icmp .le off, 3)) (ht : (pc : Int) + off = (tg : Int)) (hn : pc + 3 = nx) : am_ok own cc nL rt rf rl live Ret pc (am_if2 (fun x y => x ≤ y) tg nx) := by
  subst hn
  intro p l e s m args below meth c D cA al B hC Y hY L st M K hK h H locs ls hP hS hl
  unfold am_if2 at h
  split at h
  · exact lv_icmp_le hC.1 hC.2.1 hd ht (fun z => hK _ _ _ _ (h.1 z) H locs ls hP hS hl) (fun z => hK _ _ _ _ (h.2 z) H locs ls hP hS hl)
  · exact h.elim
end AK
end
-- part 05.mem.lean.txt
section
/-! fields, arrays, statics, returns -/
theorem am_P1 {D : va_G} {cl : List vw_C} {q : Nat × va_E} {H : Heap} (h : va_at D cl q H) : va_P D cl [q] H := by
  intro k r hr
  cases k with
  | zero => cases hr; exact h
  | succ k => simp at hr
theorem am_V {N j : Nat} (f : Nat → Value) (h : j < N) : vp_V ((List.range N).map f) j = f j := by
  unfold vp_V
  rw [List.getD_eq_getElem?_getD, List.getElem?_map, List.getElem?_range h]
  rfl
theorem am_fvO {Q : Nat → Nat → Option Nat} {al : Nat → Nat} {M M' : am_M} {n ci : Nat} (h1 : ∀ k, M'.1 n k = M.1 n k) (h2 : ∀ k, M'.2 n k = M.2 n k) : am_fv Q al M' n ci = am_fv Q al M n ci := by
  funext k
  unfold am_fv
  rw [h1, h2]
theorem am_ceO {Q : Nat → Nat → Option Nat} {cA : Nat → ClassId} {al : Nat → Nat} {M M' : am_M} {n : Nat} (h1 : M'.1 n = M.1 n) (h2 : M'.2 n = M.2 n) : am_ce Q cA al M' n = am_ce Q cA al M n := by
  unfold am_ce
  cases am_sh n with
  | inl ci => exact congrArg (fun f => Sum.inr (ci, (List.range (am_nf ci)).map f)) (am_fvO (M := M) (M' := M') (fun k => congrFun h1 k) (fun k => congrFun h2 k))
  | inr q =>
    refine congrArg (fun f => Sum.inl (cA q.1, q.2, f)) ?_
    unfold am_ae
    rw [h1, h2]
theorem am_ce_wI {Q : Nat → Nat → Option Nat} {cA : Nat → ClassId} {al : Nat → Nat} {M : am_M} {n k m : Nat} {x : Int32} (h : m ≠ n) : am_ce Q cA al (am_wI M n k x) m = am_ce Q cA al M m := by
  refine am_ceO ?_ rfl
  funext j
  show (if m = n ∧ j = k then x else M.1 m j) = _
  rw [if_neg (fun q => h q.1)]
theorem am_ce_wJ {Q : Nat → Nat → Option Nat} {cA : Nat → ClassId} {al : Nat → Nat} {M : am_M} {n k m : Nat} {x : Int64} (h : m ≠ n) : am_ce Q cA al (am_wJ M n k x) m = am_ce Q cA al M m := by
  refine am_ceO rfl ?_
  funext j
  show (if m = n ∧ j = k then x else M.2 m j) = _
  rw [if_neg (fun q => h q.1)]
theorem am_ceA {Q : Nat → Nat → Option Nat} {cA : Nat → ClassId} {al : Nat → Nat} {M : am_M} {n t len : Nat} (hsh : am_sh n = .inr (t, len)) : am_ce Q cA al M n = .inl (cA t, len, am_ae Q al M n t) := by
  unfold am_ce; rw [hsh]
theorem am_ceF {Q : Nat → Nat → Option Nat} {cA : Nat → ClassId} {al : Nat → Nat} {M : am_M} {n ci : Nat} (hsh : am_sh n = .inl ci) : am_ce Q cA al M n = .inr (ci, (List.range (am_nf ci)).map (am_fv Q al M n ci)) := by
  unfold am_ce; rw [hsh]
theorem am_ae0 {Q : Nat → Nat → Option Nat} {al : Nat → Nat} {M : am_M} {n t : Nat} (h : am_tk t = 0) : am_ae Q al M n t = .inl (M.1 n) := by unfold am_ae; rw [h]; rfl
theorem am_ae1 {Q : Nat → Nat → Option Nat} {al : Nat → Nat} {M : am_M} {n t : Nat} (h : am_tk t = 1) : am_ae Q al M n t = .inr (.inl (M.2 n)) := by unfold am_ae; rw [h]; rfl
theorem am_ae2 {Q : Nat → Nat → Option Nat} {al : Nat → Nat} {M : am_M} {n t : Nat} (h : am_tk t = 2) : am_ae Q al M n t = .inr (.inr (.inr (.inr (fun k => (Q n k).map al)))) := by unfold am_ae; rw [h]; rfl
theorem am_fv0 {Q : Nat → Nat → Option Nat} {al : Nat → Nat} {M : am_M} {n ci k : Nat} (h : am_ft ci k = 0) : am_fv Q al M n ci k = .int (M.1 n k) := by unfold am_fv; rw [h]; rfl
theorem am_fv1 {Q : Nat → Nat → Option Nat} {al : Nat → Nat} {M : am_M} {n ci k : Nat} (h : am_ft ci k = 1) : am_fv Q al M n ci k = .long (M.2 n k) := by unfold am_fv; rw [h]; rfl
theorem am_fv2 {Q : Nat → Nat → Option Nat} {al : Nat → Nat} {M : am_M} {n ci k : Nat} (h : am_ft ci k = 2) : am_fv Q al M n ci k = va_rf ((Q n k).map al) := by unfold am_fv; rw [h]; rfl
theorem am_wI_row (M : am_M) (n k : Nat) (x : Int32) : (am_wI M n k x).1 n = upd (M.1 n) k x := by
  funext j
  show (if n = n ∧ j = k then x else M.1 n j) = if j = k then x else M.1 n j
  by_cases h : j = k
  · rw [if_pos ⟨rfl, h⟩, if_pos h]
  · rw [if_neg (fun q => h q.2), if_neg h]
theorem am_wJ_row (M : am_M) (n k : Nat) (x : Int64) : (am_wJ M n k x).2 n = vp_updL (M.2 n) k x := by
  funext j
  show (if n = n ∧ j = k then x else M.2 n j) = if j = k then x else M.2 n j
  by_cases h : j = k
  · rw [if_pos ⟨rfl, h⟩, if_pos h]
  · rw [if_neg (fun q => h q.2), if_neg h]
theorem am_arr_i (cA : ClassId) (n k : Nat) (f : Nat → Int32) (x : Int32) : (vp_cell cA (n, .inl f)).setSlot k (.int x) = vp_cell cA (n, .inl (upd f k x)) := by
  rw [vp_cell_i, vp_cell_i, arrV_store]
  congr 1
  funext q
  by_cases hq : q = k
  · subst hq
    simp [updV, upd]
  · simp [updV, upd, hq]
theorem am_arr_l (cA : ClassId) (n k : Nat) (f : Nat → Int64) (x : Int64) : (vp_cell cA (n, .inr (.inl f))).setSlot k (.long x) = vp_cell cA (n, .inr (.inl (vp_updL f k x))) := by
  rw [vp_cell_l, vp_cell_l, arrV_store]
  congr 1
  funext q
  by_cases hq : q = k
  · subst hq
    simp [updV, vp_updL]
  · simp [updV, vp_updL, hq]
section AKM
variable {own : String} {cc : ByteArray} {nL : Nat} {rt : Option FieldType} {rf rl : Nat} {live : am_E} {Ret : am_R} {pc nx : Nat}
theorem ak_iald {t : Nat} (ht : ∀ cA : Nat → ClassId, (am_tys cA)[t]? = some (cA t, .int)) (hk : am_tk t = 0) (hd : decode cc pc = .ok (.iaload, 1)) (hn : pc + 1 = nx) : am_ok own cc nL rt rf rl live Ret pc (am_ald live t nx) := by
  subst hn
  intro p l e s m args below meth c D cA al B hC Y hY L st M K hKK h H locs ls hP hS hl
  obtain ⟨hx, hb, hml, hown, hts, hlk, hr, hK, hB, hZ, hN⟩ := hC
  unfold am_ald at h
  split at h
  · next j n r =>
    obtain ⟨hbb, hin, h⟩ := am_if_mp h
    obtain ⟨hlv, hsh⟩ := am_isA_spec hbb
    have hcell := hP.1 n hlv
    rw [am_ceA hsh, am_ae0 hk] at hcell
    exact va_iald (D := D) (cl := am_cl) (tys := am_tys cA) hx hb hK (am_P1 hcell) 0 t rfl (ht cA) (am_in_vp hin) hd (hKK _ _ _ _ h H locs ls hP hS hl)
  · exact h.elim
theorem ak_zald {t : Nat} (ht : ∀ cA : Nat → ClassId, (am_tys cA)[t]? = some (cA t, .boolean)) (hk : am_tk t = 0) (hd : decode cc pc = .ok (.baload, 1)) (hn : pc + 1 = nx) : am_ok own cc nL rt rf rl live Ret pc (am_ald live t nx) := by
  subst hn
  intro p l e s m args below meth c D cA al B hC Y hY L st M K hKK h H locs ls hP hS hl
  obtain ⟨hx, hb, hml, hown, hts, hlk, hr, hK, hB, hZ, hN⟩ := hC
  unfold am_ald at h
  split at h
  · next j n r =>
    obtain ⟨hbb, hin, h⟩ := am_if_mp h
    obtain ⟨hlv, hsh⟩ := am_isA_spec hbb
    have hcell := hP.1 n hlv
    rw [am_ceA hsh, am_ae0 hk] at hcell
    exact va_zald (D := D) (cl := am_cl) (tys := am_tys cA) hx hb hK (am_P1 hcell) 0 t rfl (ht cA) (am_in_vp hin) hd (hKK _ _ _ _ h H locs ls hP hS hl)
  · exact h.elim
theorem ak_lald {t : Nat} (ht : ∀ cA : Nat → ClassId, (am_tys cA)[t]? = some (cA t, .long)) (hk : am_tk t = 1) (hd : decode cc pc = .ok (.laload, 1)) (hn : pc + 1 = nx) : am_ok own cc nL rt rf rl live Ret pc (am_lald live t nx) := by
  subst hn
  intro p l e s m args below meth c D cA al B hC Y hY L st M K hKK h H locs ls hP hS hl
  obtain ⟨hx, hb, hml, hown, hts, hlk, hr, hK, hB, hZ, hN⟩ := hC
  unfold am_lald at h
  split at h
  · next j n r =>
    obtain ⟨hbb, hin, h⟩ := am_if_mp h
    obtain ⟨hlv, hsh⟩ := am_isA_spec hbb
    have hcell := hP.1 n hlv
    rw [am_ceA hsh, am_ae1 hk] at hcell
    exact va_lald (D := D) (cl := am_cl) (tys := am_tys cA) hx hb hK (am_P1 hcell) 0 t rfl (ht cA) (am_in_vp hin) hd (hKK _ _ _ _ h H locs ls hP hS hl)
  · exact h.elim
theorem ak_aald {t : Nat} {C : String} (ht : ∀ cA : Nat → ClassId, (am_tys cA)[t]? = some (cA t, .object C)) (hk : am_tk t = 2) (hd : decode cc pc = .ok (.aaload, 1)) (hn : pc + 1 = nx) : am_ok own cc nL rt rf rl live Ret pc (am_aald live t nx) := by
  subst hn
  intro p l e s m args below meth c D cA al B hC Y hY L st M K hKK h H locs ls hP hS hl
  obtain ⟨hx, hb, hml, hown, hts, hlk, hr, hK, hB, hZ, hN⟩ := hC
  unfold am_aald at h
  split at h
  · next j n r =>
    obtain ⟨hbb, hin, h⟩ := am_if_mp h
    obtain ⟨hlv, hsh⟩ := am_isA_spec hbb
    have hcell := hP.1 n hlv
    rw [am_ceA hsh, am_ae2 hk] at hcell
    obtain ⟨q, hq, h⟩ := am_qm (P := fun q => K (pc + 1) L (.ref q :: r) M) h
    refine va_aldq (D := D) (cl := am_cl) (tys := am_tys cA) hx hb hK (am_P1 hcell) 0 t rfl (ht cA) (am_in_vp hin) hd ?_
    show W p l e _ s m args below meth c H locs Y.2.1 Y.2.2.1 _ (F0 m (pc + 1) ls (va_rf ((live.2 n j.toNatClampNeg).map al) :: r.map (am_cv al)))
    rw [hq]
    exact hKK _ _ _ _ h H locs ls hP hS hl
  · exact h.elim
theorem ak_iast {t : Nat} (ht : ∀ cA : Nat → ClassId, (am_tys cA)[t]? = some (cA t, .int)) (hk : am_tk t = 0) (hd : decode cc pc = .ok (.iastore, 1)) (hn : pc + 1 = nx) : am_ok own cc nL rt rf rl live Ret pc (am_ast live t nx) := by
  subst hn
  intro p l e s m args below meth c D cA al B hC Y hY L st M K hKK h H locs ls hP hS hl
  obtain ⟨hx, hb, hml, hown, hts, hlk, hr, hK, hB, hZ, hN⟩ := hC
  unfold am_ast at h
  split at h
  · next x j n r =>
    obtain ⟨hbb, hin, h⟩ := am_if_mp h
    obtain ⟨hlv, hsh⟩ := am_isA_spec hbb
    have hcell := hP.1 n hlv
    rw [am_ceA hsh, am_ae0 hk] at hcell
    refine W.iast hx hb (cell := vp_cell (cA t) (am_len n, .inl (M.1 n))) hcell ((hK.2 t _ (ht cA)).1 (am_len n) (fun j => .int (M.1 n j))) (fun q => by cases q) (by show ¬ (j < 0 ∨ (arrV _ _ _).slots.size ≤ _); rw [arrV_size]; exact am_in_vp hin) rfl rfl hd fun H1 e1 z oq => ?_
    refine hKK _ _ _ _ h H1 _ ls (hP.put hlv ?_ (fun m hm => am_ce_wI hm) oq) (hS.put z oq (hP.2.2.1 n hlv)) hl
    rw [am_ceA hsh, am_ae0 hk, am_wI_row]
    show H1[al n]? = some (vp_cell _ _)
    rw [e1, am_arr_i]
  · exact h.elim
theorem ak_zast {t : Nat} (ht : ∀ cA : Nat → ClassId, (am_tys cA)[t]? = some (cA t, .boolean)) (hk : am_tk t = 0) (hd : decode cc pc = .ok (.bastore, 1)) (hn : pc + 1 = nx) : am_ok own cc nL rt rf rl live Ret pc (am_zst live t nx) := by
  subst hn
  intro p l e s m args below meth c D cA al B hC Y hY L st M K hKK h H locs ls hP hS hl
  obtain ⟨hx, hb, hml, hown, hts, hlk, hr, hK, hB, hZ, hN⟩ := hC
  unfold am_zst at h
  split at h
  · next x j n r =>
    obtain ⟨hbb, hin, h⟩ := am_if_mp h
    obtain ⟨hlv, hsh⟩ := am_isA_spec hbb
    have hcell := hP.1 n hlv
    rw [am_ceA hsh, am_ae0 hk] at hcell
    refine W.zast hx hb (cell := vp_cell (cA t) (am_len n, .inl (M.1 n))) hcell ((hK.2 t _ (ht cA)).1 (am_len n) (fun j => .int (M.1 n j))) (fun q => by cases q) (by show ¬ (j < 0 ∨ (arrV _ _ _).slots.size ≤ _); rw [arrV_size]; exact am_in_vp hin) rfl rfl hd fun H1 e1 z oq => ?_
    refine hKK _ _ _ _ h H1 _ ls (hP.put hlv ?_ (fun m hm => am_ce_wI hm) oq) (hS.put z oq (hP.2.2.1 n hlv)) hl
    rw [am_ceA hsh, am_ae0 hk, am_wI_row]
    show H1[al n]? = some (vp_cell _ _)
    rw [e1]
    exact congrArg some (am_arr_i _ _ _ _ (vp_nar .boolean x))
  · exact h.elim
theorem ak_last {t : Nat} (ht : ∀ cA : Nat → ClassId, (am_tys cA)[t]? = some (cA t, .long)) (hk : am_tk t = 1) (hd : decode cc pc = .ok (.lastore, 1)) (hn : pc + 1 = nx) : am_ok own cc nL rt rf rl live Ret pc (am_last live t nx) := by
  subst hn
  intro p l e s m args below meth c D cA al B hC Y hY L st M K hKK h H locs ls hP hS hl
  obtain ⟨hx, hb, hml, hown, hts, hlk, hr, hK, hB, hZ, hN⟩ := hC
  unfold am_last at h
  split at h
  · next x j n r =>
    obtain ⟨hbb, hin, h⟩ := am_if_mp h
    obtain ⟨hlv, hsh⟩ := am_isA_spec hbb
    have hcell := hP.1 n hlv
    rw [am_ceA hsh, am_ae1 hk] at hcell
    refine W.last hx hb (cell := vp_cell (cA t) (am_len n, .inr (.inl (M.2 n)))) hcell ((hK.2 t _ (ht cA)).1 (am_len n) (fun j => .long (M.2 n j))) (fun q => by cases q) (by show ¬ (j < 0 ∨ (arrV _ _ _).slots.size ≤ _); rw [arrV_size]; exact am_in_vp hin) rfl rfl hd fun H1 e1 z oq => ?_
    refine hKK _ _ _ _ h H1 _ ls (hP.put hlv ?_ (fun m hm => am_ce_wJ hm) oq) (hS.put z oq (hP.2.2.1 n hlv)) hl
    rw [am_ceA hsh, am_ae1 hk, am_wJ_row]
    show H1[al n]? = some (vp_cell _ _)
    rw [e1, am_arr_l]
  · exact h.elim
theorem ak_alen {t : Nat} {ty : FieldType} (ht : ∀ cA : Nat → ClassId, (am_tys cA)[t]? = some (cA t, ty)) (hd : decode cc pc = .ok (.arraylength, 1)) (hn : pc + 1 = nx) : am_ok own cc nL rt rf rl live Ret pc (am_alen live t nx) := by
  subst hn
  intro p l e s m args below meth c D cA al B hC Y hY L st M K hKK h H locs ls hP hS hl
  obtain ⟨hx, hb, hml, hown, hts, hlk, hr, hK, hB, hZ, hN⟩ := hC
  unfold am_alen at h
  split at h
  · next n r =>
    obtain ⟨hbb, h⟩ := am_if_mp h
    obtain ⟨hlv, hsh⟩ := am_isA_spec hbb
    have hcell := hP.1 n hlv
    rw [am_ceA hsh] at hcell
    exact va_alen (D := D) (cl := am_cl) (tys := am_tys cA) hx hb hK (am_P1 hcell) 0 t rfl (ht cA) rfl hd (hKK _ _ _ _ h H locs ls hP hS hl)
  · exact h.elim
theorem ak_getI {ci k N idx : Nat} {C : String} {T : u_T} (hc : am_cl[ci]? = some (C, T, N)) (hin : ∀ w ∈ u_ws C T N, w ∈ am_ws) (hk : k < N) (hnf : am_nf ci = N) (hft : am_ft ci k = 0) (hdc : (T k).1 = C) (hw : Cond.fieldLink own idx C (T k).2.1 (T k).2.2.1 ∈ am_ws) (hd : decode cc pc = .ok (.getfield idx, 3)) (hn : pc + 3 = nx) : am_ok own cc nL rt rf rl live Ret pc (am_getI live ci k nx) := by
  subst hn
  intro p l e s m args below meth c D cA al B hC Y hY L st M K hKK h H locs ls hP hS hl
  obtain ⟨hx, hb, hml, hown, hts, hlk, hr, hK, hB, hZ, hN⟩ := hC
  unfold am_getI at h
  split at h
  · next n r =>
    obtain ⟨hbb, h⟩ := am_if_mp h
    obtain ⟨hlv, hsh⟩ := am_isO_spec hbb
    have hcell := hP.1 n hlv
    rw [am_ceF hsh] at hcell
    exact va_get (D := D) (cl := am_cl) (tys := am_tys cA) hx hb hts hin hown hK (am_P1 hcell) 0 rfl hc k hk (hts _ hw) (fun x hx => by rw [hdc] at hx; exact hx) (by rw [hnf, List.getElem?_map, List.getElem?_range hk]; exact congrArg some (am_fv0 hft)) hd (hKK _ _ _ _ h H locs ls hP hS hl)
  · exact h.elim
theorem ak_getJ {ci k N idx : Nat} {C : String} {T : u_T} (hc : am_cl[ci]? = some (C, T, N)) (hin : ∀ w ∈ u_ws C T N, w ∈ am_ws) (hk : k < N) (hnf : am_nf ci = N) (hft : am_ft ci k = 1) (hdc : (T k).1 = C) (hw : Cond.fieldLink own idx C (T k).2.1 (T k).2.2.1 ∈ am_ws) (hd : decode cc pc = .ok (.getfield idx, 3)) (hn : pc + 3 = nx) : am_ok own cc nL rt rf rl live Ret pc (am_getJ live ci k nx) := by
  subst hn
  intro p l e s m args below meth c D cA al B hC Y hY L st M K hKK h H locs ls hP hS hl
  obtain ⟨hx, hb, hml, hown, hts, hlk, hr, hK, hB, hZ, hN⟩ := hC
  unfold am_getJ at h
  split at h
  · next n r =>
    obtain ⟨hbb, h⟩ := am_if_mp h
    obtain ⟨hlv, hsh⟩ := am_isO_spec hbb
    have hcell := hP.1 n hlv
    rw [am_ceF hsh] at hcell
    exact va_get (D := D) (cl := am_cl) (tys := am_tys cA) hx hb hts hin hown hK (am_P1 hcell) 0 rfl hc k hk (hts _ hw) (fun x hx => by rw [hdc] at hx; exact hx) (by rw [hnf, List.getElem?_map, List.getElem?_range hk]; exact congrArg some (am_fv1 hft)) hd (hKK _ _ _ _ h H locs ls hP hS hl)
  · exact h.elim
theorem ak_getR {ci k N idx : Nat} {C : String} {T : u_T} (hc : am_cl[ci]? = some (C, T, N)) (hin : ∀ w ∈ u_ws C T N, w ∈ am_ws) (hk : k < N) (hnf : am_nf ci = N) (hft : am_ft ci k = 2) (hdc : (T k).1 = C) (hw : Cond.fieldLink own idx C (T k).2.1 (T k).2.2.1 ∈ am_ws) (hd : decode cc pc = .ok (.getfield idx, 3)) (hn : pc + 3 = nx) : am_ok own cc nL rt rf rl live Ret pc (am_getR live ci k nx) := by
  subst hn
  intro p l e s m args below meth c D cA al B hC Y hY L st M K hKK h H locs ls hP hS hl
  obtain ⟨hx, hb, hml, hown, hts, hlk, hr, hK, hB, hZ, hN⟩ := hC
  unfold am_getR at h
  split at h
  · next n r =>
    obtain ⟨hbb, h⟩ := am_if_mp h
    obtain ⟨hlv, hsh⟩ := am_isO_spec hbb
    have hcell := hP.1 n hlv
    rw [am_ceF hsh] at hcell
    obtain ⟨q, hq, h⟩ := am_qm (P := fun q => K (pc + 3) L (.ref q :: r) M) h
    exact va_get (D := D) (cl := am_cl) (tys := am_tys cA) (v := .ref (al q)) hx hb hts hin hown hK (am_P1 hcell) 0 rfl hc k hk (hts _ hw) (fun x hx => by rw [hdc] at hx; exact hx) (by rw [hnf, List.getElem?_map, List.getElem?_range hk]; exact congrArg some ((am_fv2 hft).trans (by rw [hq]; rfl))) hd (hKK _ _ _ _ h H locs ls hP hS hl)
  · exact h.elim
/-- a store into a field of a kind -/
theorem am_pf {p : Program} {l : Launch} {e : Env} {R : Room} {s : State} {m : MethodId} {args : Array Value} {below : List Frame} {meth : Method} {c : Code} {H : Heap} {locs : List Loc} {Q : State → Prop} {kc kn : Nat} {ls : Array Slot} {D : va_G} {cA : Nat → ClassId} {al : Nat → Nat} {B n : Nat} {M M' : am_M} {rest : List Value} {v : Value}
    {ci k N idx : Nat} {C : String} {T : u_T} {ty0 : Nat → FieldType} {ty : FieldType} (hx : p.tables.exec = Jvm.exec) (hb : c.code = cc) (hown : s.vm.findClass own = some m.cls) (hts : ∀ w ∈ am_ws, w.before args s = true) (hK : va_K D am_cl (am_tys cA) s) (hP : am_P D cA al B live M H) (hlv : live.1 n = true) (hsh : am_sh n = .inl ci)
    (hc : am_cl[ci]? = some (C, T, N)) (hin : ∀ w ∈ u_ws C T N, w ∈ am_ws) (hty : ∀ k, k < N → parseFieldDescriptor (T k).2.2.1 = some (ty0 k)) (hnm : ∀ a, a < N → ∀ b, b < N → a ≠ b → (T a).2.1 ≠ (T b).2.1) (hk : k < N) (hnf : am_nf ci = N) (hdc : (T k).1 = C) (hfin : (T k).2.2.2 = false) (hd0 : parseFieldDescriptor (T k).2.2.1 = some ty) (hnr : narrow ty v = v) (hfit : fits ty v = true) (hw : Cond.fieldLink own idx C (T k).2.1 (T k).2.2.1 ∈ am_ws) (hd : decode cc pc = .ok (.putfield idx, 3))
    (hm1 : am_fv live.2 al M' n ci k = v) (hm2 : ∀ j, j ≠ k → am_fv live.2 al M' n ci j = am_fv live.2 al M n ci j) (hm3 : ∀ m, m ≠ n → am_ce live.2 cA al M' m = am_ce live.2 cA al M m)
    (kk : ∀ (H1 : Heap) (k2 : Nat), am_P D cA al B live M' H1 → H1.size = H.size → (∀ q : Nat, q ≠ al n → H1[q]? = H[q]?) → W p l e R s m args below meth c H1 (locs ++ [⟨al n, k2⟩]) kc kn Q (F0 m (pc + 3) ls rest)) : W p l e R s m args below meth c H locs kc kn Q (F0 m pc ls (v :: .ref (al n) :: rest)) := by
  have hap := va_apart (own := own) (D := D) (s := s) (args := args) hts hin ty0 hty hnm hK hc
  have hcell := hP.1 n hlv
  rw [am_ceF hsh] at hcell
  obtain ⟨r, h1, cell, q1, q2, q3, q4⟩ := hcell
  have hr : r = (C, T, N) := Option.some.inj (h1.symm.trans hc)
  subst hr
  obtain ⟨hS, hfc, kC, hkC, hkind⟩ := hK.1 ci _ hc
  obtain ⟨cf, kf, fi, f, hi, hsl⟩ := hS k hk
  have hlay := hts _ (hin _ (u_in_lay hk))
  unfold u_lay at hlay
  rw [if_neg (by rw [hfin]; decide)] at hlay
  have hst := (u_facts hfc hkC (u_lays hts hin hk) hi).1
  have h6 := u_store hfc hkC hkind hlay hi hd0 hnr hfit
  have hi2 : s.fieldFound? C (T k).2.1 (T k).2.2.1 = some (cf, kf, fi, f) := by rw [← hdc]; exact hi
  refine W.putK hx hb (f := f) ⟨hown, hts _ hw, ⟨_, _, _, hi2⟩, hst⟩ (by rw [q2]; exact h6) q1 q3 (by rw [hsl]; exact k2_hasslot (q4 k hk)) rfl rfl hd fun H' e1 e2 e3 => ?_
  rw [hsl] at e1 ⊢
  refine kk H' _ (hP.put hlv ?_ hm3 e3) e2 e3
  rw [am_ceF hsh]
  refine ⟨(C, T, N), hc, t_OB.to (V := updV (vp_V ((List.range (am_nf ci)).map (am_fv live.2 al M n ci))) k v) ⟨_, e1, q2, q3, t_set q4 hap hk v⟩ (fun j hj => ?_)⟩
  rw [hnf, am_V _ hj]
  unfold updV
  by_cases hjk : j = k
  · subst hjk
    rw [if_pos rfl, hm1]
  · rw [if_neg hjk, am_V _ hj, hm2 j hjk]
theorem ak_putI {ci k N idx : Nat} {C : String} {T : u_T} {ty0 : Nat → FieldType} (hc : am_cl[ci]? = some (C, T, N)) (hin : ∀ w ∈ u_ws C T N, w ∈ am_ws) (hty : ∀ k, k < N → parseFieldDescriptor (T k).2.2.1 = some (ty0 k)) (hnm : ∀ a, a < N → ∀ b, b < N → a ≠ b → (T a).2.1 ≠ (T b).2.1) (hk : k < N) (hnf : am_nf ci = N) (hft : am_ft ci k = 0) (hdc : (T k).1 = C) (hfin : (T k).2.2.2 = false) (hd0 : parseFieldDescriptor (T k).2.2.1 = some .int) (hw : Cond.fieldLink own idx C (T k).2.1 (T k).2.2.1 ∈ am_ws) (hd : decode cc pc = .ok (.putfield idx, 3)) (hn : pc + 3 = nx) : am_ok own cc nL rt rf rl live Ret pc (am_putI live ci k nx) := by
  subst hn
  intro p l e s m args below meth c D cA al B hC Y hY L st M K hKK h H locs ls hP hS hl
  obtain ⟨hx, hb, hml, hown, hts, hlk, hr, hK, hB, hZ, hN⟩ := hC
  unfold am_putI at h
  split at h
  · next x n r =>
    obtain ⟨hbb, h⟩ := am_if_mp h
    obtain ⟨hlv, hsh⟩ := am_isO_spec hbb
    refine am_pf (M' := am_wI M n k x) (v := .int x) hx hb hown hts hK hP hlv hsh hc hin hty hnm hk hnf hdc hfin hd0 rfl rfl hw hd ?_ (fun j hj => ?_) (fun m hm => am_ce_wI hm) (fun H1 k2 hP1 z oq => hKK _ _ _ _ h H1 _ ls hP1 (hS.put z oq (hP.2.2.1 n hlv)) hl)
    · rw [am_fv0 hft]
      exact congrArg Value.int (if_pos ⟨rfl, rfl⟩)
    · unfold am_fv
      rw [show (am_wI M n k x).1 n j = M.1 n j from if_neg (fun q => hj q.2)]
      rfl
  · exact h.elim
theorem ak_putZ {ci k N idx : Nat} {C : String} {T : u_T} {ty0 : Nat → FieldType} (hc : am_cl[ci]? = some (C, T, N)) (hin : ∀ w ∈ u_ws C T N, w ∈ am_ws) (hty : ∀ k, k < N → parseFieldDescriptor (T k).2.2.1 = some (ty0 k)) (hnm : ∀ a, a < N → ∀ b, b < N → a ≠ b → (T a).2.1 ≠ (T b).2.1) (hk : k < N) (hnf : am_nf ci = N) (hft : am_ft ci k = 0) (hdc : (T k).1 = C) (hfin : (T k).2.2.2 = false) (hd0 : parseFieldDescriptor (T k).2.2.1 = some .boolean) (hw : Cond.fieldLink own idx C (T k).2.1 (T k).2.2.1 ∈ am_ws) (hd : decode cc pc = .ok (.putfield idx, 3)) (hn : pc + 3 = nx) : am_ok own cc nL rt rf rl live Ret pc (am_putZ live ci k nx) := by
  subst hn
  intro p l e s m args below meth c D cA al B hC Y hY L st M K hKK h H locs ls hP hS hl
  obtain ⟨hx, hb, hml, hown, hts, hlk, hr, hK, hB, hZ, hN⟩ := hC
  unfold am_putZ at h
  split at h
  · next x n r =>
    obtain ⟨hbb, h01, h⟩ := am_if_mp h
    obtain ⟨hlv, hsh⟩ := am_isO_spec hbb
    have hnr : narrow .boolean (.int x) = .int x := by rcases h01 with rfl | rfl <;> rfl
    have hfi : fits .boolean (.int x) = true := by rcases h01 with rfl | rfl <;> rfl
    refine am_pf (M' := am_wI M n k x) (v := .int x) hx hb hown hts hK hP hlv hsh hc hin hty hnm hk hnf hdc hfin hd0 hnr hfi hw hd ?_ (fun j hj => ?_) (fun m hm => am_ce_wI hm) (fun H1 k2 hP1 z oq => hKK _ _ _ _ h H1 _ ls hP1 (hS.put z oq (hP.2.2.1 n hlv)) hl)
    · rw [am_fv0 hft]
      exact congrArg Value.int (if_pos ⟨rfl, rfl⟩)
    · unfold am_fv
      rw [show (am_wI M n k x).1 n j = M.1 n j from if_neg (fun q => hj q.2)]
      rfl
  · exact h.elim
theorem ak_putJ {ci k N idx : Nat} {C : String} {T : u_T} {ty0 : Nat → FieldType} (hc : am_cl[ci]? = some (C, T, N)) (hin : ∀ w ∈ u_ws C T N, w ∈ am_ws) (hty : ∀ k, k < N → parseFieldDescriptor (T k).2.2.1 = some (ty0 k)) (hnm : ∀ a, a < N → ∀ b, b < N → a ≠ b → (T a).2.1 ≠ (T b).2.1) (hk : k < N) (hnf : am_nf ci = N) (hft : am_ft ci k = 1) (hdc : (T k).1 = C) (hfin : (T k).2.2.2 = false) (hd0 : parseFieldDescriptor (T k).2.2.1 = some .long) (hw : Cond.fieldLink own idx C (T k).2.1 (T k).2.2.1 ∈ am_ws) (hd : decode cc pc = .ok (.putfield idx, 3)) (hn : pc + 3 = nx) : am_ok own cc nL rt rf rl live Ret pc (am_putJ live ci k nx) := by
  subst hn
  intro p l e s m args below meth c D cA al B hC Y hY L st M K hKK h H locs ls hP hS hl
  obtain ⟨hx, hb, hml, hown, hts, hlk, hr, hK, hB, hZ, hN⟩ := hC
  unfold am_putJ at h
  split at h
  · next x n r =>
    obtain ⟨hbb, h⟩ := am_if_mp h
    obtain ⟨hlv, hsh⟩ := am_isO_spec hbb
    refine am_pf (M' := am_wJ M n k x) (v := .long x) hx hb hown hts hK hP hlv hsh hc hin hty hnm hk hnf hdc hfin hd0 rfl rfl hw hd ?_ (fun j hj => ?_) (fun m hm => am_ce_wJ hm) (fun H1 k2 hP1 z oq => hKK _ _ _ _ h H1 _ ls hP1 (hS.put z oq (hP.2.2.1 n hlv)) hl)
    · rw [am_fv1 hft]
      exact congrArg Value.long (if_pos ⟨rfl, rfl⟩)
    · unfold am_fv
      rw [show (am_wJ M n k x).2 n j = M.2 n j from if_neg (fun q => hj q.2)]
      rfl
  · exact h.elim
theorem ak_gets {k idx : Nat} {C n d : String} (hk : k < am_ns) (hs : am_sC k = (C, n, d)) (hw : Cond.fieldLink own idx C n d ∈ am_ws) (hd : decode cc pc = .ok (.getstatic idx, 3)) (hn : pc + 3 = nx) : am_ok own cc nL rt rf rl live Ret pc (am_const (.ref (1000 + k)) nx) := by
  subst hn
  intro p l e s m args below meth c D cA al B hC Y hY L st M K hKK h H locs ls hP hS hl
  obtain ⟨hx, hb, hml, hown, hts, hlk, hr, hK, hB, hZ, hN⟩ := hC
  have hz := (hZ k hk).1
  rw [hs] at hz
  exact va_gets hx hb hz hS hown (hts _ hw) (fun _ h => h) hd (hKK _ _ _ _ h H locs ls hP hS hl)
theorem ak_getsN {k idx : Nat} {C n d host : String} (hk : k < am_ns) (hs : am_sC k = (C, n, d)) (hw : (own, idx, C, n, d, host) ∈ am_nest) (hd : decode cc pc = .ok (.getstatic idx, 3)) (hn : pc + 3 = nx) : am_ok own cc nL rt rf rl live Ret pc (am_const (.ref (1000 + k)) nx) := by
  subst hn
  intro p l e s m args below meth c D cA al B hC Y hY L st M K hKK h H locs ls hP hS hl
  obtain ⟨hx, hb, hml, hown, hts, hlk, hr, hK, hB, hZ, hN⟩ := hC
  have hz := (hZ k hk).1
  rw [hs] at hz
  exact va_getsN hx hb hz hS hown (va_Nw.use rfl (hN.1 _ hw)) (fun _ h => h) hd (hKK _ _ _ _ h H locs ls hP hS hl)
theorem ak_sld {k : Nat} (hk : k < am_ns) (hd : decode cc pc = .ok (.iaload, 1)) (hn : pc + 1 = nx) : am_ok own cc nL rt rf rl live Ret pc (am_sld k nx) := by
  subst hn
  intro p l e s m args below meth c D cA al B hC Y hY L st M K hKK h H locs ls hP hS hl
  obtain ⟨hx, hb, hml, hown, hts, hlk, hr, hK, hB, hZ, hN⟩ := hC
  unfold am_sld at h
  split at h
  · next j n r =>
    obtain ⟨hbb, hin, h2⟩ := am_if_mp h
    clear h
    have hn := Nat.eq_of_beq_eq_true hbb
    subst hn
    exact va_ti hx hb (hZ k hk).2 hS (am_in_vp hin) rfl hd (hKK _ _ _ _ h2 H locs ls hP hS hl)
  · exact h.elim
theorem am_ro {p : Program} {s : State} {m : MethodId} {args : Array Value} {meth : Method} {c : Code} {D : va_G} {cA : Nat → ClassId} {al : Nat → Nat} {B : Nat} {H : Heap} {locs : List Loc} {M : am_M} {r : Option Value} (hC : am_C p s m args meth c D cA al B own cc nL rt) (hP : am_P D cA al B live M H) (hS : va_S (fun q => B ≤ q) s.heap H locs) (h : Ret r M) :
    ∀ t : State, t.heap = H → s.WarmedH t.vm → am_Qc D cA al B live Ret args s (.returned (r.map (am_cv al))) t := fun t ht _ => ⟨r, M, h, rfl, by rw [ht]; exact hP, hS.F ht⟩
theorem am_rt {s : State} {args : Array Value} {below : List Frame} {D : va_G} {cA : Nat → ClassId} {al : Nat → Nat} {B : Nat} {Y : am_Y} {r : Option Value} {M : am_M} {P : Prop} (hY : am_Yk s args below D cA al B live Ret rf rl Y) (h : Ret r M) (k : Y.2.1 = 0 → Y.2.2.1 = 0 → Y.2.2.2 = MQ below (am_Qc D cA al B live Ret) args s 0 0 (fun q => B ≤ q) → P) : P := by
  rcases hY.2.2.2.2 with ⟨e1, e2, e3⟩ | hn
  · exact k e1 e2 e3
  · exact absurd h (hn r M)
theorem ak_retI (hd : decode cc pc = .ok (.ireturn, 1)) : am_ok own cc nL (some .int) rf rl live Ret pc (am_retI Ret) := by
  intro p l e s m args below meth c D cA al B hC Y hY L st M K hKK h H locs ls hP hS hl
  unfold am_retI at h
  split at h
  · next v => exact am_rt hY h (fun e1 e2 e3 => by rw [e1, e2, e3]; exact W.iret hC.1 hC.2.1 hC.2.2.2.2.2.2.1 (am_ro (r := some (.int v)) hC hP hS h) hS.2.2 hd (hlocks := hC.2.2.2.2.2.1))
  · exact h.elim
theorem ak_retZ (hd : decode cc pc = .ok (.ireturn, 1)) : am_ok own cc nL (some .boolean) rf rl live Ret pc (am_retZ Ret) := by
  intro p l e s m args below meth c D cA al B hC Y hY L st M K hKK h H locs ls hP hS hl
  unfold am_retZ at h
  split at h
  · next v => exact am_rt hY h.2 (fun e1 e2 e3 => by rw [e1, e2, e3]; exact W.zret hC.1 hC.2.1 hC.2.2.2.2.2.2.1 (by rcases h.1 with rfl | rfl <;> rfl) (am_ro (r := some (.int v)) hC hP hS h.2) hS.2.2 hd (hlocks := hC.2.2.2.2.2.1))
  · exact h.elim
theorem ak_retL (hd : decode cc pc = .ok (.lreturn, 1)) : am_ok own cc nL (some .long) rf rl live Ret pc (am_retL Ret) := by
  intro p l e s m args below meth c D cA al B hC Y hY L st M K hKK h H locs ls hP hS hl
  unfold am_retL at h
  split at h
  · next v => exact am_rt hY h (fun e1 e2 e3 => by rw [e1, e2, e3]; exact W.lret hC.1 hC.2.1 hC.2.2.2.2.2.2.1 (am_ro (r := some (.long v)) hC hP hS h) hS.2.2 hd (hlocks := hC.2.2.2.2.2.1))
  · exact h.elim
theorem ak_retV (hd : decode cc pc = .ok (.return_, 1)) : am_ok own cc nL none rf rl live Ret pc (am_retV Ret) := by
  intro p l e s m args below meth c D cA al B hC Y hY L st M K hKK h H locs ls hP hS hl
  unfold am_retV at h
  split at h
  · exact am_rt hY h (fun e1 e2 e3 => by rw [e1, e2, e3]; exact W.vret hC.1 hC.2.1 hC.2.2.2.2.2.2.1 (am_ro (r := none) hC hP hS h) hS.2.2 hd (hlocks := hC.2.2.2.2.2.1))
  · exact h.elim
end AKM
end
-- part 06.calls.lean.txt
section
/-! calls by contract, Math, arraycopy, switches -/
theorem am_good_all {big : List Cond} (ws : List Cond) (h1 : ∀ w ∈ ws, w ∈ am_ws) (hb : big = am_ws) : GoodIn big ws := fun w hw => ⟨by rw [hb]; exact h1 w hw, good_of_word (am_wsg (h1 w hw))⟩
theorem am_Z.moved {al : Nat → Nat} {B : Nat} {s U : State} (h : am_Z al B s) (hvm : s.vm.Alike U.vm) (hS : ∀ q : Nat, q < s.heap.size → ¬ B ≤ q → U.heap[q]? = s.heap[q]?) : am_Z al B U := fun k hk =>
  ⟨((h k hk).1.moved hvm).kept (fun a h1 h2 => hS a h1 h2), ((h k hk).2.moved hvm).kept (fun a h1 h2 => hS a h1 h2)⟩
theorem am_blind {D : va_G} {cA : Nat → ClassId} {al : Nat → Nat} {B : Nat} {live : am_E} {as : List Value} {M : am_M} : FrameBlind (am_Pc D cA al B live as M) := by
  intro a U g mk q
  obtain ⟨q1, q2, q3, q4, q5, q6⟩ := q
  exact ⟨q1, q2, q3, va_K.moved (u := U) (U := U.calling g mk a) (Vm.Alike.refl U.vm) q4, q5.moved (U := U.calling g mk a) (Vm.Alike.refl U.vm) (fun _ _ _ => rfl), q6.vm rfl⟩
section AKC
variable {own : String} {cc : ByteArray} {nL : Nat} {rt : Option FieldType} {rf rl : Nat} {live : am_E} {Ret : am_R} {pc nx : Nat}
theorem am_frm {s : State} {args : Array Value} {below : List Frame} {D : va_G} {cA : Nat → ClassId} {al : Nat → Nat} {B : Nat} {Y : am_Y} {a b : Nat} (hY : am_Yk s args below D cA al B live Ret rf rl Y) (h : a ≤ rf ∧ b ≤ rl) : a ≤ Y.1.frames ∧ b ≤ Y.1.locals := ⟨Nat.le_trans h.1 hY.1, Nat.le_trans h.2 hY.2.1⟩
theorem am_pcU {p : Program} {s : State} {m : MethodId} {args : Array Value} {meth : Method} {c : Code} {D : va_G} {cA : Nat → ClassId} {al : Nat → Nat} {B : Nat} {H : Heap} {locs : List Loc} {M : am_M} {as : List Value} (hC : am_C p s m args meth c D cA al B own cc nL rt) (hP : am_P D cA al B live M H) (hS : va_S (fun q => B ≤ q) s.heap H locs) :
    ∀ U : State, U.heap = H → s.WarmedH U.vm → am_Pc D cA al B live as M (as.map (am_cv al)).toArray U := by
  intro U hU hW
  obtain ⟨hx, hb, hml, hown, hts, hlk, hr, hK, hB, hZ, hN⟩ := hC
  exact ⟨rfl, by rw [hU]; exact Nat.le_trans hB hS.1, by rw [hU]; exact hP, va_K.moved hW.alike hK, hZ.moved hW.alike (fun q h1 h2 => by rw [hU]; exact hS.2.1 q h1 h2), hN.warm hW⟩
theorem am_after {p : Program} {l : Launch} {e : Env} {s : State} {m : MethodId} {args a : Array Value} {below : List Frame} {meth : Method} {c : Code} {H : Heap} {locs : List Loc} {ls : Array Slot} {D : va_G} {cA : Nat → ClassId} {al : Nat → Nat} {B : Nat} {L : am_L} {st0 : List Value} {rest : List Value} {K : am_K} {R2 : am_R} {Y : am_Y}
    (hr : va_Run p l e Y.1 s m args below meth c H locs Y.2.1 Y.2.2.1 0 0 (F0 m pc ls st0) (rest.map (am_cv al)) (am_Qc D cA al B live R2 a) (fun q => B ≤ q)) (hS : va_S (fun q => B ≤ q) s.heap H locs) (hl : lv_has ls nL (am_lc al L))
    (hKK : ∀ pc' L' st' M', K pc' L' st' M' → am_W p l e Y s m args below meth c D cA al B live nL pc' L' st' M') (hR2 : ∀ v M', R2 v M' → K (pc + 3) L (v.toList ++ rest) M') :
    W p l e Y.1 s m args below meth c H locs Y.2.1 Y.2.2.1 Y.2.2.2 (F0 m pc ls st0) := by
  intro T hT X
  obtain ⟨v, st₀, t, T', L2, h0, X', hL, e1, e2, ⟨r, M', hk, hv, hP', hz, hkp⟩, st⟩ := hr T hT X
  have hv2 : v = r.map (am_cv al) := by injection hv
  subst hv2
  rw [h0] at hz hkp
  obtain ⟨t2, a1, b1⟩ := hKK _ _ _ _ (hR2 r M' hk) T'.heap (locs ++ L2) ls (by rw [e1]; exact hP')
    ⟨Nat.le_trans hS.1 (by rw [e1]; exact hz), fun q h1 h2 => by rw [e1, hkp q (Nat.lt_of_lt_of_le h1 hS.1) h2]; exact hS.2.1 q h1 h2, fun q hq => by
      rcases List.mem_append.mp hq with h | h
      · exact hS.2.2 q h
      · exact hL q h⟩ hl T' rfl X'
  refine ⟨t2, st t2 ?_, b1⟩
  cases r with
  | none => exact a1
  | some w => exact a1
theorem ak_callV {ci n idx maxL rf' rl' N : Nat} {y : MethodName} {bytes : ByteArray} {ret' : Option FieldType} {C : String} {F : u_T} {T : am_T} (hM : am_Met y bytes maxL ret' rf' rl' T) (hc : am_cl[ci]? = some (C, F, N)) (hy : y.cls = C ∧ y.cls ≠ "java/lang/invoke/MethodHandle" ∧ y.cls ≠ "java/lang/invoke/VarHandle" ∧ (parseMethodDescriptor y.desc).map (fun d => d.parameters.length) = some n)
    (hw : ∀ w ∈ ([.methodLink own idx y, .instanceMethod y, .selects C y y, .initialized C, .code y bytes maxL ret'] : List Cond), w ∈ am_ws) (hfr : rf' + 1 ≤ rf ∧ 8 + (maxL + 11) + rl' ≤ rl) (hd : decode cc pc = .ok (.invokevirtual idx, 3)) (hn : pc + 3 = nx) :
    am_ok own cc nL rt rf rl live Ret pc (am_callV live ci n T nx) := by
  subst hn
  intro p l e s m args below meth c D cA al B hC Y hY L st M K hKK h H locs ls hP hS hl
  unfold am_callV at h
  split at h
  · next q r hst =>
    obtain ⟨hbb, h⟩ := am_if_mp h
    rw [Bool.and_eq_true, Bool.and_eq_true] at hbb
    obtain ⟨⟨hO, hln⟩, hle⟩ := hbb
    obtain ⟨hlv, hsh⟩ := am_isO_spec hO
    have hln := Nat.eq_of_beq_eq_true hln
    have hle := Nat.le_of_ble_eq_true hle
    have hcell := hP.1 q hlv
    rw [am_ceF hsh] at hcell
    have hstk : st.map (am_cv al) = ((st.take n).reverse.map (am_cv al)).reverse ++ .ref (al q) :: r.map (am_cv al) := by
      rw [List.map_reverse, List.reverse_reverse]
      have e1 : st = st.take n ++ .ref q :: r := by rw [← hst]; exact (List.take_append_drop n st).symm
      conv => lhs; rw [e1]
      rw [List.map_append]
      rfl
    have hG : GoodIn am_ws (wsV own idx C y (.code y bytes maxL ret' :: am_ws)) := am_good_all _ (fun w hh => by
      rcases List.mem_append.mp hh with h1 | h1
      · exact hw w (by
          simp only [List.mem_cons, List.not_mem_nil, or_false] at h1 ⊢
          rcases h1 with h1 | h1 | h1 | h1
          · exact Or.inl h1
          · exact Or.inr (Or.inl h1)
          · exact Or.inr (Or.inr (Or.inl h1))
          · exact Or.inr (Or.inr (Or.inr (Or.inl h1))))
      · rcases List.mem_cons.mp h1 with h2 | h2
        · exact hw w (by rw [h2]; simp)
        · exact h2) rfl
    obtain ⟨hx, hb, hml, hown, hts, hlk, hr, hK, hB, hZ, hN⟩ := id hC
    have hrun := va_runV (p := p) (l := l) (e := e) (R := Y.1) (s := s) (m := m) (args := args) (below := below) (meth := meth) (c := c) (H := H) (locs := locs) (cells := Y.2.1) (slots := Y.2.2.1) (g := F0 m pc ls (st.map (am_cv al))) (As := (st.take n).reverse.map (am_cv al)) (rest := r.map (am_cv al)) (b := al q)
      ⟨hx, hb, hml, hown, hts⟩ (hM l D cA al B live (.ref q :: (st.take n).reverse) M _ h) (cwV n hts hG rfl rfl rfl hy (am_frm hY hfr)) ⟨am_blind, va_recv hK (am_P1 hcell) (ci := ci) (q0 := 0) hc rfl, am_pcU hC hP hS⟩ rfl (by rw [List.length_map, List.length_reverse]; exact hln) hl.1 hstk (lv_room (by rw [am_cats_cv]; exact hle)) hd ⟨hY.2.2.1, hY.2.2.2.1⟩
    exact am_after hrun hS hl hKK (fun v M' hk => hk)
  · exact h.elim
theorem ak_callS {n idx maxL rf' rl' : Nat} {y : MethodName} {bytes : ByteArray} {ret' : Option FieldType} {T : am_T} (hM : am_Met y bytes maxL ret' rf' rl' T) (hy : y.cls = own ∧ y.cls ≠ "java/lang/invoke/MethodHandle" ∧ y.cls ≠ "java/lang/invoke/VarHandle" ∧ (parseMethodDescriptor y.desc).map (fun d => d.parameters.length) = some n)
    (hw : ∀ w ∈ ([.methodLink own idx y, .static y, .initialized own, .code y bytes maxL ret'] : List Cond), w ∈ am_ws) (hfr : rf' + 1 ≤ rf ∧ 8 + (maxL + 11) + rl' ≤ rl) (hd : decode cc pc = .ok (.invokestatic idx, 3)) (hn : pc + 3 = nx) :
    am_ok own cc nL rt rf rl live Ret pc (am_callS live n T nx) := by
  subst hn
  intro p l e s m args below meth c D cA al B hC Y hY L st M K hKK h H locs ls hP hS hl
  unfold am_callS at h
  obtain ⟨hbb, h⟩ := am_if_mp h
  rw [Bool.and_eq_true] at hbb
  obtain ⟨hln, hle⟩ := hbb
  have hln := Nat.eq_of_beq_eq_true hln
  have hle := Nat.le_of_ble_eq_true hle
  have hstk : st.map (am_cv al) = ((st.take n).reverse.map (am_cv al)).reverse ++ (st.drop n).map (am_cv al) := by
    rw [List.map_reverse, List.reverse_reverse, ← List.map_append, List.take_append_drop]
  have hG : GoodIn am_ws (wsS own idx y (.code y bytes maxL ret' :: am_ws)) := am_good_all _ (fun w hh => by
    rcases List.mem_append.mp hh with h1 | h1
    · exact hw w (by
        simp only [List.mem_cons, List.not_mem_nil, or_false] at h1 ⊢
        rcases h1 with h1 | h1 | h1
        · exact Or.inl h1
        · exact Or.inr (Or.inl h1)
        · exact Or.inr (Or.inr (Or.inl h1)))
    · rcases List.mem_cons.mp h1 with h2 | h2
      · exact hw w (by rw [h2]; simp)
      · exact h2) rfl
  obtain ⟨hx, hb, hml, hown, hts, hlk, hr, hK, hB, hZ, hN⟩ := id hC
  have hrun := va_runS (p := p) (l := l) (e := e) (R := Y.1) (s := s) (m := m) (args := args) (below := below) (meth := meth) (c := c) (H := H) (locs := locs) (cells := Y.2.1) (slots := Y.2.2.1) (g := F0 m pc ls (st.map (am_cv al))) (As := (st.take n).reverse.map (am_cv al)) (rest := (st.drop n).map (am_cv al))
    ⟨hx, hb, hml, hown, hts⟩ (hM l D cA al B live (st.take n).reverse M _ h) (cwS n hts hG rfl rfl rfl hy (am_frm hY hfr)) ⟨am_blind, am_pcU hC hP hS⟩ rfl (by rw [List.length_map, List.length_reverse]; exact hln) hl.1 hstk (lv_room (by rw [am_cats_cv]; exact hle)) hd ⟨hY.2.2.1, hY.2.2.2.1⟩
  exact am_after hrun hS hl hKK (fun v M' hk => hk)
theorem ak_imax {idx : Nat} (hw : ∀ w ∈ ([.methodLink own idx Lib.Math.max.name, .static Lib.Math.max.name, .initialized "java/lang/Math", .code Lib.Math.max.name Lib.Math.max.code 2 (some .int)] : List Cond), w ∈ am_ws) (hfr : 1 ≤ rf) (hd : decode cc pc = .ok (.invokestatic idx, 3)) (hn : pc + 3 = nx) : am_ok own cc nL rt rf rl live Ret pc (am_math2 (fun x y => if x < y then y else x) rl nx) := by
  subst hn
  intro p l e s m args below meth c D cA al B hC Y hY L st M K hKK h H locs ls hP hS hl
  obtain ⟨hx, hb, hml, hown, hts, hlk, hr, hK, hB, hZ, hN⟩ := id hC
  unfold am_math2 at h
  split at h
  · obtain ⟨hbb, h⟩ := am_if_mp h
    have hle := Nat.le_of_ble_eq_true hbb
    exact va_mmax hx hb (by rw [hml]; exact hl.1.symm) hown (hts _ (hw _ (by simp))) (hts _ (hw _ (by simp))) (hts _ (hw _ (by simp))) (hts _ (hw _ (by simp))) (Nat.le_trans hfr hY.1) (by rw [am_cats_cv]; exact Nat.le_trans hle hY.2.1) hY.2.2.1 hY.2.2.2.1 hd (hKK _ _ _ _ h H locs ls hP hS hl)
  · exact h.elim
theorem ak_imin {idx : Nat} (hw : ∀ w ∈ ([.methodLink own idx Lib.Math.min.name, .static Lib.Math.min.name, .initialized "java/lang/Math", .code Lib.Math.min.name Lib.Math.min.code 2 (some .int)] : List Cond), w ∈ am_ws) (hfr : 1 ≤ rf) (hd : decode cc pc = .ok (.invokestatic idx, 3)) (hn : pc + 3 = nx) : am_ok own cc nL rt rf rl live Ret pc (am_math2 (fun x y => if y < x then y else x) rl nx) := by
  subst hn
  intro p l e s m args below meth c D cA al B hC Y hY L st M K hKK h H locs ls hP hS hl
  obtain ⟨hx, hb, hml, hown, hts, hlk, hr, hK, hB, hZ, hN⟩ := id hC
  unfold am_math2 at h
  split at h
  · obtain ⟨hbb, h⟩ := am_if_mp h
    have hle := Nat.le_of_ble_eq_true hbb
    exact va_mmin hx hb (by rw [hml]; exact hl.1.symm) hown (hts _ (hw _ (by simp))) (hts _ (hw _ (by simp))) (hts _ (hw _ (by simp))) (hts _ (hw _ (by simp))) (Nat.le_trans hfr hY.1) (by rw [am_cats_cv]; exact Nat.le_trans hle hY.2.1) hY.2.2.1 hY.2.2.2.1 hd (hKK _ _ _ _ h H locs ls hP hS hl)
  · exact h.elim
theorem ak_iabs {idx : Nat} (hw : ∀ w ∈ ([.methodLink own idx Lib.Math.abs.name, .static Lib.Math.abs.name, .initialized "java/lang/Math", .code Lib.Math.abs.name Lib.Math.abs.code 1 (some .int)] : List Cond), w ∈ am_ws) (hfr : 1 ≤ rf) (hd : decode cc pc = .ok (.invokestatic idx, 3)) (hn : pc + 3 = nx) : am_ok own cc nL rt rf rl live Ret pc (am_math1 (fun x => if 0 ≤ x then x else 0 - x) rl nx) := by
  subst hn
  intro p l e s m args below meth c D cA al B hC Y hY L st M K hKK h H locs ls hP hS hl
  obtain ⟨hx, hb, hml, hown, hts, hlk, hr, hK, hB, hZ, hN⟩ := id hC
  unfold am_math1 at h
  split at h
  · obtain ⟨hbb, h⟩ := am_if_mp h
    have hle := Nat.le_of_ble_eq_true hbb
    exact va_mabs hx hb (by rw [hml]; exact hl.1.symm) hown (hts _ (hw _ (by simp))) (hts _ (hw _ (by simp))) (hts _ (hw _ (by simp))) (hts _ (hw _ (by simp))) (Nat.le_trans hfr hY.1) (by rw [am_cats_cv]; exact Nat.le_trans hle hY.2.1) hY.2.2.1 hY.2.2.2.1 hd (hKK _ _ _ _ h H locs ls hP hS hl)
  · exact h.elim
theorem ak_lmax {idx : Nat} (hw : ∀ w ∈ ([.methodLink own idx Lib.MathLoose.max_long.x, .static Lib.MathLoose.max_long.x, .initialized "java/lang/Math", .code Lib.MathLoose.max_long.x Lib.MathLoose.max_long.code 4 (some .long)] : List Cond), w ∈ am_ws) (hfr : 1 ≤ rf) (hd : decode cc pc = .ok (.invokestatic idx, 3)) (hn : pc + 3 = nx) : am_ok own cc nL rt rf rl live Ret pc (am_mathl (fun x y => if y < x then x else y) rl nx) := by
  subst hn
  intro p l e s m args below meth c D cA al B hC Y hY L st M K hKK h H locs ls hP hS hl
  obtain ⟨hx, hb, hml, hown, hts, hlk, hr, hK, hB, hZ, hN⟩ := id hC
  unfold am_mathl at h
  split at h
  · obtain ⟨hbb, h⟩ := am_if_mp h
    have hle := Nat.le_of_ble_eq_true hbb
    exact va_mmax_long hx hb (by rw [hml]; exact hl.1.symm) hown (hts _ (hw _ (by simp))) (hts _ (hw _ (by simp))) (hts _ (hw _ (by simp))) (hts _ (hw _ (by simp))) (Nat.le_trans hfr hY.1) (by rw [am_cats_cv]; exact Nat.le_trans hle hY.2.1) hY.2.2.1 hY.2.2.2.1 hd (hKK _ _ _ _ h H locs ls hP hS hl)
  · exact h.elim
theorem ak_lmin {idx : Nat} (hw : ∀ w ∈ ([.methodLink own idx Lib.MathLoose.min_long.x, .static Lib.MathLoose.min_long.x, .initialized "java/lang/Math", .code Lib.MathLoose.min_long.x Lib.MathLoose.min_long.code 4 (some .long)] : List Cond), w ∈ am_ws) (hfr : 1 ≤ rf) (hd : decode cc pc = .ok (.invokestatic idx, 3)) (hn : pc + 3 = nx) : am_ok own cc nL rt rf rl live Ret pc (am_mathl (fun x y => if y < x then y else x) rl nx) := by
  subst hn
  intro p l e s m args below meth c D cA al B hC Y hY L st M K hKK h H locs ls hP hS hl
  obtain ⟨hx, hb, hml, hown, hts, hlk, hr, hK, hB, hZ, hN⟩ := id hC
  unfold am_mathl at h
  split at h
  · obtain ⟨hbb, h⟩ := am_if_mp h
    have hle := Nat.le_of_ble_eq_true hbb
    exact va_mmin_long hx hb (by rw [hml]; exact hl.1.symm) hown (hts _ (hw _ (by simp))) (hts _ (hw _ (by simp))) (hts _ (hw _ (by simp))) (hts _ (hw _ (by simp))) (Nat.le_trans hfr hY.1) (by rw [am_cats_cv]; exact Nat.le_trans hle hY.2.1) hY.2.2.1 hY.2.2.2.1 hd (hKK _ _ _ _ h H locs ls hP hS hl)
  · exact h.elim
/-- switches: what the bytes say, as a list of values and targets -/
def am_tsc (pc : Nat) (lo : Int) : List Int → List (Int32 × Nat)
  | [] => []
  | o :: os => (Int32.ofInt lo, ((pc : Int) + o).toNat) :: am_tsc pc (lo + 1) os
theorem ak_tswitch {dflt lo hi : Int} {offs : Array Int} {len d : Nat} {cs : List (Int32 × Nat)} (hd : decode cc pc = .ok (.tableswitch dflt lo hi offs, len)) (hcs : cs.map Prod.fst = (List.range offs.size).map (fun i : Nat => Int32.ofInt (lo + (i : Int)))) (htg : cs.map (fun q => (q.2 : Int)) = offs.toList.map (fun o => (pc : Int) + o)) (hdf : (pc : Int) + dflt = (d : Int))
    (hb1 : (-2147483648) ≤ lo) (hb2 : hi < 2147483648) (hsz : hi = lo + (offs.size : Int) - 1) : am_ok own cc nL rt rf rl live Ret pc (am_switch cs d) := by
  intro p l e s m args below meth c D cA al B hC Y hY L st M K hKK h H locs ls hP hS hl
  unfold am_switch at h
  split at h
  · next x r =>
    have key : ∀ (cs : List (Int32 × Nat)) (P : Nat → Prop), am_swc x cs d P → (∃ (i : Nat) (q : Int32 × Nat), cs[i]? = some q ∧ x = q.1 ∧ P q.2) ∨ ((∀ (i : Nat) (q : Int32 × Nat), cs[i]? = some q → x ≠ q.1) ∧ P d) := by
      intro cs
      induction cs with
      | nil => intro P hp; exact Or.inr ⟨fun i q hq => by simp at hq, hp⟩
      | cons a cs ih =>
        intro P hp
        by_cases hx : x = a.1
        · exact Or.inl ⟨0, a, rfl, hx, hp.1 hx⟩
        · rcases ih P (hp.2 hx) with ⟨i, q, h1, h2, h3⟩ | ⟨h1, h2⟩
          · exact Or.inl ⟨i + 1, q, h1, h2, h3⟩
          · refine Or.inr ⟨fun i q hq => ?_, h2⟩
            cases i with
            | zero => cases hq; exact hx
            | succ i => exact h1 i q hq
    have hsz2 : cs.length = offs.size := by
      have := congrArg List.length hcs
      simpa using this
    have hfst : ∀ (i : Nat) (q : Int32 × Nat), cs[i]? = some q → i < offs.size ∧ q.1 = Int32.ofInt (lo + (i : Int)) := by
      intro i q hq
      have hi : i < offs.size := by rw [← hsz2]; exact (List.getElem?_eq_some_iff.mp hq).1
      have h1 : (cs.map Prod.fst)[i]? = some q.1 := by rw [List.getElem?_map, hq]; rfl
      rw [hcs, List.getElem?_map, List.getElem?_range hi] at h1
      exact ⟨hi, (Option.some.inj h1).symm⟩
    have htoi : ∀ i : Nat, i < offs.size → (Int32.ofInt (lo + (i : Int))).toInt = lo + (i : Int) := by
      intro i hi
      exact Int32.toInt_ofInt_of_le (by omega) (by omega)
    rcases key cs _ h with ⟨i, q, h1, h2, h3⟩ | ⟨h1, h2⟩
    · obtain ⟨hi, hq⟩ := hfst i q h1
      have hxi : x.toInt = lo + (i : Int) := by rw [h2, hq]; exact htoi i hi
      have ho : (cs.map (fun q => (q.2 : Int)))[i]? = some (q.2 : Int) := by rw [List.getElem?_map, h1]; rfl
      rw [htg, List.getElem?_map] at ho
      cases hoo : offs.toList[i]? with
      | none => rw [hoo] at ho; cases ho
      | some off =>
        rw [hoo] at ho
        exact lv_tableIn hC.1 hC.2.1 hd (by omega) (by omega) (off := off) (by rw [show (x.toInt - lo).toNat = i by omega, ← Array.getElem?_toList]; exact hoo) (Option.some.inj ho) (hKK _ _ _ _ h3 H locs ls hP hS hl)
    · refine lv_tableOut hC.1 hC.2.1 hd ?_ hdf (hKK _ _ _ _ h2 H locs ls hP hS hl)
      rcases Int.lt_or_le x.toInt lo with h3 | h3
      · exact Or.inl h3
      · refine Or.inr ?_
        rcases Int.lt_or_le hi x.toInt with h4 | h4
        · exact h4
        · exfalso
          have hi2 : (x.toInt - lo).toNat < offs.size := by omega
          have hi3 : (x.toInt - lo).toNat < cs.length := by omega
          have h5 := List.getElem?_eq_getElem hi3
          have h6 := (hfst _ _ h5).2
          refine h1 _ _ h5 ?_
          rw [h6]
          apply Int32.toInt_inj.mp
          rw [htoi _ hi2]
          omega
  · exact h.elim
theorem ak_lswitch {dflt : Int} {ps : Array (Int × Int)} {len d : Nat} {cs : List (Int32 × Nat)} (hd : decode cc pc = .ok (.lookupswitch dflt ps, len)) (hp : (ps.toList.zip (ps.toList.drop 1)).all (fun (a, next) => a.1 < next.1) = true) (hcs : cs.map (fun q => (q.1.toInt, (q.2 : Int))) = ps.toList.map (fun q => (q.1, (pc : Int) + q.2))) (hdf : (pc : Int) + dflt = (d : Int)) : am_ok own cc nL rt rf rl live Ret pc (am_switch cs d) := by
  intro p l e s m args below meth c D cA al B hC Y hY L st M K hKK h H locs ls hP hS hl
  unfold am_switch at h
  split at h
  · next x r =>
    have key : ∀ (cs : List (Int32 × Nat)) (qs : List (Int × Int)) (P : Nat → Prop), cs.map (fun q => (q.1.toInt, (q.2 : Int))) = qs.map (fun q => (q.1, (pc : Int) + q.2)) → am_swc x cs d P → ∃ (off : Int) (tg : Nat), Op.lookupswitch.offset qs dflt x.toInt = off ∧ (pc : Int) + off = (tg : Int) ∧ P tg := by
      intro cs
      induction cs with
      | nil =>
        intro qs P he hp
        cases qs with
        | nil => exact ⟨dflt, d, rfl, hdf, hp⟩
        | cons b qs => simp at he
      | cons a cs ih =>
        intro qs P he hp
        cases qs with
        | nil => simp at he
        | cons b qs =>
          rw [List.map_cons, List.map_cons] at he
          injection he with he1 he2
          have e1 : a.1.toInt = b.1 := congrArg Prod.fst he1
          have e2 : (a.2 : Int) = (pc : Int) + b.2 := congrArg Prod.snd he1
          obtain ⟨b1, b2⟩ := b
          by_cases hx : x = a.1
          · refine ⟨b2, a.2, ?_, e2.symm, hp.1 hx⟩
            have e3 : x.toInt = b1 := by rw [hx]; exact e1
            simp [Op.lookupswitch.offset, e3]
          · obtain ⟨off, tg, h1, h2, h3⟩ := ih qs P he2 (hp.2 hx)
            refine ⟨off, tg, ?_, h2, h3⟩
            rw [lv_osw hx e1]
            exact h1
    obtain ⟨off, tg, h1, h2, h3⟩ := key cs ps.toList _ hcs h
    exact lv_lookup hC.1 hC.2.1 hd hp h1 h2 (hKK _ _ _ _ h3 H locs ls hP hS hl)
  · exact h.elim
end AKC
end
-- part 07.copy.lean.txt
section
/-! System.arraycopy: the whole memory as one world of the kit's -/
def am_wl (live : am_E) : List Nat := (List.range 400).filter live.1
def am_ws0 (cA : Nat → ClassId) (al : Nat → Nat) (live : am_E) (M : am_M) : va_W := (am_wl live).map (fun n => (al n, am_ce live.2 cA al M n))
theorem am_wl_nd (live : am_E) : (am_wl live).Pairwise (fun a b => a ≠ b) := List.Pairwise.filter _ List.nodup_range
theorem am_wl_at {live : am_E} {n : Nat} (h : live.1 n = true) (hb : n < 400) : ∃ k : Nat, (am_wl live)[k]? = some n := List.getElem?_of_mem (List.mem_filter.mpr ⟨List.mem_range.mpr hb, h⟩)
theorem am_wl_live {live : am_E} {k n : Nat} (h : (am_wl live)[k]? = some n) : live.1 n = true := (List.mem_filter.mp (List.mem_of_getElem? h)).2
theorem am_ws0_at {cA : Nat → ClassId} {al : Nat → Nat} {live : am_E} {M : am_M} {k n : Nat} (h : (am_wl live)[k]? = some n) : (am_ws0 cA al live M)[k]? = some (al n, am_ce live.2 cA al M n) := by
  unfold am_ws0
  rw [List.getElem?_map, h]
  rfl
theorem am_ws0_of {cA : Nat → ClassId} {al : Nat → Nat} {live : am_E} {M : am_M} {k : Nat} {q : Nat × va_E} (h : (am_ws0 cA al live M)[k]? = some q) : ∃ n, (am_wl live)[k]? = some n ∧ q = (al n, am_ce live.2 cA al M n) := by
  unfold am_ws0 at h
  rw [List.getElem?_map] at h
  cases hn : (am_wl live)[k]? with
  | none => rw [hn] at h; cases h
  | some n => rw [hn] at h; exact ⟨n, rfl, (Option.some.inj h).symm⟩
theorem am_wl_inj {live : am_E} {i j n : Nat} (hi : (am_wl live)[i]? = some n) (hj : (am_wl live)[j]? = some n) : i = j := by
  obtain ⟨h1, e1⟩ := List.getElem?_eq_some_iff.mp hi
  obtain ⟨h2, e2⟩ := List.getElem?_eq_some_iff.mp hj
  have hp := List.pairwise_iff_getElem.mp (am_wl_nd live)
  rcases Nat.lt_trichotomy i j with h | h | h
  · exact absurd (e1.trans e2.symm) (hp i j h1 h2 h)
  · exact h
  · exact absurd (e2.trans e1.symm) (hp j i h2 h1 h)
theorem am_P_ws {D : va_G} {cA : Nat → ClassId} {al : Nat → Nat} {B : Nat} {live : am_E} {M : am_M} {H : Heap} (h : am_P D cA al B live M H) : va_P D am_cl (am_ws0 cA al live M) H ∧ va_D (fun q => B ≤ q) (am_ws0 cA al live M) := by
  refine ⟨fun k q hq => ?_, fun i j x y hx hy hxy => ?_, fun k q hq => ?_⟩
  · obtain ⟨n, hn, rfl⟩ := am_ws0_of hq
    exact h.1 n (am_wl_live hn)
  · obtain ⟨n, hn, rfl⟩ := am_ws0_of hx
    obtain ⟨m, hm, rfl⟩ := am_ws0_of hy
    have e := h.2.1 n m (am_wl_live hn) (am_wl_live hm) hxy
    subst e
    exact am_wl_inj hn hm
  · obtain ⟨n, hn, rfl⟩ := am_ws0_of hq
    exact h.2.2.1 n (am_wl_live hn)
theorem am_ws_P {D : va_G} {cA : Nat → ClassId} {al : Nat → Nat} {B : Nat} {live : am_E} {M M' : am_M} {H H1 : Heap} {d k : Nat} {e : va_E} (h : am_P D cA al B live M H) (hk : (am_wl live)[k]? = some d) (hP1 : va_P D am_cl ((am_ws0 cA al live M).set k (al d, e)) H1) (he : am_ce live.2 cA al M' d = e) (ho : ∀ m, m ≠ d → am_ce live.2 cA al M' m = am_ce live.2 cA al M m) : am_P D cA al B live M' H1 := by
  refine ⟨fun n hn => ?_, h.2⟩
  obtain ⟨j, hj⟩ := am_wl_at hn (h.2.2.2 n hn)
  have hlt : j < (am_ws0 cA al live M).length := by
    unfold am_ws0
    rw [List.length_map]
    exact (List.getElem?_eq_some_iff.mp hj).1
  by_cases hd : n = d
  · subst hd
    have hjk := am_wl_inj hj hk
    subst hjk
    have := hP1 j (al n, e) (by rw [List.getElem?_set_self hlt])
    rw [he]
    exact this
  · have hjk : k ≠ j := fun q => by
      subst q
      rw [hj] at hk
      exact hd (Option.some.inj hk)
    rw [ho n hd]
    exact hP1 j _ (by rw [List.getElem?_set_ne hjk]; exact am_ws0_at hj)
def am_cpw : Nat := nativeFrameWords "java/lang/System" "arraycopy" 5 + 11
def am_cpin (sp dp n : Int32) (ls ld : Nat) : Prop := 0 ≤ sp.toInt ∧ 0 ≤ dp.toInt ∧ 0 ≤ n.toInt ∧ sp.toInt + n.toInt ≤ (ls : Int) ∧ dp.toInt + n.toInt ≤ (ld : Int)
def am_copyI (live : am_E) (rl nx : Nat) : am_S := fun L st M K => match st with
  | .int n :: .int dp :: .ref d :: .int sp :: .ref q :: r => am_if (am_isA live 0 q && am_isA live 0 d && Nat.ble (am_cats r + 23) rl) (am_cpin sp dp n (am_len q) (am_len d) ∧ K nx L r (am_cI M d (va_cpy (M.1 q) (M.1 d) sp.toNatClampNeg dp.toNatClampNeg n.toNatClampNeg)))
  | _ => False
def am_copyJ (live : am_E) (rl nx : Nat) : am_S := fun L st M K => match st with
  | .int n :: .int dp :: .ref d :: .int sp :: .ref q :: r => am_if (am_isA live 1 q && am_isA live 1 d && Nat.ble (am_cats r + 23) rl) (am_cpin sp dp n (am_len q) (am_len d) ∧ K nx L r (am_cJ M d (va_cpy (M.2 q) (M.2 d) sp.toNatClampNeg dp.toNatClampNeg n.toNatClampNeg)))
  | _ => False
theorem am_cpw_le : am_cpw ≤ 23 := by decide +kernel
theorem am_nneg {z : Int32} (h : 0 ≤ z.toInt) : ¬ z < 0 ∧ (z.toNatClampNeg : Int) = z.toInt := by
  refine ⟨fun q => ?_, ?_⟩
  · have := Int32.lt_iff_toInt_lt.mp q
    rw [Int32.toInt_zero] at this
    omega
  · show ((z.toInt.toNat : Nat) : Int) = z.toInt
    omega
theorem ak_copyI {own : String} {cc : ByteArray} {nL : Nat} {rt : Option FieldType} {rf rl : Nat} {live : am_E} {Ret : am_R} {pc nx idx : Nat} (hw : ∀ w ∈ ([.methodLink own idx arraycopyName, .native arraycopyName, .static arraycopyName, .initialized "java/lang/System"] : List Cond), w ∈ am_ws) (hfr : 1 ≤ rf) (hd : decode cc pc = .ok (.invokestatic idx, 3)) (hn : pc + 3 = nx) : am_ok own cc nL rt rf rl live Ret pc (am_copyI live rl nx) := by
  subst hn
  intro p l e s m args below meth c D cA al B hC Y hY L st M K hKK h H locs ls hP hS hl
  obtain ⟨hx, hb, hml, hown, hts, hlk, hr, hK, hB, hZ, hN⟩ := id hC
  unfold am_copyI at h
  split at h
  · next n dp d sp q r =>
    obtain ⟨hbb, ⟨c1, c2, c3, c4, c5⟩, h⟩ := am_if_mp h
    rw [Bool.and_eq_true, Bool.and_eq_true] at hbb
    obtain ⟨⟨hq, hd2⟩, hle⟩ := hbb
    have hle := Nat.le_of_ble_eq_true hle
    obtain ⟨hlq, hsq⟩ := am_isA_spec hq
    obtain ⟨hld, hsd⟩ := am_isA_spec hd2
    obtain ⟨kq, hkq⟩ := am_wl_at hlq (hP.2.2.2 q hlq)
    obtain ⟨kd, hkd⟩ := am_wl_at hld (hP.2.2.2 d hld)
    obtain ⟨hP0, hD0⟩ := am_P_ws hP
    have e0 := am_ws0_at (cA := cA) (al := al) (M := M) hkq
    have e1 := am_ws0_at (cA := cA) (al := al) (M := M) hkd
    rw [am_ceA hsq, am_ae0 (t := 0) rfl] at e0
    rw [am_ceA hsd, am_ae0 (t := 0) rfl] at e1
    obtain ⟨n1, m1⟩ := am_nneg c1
    obtain ⟨n2, m2⟩ := am_nneg c2
    obtain ⟨n3, m3⟩ := am_nneg c3
    refine va_copyi (D := D) (cl := am_cl) (tys := am_tys cA) (ty := .int) hx hb (by rw [hml]; exact hl.1.symm) hown (hts _ (hw _ (by simp))) (hts _ (hw _ (by simp))) (hts _ (hw _ (by simp))) (hts _ (hw _ (by simp))) hK hP0 hD0 hS kq kd 0 0 e0 e1 rfl rfl rfl n1 n2 n3 (by omega) (by omega) (fun _ _ => rfl) (Nat.le_trans hfr hY.1) (by rw [am_cats_cv]; have := am_cpw_le; unfold am_cpw at this; refine Nat.le_trans ?_ hY.2.1; omega) hd (fun H1 locs1 hP1 hD1 hS1 => ?_)
    refine hKK _ _ _ _ h H1 locs1 ls (am_ws_P hP hkd hP1 ?_ (fun m hm => ?_)) hS1 hl
    · rw [am_ceA hsd, am_ae0 (t := 0) rfl]
      refine congrArg (fun f => Sum.inl (cA 0, am_len d, Sum.inl f)) ?_
      funext j
      exact if_pos rfl
    · refine am_ceO ?_ rfl
      funext j
      exact if_neg hm
  · exact h.elim
theorem ak_copyJ {own : String} {cc : ByteArray} {nL : Nat} {rt : Option FieldType} {rf rl : Nat} {live : am_E} {Ret : am_R} {pc nx idx : Nat} (hw : ∀ w ∈ ([.methodLink own idx arraycopyName, .native arraycopyName, .static arraycopyName, .initialized "java/lang/System"] : List Cond), w ∈ am_ws) (hfr : 1 ≤ rf) (hd : decode cc pc = .ok (.invokestatic idx, 3)) (hn : pc + 3 = nx) : am_ok own cc nL rt rf rl live Ret pc (am_copyJ live rl nx) := by
  subst hn
  intro p l e s m args below meth c D cA al B hC Y hY L st M K hKK h H locs ls hP hS hl
  obtain ⟨hx, hb, hml, hown, hts, hlk, hr, hK, hB, hZ, hN⟩ := id hC
  unfold am_copyJ at h
  split at h
  · next n dp d sp q r =>
    obtain ⟨hbb, ⟨c1, c2, c3, c4, c5⟩, h⟩ := am_if_mp h
    rw [Bool.and_eq_true, Bool.and_eq_true] at hbb
    obtain ⟨⟨hq, hd2⟩, hle⟩ := hbb
    have hle := Nat.le_of_ble_eq_true hle
    obtain ⟨hlq, hsq⟩ := am_isA_spec hq
    obtain ⟨hld, hsd⟩ := am_isA_spec hd2
    obtain ⟨kq, hkq⟩ := am_wl_at hlq (hP.2.2.2 q hlq)
    obtain ⟨kd, hkd⟩ := am_wl_at hld (hP.2.2.2 d hld)
    obtain ⟨hP0, hD0⟩ := am_P_ws hP
    have e0 := am_ws0_at (cA := cA) (al := al) (M := M) hkq
    have e1 := am_ws0_at (cA := cA) (al := al) (M := M) hkd
    rw [am_ceA hsq, am_ae1 (t := 1) rfl] at e0
    rw [am_ceA hsd, am_ae1 (t := 1) rfl] at e1
    obtain ⟨n1, m1⟩ := am_nneg c1
    obtain ⟨n2, m2⟩ := am_nneg c2
    obtain ⟨n3, m3⟩ := am_nneg c3
    refine va_copyl (D := D) (cl := am_cl) (tys := am_tys cA) (ty := .long) hx hb (by rw [hml]; exact hl.1.symm) hown (hts _ (hw _ (by simp))) (hts _ (hw _ (by simp))) (hts _ (hw _ (by simp))) (hts _ (hw _ (by simp))) hK hP0 hD0 hS kq kd 1 1 e0 e1 rfl rfl rfl n1 n2 n3 (by omega) (by omega) (fun _ _ => rfl) (Nat.le_trans hfr hY.1) (by rw [am_cats_cv]; have := am_cpw_le; unfold am_cpw at this; refine Nat.le_trans ?_ hY.2.1; omega) hd (fun H1 locs1 hP1 hD1 hS1 => ?_)
    refine hKK _ _ _ _ h H1 locs1 ls (am_ws_P hP hkd hP1 ?_ (fun m hm => ?_)) hS1 hl
    · rw [am_ceA hsd, am_ae1 (t := 1) rfl]
      refine congrArg (fun f => Sum.inl (cA 1, am_len d, Sum.inr (Sum.inl f))) ?_
      funext j
      exact if_pos rfl
    · refine am_ceO rfl ?_
      funext j
      exact if_neg hm
  · exact h.elim
end
-- part 08.words.lean.txt
section
/-! words by their places; helpers -/
theorem am_in_r (ws : List Cond) (ps : List Nat) (hp : ws = ps.filterMap (fun i => lw_tbl[i]?)) (h : ws.all goodWord = true) : ∀ w ∈ ws, w ∈ am_ws := by
  intro w hw
  have h1 := List.all_eq_true.mp h w hw
  rw [hp] at hw
  obtain ⟨i, -, hi⟩ := List.mem_filterMap.mp hw
  exact am_wsi (List.mem_of_getElem? hi) h1
theorem am_w4 {a b c d : Cond} (h1 : a ∈ am_ws) (h2 : b ∈ am_ws) (h3 : c ∈ am_ws) (h4 : d ∈ am_ws) : ∀ w ∈ ([a, b, c, d] : List Cond), w ∈ am_ws := by
  intro w hw
  simp only [List.mem_cons, List.not_mem_nil, or_false] at hw
  rcases hw with rfl | rfl | rfl | rfl <;> assumption
theorem am_w5 {a b c d e : Cond} (h1 : a ∈ am_ws) (h2 : b ∈ am_ws) (h3 : c ∈ am_ws) (h4 : d ∈ am_ws) (h5 : e ∈ am_ws) : ∀ w ∈ ([a, b, c, d, e] : List Cond), w ∈ am_ws := by
  intro w hw
  simp only [List.mem_cons, List.not_mem_nil, or_false] at hw
  rcases hw with rfl | rfl | rfl | rfl | rfl <;> assumption
theorem am_kc {P : Nat × am_S → Prop} {a : Nat × am_S} {l : am_code} (h : P a) (hl : ∀ q ∈ l, P q) : ∀ q ∈ a :: l, P q := fun q hq => by
  rcases List.mem_cons.mp hq with rfl | h2
  · exact h
  · exact hl q h2
theorem am_wt1 {w : Cond} (h : w ∈ tables_1_1) (hg : goodWord w = true) : w ∈ am_ws := by
  refine am_wsi ?_ hg
  show w ∈ k2_sels lw_privs ++ (tables_1_1 ++ (tables_1_2 ++ (tables_1_3 ++ (tables_1_4 ++ (tables_1_5 ++ (tables_1_6))))))
  exact List.mem_append_right _ (List.mem_append_left _ h)
theorem am_wt2 {w : Cond} (h : w ∈ tables_1_2) (hg : goodWord w = true) : w ∈ am_ws := by
  refine am_wsi ?_ hg
  show w ∈ k2_sels lw_privs ++ (tables_1_1 ++ (tables_1_2 ++ (tables_1_3 ++ (tables_1_4 ++ (tables_1_5 ++ (tables_1_6))))))
  exact List.mem_append_right _ (List.mem_append_right _ (List.mem_append_left _ h))
theorem am_wt3 {w : Cond} (h : w ∈ tables_1_3) (hg : goodWord w = true) : w ∈ am_ws := by
  refine am_wsi ?_ hg
  show w ∈ k2_sels lw_privs ++ (tables_1_1 ++ (tables_1_2 ++ (tables_1_3 ++ (tables_1_4 ++ (tables_1_5 ++ (tables_1_6))))))
  exact List.mem_append_right _ (List.mem_append_right _ (List.mem_append_right _ (List.mem_append_left _ h)))
theorem am_wt4 {w : Cond} (h : w ∈ tables_1_4) (hg : goodWord w = true) : w ∈ am_ws := by
  refine am_wsi ?_ hg
  show w ∈ k2_sels lw_privs ++ (tables_1_1 ++ (tables_1_2 ++ (tables_1_3 ++ (tables_1_4 ++ (tables_1_5 ++ (tables_1_6))))))
  exact List.mem_append_right _ (List.mem_append_right _ (List.mem_append_right _ (List.mem_append_right _ (List.mem_append_left _ h))))
theorem am_wt5 {w : Cond} (h : w ∈ tables_1_5) (hg : goodWord w = true) : w ∈ am_ws := by
  refine am_wsi ?_ hg
  show w ∈ k2_sels lw_privs ++ (tables_1_1 ++ (tables_1_2 ++ (tables_1_3 ++ (tables_1_4 ++ (tables_1_5 ++ (tables_1_6))))))
  exact List.mem_append_right _ (List.mem_append_right _ (List.mem_append_right _ (List.mem_append_right _ (List.mem_append_right _ (List.mem_append_left _ h)))))
theorem am_wt6 {w : Cond} (h : w ∈ tables_1_6) (hg : goodWord w = true) : w ∈ am_ws := by
  refine am_wsi ?_ hg
  show w ∈ k2_sels lw_privs ++ (tables_1_1 ++ (tables_1_2 ++ (tables_1_3 ++ (tables_1_4 ++ (tables_1_5 ++ (tables_1_6))))))
  exact List.mem_append_right _ (List.mem_append_right _ (List.mem_append_right _ (List.mem_append_right _ (List.mem_append_right _ (List.mem_append_right _ (h))))))
theorem am_kn {P : Nat × am_S → Prop} : ∀ q ∈ ([] : am_code), P q := fun _ h => absurd h List.not_mem_nil
theorem inX0w : ∀ w ∈ u_ws RX0 TX0 13, w ∈ am_ws := am_in_r _ [228, 230, 232, 234, 236, 238, 240, 242, 244, 246, 248, 250, 252] (by decide +kernel) (by decide +kernel)
theorem inX1w : ∀ w ∈ u_ws RX1 TX1 7, w ∈ am_ws := am_in_r _ [275, 277, 279, 281, 283, 285, 287] (by decide +kernel) (by decide +kernel)
theorem inX2w : ∀ w ∈ u_ws RX2 TX2 8, w ∈ am_ws := am_in_r _ [123, 125, 127, 129, 131, 133, 135, 137] (by decide +kernel) (by decide +kernel)
theorem inX3w : ∀ w ∈ u_ws RX3 TX3 3, w ∈ am_ws := am_in_r _ [153, 155, 157] (by decide +kernel) (by decide +kernel)
theorem inX4w : ∀ w ∈ u_ws RX4 TX4 19, w ∈ am_ws := am_in_r _ [316, 318, 320, 322, 324, 326, 328, 330, 332, 334, 336, 338, 340, 342, 344, 346, 348, 350, 352] (by decide +kernel) (by decide +kernel)
theorem inX5w : ∀ w ∈ u_ws RX5 TX5 7, w ∈ am_ws := am_in_r _ [178, 180, 182, 184, 186, 188, 190] (by decide +kernel) (by decide +kernel)
theorem inX6w : ∀ w ∈ u_ws RX6 TX6 9, w ∈ am_ws := am_in_r _ [369, 371, 373, 375, 377, 379, 381, 383, 385] (by decide +kernel) (by decide +kernel)
theorem inX7w : ∀ w ∈ u_ws RX7 TX7 4, w ∈ am_ws := am_in_r _ [394, 396, 398, 400] (by decide +kernel) (by decide +kernel)
theorem inX8w : ∀ w ∈ u_ws RX8 TX8 27, w ∈ am_ws := am_in_r _ [922, 924, 926, 928, 930, 932, 934, 936, 938, 940, 942, 944, 946, 948, 950, 952, 954, 956, 958, 960, 962, 964, 966, 968, 970, 972, 974] (by decide +kernel) (by decide +kernel)
theorem am_z1000 : ¬ (1000 : Int64) = 0 := by decide
end
-- part 09.help.lean.txt
section
/-! helpers for the conditions that come out -/
theorem i_lt (x y : Int32) : x < y ↔ x.toInt < y.toInt := Int32.lt_iff_toInt_lt
theorem i_le (x y : Int32) : x ≤ y ↔ x.toInt ≤ y.toInt := Int32.le_iff_toInt_le
theorem i_eq (x y : Int32) : x = y ↔ x.toInt = y.toInt := Int32.toInt_inj.symm
theorem am_in_of {j : Int32} {n : Nat} (h : n < 100000) (h1 : ¬ j < 0) (h2 : ¬ Int32.ofNat n ≤ j) : am_in j n := by
  have e : (Int32.ofNat n).toInt = (n : Int) := Int32.toInt_ofNat_small (by omega)
  rw [i_lt, Int32.toInt_zero] at h1
  rw [i_le, e] at h2
  exact ⟨by omega, by omega⟩
theorem am_in_no1 {j : Int32} {n : Nat} (h1 : j < 0) : ¬ am_in j n := by
  rw [i_lt, Int32.toInt_zero] at h1
  exact fun q => by have := q.1; omega
theorem am_in_no2 {j : Int32} {n : Nat} (h : n < 100000) (h2 : Int32.ofNat n ≤ j) : ¬ am_in j n := by
  have e : (Int32.ofNat n).toInt = (n : Int) := Int32.toInt_ofNat_small (by omega)
  rw [i_le, e] at h2
  exact fun q => by have := q.2; omega
def am_at (f : Nat → Int32) (n : Nat) (i : Int32) : Int32 := if 0 ≤ i.toInt ∧ i.toInt < (n : Int) then f i.toNatClampNeg else -1
theorem am_at_in {f : Nat → Int32} {n : Nat} {i : Int32} (h : am_in i n) : am_at f n i = f i.toNatClampNeg := if_pos h
theorem am_at_no {f : Nat → Int32} {n : Nat} {i : Int32} (h : ¬ am_in i n) : am_at f n i = -1 := if_neg h
/-- a store that may be left out -/
def am_wIc (q : Prop) [Decidable q] (M : am_M) (n k : Nat) (v : Int32) : am_M := (fun a b => if q ∧ a = n ∧ b = k then v else M.1 a b, M.2)
theorem am_wIc_t {q : Prop} [Decidable q] {M : am_M} {n k : Nat} {v : Int32} (h : q) : am_wIc q M n k v = am_wI M n k v := by
  unfold am_wIc am_wI
  simp only [h, true_and]
theorem am_wIc_f {q : Prop} [Decidable q] {M : am_M} {n k : Nat} {v : Int32} (h : ¬ q) : am_wIc q M n k v = M := by
  unfold am_wIc
  simp only [h, false_and, if_false]
/-- a stretch of an array laid with one number -/
def am_lay (M : am_M) (n : Nat) (lo hi : Int) (v : Int32) : am_M := (fun a b => if a = n ∧ lo ≤ (b : Int) ∧ (b : Int) ≤ hi then v else M.1 a b, M.2)
theorem i_add {x y : Int32} (h1 : -2147483648 ≤ x.toInt + y.toInt) (h2 : x.toInt + y.toInt < 2147483648) : (x + y).toInt = x.toInt + y.toInt := by
  rw [Int32.toInt_add]
  exact Int.bmod_eq_of_le (by omega) (by omega)
theorem i_sub {x y : Int32} (h1 : -2147483648 ≤ x.toInt - y.toInt) (h2 : x.toInt - y.toInt < 2147483648) : (x - y).toInt = x.toInt - y.toInt := by
  rw [Int32.toInt_sub]
  exact Int.bmod_eq_of_le (by omega) (by omega)
theorem i_mul {x y : Int32} (h1 : -2147483648 ≤ x.toInt * y.toInt) (h2 : x.toInt * y.toInt < 2147483648) : (x * y).toInt = x.toInt * y.toInt := by
  rw [Int32.toInt_mul]
  exact Int.bmod_eq_of_le (by omega) (by omega)
theorem i_nat {n : Nat} (h : n < 2147483648) : (Int32.ofNat n).toInt = (n : Int) := Int32.toInt_ofNat_small (by omega)
theorem i_clamp {x : Int32} (h : 0 ≤ x.toInt) : (x.toNatClampNeg : Int) = x.toInt := by
  show ((x.toInt.toNat : Nat) : Int) = x.toInt
  omega
theorem i_lo (x : Int32) : -2147483648 ≤ x.toInt := Int32.le_toInt x
theorem i_hi (x : Int32) : x.toInt < 2147483648 := Int32.toInt_lt x
/-- the main cells stand, the references are as they are made -/
def am_mn (live : am_E) : Prop := ∃ i1 i2 : Bool, live = (am_lv i1 i2, am_q i1 i2)
theorem am_lay_eq {M : am_M} {n : Nat} {lo hi lo' hi' : Int} {v : Int32} (h : ∀ b : Nat, (lo ≤ (b : Int) ∧ (b : Int) ≤ hi) ↔ (lo' ≤ (b : Int) ∧ (b : Int) ≤ hi')) : am_lay M n lo hi v = am_lay M n lo' hi' v := by
  unfold am_lay
  refine Prod.ext ?_ rfl
  funext a b
  simp only [h b]
theorem am_Mext {M M' : am_M} (h : ∀ a b, M.1 a b = M'.1 a b) (h2 : M.2 = M'.2) : M = M' := Prod.ext (funext fun a => funext fun b => h a b) h2
theorem am_lay_1 (M : am_M) (n : Nat) (lo hi : Int) (v : Int32) (a b : Nat) : (am_lay M n lo hi v).1 a b = if a = n ∧ lo ≤ (b : Int) ∧ (b : Int) ≤ hi then v else M.1 a b := rfl
theorem am_wI_1 (M : am_M) (n k : Nat) (v : Int32) (a b : Nat) : (am_wI M n k v).1 a b = if a = n ∧ b = k then v else M.1 a b := rfl
theorem am_wJ_1 (M : am_M) (n k : Nat) (v : Int64) (a b : Nat) : (am_wJ M n k v).2 a b = if a = n ∧ b = k then v else M.2 a b := rfl
theorem am_lay_nil {M : am_M} {n : Nat} {lo hi : Int} {v : Int32} (h : hi < lo) : am_lay M n lo hi v = M := by
  refine am_Mext (fun a b => ?_) rfl
  rw [am_lay_1, if_neg (fun q => by have := q.2; omega)]
theorem am_lay_put {M : am_M} {n k : Nat} {lo i : Int} {v : Int32} (h1 : lo ≤ i) (h2 : (k : Int) = i) : am_wI (am_lay M n lo (i - 1) v) n k v = am_lay M n lo i v := by
  refine am_Mext (fun a b => ?_) rfl
  rw [am_wI_1, am_lay_1, am_lay_1]
  by_cases e : a = n
  · subst e
    by_cases e2 : b = k
    · subst e2
      rw [if_pos ⟨rfl, rfl⟩, if_pos ⟨rfl, by omega, by omega⟩]
    · rw [if_neg (fun q => e2 q.2)]
      have : ((lo ≤ (b : Int) ∧ (b : Int) ≤ i - 1) ↔ (lo ≤ (b : Int) ∧ (b : Int) ≤ i)) := by omega
      simp only [this]
  · rw [if_neg (fun q => e q.1), if_neg (fun q => e q.1), if_neg (fun q => e q.1)]
/-! rows of numbers: the object r, its array c, of len numbers -/
def am_rc (live : am_E) (r c : Nat) : Bool := am_isO live 3 r && am_isA live 0 c && Nat.blt (am_len c) 100000
theorem am_rc_spec {live : am_E} {r c : Nat} (h : am_rc live r c = true) : am_isO live 3 r = true ∧ am_isA live 0 c = true ∧ am_len c < 100000 ∧ r ≠ c := by
  unfold am_rc at h
  rw [Bool.and_eq_true, Bool.and_eq_true] at h
  refine ⟨h.1.1, h.1.2, Nat.le_of_ble_eq_true h.2, fun e => ?_⟩
  subst e
  have h1 := (am_isO_spec h.1.1).2
  have h2 := (am_isA_spec h.1.2).2
  rw [h1] at h2
  cases h2
theorem am_OA {live : am_E} {r c ci t : Nat} (h1 : am_isO live ci r = true) (h2 : am_isA live t c = true) : r ≠ c := by
  intro e
  subst e
  have h1 := (am_isO_spec h1).2
  have h2 := (am_isA_spec h2).2
  rw [h1] at h2
  cases h2
theorem am_cI_1 (M : am_M) (n : Nat) (f : Nat → Int32) (a b : Nat) : (am_cI M n f).1 a b = if a = n then f b else M.1 a b := rfl
def am_ix (i : Int32) (n : Nat) : Prop := 0 ≤ i.toInt ∧ i.toInt < (n : Int)
/-- Rows.put as one store that may be left out -/
def am_rput (M : am_M) (r c : Nat) (a b v : Int32) : am_M := am_wIc (b < M.1 r 1 ∧ 0 ≤ (a * M.1 r 1 + b).toInt ∧ (a * M.1 r 1 + b).toInt < (am_len c : Int)) M c (a * M.1 r 1 + b).toNatClampNeg v
theorem am_rput_ne {M : am_M} {r c n k : Nat} {a b v : Int32} (h : n ≠ c) : (am_rput M r c a b v).1 n k = M.1 n k := by
  show (if _ ∧ n = c ∧ k = _ then v else M.1 n k) = _
  rw [if_neg (fun q => h q.2.1)]
theorem am_rput_t {M : am_M} {r c : Nat} {a b v : Int32} (h : b < M.1 r 1) (h2 : am_in (a * M.1 r 1 + b) (am_len c)) : am_rput M r c a b v = am_wI M c (a * M.1 r 1 + b).toNatClampNeg v := am_wIc_t ⟨h, h2⟩
theorem am_rput_f {M : am_M} {r c : Nat} {a b v : Int32} (h : ¬ (b < M.1 r 1 ∧ am_in (a * M.1 r 1 + b) (am_len c))) : am_rput M r c a b v = M := am_wIc_f h
def am_mixI (f : Nat → Int32) : Nat → Int64 → Int64
  | 0, h => h
  | n + 1, h => 31 * am_mixI f n h + (f n).toInt64
/-! what has changed at most -/
def am_ch (S : Nat → Nat → Prop) (M M' : am_M) : Prop := (∀ a b, ¬ S a b → M'.1 a b = M.1 a b) ∧ (∀ a b, ¬ S a b → M'.2 a b = M.2 a b)
theorem am_ch.rf {S : Nat → Nat → Prop} {M : am_M} : am_ch S M M := ⟨fun _ _ _ => rfl, fun _ _ _ => rfl⟩
theorem am_ch.tr {S : Nat → Nat → Prop} {M M' M'' : am_M} (h : am_ch S M M') (h2 : am_ch S M' M'') : am_ch S M M'' := ⟨fun a b q => (h2.1 a b q).trans (h.1 a b q), fun a b q => (h2.2 a b q).trans (h.2 a b q)⟩
theorem am_ch.mono {S S' : Nat → Nat → Prop} {M M' : am_M} (h : am_ch S M M') (hs : ∀ a b, S a b → S' a b) : am_ch S' M M' := ⟨fun a b q => h.1 a b (fun z => q (hs a b z)), fun a b q => h.2 a b (fun z => q (hs a b z))⟩
theorem am_ch.wI {S : Nat → Nat → Prop} {M M' : am_M} {n k : Nat} {v : Int32} (h : am_ch S M M') (hs : S n k) : am_ch S M (am_wI M' n k v) := by
  refine ⟨fun a b q => ?_, h.2⟩
  rw [am_wI_1, if_neg (fun z => q (by rw [z.1, z.2]; exact hs))]
  exact h.1 a b q
theorem am_ch.wJ {S : Nat → Nat → Prop} {M M' : am_M} {n k : Nat} {v : Int64} (h : am_ch S M M') (hs : S n k) : am_ch S M (am_wJ M' n k v) := by
  refine ⟨h.1, fun a b q => ?_⟩
  rw [am_wJ_1, if_neg (fun z => q (by rw [z.1, z.2]; exact hs))]
  exact h.2 a b q
theorem am_ch.cI {S : Nat → Nat → Prop} {M M' : am_M} {n : Nat} {f : Nat → Int32} (h : am_ch S M M') (hs : ∀ k, S n k) : am_ch S M (am_cI M' n f) := by
  refine ⟨fun a b q => ?_, h.2⟩
  rw [am_cI_1, if_neg (fun z => q (by rw [z]; exact hs b))]
  exact h.1 a b q
/-! texts: the object t, its characters s, its code c -/
def am_tc (live : am_E) (t s c : Nat) : Bool := am_isO live 5 t && am_isA live 0 s && am_isA live 0 c && Nat.beq (am_len s) 50 && Nat.beq (am_len c) 50 && !(Nat.beq s c)
theorem am_tc_spec {live : am_E} {t s c : Nat} (h : am_tc live t s c = true) : am_isO live 5 t = true ∧ am_isA live 0 s = true ∧ am_isA live 0 c = true ∧ am_len s = 50 ∧ am_len c = 50 ∧ s ≠ c ∧ t ≠ s ∧ t ≠ c := by
  unfold am_tc at h
  simp only [Bool.and_eq_true, Bool.not_eq_true'] at h
  obtain ⟨⟨⟨⟨⟨h1, h2⟩, h3⟩, h4⟩, h5⟩, h6⟩ := h
  exact ⟨h1, h2, h3, Nat.eq_of_beq_eq_true h4, Nat.eq_of_beq_eq_true h5, Nat.ne_of_beq_eq_false h6, am_OA h1 h2, am_OA h1 h3⟩
/-- a text's numbers are in their ranges -/
def am_tI (M : am_M) (t : Nat) : Prop := ∃ _ : Unit, (0 ≤ (M.1 t 2).toInt ∧ (M.1 t 2).toInt ≤ 50) ∧ (0 ≤ (M.1 t 3).toInt ∧ (M.1 t 3).toInt ≤ (M.1 t 5).toInt) ∧ (M.1 t 5).toInt ≤ 50
/-- what reading a text may change -/
def am_tS (t c a b : Nat) : Prop := a = c ∨ (a = t ∧ (b = 2 ∨ b = 3 ∨ b = 4 ∨ b = 6))
def am_tP (live : am_E) (t : Nat) (P : Nat → Nat → Prop) : Prop := ∃ s c, live.2 t 0 = some s ∧ live.2 t 1 = some c ∧ am_tc live t s c = true ∧ P s c
theorem am_tP_mp {live : am_E} {t : Nat} {P : Nat → Nat → Prop} (h : am_tP live t P) : ∃ s c, live.2 t 0 = some s ∧ live.2 t 1 = some c ∧ am_tc live t s c = true ∧ am_isO live 5 t = true ∧ am_isA live 0 s = true ∧ am_isA live 0 c = true ∧ am_len s = 50 ∧ am_len c = 50 ∧ s ≠ c ∧ t ≠ s ∧ t ≠ c ∧ P s c := by
  obtain ⟨s, c, h1, h2, hb, h⟩ := h
  obtain ⟨a1, a2, a3, a4, a5, a6, a7, a8⟩ := am_tc_spec hb
  exact ⟨s, c, h1, h2, hb, a1, a2, a3, a4, a5, a6, a7, a8, h⟩
theorem am_tI_of {M : am_M} {t : Nat} (h1 : 0 ≤ (M.1 t 2).toInt) (h2 : (M.1 t 2).toInt ≤ 50) (h3 : 0 ≤ (M.1 t 3).toInt) (h4 : (M.1 t 3).toInt ≤ (M.1 t 5).toInt) (h5 : (M.1 t 5).toInt ≤ 50) : am_tI M t := ⟨(), ⟨h1, h2⟩, ⟨h3, h4⟩, h5⟩
theorem am_tS_c {t c b : Nat} : am_tS t c c b := Or.inl rfl
theorem am_tS_2 {t c : Nat} : am_tS t c t 2 := Or.inr ⟨rfl, Or.inl rfl⟩
theorem am_tS_3 {t c : Nat} : am_tS t c t 3 := Or.inr ⟨rfl, Or.inr (Or.inl rfl)⟩
theorem am_tS_4 {t c : Nat} : am_tS t c t 4 := Or.inr ⟨rfl, Or.inr (Or.inr (Or.inl rfl))⟩
theorem am_tS_6 {t c : Nat} : am_tS t c t 6 := Or.inr ⟨rfl, Or.inr (Or.inr (Or.inr rfl))⟩
theorem am_ch.wIc {S : Nat → Nat → Prop} {M M' : am_M} {n k : Nat} {v : Int32} {q : Prop} [Decidable q] (h : am_ch S M M') (hs : S n k) : am_ch S M (am_wIc q M' n k v) := by
  by_cases hq : q
  · rw [am_wIc_t hq]; exact h.wI hs
  · rw [am_wIc_f hq]; exact h
theorem am_wIc_1 (q : Prop) [Decidable q] (M : am_M) (n k : Nat) (v : Int32) (a b : Nat) : (am_wIc q M n k v).1 a b = if q ∧ a = n ∧ b = k then v else M.1 a b := rfl
/-- the signs and the size stay -/
theorem am_ch_t5 {M M' : am_M} {t c : Nat} (h : am_ch (am_tS t c) M M') (hn : t ≠ c) : M'.1 t 5 = M.1 t 5 := h.1 t 5 (fun q => by
  rcases q with q | ⟨-, q | q | q | q⟩
  · exact hn q
  all_goals exact absurd q (by decide))
theorem am_ch_s {M M' : am_M} {t c s : Nat} (h : am_ch (am_tS t c) M M') (h1 : s ≠ c) (h2 : t ≠ s) (j : Nat) : M'.1 s j = M.1 s j := h.1 s j (fun q => by
  rcases q with q | ⟨q, -⟩
  · exact h1 q
  · exact h2 q.symm)
end
-- part 09b.alloc.lean.txt
section
/-! AN: births. What is live, what the references hold and how many cells are made are part of the memory. -/
abbrev am_X : Type := am_E × Nat × Nat × am_M
abbrev an_K : Type := Nat → am_L → List Value → am_X → Prop
abbrev an_S : Type := am_L → List Value → am_X → an_K → Prop
abbrev an_R : Type := Option Value → am_E → am_M → Prop
abbrev an_T : Type := am_E → List Value → am_M → an_R → Prop
def an_agree (live0 : am_E) (al0 al : Nat → Nat) : Prop := ∀ q, (live0.1 q = true ∨ 1000 ≤ q) → al q = al0 q
/-- what is referred to is live -/
def an_cl (E : am_E) : Prop := ∀ a k r, E.1 a = true → E.2 a k = some r → E.1 r = true
def an_I (live0 E : am_E) : Prop := (∀ q, live0.1 q = true → E.1 q = true) ∧ an_cl E
def an_W (p : Program) (l : Launch) (e : Env) (R : Room) (Q : State → Prop) (s : State) (m : MethodId) (args : Array Value) (below : List Frame) (meth : Method) (c : Code) (D : va_G) (cA : Nat → ClassId) (al0 : Nat → Nat) (B : Nat) (live0 : am_E) (nL : Nat) : an_K := fun pc L st X =>
  ∀ (al : Nat → Nat), an_agree live0 al0 al → an_I live0 X.1 → X.2.1 ≤ R.cells → X.2.2.1 ≤ R.slots → am_W p l e (R, X.2.1, X.2.2.1, Q) s m args below meth c D cA al B X.1 nL pc L st X.2.2.2
def an_Qc (D : va_G) (cA : Nat → ClassId) (al0 : Nat → Nat) (B : Nat) (live0 : am_E) (Ret : an_R) : Array Value → State → Outcome → State → Prop := fun _ st o t =>
  ∃ (r : Option Value) (E' : am_E) (M' : am_M) (al' : Nat → Nat), an_agree live0 al0 al' ∧ an_I live0 E' ∧ Ret r E' M' ∧ o = .returned (r.map (am_cv al')) ∧ am_P D cA al' B E' M' t.heap ∧ va_F (fun q => B ≤ q) st t
def an_Rk (R : Room) (rf rl mc ms : Nat) : Prop := rf ≤ R.frames ∧ rl ≤ R.locals ∧ R.cells = mc ∧ R.slots = ms
def an_Qk (s : State) (args : Array Value) (below : List Frame) (D : va_G) (cA : Nat → ClassId) (al0 : Nat → Nat) (B : Nat) (live0 : am_E) (mc ms : Nat) (Ret : an_R) (Q : State → Prop) : Prop :=
  Q = MQ below (an_Qc D cA al0 B live0 Ret) args s mc ms (fun q => B ≤ q) ∨ ∀ r E M, ¬ Ret r E M
def an_ok (own : String) (cc : ByteArray) (nL : Nat) (rt : Option FieldType) (rf rl mc ms : Nat) (ini : Bool) (Pp : State → (Nat → Nat) → Nat → Prop) (Ret : an_R) (pc : Nat) (sem : an_S) : Prop :=
  ∀ (p : Program) (l : Launch) (e : Env) (R : Room) (Q : State → Prop) (s : State) (m : MethodId) (args : Array Value) (below : List Frame) (meth : Method) (c : Code) (D : va_G) (cA : Nat → ClassId) (al0 : Nat → Nat) (B : Nat) (live0 : am_E), am_C p s m args meth c D cA al0 B own cc nL rt → an_Rk R rf rl mc ms → an_Qk s args below D cA al0 B live0 mc ms Ret Q → (ini = true → meth.name = "<init>") → Pp s al0 B →
    ∀ (L : am_L) (st : List Value) (X : am_X) (K : an_K), (∀ pc' L' st' X', K pc' L' st' X' → an_W p l e R Q s m args below meth c D cA al0 B live0 nL pc' L' st' X') → sem L st X K → an_W p l e R Q s m args below meth c D cA al0 B live0 nL pc L st X
/-! a method as a list of what its instructions do; its run with cuts -/
abbrev an_code : Type := List (Nat × an_S)
def an_go : an_code → Nat → an_code
  | [], _ => []
  | q :: r, pc => match Nat.beq q.1 pc with
    | true => q :: r
    | false => an_go r pc
def an_nxt (code rest : an_code) (pc : Nat) : an_code := match rest with
  | [] => an_go code pc
  | r :: rs => match Nat.beq r.1 pc with
    | true => r :: rs
    | false => an_go code pc
abbrev an_cut : Type := Nat → Option (am_L → List Value → am_X → Prop)
/-- by the recursor itself: so the kernel unfolds it step by step -/
noncomputable def an_wp (code : an_code) (cut : an_cut) (n : Nat) : an_code → am_L → List Value → am_X → Prop :=
  @Nat.rec (fun _ => an_code → am_L → List Value → am_X → Prop) (fun _ _ _ _ => False) (fun _ ih cs L st M => match cs with
    | [] => False
    | q :: rest => q.2 L st M (fun pc' L' st' M' => match cut pc' with
      | some I => I L' st' M'
      | none => ih (an_nxt code rest pc') L' st' M')) n
theorem an_go_hd : ∀ (code : an_code) (pc : Nat) (q : Nat × an_S) (r : an_code), an_go code pc = q :: r → q.1 = pc
  | [], _, _, _, h => by cases h
  | a :: rs, pc, q, r, h => by
    unfold an_go at h
    cases hb : Nat.beq a.1 pc with
    | true =>
      rw [hb] at h
      have e : a :: rs = q :: r := h
      cases e
      exact Nat.eq_of_beq_eq_true hb
    | false =>
      rw [hb] at h
      exact an_go_hd rs pc q r h
theorem an_go_in : ∀ (code : an_code) (pc : Nat) (q : Nat × an_S), q ∈ an_go code pc → q ∈ code
  | [], _, _, h => by cases h
  | a :: rs, pc, q, h => by
    unfold an_go at h
    cases hb : Nat.beq a.1 pc with
    | true => rw [hb] at h; exact h
    | false => rw [hb] at h; exact List.mem_cons_of_mem _ (an_go_in rs pc q h)
theorem an_nxt_hd {code rest : an_code} {pc : Nat} {q : Nat × an_S} {r : an_code} (h : an_nxt code rest pc = q :: r) : q.1 = pc := by
  unfold an_nxt at h
  cases rest with
  | nil => exact an_go_hd _ _ _ _ h
  | cons a rs =>
    cases hb : Nat.beq a.1 pc with
    | true =>
      simp only [hb] at h
      cases h
      exact Nat.eq_of_beq_eq_true hb
    | false =>
      simp only [hb] at h
      exact an_go_hd _ _ _ _ h
theorem an_nxt_in {code rest : an_code} {pc : Nat} {q : Nat × an_S} (hr : ∀ x ∈ rest, x ∈ code) (h : q ∈ an_nxt code rest pc) : q ∈ code := by
  unfold an_nxt at h
  cases rest with
  | nil => exact an_go_in _ _ _ h
  | cons a rs =>
    cases hb : Nat.beq a.1 pc with
    | true =>
      simp only [hb] at h
      exact hr _ h
    | false =>
      simp only [hb] at h
      exact an_go_in _ _ _ h
section ANW
variable {own : String} {cc : ByteArray} {nL : Nat} {rt : Option FieldType} {rf rl : Nat} {mc ms : Nat} {ini : Bool} {Pp : State → (Nat → Nat) → Nat → Prop} {Ret : an_R} {p : Program} {l : Launch} {e : Env} {s : State} {m : MethodId} {args : Array Value} {below : List Frame} {meth : Method} {c : Code} {D : va_G} {cA : Nat → ClassId} {al0 : Nat → Nat} {B : Nat} {live0 : am_E} {R : Room} {Q : State → Prop}
theorem an_wp_ok {code : an_code} {cut : an_cut} (hok : ∀ q ∈ code, an_ok own cc nL rt rf rl mc ms ini Pp Ret q.1 q.2) (hC : am_C p s m args meth c D cA al0 B own cc nL rt) (hR : an_Rk R rf rl mc ms) (hQ : an_Qk s args below D cA al0 B live0 mc ms Ret Q) (hni : ini = true → meth.name = "<init>") (hPp : Pp s al0 B)
    (hcut : ∀ pc I, cut pc = some I → ∀ L st M, I L st M → an_W p l e R Q s m args below meth c D cA al0 B live0 nL pc L st M) :
    ∀ (n : Nat) (cs : an_code) (L : am_L) (st : List Value) (M : am_X), (∀ q ∈ cs, q ∈ code) → an_wp code cut n cs L st M → ∃ pc, (∃ q r, cs = q :: r ∧ q.1 = pc) ∧ an_W p l e R Q s m args below meth c D cA al0 B live0 nL pc L st M
  | 0, _, _, _, _, _, h => h.elim
  | n + 1, [], _, _, _, _, h => h.elim
  | n + 1, q :: rest, L, st, M, hin, h => by
    refine ⟨q.1, ⟨q, rest, rfl, rfl⟩, ?_⟩
    refine hok q (hin q List.mem_cons_self) p l e R Q s m args below meth c D cA al0 B live0 hC hR hQ hni hPp L st M _ (fun pc' L' st' M' hk => ?_) h
    cases hc : cut pc' with
    | some I =>
      simp only [hc] at hk
      exact hcut pc' I hc L' st' M' hk
    | none =>
      simp only [hc] at hk
      obtain ⟨pc2, ⟨q2, r2, e1, e2⟩, hw⟩ := an_wp_ok hok hC hR hQ hni hPp hcut n _ L' st' M' (fun x hx => an_nxt_in (fun y hy => hin y (List.mem_cons_of_mem _ hy)) hx) hk
      have e3 := an_nxt_hd e1
      rw [← e3, e2]
      exact hw
/-- loops: invariants with a pair that falls -/
abbrev an_inv : Type := Nat → Option (List Nat × (Nat × Nat → am_L → List Value → am_X → Prop))
theorem an_W_nm {ks : List Nat} {pc : Nat} {L : am_L} {st : List Value} {M : am_X} (h : an_W p l e R Q s m args below meth c D cA al0 B live0 nL pc (am_nm ks L) st M) : an_W p l e R Q s m args below meth c D cA al0 B live0 nL pc L st M := by
  intro al hal hI hcc hcn H locs ls hP hS hl
  refine h al hal hI hcc hcn H locs ls hP hS ⟨hl.1, hl.2.1, fun q hq => ?_⟩
  obtain ⟨x, hx, rfl⟩ := List.mem_map.mp hq
  exact hl.2.2 _ (List.mem_map.mpr ⟨x, am_nm_mem hx, rfl⟩)
def an_cutl (inv : an_inv) (k : Nat × Nat) : an_cut := fun pc => match inv pc with
  | some I => some (fun L st M => ∃ k', am_lt k' k ∧ I.2 k' (am_nm I.1 L) st M)
  | none => none
def an_cut0 (inv : an_inv) : an_cut := fun pc => match inv pc with
  | some I => some (fun L st M => ∃ k', I.2 k' (am_nm I.1 L) st M)
  | none => none
theorem an_loops {code : an_code} {inv : an_inv} (hok : ∀ q ∈ code, an_ok own cc nL rt rf rl mc ms ini Pp Ret q.1 q.2) (hC : am_C p s m args meth c D cA al0 B own cc nL rt) (hR : an_Rk R rf rl mc ms) (hQ : an_Qk s args below D cA al0 B live0 mc ms Ret Q) (hni : ini = true → meth.name = "<init>") (hPp : Pp s al0 B)
    (N : Nat) (h : ∀ (k : Nat × Nat) (pc : Nat) I, inv pc = some I → ∀ L st M, I.2 k L st M → an_wp code (an_cutl inv k) N (an_go code pc) L st M) :
    ∀ (a b : Nat) (pc : Nat) I, inv pc = some I → ∀ L st M, I.2 (a, b) L st M → an_W p l e R Q s m args below meth c D cA al0 B live0 nL pc L st M := by
  intro a
  induction a using Nat.strongRecOn with
  | ind a iha =>
    intro b
    induction b using Nat.strongRecOn with
    | ind b ihb =>
      intro pc I hI L st M hi
      have hw := h (a, b) pc I hI L st M hi
      obtain ⟨pc2, ⟨q, r, e1, e2⟩, w⟩ := an_wp_ok (l := l) (e := e) (below := below) hok hC hR hQ hni hPp (cut := an_cutl inv (a, b)) (fun pc' I' hc L' st' M' hh => by
        unfold an_cutl at hc
        cases hi' : inv pc' with
        | none => rw [hi'] at hc; cases hc
        | some J =>
          rw [hi'] at hc
          cases hc
          obtain ⟨⟨a', b'⟩, hlt, hj⟩ := hh
          refine an_W_nm (ks := J.1) ?_
          rcases hlt with hlt | ⟨e, hlt⟩
          · exact iha a' hlt b' pc' J hi' _ st' M' hj
          · have e' : a' = a := e
            subst e'
            exact ihb b' hlt pc' J hi' _ st' M' hj) N _ L st M (fun x hx => an_go_in _ _ _ hx) hw
      rw [← an_go_hd _ _ _ _ e1, e2]
      exact w
end ANW
/-- a method's contract, with births -/
def an_Met (y : MethodName) (cc : ByteArray) (nL : Nat) (rt : Option FieldType) (rf rl mc ms : Nat) (T : an_T) : Prop :=
  ∀ (l : Launch) (D : va_G) (cA : Nat → ClassId) (al : Nat → Nat) (B : Nat) (live : am_E) (as : List Value) (M : am_M) (Ret : an_R), an_cl live → T live as M Ret →
    Met l y (.code y cc nL rt :: am_ws) { frames := rf, cells := mc, slots := ms, locals := rl } (am_Pc D cA al B live as M) (an_Qc D cA al B live Ret) mc ms (fun q => B ≤ q)
theorem an_met {y : MethodName} {own : String} {cc : ByteArray} {nL : Nat} {rt : Option FieldType} {rf rl mc ms : Nat} {ini : Bool} {T : an_T} (hy : plainName y.cls = true) (hown : y.cls = own) (hni : ini = true → y.name = "<init>") (code : an_R → an_code)
    (hok : ∀ Ret, ∀ q ∈ code Ret, an_ok own cc nL rt rf rl mc ms ini (fun _ _ _ => True) Ret q.1 q.2) (N : Nat) (inv : am_E → List Value → am_M → an_R → an_inv)
    (hin : ∀ live as M Ret, T live as M Ret → (lg_sl as).length ≤ nL ∧ an_wp (code Ret) (an_cut0 (inv live as M Ret)) N (an_go (code Ret) 0) (lv_args 0 as) [] (live, 0, 0, M))
    (hl : ∀ live as M0 Ret, T live as M0 Ret → ∀ (k : Nat × Nat) (pc : Nat) I, inv live as M0 Ret pc = some I → ∀ L st M, I.2 k L st M → an_wp (code Ret) (an_cutl (inv live as M0 Ret) k) N (an_go (code Ret) pc) L st M) :
    an_Met y cc nL rt rf rl mc ms T := by
  intro l D cA al B live as M Ret hcl hT
  refine Met.ofW (cc := cc) (maxL := nL) (ret := rt) hy rfl ?_
  intro p e s m args below meth c s₁ Bd hml hv
  obtain ⟨rfl, hsz, hP, hK, hZ, hN⟩ := hv
  have hts0 := atoms_spec (ws := Cond.code y cc nL rt :: am_ws) Bd.pre
  have hC : am_C p s m (as.map (am_cv al)).toArray meth c D cA al B own cc nL rt := ⟨Bd.exec, Bd.bytes, hml, hown ▸ findClass_of_methodNamed Bd.named, fun w hw => hts0 w (List.mem_cons_of_mem _ hw), Bd.notSynchronized, Bd.returns, hK, hsz, hZ, hN⟩
  have hR : an_Rk { frames := rf, cells := mc, slots := ms, locals := rl } rf rl mc ms := ⟨Nat.le_refl _, Nat.le_refl _, rfl, rfl⟩
  have hQ : an_Qk s (as.map (am_cv al)).toArray below D cA al B live mc ms Ret (MQ below (an_Qc D cA al B live Ret) (as.map (am_cv al)).toArray s mc ms (fun q => B ≤ q)) := Or.inl rfl
  have hn2 : ini = true → meth.name = "<init>" := fun h => (name_of_methodNamed Bd.named Bd.method).1.trans (hni h)
  obtain ⟨hlen, hwp⟩ := hin live as M Ret hT
  obtain ⟨pc2, ⟨q, r, e1, e2⟩, w⟩ := an_wp_ok (l := l) (e := e) (below := below) (hok Ret) hC hR hQ hn2 trivial (cut := an_cut0 (inv live as M Ret)) (fun pc' I' hc L' st' M' hh => by
    unfold an_cut0 at hc
    cases hi' : inv live as M Ret pc' with
    | none => rw [hi'] at hc; cases hc
    | some J =>
      rw [hi'] at hc
      cases hc
      obtain ⟨⟨a', b'⟩, hj⟩ := hh
      exact an_W_nm (ks := J.1) (an_loops (hok Ret) hC hR hQ hn2 trivial N (hl live as M Ret hT) a' b' pc' J hi' _ st' M' hj)) N _ _ _ _ (fun x hx => an_go_in _ _ _ hx) hwp
  have e3 := an_go_hd _ _ _ _ e1
  have e4 : pc2 = 0 := by rw [← e2, e3]
  subst e4
  have hle := lv_entry (as.map (am_cv al)) (n := nL) (by rw [am_slen]; exact hlen)
  rw [am_args] at hle
  rw [lg_entry_eq]
  exact w al (fun _ _ => rfl) ⟨fun _ h => h, hcl⟩ (Nat.zero_le _) (Nat.zero_le _) s.heap [] _ hP va_S.rf hle
/-! what births do -/
theorem am_Z.al {al0 al : Nat → Nat} {B : Nat} {s : State} (h : ∀ q, 1000 ≤ q → al q = al0 q) (hZ : am_Z al0 B s) : am_Z al B s := fun k hk => by
  rw [h (1000 + k) (Nat.le_add_right _ _)]; exact hZ k hk
theorem am_C.al {p : Program} {s : State} {m : MethodId} {args : Array Value} {meth : Method} {c : Code} {D : va_G} {cA : Nat → ClassId} {al0 al : Nat → Nat} {B : Nat} {own : String} {cc : ByteArray} {nL : Nat} {rt : Option FieldType} (hC : am_C p s m args meth c D cA al0 B own cc nL rt) (h : ∀ q, 1000 ≤ q → al q = al0 q) : am_C p s m args meth c D cA al B own cc nL rt := by
  obtain ⟨a1, a2, a3, a4, a5, a6, a7, a8, a9, a10, a11⟩ := hC
  exact ⟨a1, a2, a3, a4, a5, a6, a7, a8, a9, a10.al h, a11⟩
def an_lf (f : am_E → am_S) : an_S := fun L st X K => match X with
  | (E, k, n, M) => f E L st M (fun pc' L' st' M' => K pc' L' st' (E, k, n, M'))
def an_no : am_R := fun _ _ => False
theorem an_lift {own : String} {cc : ByteArray} {nL : Nat} {rt : Option FieldType} {rf rl mc ms : Nat} {ini : Bool} {Pp : State → (Nat → Nat) → Nat → Prop} {Ret : an_R} {pc : Nat} {f : am_E → am_S} (h : ∀ live, am_ok own cc nL rt rf rl live an_no pc (f live)) : an_ok own cc nL rt rf rl mc ms ini Pp Ret pc (an_lf f) := by
  intro p l e R Q s m args below meth c D cA al0 B live0 hC hR hQ hni hPp L st X K hK hs al hal hI hc hn
  obtain ⟨E, k0, n0, M⟩ := X
  exact h E p l e s m args below meth c D cA al B (hC.al (fun q hq => hal q (Or.inr hq))) (R, k0, n0, Q) ⟨hR.1, hR.2.1, hc, hn, Or.inr (fun _ _ q => q)⟩ L st M _ (fun pc' L' st' M' k => hK pc' L' st' (E, k0, n0, M') k al hal hI hc hn) hs
def an_bE (E : am_E) (n : Nat) : am_E := (fun q => Nat.beq q n || E.1 q, fun a b => match Nat.beq a n with | true => none | false => E.2 a b)
def an_bM (M : am_M) (n : Nat) : am_M := (fun a b => match Nat.beq a n with | true => 0 | false => M.1 a b, fun a b => match Nat.beq a n with | true => 0 | false => M.2 a b)
def an_up (al : Nat → Nat) (n q : Nat) : Nat → Nat := fun x => if x = n then q else al x
theorem an_ce_cg {Q Q' : Nat → Nat → Option Nat} {cA : Nat → ClassId} {al al' : Nat → Nat} {M M' : am_M} {n : Nat} (h1 : ∀ k, M'.1 n k = M.1 n k) (h2 : ∀ k, M'.2 n k = M.2 n k) (hq : ∀ k, (Q' n k).map al' = (Q n k).map al) : am_ce Q' cA al' M' n = am_ce Q cA al M n := by
  unfold am_ce
  cases am_sh n with
  | inl ci =>
    refine congrArg Sum.inr (Prod.ext rfl ?_)
    refine congrArg (fun f => List.map f (List.range (am_nf ci))) ?_
    funext k
    unfold am_fv
    rw [h1, h2, hq]
  | inr q =>
    refine congrArg Sum.inl (Prod.ext rfl (Prod.ext rfl ?_))
    show am_ae Q' al' M' n q.1 = am_ae Q al M n q.1
    unfold am_ae
    rw [show M'.1 n = M.1 n from funext h1, show M'.2 n = M.2 n from funext h2, show (fun k => (Q' n k).map al') = (fun k => (Q n k).map al) from funext hq]
theorem an_bne {n m : Nat} (h : n ≠ m) : Nat.beq n m = false := by
  cases hb : Nat.beq n m with
  | true => exact absurd (Nat.eq_of_beq_eq_true hb) h
  | false => rfl
theorem an_beq (n : Nat) : Nat.beq n n = true := Nat.beq_refl n
theorem an_bE_new (E : am_E) (n : Nat) : (an_bE E n).1 n = true := by
  show (Nat.beq n n || E.1 n) = true
  rw [an_beq]; rfl
theorem an_bE_old (E : am_E) {n q : Nat} (h : E.1 q = true) : (an_bE E n).1 q = true := by
  show (Nat.beq q n || E.1 q) = true
  rw [h, Bool.or_true]
theorem an_bE_of (E : am_E) {n q : Nat} (h : (an_bE E n).1 q = true) : q = n ∨ E.1 q = true := by
  have h : (Nat.beq q n || E.1 q) = true := h
  rcases Bool.or_eq_true _ _ |>.mp h with h | h
  · exact Or.inl (Nat.eq_of_beq_eq_true h)
  · exact Or.inr h
theorem an_bE_2 (E : am_E) {n a : Nat} (k : Nat) (h : a ≠ n) : (an_bE E n).2 a k = E.2 a k := by
  show (match Nat.beq a n with | true => none | false => E.2 a k) = _
  rw [an_bne h]
theorem an_bE_2n (E : am_E) (n k : Nat) : (an_bE E n).2 n k = none := by
  show (match Nat.beq n n with | true => none | false => E.2 n k) = _
  rw [an_beq]
theorem an_bM_1 (M : am_M) {n a : Nat} (k : Nat) (h : a ≠ n) : (an_bM M n).1 a k = M.1 a k := by
  show (match Nat.beq a n with | true => 0 | false => M.1 a k) = _
  rw [an_bne h]
theorem an_bM_2 (M : am_M) {n a : Nat} (k : Nat) (h : a ≠ n) : (an_bM M n).2 a k = M.2 a k := by
  show (match Nat.beq a n with | true => 0 | false => M.2 a k) = _
  rw [an_bne h]
theorem an_bM_1n (M : am_M) (n k : Nat) : (an_bM M n).1 n k = 0 := by
  show (match Nat.beq n n with | true => 0 | false => M.1 n k) = _
  rw [an_beq]
theorem an_bM_2n (M : am_M) (n k : Nat) : (an_bM M n).2 n k = 0 := by
  show (match Nat.beq n n with | true => 0 | false => M.2 n k) = _
  rw [an_beq]
theorem an_bI {live0 E : am_E} {n : Nat} (h : an_I live0 E) : an_I live0 (an_bE E n) := by
  refine ⟨fun q hq => an_bE_old E (h.1 q hq), fun a k r ha hr => ?_⟩
  by_cases e : a = n
  · subst e
    rw [an_bE_2n] at hr
    cases hr
  · rw [an_bE_2 E k e] at hr
    rcases an_bE_of E ha with h1 | h1
    · exact absurd h1 e
    · exact an_bE_old E (h.2 a k r h1 hr)
theorem an_born {D : va_G} {cA : Nat → ClassId} {al : Nat → Nat} {B : Nat} {E : am_E} {M : am_M} {H H1 : Heap} {n q : Nat} {e : va_E} (hP : am_P D cA al B E M H) (hcl : an_cl E) (hf : E.1 n = false) (h4 : n < 400)
    (hP1 : va_P D am_cl (am_ws0 cA al E M ++ [(q, e)]) H1) (hD1 : va_D (fun q => B ≤ q) (am_ws0 cA al E M ++ [(q, e)])) (he : am_ce (an_bE E n).2 cA (an_up al n q) (an_bM M n) n = e) : am_P D cA (an_up al n q) B (an_bE E n) (an_bM M n) H1 := by
  have hne : ∀ {m : Nat}, E.1 m = true → m ≠ n := fun hm z => by
    rw [z, hf] at hm
    cases hm
  have hlast : (am_ws0 cA al E M ++ [(q, e)])[(am_ws0 cA al E M).length]? = some (q, e) := by
    rw [List.getElem?_append_right (Nat.le_refl _), Nat.sub_self]
    rfl
  have hold : ∀ {m : Nat}, E.1 m = true → ∃ k, k < (am_ws0 cA al E M).length ∧ (am_ws0 cA al E M ++ [(q, e)])[k]? = some (al m, am_ce E.2 cA al M m) := fun {m} hm => by
    obtain ⟨k, hk⟩ := am_wl_at hm (hP.2.2.2 m hm)
    have hk2 := am_ws0_at (cA := cA) (al := al) (M := M) hk
    have hlt := (List.getElem?_eq_some_iff.mp hk2).1
    exact ⟨k, hlt, by rw [List.getElem?_append_left hlt]; exact hk2⟩
  have e1 : an_up al n q n = q := if_pos rfl
  have e2 : ∀ {m : Nat}, m ≠ n → an_up al n q m = al m := fun h => if_neg h
  refine ⟨fun m hm => ?_, fun i j hi hj hij => ?_, fun m hm => ?_, fun m hm => ?_⟩
  · rcases an_bE_of E hm with z | z
    · rw [z, he, e1]
      exact hP1 _ _ hlast
    · obtain ⟨k, -, hk⟩ := hold z
      rw [e2 (hne z), an_ce_cg (M := M) (Q := E.2) (al := al) (fun k => an_bM_1 M k (hne z)) (fun k => an_bM_2 M k (hne z)) (fun k => ?_)]
      · exact hP1 _ _ hk
      · rw [an_bE_2 E k (hne z)]
        cases hr : E.2 m k with
        | none => rfl
        | some r => exact congrArg some (e2 (hne (hcl m k r z hr)))
  · rcases an_bE_of E hi with zi | zi
    · rcases an_bE_of E hj with zj | zj
      · rw [zi, zj]
      · exfalso
        rw [zi, e1, e2 (hne zj)] at hij
        obtain ⟨k, hk1, hk⟩ := hold zj
        have := hD1.1 _ _ _ _ hlast hk hij
        omega
    · rcases an_bE_of E hj with zj | zj
      · exfalso
        rw [zj, e1, e2 (hne zi)] at hij
        obtain ⟨k, hk1, hk⟩ := hold zi
        have := hD1.1 _ _ _ _ hk hlast hij
        omega
      · rw [e2 (hne zi), e2 (hne zj)] at hij
        exact hP.2.1 i j zi zj hij
  · rcases an_bE_of E hm with z | z
    · rw [z, e1]
      exact hD1.2 _ _ hlast
    · rw [e2 (hne z)]
      exact hP.2.2.1 m z
  · rcases an_bE_of E hm with z | z
    · rw [z]; exact h4
    · exact hP.2.2.2 m z
/-- the references at hand are live, or static -/
def an_rk (E : am_E) (v : Value) : Bool := match v with
  | .ref n => E.1 n || Nat.ble 1000 n
  | _ => true
theorem an_rk_cv {E : am_E} {al al' : Nat → Nat} (h : ∀ q, (E.1 q = true ∨ 1000 ≤ q) → al' q = al q) {v : Value} (hv : an_rk E v = true) : am_cv al' v = am_cv al v := by
  cases v with
  | ref n =>
    have hv : (E.1 n || Nat.ble 1000 n) = true := hv
    refine congrArg Value.ref (h n ?_)
    rcases Bool.or_eq_true _ _ |>.mp hv with z | z
    · exact Or.inl z
    · exact Or.inr (Nat.le_of_ble_eq_true z)
  | _ => rfl
theorem an_st_cv {E : am_E} {al al' : Nat → Nat} (h : ∀ q, (E.1 q = true ∨ 1000 ≤ q) → al' q = al q) {st : List Value} (hv : st.all (an_rk E) = true) : st.map (am_cv al') = st.map (am_cv al) :=
  List.map_congr_left (fun v hm => an_rk_cv h (List.all_eq_true.mp hv v hm))
theorem an_lc_cv {E : am_E} {al al' : Nat → Nat} (h : ∀ q, (E.1 q = true ∨ 1000 ≤ q) → al' q = al q) {L : am_L} (hv : L.all (fun q => an_rk E q.2) = true) : am_lc al' L = am_lc al L :=
  List.map_congr_left (fun v hm => Prod.ext rfl (an_rk_cv h (List.all_eq_true.mp hv v hm)))
def an_fr (E : am_E) (kc kn : Nat) (L : am_L) (st : List Value) (n mc ms k j : Nat) : Bool := !(E.1 n) && (Nat.blt n 400 && (Nat.ble (kc + k) mc && (Nat.ble (kn + j) ms && (L.all (fun q => an_rk E q.2) && st.all (an_rk E)))))
theorem an_fr_spec {E : am_E} {kc kn : Nat} {L : am_L} {st : List Value} {n mc ms k j : Nat} (h : an_fr E kc kn L st n mc ms k j = true) : E.1 n = false ∧ n < 400 ∧ kc + k ≤ mc ∧ kn + j ≤ ms ∧ L.all (fun q => an_rk E q.2) = true ∧ st.all (an_rk E) = true := by
  unfold an_fr at h
  simp only [Bool.and_eq_true, Bool.not_eq_true'] at h
  exact ⟨h.1, Nat.le_of_ble_eq_true h.2.1, Nat.le_of_ble_eq_true h.2.2.1, Nat.le_of_ble_eq_true h.2.2.2.1, h.2.2.2.2.1, h.2.2.2.2.2⟩
theorem an_up_old {E : am_E} {al : Nat → Nat} {n q : Nat} (hf : E.1 n = false) (h4 : n < 400) : ∀ x, (E.1 x = true ∨ 1000 ≤ x) → an_up al n q x = al x := fun x hx => if_neg (fun z => by
  subst z
  rcases hx with h | h
  · rw [hf] at h; cases h
  · omega)
theorem an_agree.up {live0 E : am_E} {al0 al : Nat → Nat} {n q : Nat} (h : an_agree live0 al0 al) (hs : ∀ q, live0.1 q = true → E.1 q = true) (hf : E.1 n = false) (h4 : n < 400) : an_agree live0 al0 (an_up al n q) := fun x hx => (an_up_old (E := E) hf h4 x (hx.imp (hs x) (fun z => z))).trans (h x hx)
end
-- part 09c.births.lean.txt
section
/-! births: the rows -/
theorem an_kc {P : Nat × an_S → Prop} {a : Nat × an_S} {l : an_code} (h : P a) (hl : ∀ q ∈ l, P q) : ∀ q ∈ a :: l, P q := fun q hq => by
  rcases List.mem_cons.mp hq with rfl | h2
  · exact h
  · exact hl q h2
theorem an_kn {P : Nat × an_S → Prop} : ∀ q ∈ ([] : an_code), P q := fun _ h => absurd h List.not_mem_nil
def an_isO (E : am_E) (ci n : Nat) : Bool := E.1 n && (match am_sh n with | .inl c => Nat.beq c ci | .inr _ => false)
def an_shO (ci n : Nat) : Bool := match am_sh n with | .inl c => Nat.beq c ci | .inr _ => false
def an_shA (t len n : Nat) : Bool := match am_sh n with | .inl _ => false | .inr q => Nat.beq q.1 t && Nat.beq q.2 len
theorem an_shO_spec {ci n : Nat} (h : an_shO ci n = true) : am_sh n = .inl ci := by
  unfold an_shO at h
  cases hs : am_sh n with
  | inl c => rw [hs] at h; rw [Nat.eq_of_beq_eq_true h]
  | inr q => rw [hs] at h; cases h
theorem an_shA_spec {t len n : Nat} (h : an_shA t len n = true) : am_sh n = .inr (t, len) := by
  unfold an_shA at h
  cases hs : am_sh n with
  | inl c => rw [hs] at h; cases h
  | inr q =>
    rw [hs] at h
    have h : (Nat.beq q.1 t && Nat.beq q.2 len) = true := h
    rw [Bool.and_eq_true] at h
    rw [← Nat.eq_of_beq_eq_true h.1, ← Nat.eq_of_beq_eq_true h.2]
/-- the fields of a new object -/
def an_z (ci k : Nat) : Value := match am_ft ci k with
  | 0 => .int 0
  | 1 => .long 0
  | _ => .null
theorem an_fv_new (E : am_E) (M : am_M) (al : Nat → Nat) (n ci k : Nat) : am_fv (an_bE E n).2 al (an_bM M n) n ci k = an_z ci k := by
  unfold am_fv an_z
  rw [an_bM_1n, an_bM_2n, an_bE_2n]
  rfl
def an_new (ci N : Nat) (f : am_L → Nat) (mc ms nx : Nat) : an_S := fun L st X K => match X with
  | (E, kc, kn, M) => am_if (an_fr E kc kn L st (f L) mc ms 1 N && an_shO ci (f L)) (K nx L (.ref (f L) :: st) (an_bE E (f L), kc + 1, kn + N, an_bM M (f L)))
def an_newa (t len : Nat) (f : am_L → Nat) (mc ms nx : Nat) : an_S := fun L st X K => match X with
  | (E, kc, kn, M) => match st with
    | .int x :: r => am_if (an_fr E kc kn L r (f L) mc ms 1 len && (an_shA t len (f L) && Nat.blt len 100000)) (x = Int32.ofNat len ∧ K nx L (.ref (f L) :: r) (an_bE E (f L), kc + 1, kn + len, an_bM M (f L)))
    | _ => False
/-- a reference is put -/
def an_rE (E : am_E) (n k v : Nat) : am_E := (E.1, fun a b => match Nat.beq a n && Nat.beq b k with | true => some v | false => E.2 a b)
def an_putFI (ci k nx : Nat) : an_S := fun L st X K => match X with
  | (E, kc, kn, M) => match st with
    | .int v :: .ref n :: r => am_if (an_isO E ci n) (K nx L r (E, kc, kn, am_wI M n k v))
    | _ => False
def an_putFR (ci k nx : Nat) : an_S := fun L st X K => match X with
  | (E, kc, kn, M) => match st with
    | .ref v :: .ref n :: r => am_if (an_isO E ci n && E.1 v) (K nx L r (an_rE E n k v, kc, kn, M))
    | _ => False
def an_astR (t ci nx : Nat) : an_S := fun L st X K => match X with
  | (E, kc, kn, M) => match st with
    | .ref v :: .int j :: .ref n :: r => am_if (am_isA E t n && an_isO E ci v) (am_in j (am_len n) ∧ K nx L r (an_rE E n j.toNatClampNeg v, kc, kn, M))
    | _ => False
def an_aldN (t nx : Nat) : an_S := fun L st X K => match X with
  | (E, kc, kn, M) => match st with
    | .int j :: .ref n :: r => am_if (am_isA E t n) (am_in j (am_len n) ∧ K nx L ((match E.2 n j.toNatClampNeg with | some q => .ref q | none => .null) :: r) (E, kc, kn, M))
    | _ => False
def an_ifnn (tg nx : Nat) : an_S := fun L st X K => match st with
  | .ref _ :: r => K tg L r X
  | .null :: r => K nx L r X
  | _ => False
def an_obj (rl nx : Nat) : an_S := fun L st X K => match st with
  | .ref _ :: r => am_if (Nat.ble (am_cats r + 12) rl) (K nx L r X)
  | _ => False
def an_callI (ci n : Nat) (T : an_T) (mc ms mc' ms' nx : Nat) : an_S := fun L st X K => match X with
  | (E, kc, kn, M) => match st.drop n with
    | .ref q :: r => am_if (an_isO E ci q && (Nat.beq (st.take n).length n && (Nat.ble (am_cats r) 8 && (Nat.ble (kc + mc') mc && (Nat.ble (kn + ms') ms && (L.all (fun q => an_rk E q.2) && r.all (an_rk E))))))) (T E (.ref q :: (st.take n).reverse) M (fun v E2 M2 => K nx L (v.toList ++ r) (E2, kc + mc', kn + ms', M2)))
    | _ => False
def an_retV (Ret : an_R) : an_S := fun _ st X _ => match X with
  | (E, _, _, M) => match st with
    | [] => Ret none E M
    | _ => False
def an_retI (Ret : an_R) : an_S := fun _ st X _ => match X with
  | (E, _, _, M) => match st with
    | [.int v] => Ret (some (.int v)) E M
    | _ => False
theorem an_isO_spec {E : am_E} {ci n : Nat} (h : an_isO E ci n = true) : E.1 n = true ∧ am_sh n = .inl ci := by
  unfold an_isO at h
  rw [Bool.and_eq_true] at h
  exact ⟨h.1, an_shO_spec h.2⟩
theorem an_ws_P {D : va_G} {cA : Nat → ClassId} {al : Nat → Nat} {B : Nat} {E E' : am_E} {M M' : am_M} {H H1 : Heap} {d k : Nat} {e : va_E} (h : am_P D cA al B E M H) (hE : E'.1 = E.1) (hk : (am_wl E)[k]? = some d) (hP1 : va_P D am_cl ((am_ws0 cA al E M).set k (al d, e)) H1) (he : am_ce E'.2 cA al M' d = e) (ho : ∀ m, m ≠ d → am_ce E'.2 cA al M' m = am_ce E.2 cA al M m) : am_P D cA al B E' M' H1 := by
  unfold am_P
  rw [hE]
  refine ⟨fun n hn => ?_, h.2⟩
  obtain ⟨j, hj⟩ := am_wl_at hn (h.2.2.2 n hn)
  have hlt : j < (am_ws0 cA al E M).length := by
    unfold am_ws0
    rw [List.length_map]
    exact (List.getElem?_eq_some_iff.mp hj).1
  by_cases hd : n = d
  · subst hd
    have hjk := am_wl_inj hj hk
    subst hjk
    have := hP1 j (al n, e) (by rw [List.getElem?_set_self hlt])
    rw [he]
    exact this
  · have hjk : k ≠ j := fun q => by
      subst q
      rw [hj] at hk
      exact hd (Option.some.inj hk)
    rw [ho n hd]
    exact hP1 j _ (by rw [List.getElem?_set_ne hjk]; exact am_ws0_at hj)
theorem an_map_set {N k : Nat} (f g : Nat → Value) (h : ∀ j, j ≠ k → g j = f j) : (List.range N).map g = ((List.range N).map f).set k (g k) := by
  apply List.ext_getElem?
  intro j
  rw [List.getElem?_set]
  by_cases e : k = j
  · subst e
    rw [if_pos rfl]
    by_cases hlt : k < N
    · rw [if_pos (by rw [List.length_map, List.length_range]; exact hlt), List.getElem?_map, List.getElem?_range hlt]
      rfl
    · rw [if_neg (by rw [List.length_map, List.length_range]; exact hlt), List.getElem?_map, List.getElem?_eq_none (by rw [List.length_range]; omega)]
      rfl
  · rw [if_neg e, List.getElem?_map, List.getElem?_map]
    by_cases hlt : j < N
    · rw [List.getElem?_range hlt]
      exact congrArg some (h j (fun z => e z.symm))
    · rw [List.getElem?_eq_none (by rw [List.length_range]; omega)]
      rfl
theorem an_rE_n (E : am_E) (n k v : Nat) : (an_rE E n k v).2 n k = some v := by
  show (match Nat.beq n n && Nat.beq k k with | true => some v | false => E.2 n k) = _
  rw [an_beq, an_beq]
  rfl
theorem an_rE_k (E : am_E) (n v : Nat) {k j : Nat} (h : j ≠ k) : (an_rE E n k v).2 n j = E.2 n j := by
  show (match Nat.beq n n && Nat.beq j k with | true => some v | false => E.2 n j) = _
  rw [an_bne h, Bool.and_false]
theorem an_rE_o (E : am_E) (k v j : Nat) {n m : Nat} (h : m ≠ n) : (an_rE E n k v).2 m j = E.2 m j := by
  show (match Nat.beq m n && Nat.beq j k with | true => some v | false => E.2 m j) = _
  rw [an_bne h, Bool.false_and]
theorem an_rI {live0 E : am_E} {n k v : Nat} (h : an_I live0 E) (hv : E.1 v = true) : an_I live0 (an_rE E n k v) := by
  refine ⟨h.1, fun a j r ha hr => ?_⟩
  by_cases e : a = n
  · subst e
    by_cases e2 : j = k
    · subst e2
      rw [an_rE_n] at hr
      cases hr
      exact hv
    · rw [an_rE_k E a v e2] at hr
      exact h.2 a j r ha hr
  · rw [an_rE_o E k v j e] at hr
    exact h.2 a j r ha hr
section ANR
variable {own : String} {cc : ByteArray} {nL : Nat} {rt : Option FieldType} {rf rl mc ms : Nat} {ini : Bool} {Pp : State → (Nat → Nat) → Nat → Prop} {Ret : an_R} {pc nx : Nat}
theorem nk_new {ci N idx : Nat} {C : String} {T : u_T} {f : am_L → Nat} {ty : Nat → FieldType} (hc : am_cl[ci]? = some (C, T, N)) (hin : ∀ w ∈ u_ws C T N, w ∈ am_ws) (hty : ∀ k, k < N → parseFieldDescriptor (T k).2.2.1 = some (ty k)) (hnf : am_nf ci = N) (hz : ∀ j, j < N → defaultValue (ty j) = an_z ci j)
    (hw : ∀ w ∈ ([.classLink own idx C, .instantiable C N, .initialized C] : List Cond), w ∈ am_ws) (hd : decode cc pc = .ok (.new idx, 3)) (hn : pc + 3 = nx) : an_ok own cc nL rt rf rl mc ms ini Pp Ret pc (an_new ci N f mc ms nx) := by
  subst hn
  intro p l e R Q s m args below meth c D cA al0 B live0 hC hR hQ hni hPp L st X K hK h al hal hI hcc hcn H locs ls hP hS hl
  obtain ⟨E, kc, kn, M⟩ := X
  obtain ⟨hbb, h⟩ := am_if_mp h
  rw [Bool.and_eq_true] at hbb
  obtain ⟨f1, f2, f3, f4, f5, f6⟩ := an_fr_spec hbb.1
  have hsh := an_shO_spec hbb.2
  generalize f L = n at h f1 f2 hsh
  obtain ⟨hx, hb, hml, hown, hts, hlk, hr, hKK, hB, hZ, hN⟩ := hC.al (al := al) (fun q hq => hal q (Or.inr hq))
  obtain ⟨w1, w2⟩ := am_P_ws hP
  refine va_new (ci := ci) (fs := (List.range N).map (an_z ci)) (C := C) (T := T) (N := N) hx hb hts hin ty hty hown (hts _ (hw _ (by simp))) (hts _ (hw _ (by simp))) (hts _ (hw _ (by simp))) hKK w1 w2 hS (fun q hq => Nat.le_trans hB hq) hc (fun j hj => by rw [am_V _ hj]; exact hz j hj) (by rw [hR.2.2.1]; exact f3) (by rw [hR.2.2.2]; exact f4) hd (fun q H1 hP1 hD1 hS1 => ?_)
  have hP2 := an_born hP hI.2 f1 f2 hP1 hD1 (by
    rw [am_ceF hsh, hnf]
    exact congrArg (fun z => Sum.inr (ci, List.map z (List.range N))) (funext fun k => an_fv_new E M _ n ci k))
  have hup := an_up_old (E := E) (al := al) (q := q) f1 f2
  have hg := hK _ _ _ _ h (an_up al n q) (hal.up hI.1 f1 f2) (an_bI hI) (by rw [hR.2.2.1]; exact f3) (by rw [hR.2.2.2]; exact f4) H1 locs ls hP2 hS1 (by rw [an_lc_cv hup f5]; exact hl)
  rw [List.map_cons, an_st_cv hup f6, show am_cv (an_up al n q) (.ref n) = .ref q from congrArg Value.ref (if_pos rfl)] at hg
  exact hg
theorem an_ae_new (E : am_E) (M : am_M) (al : Nat → Nat) (n t : Nat) : am_ae (an_bE E n).2 al (an_bM M n) n t = (match am_tk t with | 0 => .inl (fun _ => 0) | 1 => .inr (.inl (fun _ => 0)) | _ => .inr (.inr (.inr (.inr (fun _ => none))))) := by
  unfold am_ae
  rw [show (an_bM M n).1 n = fun _ => 0 from funext (an_bM_1n M n), show (an_bM M n).2 n = fun _ => 0 from funext (an_bM_2n M n), show (fun k => ((an_bE E n).2 n k).map al) = fun _ => none from funext (fun k => by rw [an_bE_2n]; rfl)]
  rfl
theorem nk_newa {t len : Nat} {atype : ArrayType} {ty : FieldType} {f : am_L → Nat} (hty : newarray.typeOf atype = ty) (ht : ∀ cA : Nat → ClassId, (am_tys cA)[t]? = some (cA t, ty)) (hno : ∀ C, ty ≠ .object C) (hcell : ∀ cA : ClassId, vp_cell cA (len, (match am_tk t with | 0 => .inl (fun _ => 0) | 1 => .inr (.inl (fun _ => 0)) | _ => .inr (.inr (.inr (.inr (fun _ => none)))))) = arrV cA len (fun _ => defaultValue ty))
    (hw : Cond.arrayClass (newarray.typeOf atype) ∈ am_ws) (hby : componentBytes ty ≤ 8) (hd : decode cc pc = .ok (.newarray atype, 2)) (hn : pc + 2 = nx) : an_ok own cc nL rt rf rl mc ms ini Pp Ret pc (an_newa t len f mc ms nx) := by
  subst hn
  intro p l e R Q s m args below meth c D cA al0 B live0 hC hR hQ hni hPp L st X K hK h al hal hI hcc hcn H locs ls hP hS hl
  obtain ⟨E, kc, kn, M⟩ := X
  unfold an_newa at h
  dsimp only at h
  split at h
  · next x r =>
    obtain ⟨hbb, hxx, h⟩ := am_if_mp h
    rw [Bool.and_eq_true, Bool.and_eq_true] at hbb
    obtain ⟨f1, f2, f3, f4, f5, f6⟩ := an_fr_spec hbb.1
    have hsh := an_shA_spec hbb.2.1
    have hlen : len < 100000 := Nat.le_of_ble_eq_true hbb.2.2
    generalize f L = n at h f1 f2 hsh
    obtain ⟨hx, hb, hml, hown, hts, hlk, hr, hKK, hB, hZ, hN⟩ := hC.al (al := al) (fun q hq => hal q (Or.inr hq))
    obtain ⟨w1, w2⟩ := am_P_ws hP
    have e1 : x.toInt = (len : Int) := by rw [hxx]; exact Int32.toInt_ofNat_small (by omega)
    have e2 : x.toNatClampNeg = len := by
      show x.toInt.toNat = len
      omega
    refine va_newa (ty := ty) (N' := len) (a0 := (len, (match am_tk t with | 0 => .inl (fun _ => 0) | 1 => .inr (.inl (fun _ => 0)) | _ => .inr (.inr (.inr (.inr (fun _ => none))))))) hx hb (hts _ hw) hty hKK w1 w2 hS (fun q hq => Nat.le_trans hB hq) hcell (fun z => by rw [Int32.lt_iff_toInt_lt, Int32.toInt_zero] at z; omega) e2 (Nat.le_trans (Nat.mul_le_mul (Nat.le_of_lt hlen) hby) (by decide)) (by rw [hR.2.2.1]; exact f3) (by rw [hR.2.2.2]; exact f4) hd (fun q cA' H1 hK1 hP1 hD1 hS1 => ?_)
    have a1 := (hKK.2 t _ (ht cA)).2
    have a2 := (hK1.2 (am_tys cA).length (cA', ty) (by rw [List.getElem?_append_right (Nat.le_refl _), Nat.sub_self]; rfl)).2
    have e3 : cA' = cA t := by
      cases ty with
      | object C => exact absurd rfl (hno C)
      | _ => exact Option.some.inj (a2.symm.trans a1)
    subst e3
    have hP2 := an_born hP hI.2 f1 f2 hP1 hD1 (by rw [am_ceA hsh, an_ae_new])
    have hup := an_up_old (E := E) (al := al) (q := q) f1 f2
    have hg := hK _ _ _ _ h (an_up al n q) (hal.up hI.1 f1 f2) (an_bI hI) (by rw [hR.2.2.1]; exact f3) (by rw [hR.2.2.2]; exact f4) H1 locs ls hP2 hS1 (by rw [an_lc_cv hup f5]; exact hl)
    rw [List.map_cons, an_st_cv hup f6, show am_cv (an_up al n q) (.ref n) = .ref q from congrArg Value.ref (if_pos rfl)] at hg
    exact hg
  · exact h.elim
theorem nk_newq {t len idx : Nat} {C : String} {f : am_L → Nat} (ht : ∀ cA : Nat → ClassId, (am_tys cA)[t]? = some (cA t, .object C)) (htk : am_tk t = 2) (hov : C ∈ am_over) (hw : Cond.classLink own idx C ∈ am_ws) (hd : decode cc pc = .ok (.anewarray idx, 3)) (hn : pc + 3 = nx) : an_ok own cc nL rt rf rl mc ms ini Pp Ret pc (an_newa t len f mc ms nx) := by
  subst hn
  intro p l e R Q s m args below meth c D cA al0 B live0 hC hR hQ hni hPp L st X K hK h al hal hI hcc hcn H locs ls hP hS hl
  obtain ⟨E, kc, kn, M⟩ := X
  unfold an_newa at h
  dsimp only at h
  split at h
  · next x r =>
    obtain ⟨hbb, hxx, h⟩ := am_if_mp h
    rw [Bool.and_eq_true, Bool.and_eq_true] at hbb
    obtain ⟨f1, f2, f3, f4, f5, f6⟩ := an_fr_spec hbb.1
    have hsh := an_shA_spec hbb.2.1
    have hlen : len < 100000 := Nat.le_of_ble_eq_true hbb.2.2
    generalize f L = n at h f1 f2 hsh
    obtain ⟨hx, hb, hml, hown, hts, hlk, hr, hKK, hB, hZ, hN⟩ := hC.al (al := al) (fun q hq => hal q (Or.inr hq))
    obtain ⟨w1, w2⟩ := am_P_ws hP
    have e1 : x.toInt = (len : Int) := by rw [hxx]; exact Int32.toInt_ofNat_small (by omega)
    have e2 : x.toNatClampNeg = len := by
      show x.toInt.toNat = len
      omega
    refine va_newq (C := C) (N' := len) hx hb hown (hts _ hw) (hN.2.2 C hov) hKK w1 w2 hS (fun q hq => Nat.le_trans hB hq) (fun z => by rw [Int32.lt_iff_toInt_lt, Int32.toInt_zero] at z; omega) e2 (by omega) (by rw [hR.2.2.1]; exact f3) (by rw [hR.2.2.2]; exact f4) hd (fun q cA' H1 hK1 hP1 hD1 hS1 => ?_)
    obtain ⟨_, _, -, -, -, a1⟩ := (hKK.2 t _ (ht cA)).2
    obtain ⟨_, _, -, -, -, a2⟩ := (hK1.2 (am_tys cA).length (cA', .object C) (by rw [List.getElem?_append_right (Nat.le_refl _), Nat.sub_self]; rfl)).2
    have e3 : cA' = cA t := Option.some.inj (a2.symm.trans a1)
    subst e3
    have hP2 := an_born hP hI.2 f1 f2 hP1 hD1 (by rw [am_ceA hsh, an_ae_new, htk] <;> rfl)
    have hup := an_up_old (E := E) (al := al) (q := q) f1 f2
    have hg := hK _ _ _ _ h (an_up al n q) (hal.up hI.1 f1 f2) (an_bI hI) (by rw [hR.2.2.1]; exact f3) (by rw [hR.2.2.2]; exact f4) H1 locs ls hP2 hS1 (by rw [an_lc_cv hup f5]; exact hl)
    rw [List.map_cons, an_st_cv hup f6, show am_cv (an_up al n q) (.ref n) = .ref q from congrArg Value.ref (if_pos rfl)] at hg
    exact hg
  · exact h.elim
theorem nk_putFI {ci k N idx : Nat} {C : String} {T : u_T} {ty0 : Nat → FieldType} (hc : am_cl[ci]? = some (C, T, N)) (hin : ∀ w ∈ u_ws C T N, w ∈ am_ws) (hty : ∀ k, k < N → parseFieldDescriptor (T k).2.2.1 = some (ty0 k)) (hnm : ∀ a, a < N → ∀ b, b < N → a ≠ b → (T a).2.1 ≠ (T b).2.1) (hk : k < N) (hnf : am_nf ci = N) (hft : am_ft ci k = 0) (hdc : (T k).1 = C) (hco : C = own) (hfin : (T k).2.2.2 = true) (hd0 : parseFieldDescriptor (T k).2.2.1 = some .int) (hini : ini = true) (hw : Cond.fieldLink own idx C (T k).2.1 (T k).2.2.1 ∈ am_ws) (hd : decode cc pc = .ok (.putfield idx, 3)) (hn : pc + 3 = nx) : an_ok own cc nL rt rf rl mc ms ini Pp Ret pc (an_putFI ci k nx) := by
  subst hn
  intro p l e R Q s m args below meth c D cA al0 B live0 hC hR hQ hni hPp L st X K hK h al hal hI hcc hcn H locs ls hP hS hl
  obtain ⟨E, kc, kn, M⟩ := X
  unfold an_putFI at h
  dsimp only at h
  split at h
  · next v n r =>
    obtain ⟨hbb, h⟩ := am_if_mp h
    obtain ⟨hlv, hsh⟩ := an_isO_spec hbb
    obtain ⟨hx, hb, hml, hown, hts, hlk, hr, hKK, hB, hZ, hN⟩ := hC.al (al := al) (fun q hq => hal q (Or.inr hq))
    obtain ⟨w1, w2⟩ := am_P_ws hP
    obtain ⟨k0, hk0⟩ := am_wl_at hlv (hP.2.2.2 n hlv)
    have he := am_ws0_at (cA := cA) (al := al) (M := M) hk0
    rw [am_ceF hsh] at he
    refine va_putF (ci := ci) (C := C) (T := T) (N := N) (v := .int v) hx hb hts hin ty0 hty hnm hown hKK w1 w2 hS k0 he hc k hk (hts _ hw) (fun x hx => by rw [hdc] at hx; exact hx) hfin (hni hini) (by rw [hdc, hco]) hd0 rfl rfl (by rw [List.length_map, List.length_range, hnf]; exact hk) hd (fun H1 locs1 hP1 hD1 hS1 => ?_)
    have hP2 : am_P D cA al B E (am_wI M n k v) H1 := an_ws_P hP rfl hk0 hP1 (by
      rw [am_ceF hsh]
      refine congrArg (fun z => Sum.inr (ci, z)) ?_
      have e1 : Value.int v = am_fv E.2 al (am_wI M n k v) n ci k := by
        rw [am_fv0 hft]
        exact congrArg Value.int (by rw [am_wI_1, if_pos ⟨rfl, rfl⟩])
      rw [e1]
      refine an_map_set _ _ (fun j hj => ?_)
      unfold am_fv
      rw [am_wI_1, if_neg (fun z => hj z.2)]
      rfl) (fun q hq => an_ce_cg (fun j => by rw [am_wI_1, if_neg (fun z => hq z.1)]) (fun _ => rfl) (fun _ => rfl))
    exact hK _ _ _ _ h al hal hI hcc hcn H1 locs1 ls hP2 hS1 hl
  · exact h.elim
theorem nk_putFR {ci k N idx : Nat} {C C2 : String} {T : u_T} {ty0 : Nat → FieldType} {ty : FieldType} (hc : am_cl[ci]? = some (C, T, N)) (hin : ∀ w ∈ u_ws C T N, w ∈ am_ws) (hty : ∀ k, k < N → parseFieldDescriptor (T k).2.2.1 = some (ty0 k)) (hnm : ∀ a, a < N → ∀ b, b < N → a ≠ b → (T a).2.1 ≠ (T b).2.1) (hk : k < N) (hnf : am_nf ci = N) (hft : am_ft ci k = 2) (hdc : (T k).1 = C) (hco : C = own) (hfin : (T k).2.2.2 = true) (hd0 : parseFieldDescriptor (T k).2.2.1 = some ty) (hnr : ∀ a : Nat, narrow ty (.ref a) = .ref a ∧ fits ty (.ref a) = true) (hini : ini = true) (hw : Cond.fieldLink own idx C (T k).2.1 (T k).2.2.1 ∈ am_ws) (hd : decode cc pc = .ok (.putfield idx, 3)) (hn : pc + 3 = nx) : an_ok own cc nL rt rf rl mc ms ini Pp Ret pc (an_putFR ci k nx) := by
  subst hn
  intro p l e R Q s m args below meth c D cA al0 B live0 hC hR hQ hni hPp L st X K hK h al hal hI hcc hcn H locs ls hP hS hl
  obtain ⟨E, kc, kn, M⟩ := X
  unfold an_putFR at h
  dsimp only at h
  split at h
  · next v n r =>
    obtain ⟨hbb, h⟩ := am_if_mp h
    rw [Bool.and_eq_true] at hbb
    obtain ⟨hlv, hsh⟩ := an_isO_spec hbb.1
    obtain ⟨hx, hb, hml, hown, hts, hlk, hr, hKK, hB, hZ, hN⟩ := hC.al (al := al) (fun q hq => hal q (Or.inr hq))
    obtain ⟨w1, w2⟩ := am_P_ws hP
    obtain ⟨k0, hk0⟩ := am_wl_at hlv (hP.2.2.2 n hlv)
    have he := am_ws0_at (cA := cA) (al := al) (M := M) hk0
    rw [am_ceF hsh] at he
    refine va_putF (ci := ci) (C := C) (T := T) (N := N) (v := .ref (al v)) hx hb hts hin ty0 hty hnm hown hKK w1 w2 hS k0 he hc k hk (hts _ hw) (fun x hx => by rw [hdc] at hx; exact hx) hfin (hni hini) (by rw [hdc, hco]) hd0 (hnr _).1 (hnr _).2 (by rw [List.length_map, List.length_range, hnf]; exact hk) hd (fun H1 locs1 hP1 hD1 hS1 => ?_)
    have hP2 : am_P D cA al B (an_rE E n k v) M H1 := an_ws_P hP rfl hk0 hP1 (by
      rw [am_ceF hsh]
      refine congrArg (fun z => Sum.inr (ci, z)) ?_
      have e1 : Value.ref (al v) = am_fv (an_rE E n k v).2 al M n ci k := by
        rw [am_fv2 hft, an_rE_n]
        rfl
      rw [e1]
      refine an_map_set _ _ (fun j hj => ?_)
      unfold am_fv
      rw [an_rE_k E n v hj]) (fun q hq => an_ce_cg (fun _ => rfl) (fun _ => rfl) (fun j => by rw [an_rE_o E k v j hq]))
    exact hK _ _ _ _ h al hal (an_rI hI hbb.2) hcc hcn H1 locs1 ls hP2 hS1 hl
  · exact h.elim
theorem nk_astR {t ci : Nat} {r0 : vw_C} (ht : ∀ cA : Nat → ClassId, (am_tys cA)[t]? = some (cA t, .object r0.1)) (htk : am_tk t = 2) (hc : am_cl[ci]? = some r0) (hd : decode cc pc = .ok (.aastore, 1)) (hn : pc + 1 = nx) : an_ok own cc nL rt rf rl mc ms ini Pp Ret pc (an_astR t ci nx) := by
  subst hn
  intro p l e R Q s m args below meth c D cA al0 B live0 hC hR hQ hni hPp L st X K hK h al hal hI hcc hcn H locs ls hP hS hl
  obtain ⟨E, kc, kn, M⟩ := X
  unfold an_astR at h
  dsimp only at h
  split at h
  · next v j n r =>
    obtain ⟨hbb, hj, h⟩ := am_if_mp h
    rw [Bool.and_eq_true] at hbb
    obtain ⟨hlv, hsh⟩ := am_isA_spec hbb.1
    obtain ⟨hlo, hso⟩ := an_isO_spec hbb.2
    obtain ⟨hx, hb, hml, hown, hts, hlk, hr, hKK, hB, hZ, hN⟩ := hC.al (al := al) (fun q hq => hal q (Or.inr hq))
    obtain ⟨w1, w2⟩ := am_P_ws hP
    obtain ⟨k0, hk0⟩ := am_wl_at hlv (hP.2.2.2 n hlv)
    obtain ⟨k1, hk1⟩ := am_wl_at hlo (hP.2.2.2 v hlo)
    have he := am_ws0_at (cA := cA) (al := al) (M := M) hk0
    have he1 := am_ws0_at (cA := cA) (al := al) (M := M) hk1
    rw [am_ceA hsh, am_ae2 htk] at he
    rw [am_ceF hso] at he1
    refine va_astq hx hb hKK w1 w2 hS k0 t k1 ci he (ht cA) he1 hc (am_in_vp hj) hd (fun H1 locs1 hP1 hD1 hS1 => ?_)
    have hP2 : am_P D cA al B (an_rE E n j.toNatClampNeg v) M H1 := an_ws_P hP rfl hk0 hP1 (by
      rw [am_ceA hsh, am_ae2 htk]
      refine congrArg (fun z => Sum.inl (cA t, am_len n, Sum.inr (Sum.inr (Sum.inr (Sum.inr z))))) ?_
      funext q
      by_cases e : q = j.toNatClampNeg
      · subst e
        rw [an_rE_n]
        simp [va_up]
      · rw [an_rE_k E n v e]
        simp [va_up, e]) (fun q hq => an_ce_cg (fun _ => rfl) (fun _ => rfl) (fun i => by rw [an_rE_o E j.toNatClampNeg v i hq]))
    exact hK _ _ _ _ h al hal (an_rI hI hlo) hcc hcn H1 locs1 ls hP2 hS1 hl
  · exact h.elim
theorem nk_aldN {t : Nat} {C : String} (ht : ∀ cA : Nat → ClassId, (am_tys cA)[t]? = some (cA t, .object C)) (htk : am_tk t = 2) (hd : decode cc pc = .ok (.aaload, 1)) (hn : pc + 1 = nx) : an_ok own cc nL rt rf rl mc ms ini Pp Ret pc (an_aldN t nx) := by
  subst hn
  intro p l e R Q s m args below meth c D cA al0 B live0 hC hR hQ hni hPp L st X K hK h al hal hI hcc hcn H locs ls hP hS hl
  obtain ⟨E, kc, kn, M⟩ := X
  unfold an_aldN at h
  dsimp only at h
  split at h
  · next j n r =>
    obtain ⟨hbb, hj, h⟩ := am_if_mp h
    obtain ⟨hlv, hsh⟩ := am_isA_spec hbb
    obtain ⟨hx, hb, hml, hown, hts, hlk, hr, hKK, hB, hZ, hN⟩ := hC.al (al := al) (fun q hq => hal q (Or.inr hq))
    obtain ⟨w1, w2⟩ := am_P_ws hP
    obtain ⟨k0, hk0⟩ := am_wl_at hlv (hP.2.2.2 n hlv)
    have he := am_ws0_at (cA := cA) (al := al) (M := M) hk0
    rw [am_ceA hsh, am_ae2 htk] at he
    refine va_aldq hx hb hKK w1 k0 t he (ht cA) (am_in_vp hj) hd ?_
    have hg := hK _ _ _ _ h al hal hI hcc hcn H locs ls hP hS hl
    cases ho : E.2 n j.toNatClampNeg with
    | none => rw [ho] at hg; exact hg
    | some q => rw [ho] at hg; exact hg
  · exact h.elim
theorem nk_ifnn {off : Int} {tg : Nat} (hd : decode cc pc = .ok (.ifnonnull off, 3)) (ht : (pc : Int) + off = (tg : Int)) (hn : pc + 3 = nx) : an_ok own cc nL rt rf rl mc ms ini Pp Ret pc (an_ifnn tg nx) := by
  subst hn
  intro p l e R Q s m args below meth c D cA al0 B live0 hC hR hQ hni hPp L st X K hK h al hal hI hcc hcn H locs ls hP hS hl
  obtain ⟨E, kc, kn, M⟩ := X
  unfold an_ifnn at h
  split at h
  · exact lv_ifnonnull hC.1 hC.2.1 hd ht (hK _ _ _ _ h al hal hI hcc hcn H locs ls hP hS hl)
  · exact lv_ifnonnullN hC.1 hC.2.1 hd (hK _ _ _ _ h al hal hI hcc hcn H locs ls hP hS hl)
  · exact h.elim
theorem nk_obj {idx : Nat} (hw : ∀ w ∈ ([.methodLink own idx objectInit, .instanceMethod objectInit, .code objectInit ⟨#[0xb1]⟩ 1 none] : List Cond), w ∈ am_ws) (hrf : 1 ≤ rf) (hd : decode cc pc = .ok (.invokespecial idx, 3)) (hn : pc + 3 = nx) : an_ok own cc nL rt rf rl mc ms ini Pp Ret pc (an_obj rl nx) := by
  subst hn
  intro p l e R Q s m args below meth c D cA al0 B live0 hC hR hQ hni hPp L st X K hK h al hal hI hcc hcn H locs ls hP hS hl
  obtain ⟨E, kc, kn, M⟩ := X
  unfold an_obj at h
  split at h
  · next q r =>
    obtain ⟨hbb, h⟩ := am_if_mp h
    have hle := Nat.le_of_ble_eq_true hbb
    obtain ⟨hx, hb, hml, hown, hts, hlk, hr, hKK, hB, hZ, hN⟩ := hC.al (al := al) (fun q hq => hal q (Or.inr hq))
    refine W.objInit hx hb hown (hts _ (hw _ (by simp))) (hts _ (hw _ (by simp))) (hts _ (hw _ (by simp))) rfl (by rw [hml]; exact hl.1) rfl hd (Nat.le_trans hrf hR.1) (by
      show 2 * 0 + ((r.map (am_cv al)).map fun v => v.category).sum + 12 ≤ R.locals
      rw [am_cats_cv]
      have := hR.2.1
      omega) ?_
    exact hK _ _ _ _ h al hal hI hcc hcn H locs ls hP hS hl
  · exact h.elim
theorem nk_retV (hd : decode cc pc = .ok (.return_, 1)) : an_ok own cc nL none rf rl mc ms ini Pp Ret pc (an_retV Ret) := by
  intro p l e R Q s m args below meth c D cA al0 B live0 hC hR hQ hni hPp L st X K hK h al hal hI hcc hcn H locs ls hP hS hl
  obtain ⟨E, kc, kn, M⟩ := X
  unfold an_retV at h
  dsimp only at h
  split at h
  · rcases hQ with rfl | hno
    · refine W.widen (k := mc) (n := ms) (by rw [← hR.2.2.1]; exact hcc) (by rw [← hR.2.2.2]; exact hcn) ?_
      exact W.vret hC.1 hC.2.1 hC.2.2.2.2.2.2.1 (fun t ht hW => ⟨none, E, M, al, hal, hI, h, rfl, by rw [ht]; exact hP, hS.F ht⟩) hS.2.2 hd (hlocks := hC.2.2.2.2.2.1)
    · exact absurd h (hno _ _ _)
  · exact h.elim
theorem nk_retI (hd : decode cc pc = .ok (.ireturn, 1)) : an_ok own cc nL (some .int) rf rl mc ms ini Pp Ret pc (an_retI Ret) := by
  intro p l e R Q s m args below meth c D cA al0 B live0 hC hR hQ hni hPp L st X K hK h al hal hI hcc hcn H locs ls hP hS hl
  obtain ⟨E, kc, kn, M⟩ := X
  unfold an_retI at h
  dsimp only at h
  split at h
  · next v =>
    rcases hQ with rfl | hno
    · refine W.widen (k := mc) (n := ms) (by rw [← hR.2.2.1]; exact hcc) (by rw [← hR.2.2.2]; exact hcn) ?_
      exact W.iret hC.1 hC.2.1 hC.2.2.2.2.2.2.1 (fun t ht hW => ⟨some (.int v), E, M, al, hal, hI, h, rfl, by rw [ht]; exact hP, hS.F ht⟩) hS.2.2 hd (hlocks := hC.2.2.2.2.2.1)
    · exact absurd h (hno _ _ _)
  · exact h.elim
/-- behind a call that may give birth -/
theorem an_after {p : Program} {l : Launch} {e : Env} {R : Room} {Q : State → Prop} {s : State} {m : MethodId} {args a : Array Value} {below : List Frame} {meth : Method} {c : Code} {H : Heap} {locs : List Loc} {ls : Array Slot} {D : va_G} {cA : Nat → ClassId} {al0 al : Nat → Nat} {B : Nat} {live0 : am_E} {L : am_L} {st0 : List Value} {rest : List Value} {K : an_K} {R2 : an_R} {X : am_X} {mc' ms' : Nat}
    (hr : va_Run p l e R s m args below meth c H locs X.2.1 X.2.2.1 mc' ms' (F0 m pc ls st0) (rest.map (am_cv al)) (an_Qc D cA al B X.1 R2 a) (fun q => B ≤ q)) (hal : an_agree live0 al0 al) (hI : an_I live0 X.1) (hcc : X.2.1 + mc' ≤ R.cells) (hcn : X.2.2.1 + ms' ≤ R.slots) (hS : va_S (fun q => B ≤ q) s.heap H locs) (hl : lv_has ls nL (am_lc al L)) (hL : L.all (fun q => an_rk X.1 q.2) = true) (hst : rest.all (an_rk X.1) = true)
    (hKK : ∀ pc' L' st' X', K pc' L' st' X' → an_W p l e R Q s m args below meth c D cA al0 B live0 nL pc' L' st' X') (hR2 : ∀ v E M, R2 v E M → K (pc + 3) L (v.toList ++ rest) (E, X.2.1 + mc', X.2.2.1 + ms', M)) :
    W p l e R s m args below meth c H locs X.2.1 X.2.2.1 Q (F0 m pc ls st0) := by
  intro T hT Y
  obtain ⟨v, st₀, t, T', L2, h0, Y', hL2, e1, e2, ⟨r, E', M', al', ha', hI', hk, hv, hP', hz, hkp⟩, st⟩ := hr T hT Y
  have hv2 : v = r.map (am_cv al') := by injection hv
  subst hv2
  rw [h0] at hz hkp
  have hag : ∀ q, (X.1.1 q = true ∨ 1000 ≤ q) → al' q = al q := ha'
  obtain ⟨t2, a1, b1⟩ := hKK _ _ _ _ (hR2 r E' M' hk) al' (fun q hq => (hag q (hq.imp (hI.1 q) (fun z => z))).trans (hal q hq)) ⟨fun q hq => hI'.1 q (hI.1 q hq), hI'.2⟩ hcc hcn T'.heap (locs ++ L2) ls (by rw [e1]; exact hP')
    ⟨Nat.le_trans hS.1 (by rw [e1]; exact hz), fun q h1 h2 => by rw [e1, hkp q (Nat.lt_of_lt_of_le h1 hS.1) h2]; exact hS.2.1 q h1 h2, fun q hq => by
      rcases List.mem_append.mp hq with h | h
      · exact hS.2.2 q h
      · exact hL2 q h⟩ (by rw [an_lc_cv hag hL]; exact hl) T' rfl Y'
  refine ⟨t2, st t2 ?_, b1⟩
  rw [List.map_append, an_st_cv hag hst] at a1
  cases r with
  | none => exact a1
  | some w => exact a1
theorem an_pcU {p : Program} {s : State} {m : MethodId} {args : Array Value} {meth : Method} {c : Code} {D : va_G} {cA : Nat → ClassId} {al : Nat → Nat} {B : Nat} {H : Heap} {locs : List Loc} {E : am_E} {M : am_M} {as : List Value} (hC : am_C p s m args meth c D cA al B own cc nL rt) (hP : am_P D cA al B E M H) (hS : va_S (fun q => B ≤ q) s.heap H locs) :
    ∀ U : State, U.heap = H → s.WarmedH U.vm → am_Pc D cA al B E as M (as.map (am_cv al)).toArray U := am_pcU (rt := rt) hC hP hS
theorem an_call_spec {E : am_E} {ci q n mc mc' ms ms' k j : Nat} {st r : List Value} {L : am_L} (h : (an_isO E ci q && (Nat.beq (st.take n).length n && (Nat.ble (am_cats r) 8 && (Nat.ble (k + mc') mc && (Nat.ble (j + ms') ms && (L.all (fun q => an_rk E q.2) && r.all (an_rk E))))))) = true) : E.1 q = true ∧ am_sh q = .inl ci ∧ (st.take n).length = n ∧ am_cats r ≤ 8 ∧ k + mc' ≤ mc ∧ j + ms' ≤ ms ∧ L.all (fun q => an_rk E q.2) = true ∧ r.all (an_rk E) = true := by
  simp only [Bool.and_eq_true] at h
  obtain ⟨h1, h2, h3, h4, h5, h6, h7⟩ := h
  exact ⟨(an_isO_spec h1).1, (an_isO_spec h1).2, Nat.eq_of_beq_eq_true h2, Nat.le_of_ble_eq_true h3, Nat.le_of_ble_eq_true h4, Nat.le_of_ble_eq_true h5, h6, h7⟩
theorem an_stk {al : Nat → Nat} {st r : List Value} {q n : Nat} (hst : st.drop n = .ref q :: r) : st.map (am_cv al) = ((st.take n).reverse.map (am_cv al)).reverse ++ .ref (al q) :: r.map (am_cv al) := by
  rw [List.map_reverse, List.reverse_reverse]
  have e1 : st = st.take n ++ .ref q :: r := by rw [← hst]; exact (List.take_append_drop n st).symm
  conv => lhs; rw [e1]
  rw [List.map_append]
  rfl
theorem nk_callI {ci n idx maxL rf' rl' mc' ms' : Nat} {y : MethodName} {bytes : ByteArray} {T : an_T} (hM : an_Met y bytes maxL none rf' rl' mc' ms' T) (hy1 : y.name = "<init>") (hy : y.cls ≠ "java/lang/invoke/MethodHandle" ∧ y.cls ≠ "java/lang/invoke/VarHandle" ∧ (parseMethodDescriptor y.desc).map (fun d => d.parameters.length) = some n)
    (hw : ∀ w ∈ ([.initialized y.cls, .methodLink own idx y, .instanceMethod y, .code y bytes maxL none] : List Cond), w ∈ am_ws) (hfr : rf' + 1 ≤ rf ∧ 8 + (maxL + 11) + rl' ≤ rl) (hd : decode cc pc = .ok (.invokespecial idx, 3)) (hn : pc + 3 = nx) :
    an_ok own cc nL rt rf rl mc ms ini Pp Ret pc (an_callI ci n T mc ms mc' ms' nx) := by
  subst hn
  intro p l e R Q s m args below meth c D cA al0 B live0 hC hR hQ hni hPp L st X K hK h al hal hI hcc hcn H locs ls hP hS hl
  obtain ⟨E, kc, kn, M⟩ := X
  unfold an_callI at h
  dsimp only at h
  split at h
  · next q r hst =>
    obtain ⟨hbb, h⟩ := am_if_mp h
    obtain ⟨hlv, hsh, hln, hle, f3, f4, f5, f6⟩ := an_call_spec hbb
    have hC' := hC.al (al := al) (fun q hq => hal q (Or.inr hq))
    obtain ⟨hx, hb, hml, hown, hts, hlk, hr, hKK, hB, hZ, hN⟩ := id hC'
    have hG : GoodIn am_ws (.code y bytes maxL none :: am_ws) := am_good_all _ (fun w hh => by
      rcases List.mem_cons.mp hh with h2 | h2
      · exact hw w (by rw [h2]; simp)
      · exact h2) rfl
    have f3' : kc + mc' ≤ R.cells := by rw [hR.2.2.1]; exact f3
    have f4' : kn + ms' ≤ R.slots := by rw [hR.2.2.2]; exact f4
    have hrun := va_runI (p := p) (l := l) (e := e) (R := R) (s := s) (m := m) (args := args) (below := below) (meth := meth) (c := c) (H := H) (locs := locs) (cells := kc) (slots := kn) (g := F0 m pc ls (st.map (am_cv al))) (As := (st.take n).reverse.map (am_cv al)) (rest := r.map (am_cv al)) (b := al q)
      ⟨hx, hb, hml, hown, hts⟩ (hM l D cA al B E (.ref q :: (st.take n).reverse) M _ hI.2 h) (cwI n hts hG rfl rfl rfl (hts _ (hw _ (by simp))) (hts _ (hw _ (by simp))) (hts _ (hw _ (by simp))) hy1 hy ⟨Nat.le_trans hfr.1 hR.1, Nat.le_trans hfr.2 hR.2.1⟩) ⟨am_blind, am_pcU (rt := rt) hC' hP hS⟩ rfl (by rw [List.length_map, List.length_reverse]; exact hln) hl.1 (an_stk hst) (lv_room (by rw [am_cats_cv]; exact hle)) hd ⟨f3', f4'⟩
    exact an_after (X := (E, kc, kn, M)) hrun hal hI f3' f4' hS hl f5 f6 hK (fun v E2 M2 hk => hk)
  · exact h.elim
theorem nk_callIN {ci n idx maxL rf' rl' mc' ms' : Nat} {y : MethodName} {host : String} {bytes : ByteArray} {T : an_T} (hM : an_Met y bytes maxL none rf' rl' mc' ms' T) (hy1 : y.name = "<init>") (hy : y.cls ≠ "java/lang/invoke/MethodHandle" ∧ y.cls ≠ "java/lang/invoke/VarHandle" ∧ (parseMethodDescriptor y.desc).map (fun d => d.parameters.length) = some n)
    (hnest : (own, idx, y, host) ∈ am_nestM) (hw : ∀ w ∈ ([.initialized y.cls, .instanceMethod y, .code y bytes maxL none] : List Cond), w ∈ am_ws) (hfr : rf' + 1 ≤ rf ∧ 8 + (maxL + 11) + rl' ≤ rl) (hd : decode cc pc = .ok (.invokespecial idx, 3)) (hn : pc + 3 = nx) :
    an_ok own cc nL rt rf rl mc ms ini Pp Ret pc (an_callI ci n T mc ms mc' ms' nx) := by
  subst hn
  intro p l e R Q s m args below meth c D cA al0 B live0 hC hR hQ hni hPp L st X K hK h al hal hI hcc hcn H locs ls hP hS hl
  obtain ⟨E, kc, kn, M⟩ := X
  unfold an_callI at h
  dsimp only at h
  split at h
  · next q r hst =>
    obtain ⟨hbb, h⟩ := am_if_mp h
    obtain ⟨hlv, hsh, hln, hle, f3, f4, f5, f6⟩ := an_call_spec hbb
    have hC' := hC.al (al := al) (fun q hq => hal q (Or.inr hq))
    obtain ⟨hx, hb, hml, hown, hts, hlk, hr, hKK, hB, hZ, hN⟩ := id hC'
    have hG : GoodIn am_ws (.code y bytes maxL none :: am_ws) := am_good_all _ (fun w hh => by
      rcases List.mem_cons.mp hh with h2 | h2
      · exact hw w (by rw [h2]; simp)
      · exact h2) rfl
    have f3' : kc + mc' ≤ R.cells := by rw [hR.2.2.1]; exact f3
    have f4' : kn + ms' ≤ R.slots := by rw [hR.2.2.2]; exact f4
    have hrun := va_runIN (p := p) (l := l) (e := e) (R := R) (s := s) (m := m) (args := args) (below := below) (meth := meth) (c := c) (H := H) (locs := locs) (cells := kc) (slots := kn) (g := F0 m pc ls (st.map (am_cv al))) (As := (st.take n).reverse.map (am_cv al)) (rest := r.map (am_cv al)) (b := al q)
      ⟨hx, hb, hml, hown, hts⟩ (hM l D cA al B E (.ref q :: (st.take n).reverse) M _ hI.2 h) ⟨va_cnB n hts hG rfl rfl rfl (hN.2.1 _ hnest) (hts _ (hw _ (by simp))) hy ⟨Nat.le_trans hfr.1 hR.1, Nat.le_trans hfr.2 hR.2.1⟩, hy1, hts _ (hw _ (by simp))⟩ ⟨am_blind, am_pcU (rt := rt) hC' hP hS⟩ rfl (by rw [List.length_map, List.length_reverse]; exact hln) hl.1 (an_stk hst) (lv_room (by rw [am_cats_cv]; exact hle)) hd ⟨f3', f4'⟩
    exact an_after (X := (E, kc, kn, M)) hrun hal hI f3' f4' hS hl f5 f6 hK (fun v E2 M2 hk => hk)
  · exact h.elim
theorem nk_callV {ci n idx maxL rf' rl' mc' ms' N : Nat} {y : MethodName} {bytes : ByteArray} {ret' : Option FieldType} {C : String} {F : u_T} {T : an_T} (hM : an_Met y bytes maxL ret' rf' rl' mc' ms' T) (hc : am_cl[ci]? = some (C, F, N)) (hy : y.cls = C ∧ y.cls ≠ "java/lang/invoke/MethodHandle" ∧ y.cls ≠ "java/lang/invoke/VarHandle" ∧ (parseMethodDescriptor y.desc).map (fun d => d.parameters.length) = some n)
    (hw : ∀ w ∈ ([.methodLink own idx y, .instanceMethod y, .selects C y y, .initialized C, .code y bytes maxL ret'] : List Cond), w ∈ am_ws) (hfr : rf' + 1 ≤ rf ∧ 8 + (maxL + 11) + rl' ≤ rl) (hd : decode cc pc = .ok (.invokevirtual idx, 3)) (hn : pc + 3 = nx) :
    an_ok own cc nL rt rf rl mc ms ini Pp Ret pc (an_callI ci n T mc ms mc' ms' nx) := by
  subst hn
  intro p l e R Q s m args below meth c D cA al0 B live0 hC hR hQ hni hPp L st X K hK h al hal hI hcc hcn H locs ls hP hS hl
  obtain ⟨E, kc, kn, M⟩ := X
  unfold an_callI at h
  dsimp only at h
  split at h
  · next q r hst =>
    obtain ⟨hbb, h⟩ := am_if_mp h
    obtain ⟨hlv, hsh, hln, hle, f3, f4, f5, f6⟩ := an_call_spec hbb
    have hC' := hC.al (al := al) (fun q hq => hal q (Or.inr hq))
    obtain ⟨hx, hb, hml, hown, hts, hlk, hr, hKK, hB, hZ, hN⟩ := id hC'
    have hcell := hP.1 q hlv
    rw [am_ceF hsh] at hcell
    have hG : GoodIn am_ws (wsV own idx C y (.code y bytes maxL ret' :: am_ws)) := am_good_all _ (fun w hh => by
      rcases List.mem_append.mp hh with h1 | h1
      · exact hw w (by
          simp only [List.mem_cons, List.not_mem_nil, or_false] at h1 ⊢
          rcases h1 with h1 | h1 | h1 | h1
          · exact Or.inl h1
          · exact Or.inr (Or.inl h1)
          · exact Or.inr (Or.inr (Or.inl h1))
          · exact Or.inr (Or.inr (Or.inr (Or.inl h1))))
      · rcases List.mem_cons.mp h1 with h2 | h2
        · exact hw w (by rw [h2]; simp)
        · exact h2) rfl
    have f3' : kc + mc' ≤ R.cells := by rw [hR.2.2.1]; exact f3
    have f4' : kn + ms' ≤ R.slots := by rw [hR.2.2.2]; exact f4
    have hrun := va_runV (p := p) (l := l) (e := e) (R := R) (s := s) (m := m) (args := args) (below := below) (meth := meth) (c := c) (H := H) (locs := locs) (cells := kc) (slots := kn) (g := F0 m pc ls (st.map (am_cv al))) (As := (st.take n).reverse.map (am_cv al)) (rest := r.map (am_cv al)) (b := al q)
      ⟨hx, hb, hml, hown, hts⟩ (hM l D cA al B E (.ref q :: (st.take n).reverse) M _ hI.2 h) (cwV n hts hG rfl rfl rfl hy ⟨Nat.le_trans hfr.1 hR.1, Nat.le_trans hfr.2 hR.2.1⟩) ⟨am_blind, va_recv hKK (am_P1 hcell) (ci := ci) (q0 := 0) hc rfl, am_pcU (rt := rt) hC' hP hS⟩ rfl (by rw [List.length_map, List.length_reverse]; exact hln) hl.1 (an_stk hst) (lv_room (by rw [am_cats_cv]; exact hle)) hd ⟨f3', f4'⟩
    exact an_after (X := (E, kc, kn, M)) hrun hal hI f3' f4' hS hl f5 f6 hK (fun v E2 M2 hk => hk)
  · exact h.elim
end ANR
section ANS
variable {own : String} {cc : ByteArray} {nL : Nat} {rt : Option FieldType} {rf rl : Nat} {live : am_E} {Ret : am_R} {pc nx : Nat}
/-- a static method of another class -/
theorem ak_callSO {n idx maxL rf' rl' : Nat} {y : MethodName} {bytes : ByteArray} {ret' : Option FieldType} {T : am_T} (hM : am_Met y bytes maxL ret' rf' rl' T) (hy : y.cls ≠ "java/lang/invoke/MethodHandle" ∧ y.cls ≠ "java/lang/invoke/VarHandle" ∧ (parseMethodDescriptor y.desc).map (fun d => d.parameters.length) = some n)
    (hw : ∀ w ∈ ([.methodLink own idx y, .static y, .initialized y.cls, .code y bytes maxL ret'] : List Cond), w ∈ am_ws) (hfr : rf' + 1 ≤ rf ∧ 8 + (maxL + 11) + rl' ≤ rl) (hd : decode cc pc = .ok (.invokestatic idx, 3)) (hn : pc + 3 = nx) :
    am_ok own cc nL rt rf rl live Ret pc (am_callS live n T nx) := by
  subst hn
  intro p l e s m args below meth c D cA al B hC Y hY L st M K hKK h H locs ls hP hS hl
  unfold am_callS at h
  obtain ⟨hbb, h⟩ := am_if_mp h
  rw [Bool.and_eq_true] at hbb
  obtain ⟨hln, hle⟩ := hbb
  have hln := Nat.eq_of_beq_eq_true hln
  have hle := Nat.le_of_ble_eq_true hle
  have hstk : st.map (am_cv al) = ((st.take n).reverse.map (am_cv al)).reverse ++ (st.drop n).map (am_cv al) := by
    rw [List.map_reverse, List.reverse_reverse, ← List.map_append, List.take_append_drop]
  obtain ⟨hx, hb, hml, hown, hts, hlk, hr, hK, hB, hZ, hN⟩ := id hC
  have hG : GoodIn am_ws (.code y bytes maxL ret' :: am_ws) := am_good_all _ (fun w hh => by
    rcases List.mem_cons.mp hh with h2 | h2
    · exact hw w (by rw [h2]; simp)
    · exact h2) rfl
  have hrun := va_runS (p := p) (l := l) (e := e) (R := Y.1) (s := s) (m := m) (args := args) (below := below) (meth := meth) (c := c) (H := H) (locs := locs) (cells := Y.2.1) (slots := Y.2.2.1) (g := F0 m pc ls (st.map (am_cv al))) (As := (st.take n).reverse.map (am_cv al)) (rest := (st.drop n).map (am_cv al))
    ⟨hx, hb, hml, hown, hts⟩ (hM l D cA al B live (st.take n).reverse M _ h) ⟨callB_of n hts hG rfl rfl rfl (hts _ (hw _ (by simp))) (hts _ (hw _ (by simp))) hy (am_frm hY hfr), hts _ (hw _ (by simp))⟩ ⟨am_blind, am_pcU hC hP hS⟩ rfl (by rw [List.length_map, List.length_reverse]; exact hln) hl.1 hstk (lv_room (by rw [am_cats_cv]; exact hle)) hd ⟨hY.2.2.1, hY.2.2.2.1⟩
  exact am_after hrun hS hl hKK (fun v M' hk => hk)
end ANS
end
-- part 09d.dz.lean.txt
section
/-! decode, a method at a time: the bytes walked once -/
section DZ
variable {c : ByteArray} {pc b a d : Nat} {r bs : List Nat}
abbrev dz_r : Type := Nat × Instr × Nat
def dz_bs (c : ByteArray) (pc : Nat) (bs : List Nat) : Prop := (c.data.toList.drop pc).map UInt8.toNat = bs
theorem dz_hd (h : dz_bs c pc (b :: r)) : (Jvm.ClassFile.Reader.u1 : Jvm.ClassFile.Decoder Nat) c pc = .ok (b, pc + 1) := by
  unfold dz_bs at h
  have hlt : pc < c.data.toList.length := by
    rcases Nat.lt_or_ge pc c.data.toList.length with q | q
    · exact q
    · rw [List.drop_eq_nil_of_le q] at h
      cases h
  rw [List.drop_eq_getElem_cons hlt, List.map_cons] at h
  injection h with h1 h2
  have hs : pc < c.size := hlt
  show (dite (pc < c.size) (fun h => (do set (pc + 1); pure (c[pc]'h).toNat : Jvm.ClassFile.Decoder Nat)) (fun _ => throw (Jvm.ClassFile.HasTruncated.truncated pc))) c pc = _
  rw [dif_pos hs, ← h1]
  rfl
theorem dz_tl (h : dz_bs c pc (b :: r)) : dz_bs c (pc + 1) r := by
  unfold dz_bs at h ⊢
  rw [← List.tail_drop, List.map_tail, h]
  rfl
theorem dz_dr (n : Nat) (h : dz_bs c pc bs) : dz_bs c (pc + n) (bs.drop n) := by
  unfold dz_bs at h ⊢
  rw [← h, ← List.drop_drop, List.map_drop]
theorem dz_u2 (h : dz_bs c pc (a :: b :: r)) : (Jvm.ClassFile.Reader.u2 : Jvm.ClassFile.Decoder Nat) c pc = .ok (a * 256 + b, pc + 2) := by
  show Except.bind ((Jvm.ClassFile.Reader.u1 : Jvm.ClassFile.Decoder Nat) c pc) _ = _
  rw [dz_hd h]
  show Except.bind ((Jvm.ClassFile.Reader.u1 : Jvm.ClassFile.Decoder Nat) c (pc + 1)) _ = _
  rw [dz_hd (dz_tl h)]
  rfl
theorem dz_s1 (h : dz_bs c pc (a :: r)) : (Jvm.ClassFile.Reader.s1 : Jvm.ClassFile.Decoder Int) c pc = .ok (Jvm.ClassFile.Reader.signed 8 a, pc + 1) := by
  show Except.bind ((Jvm.ClassFile.Reader.u1 : Jvm.ClassFile.Decoder Nat) c pc) _ = _
  rw [dz_hd h]
  rfl
theorem dz_s2 (h : dz_bs c pc (a :: b :: r)) : (Jvm.ClassFile.Reader.s2 : Jvm.ClassFile.Decoder Int) c pc = .ok (Jvm.ClassFile.Reader.signed 16 (a * 256 + b), pc + 2) := by
  show Except.bind ((Jvm.ClassFile.Reader.u2 : Jvm.ClassFile.Decoder Nat) c pc) _ = _
  rw [dz_u2 h]
  rfl
theorem dz_de {i : Instr} {n : Nat} (h : Jvm.ClassFile.Decoder.instr pc c pc = .ok (i, pc + n)) : decode c pc = .ok (i, n) := by
  show Except.bind (Jvm.ClassFile.Decoder.instr pc c pc) _ = _
  rw [h]
  show Except.ok (i, pc + n - pc) = _
  rw [Nat.add_sub_cancel_left]
def dz_0 (op n : Nat) : List Nat → Bool
  | b :: _ => Nat.beq b op && Nat.beq n 1
  | _ => false
def dz_1 (op i n : Nat) : List Nat → Bool
  | b :: a :: _ => Nat.beq b op && (Nat.beq a i && Nat.beq n 2)
  | _ => false
def dz_2 (op i n : Nat) : List Nat → Bool
  | b :: a :: d :: _ => Nat.beq b op && (Nat.beq (a * 256 + d) i && Nat.beq n 3)
  | _ => false
def dz_q1 (op : Nat) (v : Int) (n : Nat) : List Nat → Bool
  | b :: a :: _ => Nat.beq b op && (decide (Jvm.ClassFile.Reader.signed 8 a = v) && Nat.beq n 2)
  | _ => false
def dz_q2 (op : Nat) (v : Int) (n : Nat) : List Nat → Bool
  | b :: a :: d :: _ => Nat.beq b op && (decide (Jvm.ClassFile.Reader.signed 16 (a * 256 + d) = v) && Nat.beq n 3)
  | _ => false
def dz_ii (i : Nat) (v : Int) (n : Nat) : List Nat → Bool
  | b :: a :: d :: _ => Nat.beq b 132 && (Nat.beq a i && (decide (Jvm.ClassFile.Reader.signed 8 d = v) && Nat.beq n 3))
  | _ => false
theorem dz_an {x y : Bool} (h : (x && y) = true) : x = true ∧ y = true := by cases x <;> cases y <;> first | exact ⟨rfl, rfl⟩ | cases h
theorem dz_0i {op n : Nat} (h : dz_0 op n bs = true) : ∃ r, bs = op :: r ∧ n = 1 := by
  unfold dz_0 at h
  split at h
  · next b r =>
    have q := dz_an h
    exact ⟨r, by rw [Nat.eq_of_beq_eq_true q.1], Nat.eq_of_beq_eq_true q.2⟩
  · cases h
theorem dz_1i {op i n : Nat} (h : dz_1 op i n bs = true) : ∃ r, bs = op :: i :: r ∧ n = 2 := by
  unfold dz_1 at h
  split at h
  · next b a r =>
    have q := dz_an h
    have q2 := dz_an q.2
    exact ⟨r, by rw [Nat.eq_of_beq_eq_true q.1, Nat.eq_of_beq_eq_true q2.1], Nat.eq_of_beq_eq_true q2.2⟩
  · cases h
theorem dz_2i {op i n : Nat} (h : dz_2 op i n bs = true) : ∃ a d r, bs = op :: a :: d :: r ∧ i = a * 256 + d ∧ n = 3 := by
  unfold dz_2 at h
  split at h
  · next b a d r =>
    have q := dz_an h
    have q2 := dz_an q.2
    exact ⟨a, d, r, by rw [Nat.eq_of_beq_eq_true q.1], (Nat.eq_of_beq_eq_true q2.1).symm, Nat.eq_of_beq_eq_true q2.2⟩
  · cases h
theorem dz_q1i {op n : Nat} {v : Int} (h : dz_q1 op v n bs = true) : ∃ a r, bs = op :: a :: r ∧ v = Jvm.ClassFile.Reader.signed 8 a ∧ n = 2 := by
  unfold dz_q1 at h
  split at h
  · next b a r =>
    have q := dz_an h
    have q2 := dz_an q.2
    exact ⟨a, r, by rw [Nat.eq_of_beq_eq_true q.1], (of_decide_eq_true q2.1).symm, Nat.eq_of_beq_eq_true q2.2⟩
  · cases h
theorem dz_q2i {op n : Nat} {v : Int} (h : dz_q2 op v n bs = true) : ∃ a d r, bs = op :: a :: d :: r ∧ v = Jvm.ClassFile.Reader.signed 16 (a * 256 + d) ∧ n = 3 := by
  unfold dz_q2 at h
  split at h
  · next b a d r =>
    have q := dz_an h
    have q2 := dz_an q.2
    exact ⟨a, d, r, by rw [Nat.eq_of_beq_eq_true q.1], (of_decide_eq_true q2.1).symm, Nat.eq_of_beq_eq_true q2.2⟩
  · cases h
theorem dz_iii {i n : Nat} {v : Int} (h : dz_ii i v n bs = true) : ∃ d r, bs = 132 :: i :: d :: r ∧ v = Jvm.ClassFile.Reader.signed 8 d ∧ n = 3 := by
  unfold dz_ii at h
  split at h
  · next b a d r =>
    have q := dz_an h
    have q2 := dz_an q.2
    have q3 := dz_an q2.2
    exact ⟨d, r, by rw [Nat.eq_of_beq_eq_true q.1, Nat.eq_of_beq_eq_true q2.1], (of_decide_eq_true q3.1).symm, Nat.eq_of_beq_eq_true q3.2⟩
  · cases h
theorem dq_iaload (h : dz_bs c pc (46 :: r)) : decode c pc = .ok (.iaload, 1) := dz_de (by
  show Except.bind ((Jvm.ClassFile.Reader.u1 : Jvm.ClassFile.Decoder Nat) c pc) _ = _
  rw [dz_hd h]
  rfl)
theorem dq_laload (h : dz_bs c pc (47 :: r)) : decode c pc = .ok (.laload, 1) := dz_de (by
  show Except.bind ((Jvm.ClassFile.Reader.u1 : Jvm.ClassFile.Decoder Nat) c pc) _ = _
  rw [dz_hd h]
  rfl)
theorem dq_aaload (h : dz_bs c pc (50 :: r)) : decode c pc = .ok (.aaload, 1) := dz_de (by
  show Except.bind ((Jvm.ClassFile.Reader.u1 : Jvm.ClassFile.Decoder Nat) c pc) _ = _
  rw [dz_hd h]
  rfl)
theorem dq_baload (h : dz_bs c pc (51 :: r)) : decode c pc = .ok (.baload, 1) := dz_de (by
  show Except.bind ((Jvm.ClassFile.Reader.u1 : Jvm.ClassFile.Decoder Nat) c pc) _ = _
  rw [dz_hd h]
  rfl)
theorem dq_iastore (h : dz_bs c pc (79 :: r)) : decode c pc = .ok (.iastore, 1) := dz_de (by
  show Except.bind ((Jvm.ClassFile.Reader.u1 : Jvm.ClassFile.Decoder Nat) c pc) _ = _
  rw [dz_hd h]
  rfl)
theorem dq_lastore (h : dz_bs c pc (80 :: r)) : decode c pc = .ok (.lastore, 1) := dz_de (by
  show Except.bind ((Jvm.ClassFile.Reader.u1 : Jvm.ClassFile.Decoder Nat) c pc) _ = _
  rw [dz_hd h]
  rfl)
theorem dq_aastore (h : dz_bs c pc (83 :: r)) : decode c pc = .ok (.aastore, 1) := dz_de (by
  show Except.bind ((Jvm.ClassFile.Reader.u1 : Jvm.ClassFile.Decoder Nat) c pc) _ = _
  rw [dz_hd h]
  rfl)
theorem dq_bastore (h : dz_bs c pc (84 :: r)) : decode c pc = .ok (.bastore, 1) := dz_de (by
  show Except.bind ((Jvm.ClassFile.Reader.u1 : Jvm.ClassFile.Decoder Nat) c pc) _ = _
  rw [dz_hd h]
  rfl)
theorem dq_pop (h : dz_bs c pc (87 :: r)) : decode c pc = .ok (.pop, 1) := dz_de (by
  show Except.bind ((Jvm.ClassFile.Reader.u1 : Jvm.ClassFile.Decoder Nat) c pc) _ = _
  rw [dz_hd h]
  rfl)
theorem dq_pop2 (h : dz_bs c pc (88 :: r)) : decode c pc = .ok (.pop2, 1) := dz_de (by
  show Except.bind ((Jvm.ClassFile.Reader.u1 : Jvm.ClassFile.Decoder Nat) c pc) _ = _
  rw [dz_hd h]
  rfl)
theorem dq_dup (h : dz_bs c pc (89 :: r)) : decode c pc = .ok (.dup, 1) := dz_de (by
  show Except.bind ((Jvm.ClassFile.Reader.u1 : Jvm.ClassFile.Decoder Nat) c pc) _ = _
  rw [dz_hd h]
  rfl)
theorem dq_dup2 (h : dz_bs c pc (92 :: r)) : decode c pc = .ok (.dup2, 1) := dz_de (by
  show Except.bind ((Jvm.ClassFile.Reader.u1 : Jvm.ClassFile.Decoder Nat) c pc) _ = _
  rw [dz_hd h]
  rfl)
theorem dq_iadd (h : dz_bs c pc (96 :: r)) : decode c pc = .ok (.iadd, 1) := dz_de (by
  show Except.bind ((Jvm.ClassFile.Reader.u1 : Jvm.ClassFile.Decoder Nat) c pc) _ = _
  rw [dz_hd h]
  rfl)
theorem dq_ladd (h : dz_bs c pc (97 :: r)) : decode c pc = .ok (.ladd, 1) := dz_de (by
  show Except.bind ((Jvm.ClassFile.Reader.u1 : Jvm.ClassFile.Decoder Nat) c pc) _ = _
  rw [dz_hd h]
  rfl)
theorem dq_isub (h : dz_bs c pc (100 :: r)) : decode c pc = .ok (.isub, 1) := dz_de (by
  show Except.bind ((Jvm.ClassFile.Reader.u1 : Jvm.ClassFile.Decoder Nat) c pc) _ = _
  rw [dz_hd h]
  rfl)
theorem dq_lsub (h : dz_bs c pc (101 :: r)) : decode c pc = .ok (.lsub, 1) := dz_de (by
  show Except.bind ((Jvm.ClassFile.Reader.u1 : Jvm.ClassFile.Decoder Nat) c pc) _ = _
  rw [dz_hd h]
  rfl)
theorem dq_imul (h : dz_bs c pc (104 :: r)) : decode c pc = .ok (.imul, 1) := dz_de (by
  show Except.bind ((Jvm.ClassFile.Reader.u1 : Jvm.ClassFile.Decoder Nat) c pc) _ = _
  rw [dz_hd h]
  rfl)
theorem dq_lmul (h : dz_bs c pc (105 :: r)) : decode c pc = .ok (.lmul, 1) := dz_de (by
  show Except.bind ((Jvm.ClassFile.Reader.u1 : Jvm.ClassFile.Decoder Nat) c pc) _ = _
  rw [dz_hd h]
  rfl)
theorem dq_idiv (h : dz_bs c pc (108 :: r)) : decode c pc = .ok (.idiv, 1) := dz_de (by
  show Except.bind ((Jvm.ClassFile.Reader.u1 : Jvm.ClassFile.Decoder Nat) c pc) _ = _
  rw [dz_hd h]
  rfl)
theorem dq_ldiv (h : dz_bs c pc (109 :: r)) : decode c pc = .ok (.ldiv, 1) := dz_de (by
  show Except.bind ((Jvm.ClassFile.Reader.u1 : Jvm.ClassFile.Decoder Nat) c pc) _ = _
  rw [dz_hd h]
  rfl)
theorem dq_irem (h : dz_bs c pc (112 :: r)) : decode c pc = .ok (.irem, 1) := dz_de (by
  show Except.bind ((Jvm.ClassFile.Reader.u1 : Jvm.ClassFile.Decoder Nat) c pc) _ = _
  rw [dz_hd h]
  rfl)
theorem dq_lrem (h : dz_bs c pc (113 :: r)) : decode c pc = .ok (.lrem, 1) := dz_de (by
  show Except.bind ((Jvm.ClassFile.Reader.u1 : Jvm.ClassFile.Decoder Nat) c pc) _ = _
  rw [dz_hd h]
  rfl)
theorem dq_ineg (h : dz_bs c pc (116 :: r)) : decode c pc = .ok (.ineg, 1) := dz_de (by
  show Except.bind ((Jvm.ClassFile.Reader.u1 : Jvm.ClassFile.Decoder Nat) c pc) _ = _
  rw [dz_hd h]
  rfl)
theorem dq_lneg (h : dz_bs c pc (117 :: r)) : decode c pc = .ok (.lneg, 1) := dz_de (by
  show Except.bind ((Jvm.ClassFile.Reader.u1 : Jvm.ClassFile.Decoder Nat) c pc) _ = _
  rw [dz_hd h]
  rfl)
theorem dq_ishl (h : dz_bs c pc (120 :: r)) : decode c pc = .ok (.ishl, 1) := dz_de (by
  show Except.bind ((Jvm.ClassFile.Reader.u1 : Jvm.ClassFile.Decoder Nat) c pc) _ = _
  rw [dz_hd h]
  rfl)
theorem dq_lshl (h : dz_bs c pc (121 :: r)) : decode c pc = .ok (.lshl, 1) := dz_de (by
  show Except.bind ((Jvm.ClassFile.Reader.u1 : Jvm.ClassFile.Decoder Nat) c pc) _ = _
  rw [dz_hd h]
  rfl)
theorem dq_ishr (h : dz_bs c pc (122 :: r)) : decode c pc = .ok (.ishr, 1) := dz_de (by
  show Except.bind ((Jvm.ClassFile.Reader.u1 : Jvm.ClassFile.Decoder Nat) c pc) _ = _
  rw [dz_hd h]
  rfl)
theorem dq_lshr (h : dz_bs c pc (123 :: r)) : decode c pc = .ok (.lshr, 1) := dz_de (by
  show Except.bind ((Jvm.ClassFile.Reader.u1 : Jvm.ClassFile.Decoder Nat) c pc) _ = _
  rw [dz_hd h]
  rfl)
theorem dq_iushr (h : dz_bs c pc (124 :: r)) : decode c pc = .ok (.iushr, 1) := dz_de (by
  show Except.bind ((Jvm.ClassFile.Reader.u1 : Jvm.ClassFile.Decoder Nat) c pc) _ = _
  rw [dz_hd h]
  rfl)
theorem dq_lushr (h : dz_bs c pc (125 :: r)) : decode c pc = .ok (.lushr, 1) := dz_de (by
  show Except.bind ((Jvm.ClassFile.Reader.u1 : Jvm.ClassFile.Decoder Nat) c pc) _ = _
  rw [dz_hd h]
  rfl)
theorem dq_iand (h : dz_bs c pc (126 :: r)) : decode c pc = .ok (.iand, 1) := dz_de (by
  show Except.bind ((Jvm.ClassFile.Reader.u1 : Jvm.ClassFile.Decoder Nat) c pc) _ = _
  rw [dz_hd h]
  rfl)
theorem dq_land (h : dz_bs c pc (127 :: r)) : decode c pc = .ok (.land, 1) := dz_de (by
  show Except.bind ((Jvm.ClassFile.Reader.u1 : Jvm.ClassFile.Decoder Nat) c pc) _ = _
  rw [dz_hd h]
  rfl)
theorem dq_ior (h : dz_bs c pc (128 :: r)) : decode c pc = .ok (.ior, 1) := dz_de (by
  show Except.bind ((Jvm.ClassFile.Reader.u1 : Jvm.ClassFile.Decoder Nat) c pc) _ = _
  rw [dz_hd h]
  rfl)
theorem dq_lor (h : dz_bs c pc (129 :: r)) : decode c pc = .ok (.lor, 1) := dz_de (by
  show Except.bind ((Jvm.ClassFile.Reader.u1 : Jvm.ClassFile.Decoder Nat) c pc) _ = _
  rw [dz_hd h]
  rfl)
theorem dq_ixor (h : dz_bs c pc (130 :: r)) : decode c pc = .ok (.ixor, 1) := dz_de (by
  show Except.bind ((Jvm.ClassFile.Reader.u1 : Jvm.ClassFile.Decoder Nat) c pc) _ = _
  rw [dz_hd h]
  rfl)
theorem dq_lxor (h : dz_bs c pc (131 :: r)) : decode c pc = .ok (.lxor, 1) := dz_de (by
  show Except.bind ((Jvm.ClassFile.Reader.u1 : Jvm.ClassFile.Decoder Nat) c pc) _ = _
  rw [dz_hd h]
  rfl)
theorem dq_i2l (h : dz_bs c pc (133 :: r)) : decode c pc = .ok (.i2l, 1) := dz_de (by
  show Except.bind ((Jvm.ClassFile.Reader.u1 : Jvm.ClassFile.Decoder Nat) c pc) _ = _
  rw [dz_hd h]
  rfl)
theorem dq_l2i (h : dz_bs c pc (136 :: r)) : decode c pc = .ok (.l2i, 1) := dz_de (by
  show Except.bind ((Jvm.ClassFile.Reader.u1 : Jvm.ClassFile.Decoder Nat) c pc) _ = _
  rw [dz_hd h]
  rfl)
theorem dq_lcmp (h : dz_bs c pc (148 :: r)) : decode c pc = .ok (.lcmp, 1) := dz_de (by
  show Except.bind ((Jvm.ClassFile.Reader.u1 : Jvm.ClassFile.Decoder Nat) c pc) _ = _
  rw [dz_hd h]
  rfl)
theorem dq_ireturn (h : dz_bs c pc (172 :: r)) : decode c pc = .ok (.ireturn, 1) := dz_de (by
  show Except.bind ((Jvm.ClassFile.Reader.u1 : Jvm.ClassFile.Decoder Nat) c pc) _ = _
  rw [dz_hd h]
  rfl)
theorem dq_lreturn (h : dz_bs c pc (173 :: r)) : decode c pc = .ok (.lreturn, 1) := dz_de (by
  show Except.bind ((Jvm.ClassFile.Reader.u1 : Jvm.ClassFile.Decoder Nat) c pc) _ = _
  rw [dz_hd h]
  rfl)
theorem dq_areturn (h : dz_bs c pc (176 :: r)) : decode c pc = .ok (.areturn, 1) := dz_de (by
  show Except.bind ((Jvm.ClassFile.Reader.u1 : Jvm.ClassFile.Decoder Nat) c pc) _ = _
  rw [dz_hd h]
  rfl)
theorem dq_return_ (h : dz_bs c pc (177 :: r)) : decode c pc = .ok (.return_, 1) := dz_de (by
  show Except.bind ((Jvm.ClassFile.Reader.u1 : Jvm.ClassFile.Decoder Nat) c pc) _ = _
  rw [dz_hd h]
  rfl)
theorem dq_arraylength (h : dz_bs c pc (190 :: r)) : decode c pc = .ok (.arraylength, 1) := dz_de (by
  show Except.bind ((Jvm.ClassFile.Reader.u1 : Jvm.ClassFile.Decoder Nat) c pc) _ = _
  rw [dz_hd h]
  rfl)
theorem dq_aconst_null (h : dz_bs c pc (1 :: r)) : decode c pc = .ok (.aconst_null, 1) := dz_de (by
  show Except.bind ((Jvm.ClassFile.Reader.u1 : Jvm.ClassFile.Decoder Nat) c pc) _ = _
  rw [dz_hd h]
  rfl)
theorem dq_iload_n0 (h : dz_bs c pc (26 :: r)) : decode c pc = .ok (.iload_n 0, 1) := dz_de (by
  show Except.bind ((Jvm.ClassFile.Reader.u1 : Jvm.ClassFile.Decoder Nat) c pc) _ = _
  rw [dz_hd h]
  rfl)
theorem dq_iload_n1 (h : dz_bs c pc (27 :: r)) : decode c pc = .ok (.iload_n 1, 1) := dz_de (by
  show Except.bind ((Jvm.ClassFile.Reader.u1 : Jvm.ClassFile.Decoder Nat) c pc) _ = _
  rw [dz_hd h]
  rfl)
theorem dq_iload_n2 (h : dz_bs c pc (28 :: r)) : decode c pc = .ok (.iload_n 2, 1) := dz_de (by
  show Except.bind ((Jvm.ClassFile.Reader.u1 : Jvm.ClassFile.Decoder Nat) c pc) _ = _
  rw [dz_hd h]
  rfl)
theorem dq_iload_n3 (h : dz_bs c pc (29 :: r)) : decode c pc = .ok (.iload_n 3, 1) := dz_de (by
  show Except.bind ((Jvm.ClassFile.Reader.u1 : Jvm.ClassFile.Decoder Nat) c pc) _ = _
  rw [dz_hd h]
  rfl)
theorem dq_lload_n0 (h : dz_bs c pc (30 :: r)) : decode c pc = .ok (.lload_n 0, 1) := dz_de (by
  show Except.bind ((Jvm.ClassFile.Reader.u1 : Jvm.ClassFile.Decoder Nat) c pc) _ = _
  rw [dz_hd h]
  rfl)
theorem dq_lload_n1 (h : dz_bs c pc (31 :: r)) : decode c pc = .ok (.lload_n 1, 1) := dz_de (by
  show Except.bind ((Jvm.ClassFile.Reader.u1 : Jvm.ClassFile.Decoder Nat) c pc) _ = _
  rw [dz_hd h]
  rfl)
theorem dq_lload_n2 (h : dz_bs c pc (32 :: r)) : decode c pc = .ok (.lload_n 2, 1) := dz_de (by
  show Except.bind ((Jvm.ClassFile.Reader.u1 : Jvm.ClassFile.Decoder Nat) c pc) _ = _
  rw [dz_hd h]
  rfl)
theorem dq_lload_n3 (h : dz_bs c pc (33 :: r)) : decode c pc = .ok (.lload_n 3, 1) := dz_de (by
  show Except.bind ((Jvm.ClassFile.Reader.u1 : Jvm.ClassFile.Decoder Nat) c pc) _ = _
  rw [dz_hd h]
  rfl)
theorem dq_aload_n0 (h : dz_bs c pc (42 :: r)) : decode c pc = .ok (.aload_n 0, 1) := dz_de (by
  show Except.bind ((Jvm.ClassFile.Reader.u1 : Jvm.ClassFile.Decoder Nat) c pc) _ = _
  rw [dz_hd h]
  rfl)
theorem dq_aload_n1 (h : dz_bs c pc (43 :: r)) : decode c pc = .ok (.aload_n 1, 1) := dz_de (by
  show Except.bind ((Jvm.ClassFile.Reader.u1 : Jvm.ClassFile.Decoder Nat) c pc) _ = _
  rw [dz_hd h]
  rfl)
theorem dq_aload_n2 (h : dz_bs c pc (44 :: r)) : decode c pc = .ok (.aload_n 2, 1) := dz_de (by
  show Except.bind ((Jvm.ClassFile.Reader.u1 : Jvm.ClassFile.Decoder Nat) c pc) _ = _
  rw [dz_hd h]
  rfl)
theorem dq_aload_n3 (h : dz_bs c pc (45 :: r)) : decode c pc = .ok (.aload_n 3, 1) := dz_de (by
  show Except.bind ((Jvm.ClassFile.Reader.u1 : Jvm.ClassFile.Decoder Nat) c pc) _ = _
  rw [dz_hd h]
  rfl)
theorem dq_istore_n0 (h : dz_bs c pc (59 :: r)) : decode c pc = .ok (.istore_n 0, 1) := dz_de (by
  show Except.bind ((Jvm.ClassFile.Reader.u1 : Jvm.ClassFile.Decoder Nat) c pc) _ = _
  rw [dz_hd h]
  rfl)
theorem dq_istore_n1 (h : dz_bs c pc (60 :: r)) : decode c pc = .ok (.istore_n 1, 1) := dz_de (by
  show Except.bind ((Jvm.ClassFile.Reader.u1 : Jvm.ClassFile.Decoder Nat) c pc) _ = _
  rw [dz_hd h]
  rfl)
theorem dq_istore_n2 (h : dz_bs c pc (61 :: r)) : decode c pc = .ok (.istore_n 2, 1) := dz_de (by
  show Except.bind ((Jvm.ClassFile.Reader.u1 : Jvm.ClassFile.Decoder Nat) c pc) _ = _
  rw [dz_hd h]
  rfl)
theorem dq_istore_n3 (h : dz_bs c pc (62 :: r)) : decode c pc = .ok (.istore_n 3, 1) := dz_de (by
  show Except.bind ((Jvm.ClassFile.Reader.u1 : Jvm.ClassFile.Decoder Nat) c pc) _ = _
  rw [dz_hd h]
  rfl)
theorem dq_lstore_n0 (h : dz_bs c pc (63 :: r)) : decode c pc = .ok (.lstore_n 0, 1) := dz_de (by
  show Except.bind ((Jvm.ClassFile.Reader.u1 : Jvm.ClassFile.Decoder Nat) c pc) _ = _
  rw [dz_hd h]
  rfl)
theorem dq_lstore_n1 (h : dz_bs c pc (64 :: r)) : decode c pc = .ok (.lstore_n 1, 1) := dz_de (by
  show Except.bind ((Jvm.ClassFile.Reader.u1 : Jvm.ClassFile.Decoder Nat) c pc) _ = _
  rw [dz_hd h]
  rfl)
theorem dq_lstore_n2 (h : dz_bs c pc (65 :: r)) : decode c pc = .ok (.lstore_n 2, 1) := dz_de (by
  show Except.bind ((Jvm.ClassFile.Reader.u1 : Jvm.ClassFile.Decoder Nat) c pc) _ = _
  rw [dz_hd h]
  rfl)
theorem dq_lstore_n3 (h : dz_bs c pc (66 :: r)) : decode c pc = .ok (.lstore_n 3, 1) := dz_de (by
  show Except.bind ((Jvm.ClassFile.Reader.u1 : Jvm.ClassFile.Decoder Nat) c pc) _ = _
  rw [dz_hd h]
  rfl)
theorem dq_astore_n0 (h : dz_bs c pc (75 :: r)) : decode c pc = .ok (.astore_n 0, 1) := dz_de (by
  show Except.bind ((Jvm.ClassFile.Reader.u1 : Jvm.ClassFile.Decoder Nat) c pc) _ = _
  rw [dz_hd h]
  rfl)
theorem dq_astore_n1 (h : dz_bs c pc (76 :: r)) : decode c pc = .ok (.astore_n 1, 1) := dz_de (by
  show Except.bind ((Jvm.ClassFile.Reader.u1 : Jvm.ClassFile.Decoder Nat) c pc) _ = _
  rw [dz_hd h]
  rfl)
theorem dq_astore_n2 (h : dz_bs c pc (77 :: r)) : decode c pc = .ok (.astore_n 2, 1) := dz_de (by
  show Except.bind ((Jvm.ClassFile.Reader.u1 : Jvm.ClassFile.Decoder Nat) c pc) _ = _
  rw [dz_hd h]
  rfl)
theorem dq_astore_n3 (h : dz_bs c pc (78 :: r)) : decode c pc = .ok (.astore_n 3, 1) := dz_de (by
  show Except.bind ((Jvm.ClassFile.Reader.u1 : Jvm.ClassFile.Decoder Nat) c pc) _ = _
  rw [dz_hd h]
  rfl)
theorem dq_iconst0 (h : dz_bs c pc (2 :: r)) : decode c pc = .ok (.iconst (-1), 1) := dz_de (by
  show Except.bind ((Jvm.ClassFile.Reader.u1 : Jvm.ClassFile.Decoder Nat) c pc) _ = _
  rw [dz_hd h]
  rfl)
theorem dq_iconst1 (h : dz_bs c pc (3 :: r)) : decode c pc = .ok (.iconst (0), 1) := dz_de (by
  show Except.bind ((Jvm.ClassFile.Reader.u1 : Jvm.ClassFile.Decoder Nat) c pc) _ = _
  rw [dz_hd h]
  rfl)
theorem dq_iconst2 (h : dz_bs c pc (4 :: r)) : decode c pc = .ok (.iconst (1), 1) := dz_de (by
  show Except.bind ((Jvm.ClassFile.Reader.u1 : Jvm.ClassFile.Decoder Nat) c pc) _ = _
  rw [dz_hd h]
  rfl)
theorem dq_iconst3 (h : dz_bs c pc (5 :: r)) : decode c pc = .ok (.iconst (2), 1) := dz_de (by
  show Except.bind ((Jvm.ClassFile.Reader.u1 : Jvm.ClassFile.Decoder Nat) c pc) _ = _
  rw [dz_hd h]
  rfl)
theorem dq_iconst4 (h : dz_bs c pc (6 :: r)) : decode c pc = .ok (.iconst (3), 1) := dz_de (by
  show Except.bind ((Jvm.ClassFile.Reader.u1 : Jvm.ClassFile.Decoder Nat) c pc) _ = _
  rw [dz_hd h]
  rfl)
theorem dq_iconst5 (h : dz_bs c pc (7 :: r)) : decode c pc = .ok (.iconst (4), 1) := dz_de (by
  show Except.bind ((Jvm.ClassFile.Reader.u1 : Jvm.ClassFile.Decoder Nat) c pc) _ = _
  rw [dz_hd h]
  rfl)
theorem dq_iconst6 (h : dz_bs c pc (8 :: r)) : decode c pc = .ok (.iconst (5), 1) := dz_de (by
  show Except.bind ((Jvm.ClassFile.Reader.u1 : Jvm.ClassFile.Decoder Nat) c pc) _ = _
  rw [dz_hd h]
  rfl)
theorem dq_lconst0 (h : dz_bs c pc (9 :: r)) : decode c pc = .ok (.lconst 0, 1) := dz_de (by
  show Except.bind ((Jvm.ClassFile.Reader.u1 : Jvm.ClassFile.Decoder Nat) c pc) _ = _
  rw [dz_hd h]
  rfl)
theorem dq_lconst1 (h : dz_bs c pc (10 :: r)) : decode c pc = .ok (.lconst 1, 1) := dz_de (by
  show Except.bind ((Jvm.ClassFile.Reader.u1 : Jvm.ClassFile.Decoder Nat) c pc) _ = _
  rw [dz_hd h]
  rfl)
theorem dq_ldc (h : dz_bs c pc (18 :: a :: r)) : decode c pc = .ok (.ldc a, 2) := dz_de (by
  show Except.bind ((Jvm.ClassFile.Reader.u1 : Jvm.ClassFile.Decoder Nat) c pc) _ = _
  rw [dz_hd h]
  show Except.bind ((Jvm.ClassFile.Reader.u1 : Jvm.ClassFile.Decoder Nat) c (pc + 1)) _ = _
  rw [dz_hd (dz_tl h)]
  rfl)
theorem dq_iload (h : dz_bs c pc (21 :: a :: r)) : decode c pc = .ok (.iload a, 2) := dz_de (by
  show Except.bind ((Jvm.ClassFile.Reader.u1 : Jvm.ClassFile.Decoder Nat) c pc) _ = _
  rw [dz_hd h]
  show Except.bind ((Jvm.ClassFile.Reader.u1 : Jvm.ClassFile.Decoder Nat) c (pc + 1)) _ = _
  rw [dz_hd (dz_tl h)]
  rfl)
theorem dq_lload (h : dz_bs c pc (22 :: a :: r)) : decode c pc = .ok (.lload a, 2) := dz_de (by
  show Except.bind ((Jvm.ClassFile.Reader.u1 : Jvm.ClassFile.Decoder Nat) c pc) _ = _
  rw [dz_hd h]
  show Except.bind ((Jvm.ClassFile.Reader.u1 : Jvm.ClassFile.Decoder Nat) c (pc + 1)) _ = _
  rw [dz_hd (dz_tl h)]
  rfl)
theorem dq_aload (h : dz_bs c pc (25 :: a :: r)) : decode c pc = .ok (.aload a, 2) := dz_de (by
  show Except.bind ((Jvm.ClassFile.Reader.u1 : Jvm.ClassFile.Decoder Nat) c pc) _ = _
  rw [dz_hd h]
  show Except.bind ((Jvm.ClassFile.Reader.u1 : Jvm.ClassFile.Decoder Nat) c (pc + 1)) _ = _
  rw [dz_hd (dz_tl h)]
  rfl)
theorem dq_istore (h : dz_bs c pc (54 :: a :: r)) : decode c pc = .ok (.istore a, 2) := dz_de (by
  show Except.bind ((Jvm.ClassFile.Reader.u1 : Jvm.ClassFile.Decoder Nat) c pc) _ = _
  rw [dz_hd h]
  show Except.bind ((Jvm.ClassFile.Reader.u1 : Jvm.ClassFile.Decoder Nat) c (pc + 1)) _ = _
  rw [dz_hd (dz_tl h)]
  rfl)
theorem dq_lstore (h : dz_bs c pc (55 :: a :: r)) : decode c pc = .ok (.lstore a, 2) := dz_de (by
  show Except.bind ((Jvm.ClassFile.Reader.u1 : Jvm.ClassFile.Decoder Nat) c pc) _ = _
  rw [dz_hd h]
  show Except.bind ((Jvm.ClassFile.Reader.u1 : Jvm.ClassFile.Decoder Nat) c (pc + 1)) _ = _
  rw [dz_hd (dz_tl h)]
  rfl)
theorem dq_astore (h : dz_bs c pc (58 :: a :: r)) : decode c pc = .ok (.astore a, 2) := dz_de (by
  show Except.bind ((Jvm.ClassFile.Reader.u1 : Jvm.ClassFile.Decoder Nat) c pc) _ = _
  rw [dz_hd h]
  show Except.bind ((Jvm.ClassFile.Reader.u1 : Jvm.ClassFile.Decoder Nat) c (pc + 1)) _ = _
  rw [dz_hd (dz_tl h)]
  rfl)
theorem dq_ldc_w (h : dz_bs c pc (19 :: a :: b :: r)) : decode c pc = .ok (.ldc_w (a * 256 + b), 3) := dz_de (by
  show Except.bind ((Jvm.ClassFile.Reader.u1 : Jvm.ClassFile.Decoder Nat) c pc) _ = _
  rw [dz_hd h]
  show Except.bind ((Jvm.ClassFile.Reader.u2 : Jvm.ClassFile.Decoder Nat) c (pc + 1)) _ = _
  rw [dz_u2 (dz_tl h)]
  rfl)
theorem dq_ldc2_w (h : dz_bs c pc (20 :: a :: b :: r)) : decode c pc = .ok (.ldc2_w (a * 256 + b), 3) := dz_de (by
  show Except.bind ((Jvm.ClassFile.Reader.u1 : Jvm.ClassFile.Decoder Nat) c pc) _ = _
  rw [dz_hd h]
  show Except.bind ((Jvm.ClassFile.Reader.u2 : Jvm.ClassFile.Decoder Nat) c (pc + 1)) _ = _
  rw [dz_u2 (dz_tl h)]
  rfl)
theorem dq_getstatic (h : dz_bs c pc (178 :: a :: b :: r)) : decode c pc = .ok (.getstatic (a * 256 + b), 3) := dz_de (by
  show Except.bind ((Jvm.ClassFile.Reader.u1 : Jvm.ClassFile.Decoder Nat) c pc) _ = _
  rw [dz_hd h]
  show Except.bind ((Jvm.ClassFile.Reader.u2 : Jvm.ClassFile.Decoder Nat) c (pc + 1)) _ = _
  rw [dz_u2 (dz_tl h)]
  rfl)
theorem dq_getfield (h : dz_bs c pc (180 :: a :: b :: r)) : decode c pc = .ok (.getfield (a * 256 + b), 3) := dz_de (by
  show Except.bind ((Jvm.ClassFile.Reader.u1 : Jvm.ClassFile.Decoder Nat) c pc) _ = _
  rw [dz_hd h]
  show Except.bind ((Jvm.ClassFile.Reader.u2 : Jvm.ClassFile.Decoder Nat) c (pc + 1)) _ = _
  rw [dz_u2 (dz_tl h)]
  rfl)
theorem dq_putfield (h : dz_bs c pc (181 :: a :: b :: r)) : decode c pc = .ok (.putfield (a * 256 + b), 3) := dz_de (by
  show Except.bind ((Jvm.ClassFile.Reader.u1 : Jvm.ClassFile.Decoder Nat) c pc) _ = _
  rw [dz_hd h]
  show Except.bind ((Jvm.ClassFile.Reader.u2 : Jvm.ClassFile.Decoder Nat) c (pc + 1)) _ = _
  rw [dz_u2 (dz_tl h)]
  rfl)
theorem dq_invokevirtual (h : dz_bs c pc (182 :: a :: b :: r)) : decode c pc = .ok (.invokevirtual (a * 256 + b), 3) := dz_de (by
  show Except.bind ((Jvm.ClassFile.Reader.u1 : Jvm.ClassFile.Decoder Nat) c pc) _ = _
  rw [dz_hd h]
  show Except.bind ((Jvm.ClassFile.Reader.u2 : Jvm.ClassFile.Decoder Nat) c (pc + 1)) _ = _
  rw [dz_u2 (dz_tl h)]
  rfl)
theorem dq_invokespecial (h : dz_bs c pc (183 :: a :: b :: r)) : decode c pc = .ok (.invokespecial (a * 256 + b), 3) := dz_de (by
  show Except.bind ((Jvm.ClassFile.Reader.u1 : Jvm.ClassFile.Decoder Nat) c pc) _ = _
  rw [dz_hd h]
  show Except.bind ((Jvm.ClassFile.Reader.u2 : Jvm.ClassFile.Decoder Nat) c (pc + 1)) _ = _
  rw [dz_u2 (dz_tl h)]
  rfl)
theorem dq_invokestatic (h : dz_bs c pc (184 :: a :: b :: r)) : decode c pc = .ok (.invokestatic (a * 256 + b), 3) := dz_de (by
  show Except.bind ((Jvm.ClassFile.Reader.u1 : Jvm.ClassFile.Decoder Nat) c pc) _ = _
  rw [dz_hd h]
  show Except.bind ((Jvm.ClassFile.Reader.u2 : Jvm.ClassFile.Decoder Nat) c (pc + 1)) _ = _
  rw [dz_u2 (dz_tl h)]
  rfl)
theorem dq_new (h : dz_bs c pc (187 :: a :: b :: r)) : decode c pc = .ok (.new (a * 256 + b), 3) := dz_de (by
  show Except.bind ((Jvm.ClassFile.Reader.u1 : Jvm.ClassFile.Decoder Nat) c pc) _ = _
  rw [dz_hd h]
  show Except.bind ((Jvm.ClassFile.Reader.u2 : Jvm.ClassFile.Decoder Nat) c (pc + 1)) _ = _
  rw [dz_u2 (dz_tl h)]
  rfl)
theorem dq_anewarray (h : dz_bs c pc (189 :: a :: b :: r)) : decode c pc = .ok (.anewarray (a * 256 + b), 3) := dz_de (by
  show Except.bind ((Jvm.ClassFile.Reader.u1 : Jvm.ClassFile.Decoder Nat) c pc) _ = _
  rw [dz_hd h]
  show Except.bind ((Jvm.ClassFile.Reader.u2 : Jvm.ClassFile.Decoder Nat) c (pc + 1)) _ = _
  rw [dz_u2 (dz_tl h)]
  rfl)
theorem dq_sipush (h : dz_bs c pc (17 :: a :: b :: r)) : decode c pc = .ok (.sipush (Jvm.ClassFile.Reader.signed 16 (a * 256 + b)), 3) := dz_de (by
  show Except.bind ((Jvm.ClassFile.Reader.u1 : Jvm.ClassFile.Decoder Nat) c pc) _ = _
  rw [dz_hd h]
  show Except.bind ((Jvm.ClassFile.Reader.s2 : Jvm.ClassFile.Decoder Int) c (pc + 1)) _ = _
  rw [dz_s2 (dz_tl h)]
  rfl)
theorem dq_goto (h : dz_bs c pc (167 :: a :: b :: r)) : decode c pc = .ok (.goto (Jvm.ClassFile.Reader.signed 16 (a * 256 + b)), 3) := dz_de (by
  show Except.bind ((Jvm.ClassFile.Reader.u1 : Jvm.ClassFile.Decoder Nat) c pc) _ = _
  rw [dz_hd h]
  show Except.bind ((Jvm.ClassFile.Reader.s2 : Jvm.ClassFile.Decoder Int) c (pc + 1)) _ = _
  rw [dz_s2 (dz_tl h)]
  rfl)
theorem dq_ifnull (h : dz_bs c pc (198 :: a :: b :: r)) : decode c pc = .ok (.ifnull (Jvm.ClassFile.Reader.signed 16 (a * 256 + b)), 3) := dz_de (by
  show Except.bind ((Jvm.ClassFile.Reader.u1 : Jvm.ClassFile.Decoder Nat) c pc) _ = _
  rw [dz_hd h]
  show Except.bind ((Jvm.ClassFile.Reader.s2 : Jvm.ClassFile.Decoder Int) c (pc + 1)) _ = _
  rw [dz_s2 (dz_tl h)]
  rfl)
theorem dq_ifnonnull (h : dz_bs c pc (199 :: a :: b :: r)) : decode c pc = .ok (.ifnonnull (Jvm.ClassFile.Reader.signed 16 (a * 256 + b)), 3) := dz_de (by
  show Except.bind ((Jvm.ClassFile.Reader.u1 : Jvm.ClassFile.Decoder Nat) c pc) _ = _
  rw [dz_hd h]
  show Except.bind ((Jvm.ClassFile.Reader.s2 : Jvm.ClassFile.Decoder Int) c (pc + 1)) _ = _
  rw [dz_s2 (dz_tl h)]
  rfl)
theorem dq_if_eq (h : dz_bs c pc (153 :: a :: b :: r)) : decode c pc = .ok (.ifCond .eq (Jvm.ClassFile.Reader.signed 16 (a * 256 + b)), 3) := dz_de (by
  show Except.bind ((Jvm.ClassFile.Reader.u1 : Jvm.ClassFile.Decoder Nat) c pc) _ = _
  rw [dz_hd h]
  show Except.bind ((Jvm.ClassFile.Reader.s2 : Jvm.ClassFile.Decoder Int) c (pc + 1)) _ = _
  rw [dz_s2 (dz_tl h)]
  rfl)
theorem dq_ic_eq (h : dz_bs c pc (159 :: a :: b :: r)) : decode c pc = .ok (.if_icmp .eq (Jvm.ClassFile.Reader.signed 16 (a * 256 + b)), 3) := dz_de (by
  show Except.bind ((Jvm.ClassFile.Reader.u1 : Jvm.ClassFile.Decoder Nat) c pc) _ = _
  rw [dz_hd h]
  show Except.bind ((Jvm.ClassFile.Reader.s2 : Jvm.ClassFile.Decoder Int) c (pc + 1)) _ = _
  rw [dz_s2 (dz_tl h)]
  rfl)
theorem dq_if_ne (h : dz_bs c pc (154 :: a :: b :: r)) : decode c pc = .ok (.ifCond .ne (Jvm.ClassFile.Reader.signed 16 (a * 256 + b)), 3) := dz_de (by
  show Except.bind ((Jvm.ClassFile.Reader.u1 : Jvm.ClassFile.Decoder Nat) c pc) _ = _
  rw [dz_hd h]
  show Except.bind ((Jvm.ClassFile.Reader.s2 : Jvm.ClassFile.Decoder Int) c (pc + 1)) _ = _
  rw [dz_s2 (dz_tl h)]
  rfl)
theorem dq_ic_ne (h : dz_bs c pc (160 :: a :: b :: r)) : decode c pc = .ok (.if_icmp .ne (Jvm.ClassFile.Reader.signed 16 (a * 256 + b)), 3) := dz_de (by
  show Except.bind ((Jvm.ClassFile.Reader.u1 : Jvm.ClassFile.Decoder Nat) c pc) _ = _
  rw [dz_hd h]
  show Except.bind ((Jvm.ClassFile.Reader.s2 : Jvm.ClassFile.Decoder Int) c (pc + 1)) _ = _
  rw [dz_s2 (dz_tl h)]
  rfl)
theorem dq_if_lt (h : dz_bs c pc (155 :: a :: b :: r)) : decode c pc = .ok (.ifCond .lt (Jvm.ClassFile.Reader.signed 16 (a * 256 + b)), 3) := dz_de (by
  show Except.bind ((Jvm.ClassFile.Reader.u1 : Jvm.ClassFile.Decoder Nat) c pc) _ = _
  rw [dz_hd h]
  show Except.bind ((Jvm.ClassFile.Reader.s2 : Jvm.ClassFile.Decoder Int) c (pc + 1)) _ = _
  rw [dz_s2 (dz_tl h)]
  rfl)
theorem dq_ic_lt (h : dz_bs c pc (161 :: a :: b :: r)) : decode c pc = .ok (.if_icmp .lt (Jvm.ClassFile.Reader.signed 16 (a * 256 + b)), 3) := dz_de (by
  show Except.bind ((Jvm.ClassFile.Reader.u1 : Jvm.ClassFile.Decoder Nat) c pc) _ = _
  rw [dz_hd h]
  show Except.bind ((Jvm.ClassFile.Reader.s2 : Jvm.ClassFile.Decoder Int) c (pc + 1)) _ = _
  rw [dz_s2 (dz_tl h)]
  rfl)
theorem dq_if_ge (h : dz_bs c pc (156 :: a :: b :: r)) : decode c pc = .ok (.ifCond .ge (Jvm.ClassFile.Reader.signed 16 (a * 256 + b)), 3) := dz_de (by
  show Except.bind ((Jvm.ClassFile.Reader.u1 : Jvm.ClassFile.Decoder Nat) c pc) _ = _
  rw [dz_hd h]
  show Except.bind ((Jvm.ClassFile.Reader.s2 : Jvm.ClassFile.Decoder Int) c (pc + 1)) _ = _
  rw [dz_s2 (dz_tl h)]
  rfl)
theorem dq_ic_ge (h : dz_bs c pc (162 :: a :: b :: r)) : decode c pc = .ok (.if_icmp .ge (Jvm.ClassFile.Reader.signed 16 (a * 256 + b)), 3) := dz_de (by
  show Except.bind ((Jvm.ClassFile.Reader.u1 : Jvm.ClassFile.Decoder Nat) c pc) _ = _
  rw [dz_hd h]
  show Except.bind ((Jvm.ClassFile.Reader.s2 : Jvm.ClassFile.Decoder Int) c (pc + 1)) _ = _
  rw [dz_s2 (dz_tl h)]
  rfl)
theorem dq_if_gt (h : dz_bs c pc (157 :: a :: b :: r)) : decode c pc = .ok (.ifCond .gt (Jvm.ClassFile.Reader.signed 16 (a * 256 + b)), 3) := dz_de (by
  show Except.bind ((Jvm.ClassFile.Reader.u1 : Jvm.ClassFile.Decoder Nat) c pc) _ = _
  rw [dz_hd h]
  show Except.bind ((Jvm.ClassFile.Reader.s2 : Jvm.ClassFile.Decoder Int) c (pc + 1)) _ = _
  rw [dz_s2 (dz_tl h)]
  rfl)
theorem dq_ic_gt (h : dz_bs c pc (163 :: a :: b :: r)) : decode c pc = .ok (.if_icmp .gt (Jvm.ClassFile.Reader.signed 16 (a * 256 + b)), 3) := dz_de (by
  show Except.bind ((Jvm.ClassFile.Reader.u1 : Jvm.ClassFile.Decoder Nat) c pc) _ = _
  rw [dz_hd h]
  show Except.bind ((Jvm.ClassFile.Reader.s2 : Jvm.ClassFile.Decoder Int) c (pc + 1)) _ = _
  rw [dz_s2 (dz_tl h)]
  rfl)
theorem dq_if_le (h : dz_bs c pc (158 :: a :: b :: r)) : decode c pc = .ok (.ifCond .le (Jvm.ClassFile.Reader.signed 16 (a * 256 + b)), 3) := dz_de (by
  show Except.bind ((Jvm.ClassFile.Reader.u1 : Jvm.ClassFile.Decoder Nat) c pc) _ = _
  rw [dz_hd h]
  show Except.bind ((Jvm.ClassFile.Reader.s2 : Jvm.ClassFile.Decoder Int) c (pc + 1)) _ = _
  rw [dz_s2 (dz_tl h)]
  rfl)
theorem dq_ic_le (h : dz_bs c pc (164 :: a :: b :: r)) : decode c pc = .ok (.if_icmp .le (Jvm.ClassFile.Reader.signed 16 (a * 256 + b)), 3) := dz_de (by
  show Except.bind ((Jvm.ClassFile.Reader.u1 : Jvm.ClassFile.Decoder Nat) c pc) _ = _
  rw [dz_hd h]
  show Except.bind ((Jvm.ClassFile.Reader.s2 : Jvm.ClassFile.Decoder Int) c (pc + 1)) _ = _
  rw [dz_s2 (dz_tl h)]
  rfl)
theorem dq_bipush (h : dz_bs c pc (16 :: a :: r)) : decode c pc = .ok (.bipush (Jvm.ClassFile.Reader.signed 8 a), 2) := dz_de (by
  show Except.bind ((Jvm.ClassFile.Reader.u1 : Jvm.ClassFile.Decoder Nat) c pc) _ = _
  rw [dz_hd h]
  show Except.bind ((Jvm.ClassFile.Reader.s1 : Jvm.ClassFile.Decoder Int) c (pc + 1)) _ = _
  rw [dz_s1 (dz_tl h)]
  rfl)
theorem dq_iinc (h : dz_bs c pc (132 :: a :: d :: r)) : decode c pc = .ok (.iinc a (Jvm.ClassFile.Reader.signed 8 d), 3) := dz_de (by
  show Except.bind ((Jvm.ClassFile.Reader.u1 : Jvm.ClassFile.Decoder Nat) c pc) _ = _
  rw [dz_hd h]
  show Except.bind ((Jvm.ClassFile.Reader.u1 : Jvm.ClassFile.Decoder Nat) c (pc + 1)) _ = _
  rw [dz_hd (dz_tl h)]
  show Except.bind ((Jvm.ClassFile.Reader.s1 : Jvm.ClassFile.Decoder Int) c (pc + 1 + 1)) _ = _
  rw [dz_s1 (dz_tl (dz_tl h))]
  rfl)
theorem dq_newarray_boolean (h : dz_bs c pc (188 :: 4 :: r)) : decode c pc = .ok (.newarray .boolean, 2) := dz_de (by
  show Except.bind ((Jvm.ClassFile.Reader.u1 : Jvm.ClassFile.Decoder Nat) c pc) _ = _
  rw [dz_hd h]
  show Except.bind ((Jvm.ClassFile.Reader.u1 : Jvm.ClassFile.Decoder Nat) c (pc + 1)) _ = _
  rw [dz_hd (dz_tl h)]
  rfl)
theorem dq_newarray_int (h : dz_bs c pc (188 :: 10 :: r)) : decode c pc = .ok (.newarray .int, 2) := dz_de (by
  show Except.bind ((Jvm.ClassFile.Reader.u1 : Jvm.ClassFile.Decoder Nat) c pc) _ = _
  rw [dz_hd h]
  show Except.bind ((Jvm.ClassFile.Reader.u1 : Jvm.ClassFile.Decoder Nat) c (pc + 1)) _ = _
  rw [dz_hd (dz_tl h)]
  rfl)
theorem dq_newarray_long (h : dz_bs c pc (188 :: 11 :: r)) : decode c pc = .ok (.newarray .long, 2) := dz_de (by
  show Except.bind ((Jvm.ClassFile.Reader.u1 : Jvm.ClassFile.Decoder Nat) c pc) _ = _
  rw [dz_hd h]
  show Except.bind ((Jvm.ClassFile.Reader.u1 : Jvm.ClassFile.Decoder Nat) c (pc + 1)) _ = _
  rw [dz_hd (dz_tl h)]
  rfl)
def dz_k (i : Instr) : Nat → List Nat → Bool := match i with
  | .iaload => dz_0 46
  | .laload => dz_0 47
  | .aaload => dz_0 50
  | .baload => dz_0 51
  | .iastore => dz_0 79
  | .lastore => dz_0 80
  | .aastore => dz_0 83
  | .bastore => dz_0 84
  | .pop => dz_0 87
  | .pop2 => dz_0 88
  | .dup => dz_0 89
  | .dup2 => dz_0 92
  | .iadd => dz_0 96
  | .ladd => dz_0 97
  | .isub => dz_0 100
  | .lsub => dz_0 101
  | .imul => dz_0 104
  | .lmul => dz_0 105
  | .idiv => dz_0 108
  | .ldiv => dz_0 109
  | .irem => dz_0 112
  | .lrem => dz_0 113
  | .ineg => dz_0 116
  | .lneg => dz_0 117
  | .ishl => dz_0 120
  | .lshl => dz_0 121
  | .ishr => dz_0 122
  | .lshr => dz_0 123
  | .iushr => dz_0 124
  | .lushr => dz_0 125
  | .iand => dz_0 126
  | .land => dz_0 127
  | .ior => dz_0 128
  | .lor => dz_0 129
  | .ixor => dz_0 130
  | .lxor => dz_0 131
  | .i2l => dz_0 133
  | .l2i => dz_0 136
  | .lcmp => dz_0 148
  | .ireturn => dz_0 172
  | .lreturn => dz_0 173
  | .areturn => dz_0 176
  | .return_ => dz_0 177
  | .arraylength => dz_0 190
  | .aconst_null => dz_0 1
  | .iload_n k => dz_0 (26 + k.val)
  | .lload_n k => dz_0 (30 + k.val)
  | .aload_n k => dz_0 (42 + k.val)
  | .istore_n k => dz_0 (59 + k.val)
  | .lstore_n k => dz_0 (63 + k.val)
  | .astore_n k => dz_0 (75 + k.val)
  | .iconst v => match v with
    | .ofNat m => fun n bs => Nat.ble m 5 && dz_0 (3 + m) n bs
    | .negSucc m => fun n bs => Nat.beq m 0 && dz_0 2 n bs
  | .lconst k => dz_0 (9 + k.val)
  | .ldc i => dz_1 18 i
  | .iload i => dz_1 21 i
  | .lload i => dz_1 22 i
  | .aload i => dz_1 25 i
  | .istore i => dz_1 54 i
  | .lstore i => dz_1 55 i
  | .astore i => dz_1 58 i
  | .ldc_w i => dz_2 19 i
  | .ldc2_w i => dz_2 20 i
  | .getstatic i => dz_2 178 i
  | .getfield i => dz_2 180 i
  | .putfield i => dz_2 181 i
  | .invokevirtual i => dz_2 182 i
  | .invokespecial i => dz_2 183 i
  | .invokestatic i => dz_2 184 i
  | .new i => dz_2 187 i
  | .anewarray i => dz_2 189 i
  | .sipush v => dz_q2 17 v
  | .goto v => dz_q2 167 v
  | .ifnull v => dz_q2 198 v
  | .ifnonnull v => dz_q2 199 v
  | .bipush v => dz_q1 16 v
  | .iinc i v => dz_ii i v
  | .ifCond c v => match c with
    | .eq => dz_q2 153 v
    | .ne => dz_q2 154 v
    | .lt => dz_q2 155 v
    | .ge => dz_q2 156 v
    | .gt => dz_q2 157 v
    | .le => dz_q2 158 v
  | .if_icmp c v => match c with
    | .eq => dz_q2 159 v
    | .ne => dz_q2 160 v
    | .lt => dz_q2 161 v
    | .ge => dz_q2 162 v
    | .gt => dz_q2 163 v
    | .le => dz_q2 164 v
  | .newarray t => match t with
    | .int => dz_1 188 10
    | .long => dz_1 188 11
    | .boolean => dz_1 188 4
    | _ => fun _ _ => false
  | _ => fun _ _ => false
theorem dz_ok {i : Instr} {n : Nat} (hb : dz_bs c pc bs) (h : dz_k i n bs = true) : decode c pc = .ok (i, n) := by
  cases i with
  | iaload => obtain ⟨r, rfl, rfl⟩ := dz_0i h; exact dq_iaload hb
  | laload => obtain ⟨r, rfl, rfl⟩ := dz_0i h; exact dq_laload hb
  | aaload => obtain ⟨r, rfl, rfl⟩ := dz_0i h; exact dq_aaload hb
  | baload => obtain ⟨r, rfl, rfl⟩ := dz_0i h; exact dq_baload hb
  | iastore => obtain ⟨r, rfl, rfl⟩ := dz_0i h; exact dq_iastore hb
  | lastore => obtain ⟨r, rfl, rfl⟩ := dz_0i h; exact dq_lastore hb
  | aastore => obtain ⟨r, rfl, rfl⟩ := dz_0i h; exact dq_aastore hb
  | bastore => obtain ⟨r, rfl, rfl⟩ := dz_0i h; exact dq_bastore hb
  | pop => obtain ⟨r, rfl, rfl⟩ := dz_0i h; exact dq_pop hb
  | pop2 => obtain ⟨r, rfl, rfl⟩ := dz_0i h; exact dq_pop2 hb
  | dup => obtain ⟨r, rfl, rfl⟩ := dz_0i h; exact dq_dup hb
  | dup2 => obtain ⟨r, rfl, rfl⟩ := dz_0i h; exact dq_dup2 hb
  | iadd => obtain ⟨r, rfl, rfl⟩ := dz_0i h; exact dq_iadd hb
  | ladd => obtain ⟨r, rfl, rfl⟩ := dz_0i h; exact dq_ladd hb
  | isub => obtain ⟨r, rfl, rfl⟩ := dz_0i h; exact dq_isub hb
  | lsub => obtain ⟨r, rfl, rfl⟩ := dz_0i h; exact dq_lsub hb
  | imul => obtain ⟨r, rfl, rfl⟩ := dz_0i h; exact dq_imul hb
  | lmul => obtain ⟨r, rfl, rfl⟩ := dz_0i h; exact dq_lmul hb
  | idiv => obtain ⟨r, rfl, rfl⟩ := dz_0i h; exact dq_idiv hb
  | ldiv => obtain ⟨r, rfl, rfl⟩ := dz_0i h; exact dq_ldiv hb
  | irem => obtain ⟨r, rfl, rfl⟩ := dz_0i h; exact dq_irem hb
  | lrem => obtain ⟨r, rfl, rfl⟩ := dz_0i h; exact dq_lrem hb
  | ineg => obtain ⟨r, rfl, rfl⟩ := dz_0i h; exact dq_ineg hb
  | lneg => obtain ⟨r, rfl, rfl⟩ := dz_0i h; exact dq_lneg hb
  | ishl => obtain ⟨r, rfl, rfl⟩ := dz_0i h; exact dq_ishl hb
  | lshl => obtain ⟨r, rfl, rfl⟩ := dz_0i h; exact dq_lshl hb
  | ishr => obtain ⟨r, rfl, rfl⟩ := dz_0i h; exact dq_ishr hb
  | lshr => obtain ⟨r, rfl, rfl⟩ := dz_0i h; exact dq_lshr hb
  | iushr => obtain ⟨r, rfl, rfl⟩ := dz_0i h; exact dq_iushr hb
  | lushr => obtain ⟨r, rfl, rfl⟩ := dz_0i h; exact dq_lushr hb
  | iand => obtain ⟨r, rfl, rfl⟩ := dz_0i h; exact dq_iand hb
  | land => obtain ⟨r, rfl, rfl⟩ := dz_0i h; exact dq_land hb
  | ior => obtain ⟨r, rfl, rfl⟩ := dz_0i h; exact dq_ior hb
  | lor => obtain ⟨r, rfl, rfl⟩ := dz_0i h; exact dq_lor hb
  | ixor => obtain ⟨r, rfl, rfl⟩ := dz_0i h; exact dq_ixor hb
  | lxor => obtain ⟨r, rfl, rfl⟩ := dz_0i h; exact dq_lxor hb
  | i2l => obtain ⟨r, rfl, rfl⟩ := dz_0i h; exact dq_i2l hb
  | l2i => obtain ⟨r, rfl, rfl⟩ := dz_0i h; exact dq_l2i hb
  | lcmp => obtain ⟨r, rfl, rfl⟩ := dz_0i h; exact dq_lcmp hb
  | ireturn => obtain ⟨r, rfl, rfl⟩ := dz_0i h; exact dq_ireturn hb
  | lreturn => obtain ⟨r, rfl, rfl⟩ := dz_0i h; exact dq_lreturn hb
  | areturn => obtain ⟨r, rfl, rfl⟩ := dz_0i h; exact dq_areturn hb
  | return_ => obtain ⟨r, rfl, rfl⟩ := dz_0i h; exact dq_return_ hb
  | arraylength => obtain ⟨r, rfl, rfl⟩ := dz_0i h; exact dq_arraylength hb
  | aconst_null => obtain ⟨r, rfl, rfl⟩ := dz_0i h; exact dq_aconst_null hb
  | iload_n k =>
    obtain ⟨r, rfl, rfl⟩ := dz_0i h
    match k, hb with
    | ⟨0, _⟩, hb => exact dq_iload_n0 hb
    | ⟨1, _⟩, hb => exact dq_iload_n1 hb
    | ⟨2, _⟩, hb => exact dq_iload_n2 hb
    | ⟨3, _⟩, hb => exact dq_iload_n3 hb
  | lload_n k =>
    obtain ⟨r, rfl, rfl⟩ := dz_0i h
    match k, hb with
    | ⟨0, _⟩, hb => exact dq_lload_n0 hb
    | ⟨1, _⟩, hb => exact dq_lload_n1 hb
    | ⟨2, _⟩, hb => exact dq_lload_n2 hb
    | ⟨3, _⟩, hb => exact dq_lload_n3 hb
  | aload_n k =>
    obtain ⟨r, rfl, rfl⟩ := dz_0i h
    match k, hb with
    | ⟨0, _⟩, hb => exact dq_aload_n0 hb
    | ⟨1, _⟩, hb => exact dq_aload_n1 hb
    | ⟨2, _⟩, hb => exact dq_aload_n2 hb
    | ⟨3, _⟩, hb => exact dq_aload_n3 hb
  | istore_n k =>
    obtain ⟨r, rfl, rfl⟩ := dz_0i h
    match k, hb with
    | ⟨0, _⟩, hb => exact dq_istore_n0 hb
    | ⟨1, _⟩, hb => exact dq_istore_n1 hb
    | ⟨2, _⟩, hb => exact dq_istore_n2 hb
    | ⟨3, _⟩, hb => exact dq_istore_n3 hb
  | lstore_n k =>
    obtain ⟨r, rfl, rfl⟩ := dz_0i h
    match k, hb with
    | ⟨0, _⟩, hb => exact dq_lstore_n0 hb
    | ⟨1, _⟩, hb => exact dq_lstore_n1 hb
    | ⟨2, _⟩, hb => exact dq_lstore_n2 hb
    | ⟨3, _⟩, hb => exact dq_lstore_n3 hb
  | astore_n k =>
    obtain ⟨r, rfl, rfl⟩ := dz_0i h
    match k, hb with
    | ⟨0, _⟩, hb => exact dq_astore_n0 hb
    | ⟨1, _⟩, hb => exact dq_astore_n1 hb
    | ⟨2, _⟩, hb => exact dq_astore_n2 hb
    | ⟨3, _⟩, hb => exact dq_astore_n3 hb
  | iconst v =>
    cases v with
    | ofNat m =>
      have q := dz_an h
      obtain ⟨r, rfl, rfl⟩ := dz_0i q.2
      have hm := Nat.le_of_ble_eq_true q.1
      match m, hm, hb with
      | 0, _, hb => exact dq_iconst1 hb
      | 1, _, hb => exact dq_iconst2 hb
      | 2, _, hb => exact dq_iconst3 hb
      | 3, _, hb => exact dq_iconst4 hb
      | 4, _, hb => exact dq_iconst5 hb
      | 5, _, hb => exact dq_iconst6 hb
    | negSucc m =>
      have q := dz_an h
      have hm := Nat.eq_of_beq_eq_true q.1
      subst hm
      obtain ⟨r, rfl, rfl⟩ := dz_0i q.2
      exact dq_iconst0 hb
  | lconst k =>
    obtain ⟨r, rfl, rfl⟩ := dz_0i h
    match k, hb with
    | ⟨0, _⟩, hb => exact dq_lconst0 hb
    | ⟨1, _⟩, hb => exact dq_lconst1 hb
  | ldc i => obtain ⟨r, rfl, rfl⟩ := dz_1i h; exact dq_ldc hb
  | iload i => obtain ⟨r, rfl, rfl⟩ := dz_1i h; exact dq_iload hb
  | lload i => obtain ⟨r, rfl, rfl⟩ := dz_1i h; exact dq_lload hb
  | aload i => obtain ⟨r, rfl, rfl⟩ := dz_1i h; exact dq_aload hb
  | istore i => obtain ⟨r, rfl, rfl⟩ := dz_1i h; exact dq_istore hb
  | lstore i => obtain ⟨r, rfl, rfl⟩ := dz_1i h; exact dq_lstore hb
  | astore i => obtain ⟨r, rfl, rfl⟩ := dz_1i h; exact dq_astore hb
  | ldc_w i => obtain ⟨x, y, r, rfl, rfl, rfl⟩ := dz_2i h; exact dq_ldc_w hb
  | ldc2_w i => obtain ⟨x, y, r, rfl, rfl, rfl⟩ := dz_2i h; exact dq_ldc2_w hb
  | getstatic i => obtain ⟨x, y, r, rfl, rfl, rfl⟩ := dz_2i h; exact dq_getstatic hb
  | getfield i => obtain ⟨x, y, r, rfl, rfl, rfl⟩ := dz_2i h; exact dq_getfield hb
  | putfield i => obtain ⟨x, y, r, rfl, rfl, rfl⟩ := dz_2i h; exact dq_putfield hb
  | invokevirtual i => obtain ⟨x, y, r, rfl, rfl, rfl⟩ := dz_2i h; exact dq_invokevirtual hb
  | invokespecial i => obtain ⟨x, y, r, rfl, rfl, rfl⟩ := dz_2i h; exact dq_invokespecial hb
  | invokestatic i => obtain ⟨x, y, r, rfl, rfl, rfl⟩ := dz_2i h; exact dq_invokestatic hb
  | new i => obtain ⟨x, y, r, rfl, rfl, rfl⟩ := dz_2i h; exact dq_new hb
  | anewarray i => obtain ⟨x, y, r, rfl, rfl, rfl⟩ := dz_2i h; exact dq_anewarray hb
  | sipush v => obtain ⟨x, y, r, rfl, rfl, rfl⟩ := dz_q2i h; exact dq_sipush hb
  | goto v => obtain ⟨x, y, r, rfl, rfl, rfl⟩ := dz_q2i h; exact dq_goto hb
  | ifnull v => obtain ⟨x, y, r, rfl, rfl, rfl⟩ := dz_q2i h; exact dq_ifnull hb
  | ifnonnull v => obtain ⟨x, y, r, rfl, rfl, rfl⟩ := dz_q2i h; exact dq_ifnonnull hb
  | bipush v => obtain ⟨x, r, rfl, rfl, rfl⟩ := dz_q1i h; exact dq_bipush hb
  | iinc i v => obtain ⟨x, r, rfl, rfl, rfl⟩ := dz_iii h; exact dq_iinc hb
  | ifCond k v =>
    cases k with
    | eq => obtain ⟨x, y, r, rfl, rfl, rfl⟩ := dz_q2i h; exact dq_if_eq hb
    | ne => obtain ⟨x, y, r, rfl, rfl, rfl⟩ := dz_q2i h; exact dq_if_ne hb
    | lt => obtain ⟨x, y, r, rfl, rfl, rfl⟩ := dz_q2i h; exact dq_if_lt hb
    | ge => obtain ⟨x, y, r, rfl, rfl, rfl⟩ := dz_q2i h; exact dq_if_ge hb
    | gt => obtain ⟨x, y, r, rfl, rfl, rfl⟩ := dz_q2i h; exact dq_if_gt hb
    | le => obtain ⟨x, y, r, rfl, rfl, rfl⟩ := dz_q2i h; exact dq_if_le hb
  | if_icmp k v =>
    cases k with
    | eq => obtain ⟨x, y, r, rfl, rfl, rfl⟩ := dz_q2i h; exact dq_ic_eq hb
    | ne => obtain ⟨x, y, r, rfl, rfl, rfl⟩ := dz_q2i h; exact dq_ic_ne hb
    | lt => obtain ⟨x, y, r, rfl, rfl, rfl⟩ := dz_q2i h; exact dq_ic_lt hb
    | ge => obtain ⟨x, y, r, rfl, rfl, rfl⟩ := dz_q2i h; exact dq_ic_ge hb
    | gt => obtain ⟨x, y, r, rfl, rfl, rfl⟩ := dz_q2i h; exact dq_ic_gt hb
    | le => obtain ⟨x, y, r, rfl, rfl, rfl⟩ := dz_q2i h; exact dq_ic_le hb
  | newarray t =>
    cases t with
    | int => obtain ⟨r, rfl, rfl⟩ := dz_1i h; exact dq_newarray_int hb
    | long => obtain ⟨r, rfl, rfl⟩ := dz_1i h; exact dq_newarray_long hb
    | boolean => obtain ⟨r, rfl, rfl⟩ := dz_1i h; exact dq_newarray_boolean hb
    | _ => exact absurd h Bool.false_ne_true
  | _ => exact absurd h Bool.false_ne_true
def dz_chk : List dz_r → Nat → List Nat → Bool
  | [], _, _ => true
  | q :: l, pc, bs => Nat.beq q.1 pc && (dz_k q.2.1 q.2.2 bs && dz_chk l (q.1 + q.2.2) (bs.drop q.2.2))
def dz (c : ByteArray) : List dz_r → Prop
  | [] => True
  | q :: l => decode c q.1 = .ok q.2 ∧ dz c l
theorem dz_al (c : ByteArray) : ∀ (l : List dz_r) (pc : Nat) (bs : List Nat), dz_chk l pc bs = true → dz_bs c pc bs → dz c l
  | [], _, _, _, _ => trivial
  | q :: l, pc, bs, h, hb => by
    have h1 := dz_an h
    have h2 := dz_an h1.2
    have e := Nat.eq_of_beq_eq_true h1.1
    subst e
    exact ⟨dz_ok hb h2.1, dz_al c l _ _ h2.2 (dz_dr _ hb)⟩
theorem dz_all {c : ByteArray} {l : List dz_r} (lo : Nat) (h : dz_chk l lo ((c.data.toList.drop lo).map UInt8.toNat) = true) : dz c l := dz_al c l lo _ h rfl
theorem am_kd {c : ByteArray} {P : Nat × am_S → Prop} {s : am_S} {k : am_code} {pc n : Nat} {i : Instr} {l : List dz_r} (h : decode c pc = .ok (i, n) → P (pc, s)) (hl : dz c l → ∀ q ∈ k, P q) : dz c ((pc, i, n) :: l) → ∀ q ∈ (pc, s) :: k, P q := fun H q hq => by
  rcases List.mem_cons.mp hq with rfl | h2
  · exact h H.1
  · exact hl H.2 q h2
theorem am_kz {c : ByteArray} {l : List dz_r} {G : Prop} (H : dz c l) (f : dz c l → G) : G := f H
theorem an_ks {c : ByteArray} {l : List dz_r} {q : dz_r} {G : Prop} (f : dz c l → G) : dz c (q :: l) → G := fun H => f H.2
theorem am_kdn {c : ByteArray} {P : Nat × am_S → Prop} : dz c [] → ∀ q ∈ ([] : am_code), P q := fun _ _ h => absurd h List.not_mem_nil
theorem an_kd {c : ByteArray} {P : Nat × an_S → Prop} {s : an_S} {k : an_code} {pc n : Nat} {i : Instr} {l : List dz_r} (h : decode c pc = .ok (i, n) → P (pc, s)) (hl : dz c l → ∀ q ∈ k, P q) : dz c ((pc, i, n) :: l) → ∀ q ∈ (pc, s) :: k, P q := fun H q hq => by
  rcases List.mem_cons.mp hq with rfl | h2
  · exact h H.1
  · exact hl H.2 q h2
theorem an_kdn {c : ByteArray} {P : Nat × an_S → Prop} : dz c [] → ∀ q ∈ ([] : an_code), P q := fun _ _ h => absurd h List.not_mem_nil
end DZ
end
-- part 10.small.lean.txt
section
/-! small methods of the class -/
def rwX7_within : List dz_r := [(0, .iload_n 0, 1), (1, .iload_n 1, 1), (2, .if_icmp .lt 12, 3), (5, .iload_n 0, 1), (6, .iload_n 2, 1), (7, .if_icmp .gt 7, 3), (10, .iconst 1, 1), (11, .goto 4, 3), (14, .iconst 0, 1), (15, .ireturn, 1)]
theorem dzX7_within : dz cX7_within rwX7_within := dz_all 0 (by decide +kernel)
def kX7_within (live : am_E) (Ret : am_R) : am_code := [(0, am_iload 0 1), (1, am_iload 1 2), (2, am_if2 (fun x y => x < y) 14 5), (5, am_iload 0 6), (6, am_iload 2 7), (7, am_if2 (fun x y => y < x) 14 10), (10, am_const (.int 1) 11), (11, am_goto 15), (14, am_const (.int 0) 15), (15, am_retZ Ret)]
theorem koX7_within (live : am_E) (Ret : am_R) : ∀ q ∈ kX7_within live Ret, am_ok RX7 cX7_within 3 (some .boolean) 0 0 live Ret q.1 q.2 :=
  am_kz dzX7_within <|
  am_kd (fun d => ak_iload_n d rfl rfl) <|
  am_kd (fun d => ak_iload_n d rfl rfl) <|
  am_kd (fun d => ak_icmp_lt d (by decide +kernel) rfl) <|
  am_kd (fun d => ak_iload_n d rfl rfl) <|
  am_kd (fun d => ak_iload_n d rfl rfl) <|
  am_kd (fun d => ak_icmp_gt d (by decide +kernel) rfl) <|
  am_kd (fun d => ak_iconst d (by decide +kernel) rfl) <|
  am_kd (fun d => ak_goto d (by decide +kernel)) <|
  am_kd (fun d => ak_iconst d (by decide +kernel) rfl) <|
  am_kd (fun d => ak_retZ d) <| am_kdn
def TX7_within : am_T := fun _ as M R => match as with
  | [.int v, .int a, .int b] => R (some (.int (if a ≤ v ∧ v ≤ b then 1 else 0))) M
  | _ => False
set_option maxRecDepth 100000 in
set_option maxHeartbeats 4000000 in
theorem metX7_within : am_Met yX7_within cX7_within 3 (some .boolean) (0) (0) TX7_within := by
  refine am_met (own := RX7) (by decide +kernel) rfl kX7_within koX7_within 60 (fun _ _ _ _ _ => none) (fun live as M Ret h => ?_) (fun _ _ _ _ _ _ _ _ hI => by cases hI)
  unfold TX7_within at h
  split at h
  · next v a b =>
    refine ⟨Nat.le_of_ble_eq_true rfl, ?_⟩
    change am_wp _ _ _ _ [(0, Value.int v), (1, Value.int a), (2, Value.int b)] _ _
    repeat' (first | apply And.intro | exact rfl | intro hx | (refine Exists.intro _ (And.intro rfl ?_)))
    all_goals try first | (with_reducible change am_tI _ _) | (change Ret _ _) | (change Ret _ _ _) | (change Exists _)
    all_goals try dsimp only at *
    all_goals try exact absurd ‹(1000 : Int64) = 0› (by decide)
    all_goals first | (left; rfl) | (right; rfl) | grind
  · exact h.elim
def rwX7_isYear : List dz_r := [(0, .iload_n 0, 1), (1, .ifCond .lt 13, 3), (4, .iload_n 0, 1), (5, .bipush 40, 2), (7, .if_icmp .ge 7, 3), (10, .iconst 1, 1), (11, .goto 4, 3), (14, .iconst 0, 1), (15, .ireturn, 1)]
theorem dzX7_isYear : dz cX7_isYear rwX7_isYear := dz_all 0 (by decide +kernel)
def kX7_isYear (live : am_E) (Ret : am_R) : am_code := [(0, am_iload 0 1), (1, am_if1 (fun x => x < 0) 14 4), (4, am_iload 0 5), (5, am_const (.int 40) 7), (7, am_if2 (fun x y => y ≤ x) 14 10), (10, am_const (.int 1) 11), (11, am_goto 15), (14, am_const (.int 0) 15), (15, am_retZ Ret)]
theorem koX7_isYear (live : am_E) (Ret : am_R) : ∀ q ∈ kX7_isYear live Ret, am_ok RX7 cX7_isYear 1 (some .boolean) 0 0 live Ret q.1 q.2 :=
  am_kz dzX7_isYear <|
  am_kd (fun d => ak_iload_n d rfl rfl) <|
  am_kd (fun d => ak_if_lt d (by decide +kernel) rfl) <|
  am_kd (fun d => ak_iload_n d rfl rfl) <|
  am_kd (fun d => ak_bipush d (by decide +kernel) rfl) <|
  am_kd (fun d => ak_icmp_ge d (by decide +kernel) rfl) <|
  am_kd (fun d => ak_iconst d (by decide +kernel) rfl) <|
  am_kd (fun d => ak_goto d (by decide +kernel)) <|
  am_kd (fun d => ak_iconst d (by decide +kernel) rfl) <|
  am_kd (fun d => ak_retZ d) <| am_kdn
def TX7_isYear : am_T := fun _ as M R => match as with
  | [.int v] => R (some (.int (if 0 ≤ v ∧ v < 40 then 1 else 0))) M
  | _ => False
set_option maxRecDepth 100000 in
set_option maxHeartbeats 4000000 in
theorem metX7_isYear : am_Met yX7_isYear cX7_isYear 1 (some .boolean) (0) (0) TX7_isYear := by
  refine am_met (own := RX7) (by decide +kernel) rfl kX7_isYear koX7_isYear 60 (fun _ _ _ _ _ => none) (fun live as M Ret h => ?_) (fun _ _ _ _ _ _ _ _ hI => by cases hI)
  unfold TX7_isYear at h
  split at h
  · next v =>
    refine ⟨Nat.le_of_ble_eq_true rfl, ?_⟩
    change am_wp _ _ _ _ [(0, Value.int v)] _ _
    repeat' (first | apply And.intro | exact rfl | intro hx | (refine Exists.intro _ (And.intro rfl ?_)))
    all_goals try first | (with_reducible change am_tI _ _) | (change Ret _ _) | (change Ret _ _ _) | (change Exists _)
    all_goals try dsimp only at *
    all_goals try exact absurd ‹(1000 : Int64) = 0› (by decide)
    all_goals first | (left; rfl) | (right; rfl) | grind
  · exact h.elim
def rwX7_isSpan : List dz_r := [(0, .iload_n 0, 1), (1, .ifCond .lt 18, 3), (4, .iload_n 0, 1), (5, .iload_n 1, 1), (6, .if_icmp .gt 13, 3), (9, .iload_n 1, 1), (10, .bipush 40, 2), (12, .if_icmp .ge 7, 3), (15, .iconst 1, 1), (16, .goto 4, 3), (19, .iconst 0, 1), (20, .ireturn, 1)]
theorem dzX7_isSpan : dz cX7_isSpan rwX7_isSpan := dz_all 0 (by decide +kernel)
def kX7_isSpan (live : am_E) (Ret : am_R) : am_code := [(0, am_iload 0 1), (1, am_if1 (fun x => x < 0) 19 4), (4, am_iload 0 5), (5, am_iload 1 6), (6, am_if2 (fun x y => y < x) 19 9), (9, am_iload 1 10), (10, am_const (.int 40) 12), (12, am_if2 (fun x y => y ≤ x) 19 15), (15, am_const (.int 1) 16), (16, am_goto 20), (19, am_const (.int 0) 20), (20, am_retZ Ret)]
theorem koX7_isSpan (live : am_E) (Ret : am_R) : ∀ q ∈ kX7_isSpan live Ret, am_ok RX7 cX7_isSpan 2 (some .boolean) 0 0 live Ret q.1 q.2 :=
  am_kz dzX7_isSpan <|
  am_kd (fun d => ak_iload_n d rfl rfl) <|
  am_kd (fun d => ak_if_lt d (by decide +kernel) rfl) <|
  am_kd (fun d => ak_iload_n d rfl rfl) <|
  am_kd (fun d => ak_iload_n d rfl rfl) <|
  am_kd (fun d => ak_icmp_gt d (by decide +kernel) rfl) <|
  am_kd (fun d => ak_iload_n d rfl rfl) <|
  am_kd (fun d => ak_bipush d (by decide +kernel) rfl) <|
  am_kd (fun d => ak_icmp_ge d (by decide +kernel) rfl) <|
  am_kd (fun d => ak_iconst d (by decide +kernel) rfl) <|
  am_kd (fun d => ak_goto d (by decide +kernel)) <|
  am_kd (fun d => ak_iconst d (by decide +kernel) rfl) <|
  am_kd (fun d => ak_retZ d) <| am_kdn
def TX7_isSpan : am_T := fun _ as M R => match as with
  | [.int a, .int b] => R (some (.int (if 0 ≤ a ∧ a ≤ b ∧ b < 40 then 1 else 0))) M
  | _ => False
set_option maxRecDepth 100000 in
set_option maxHeartbeats 4000000 in
theorem metX7_isSpan : am_Met yX7_isSpan cX7_isSpan 2 (some .boolean) (0) (0) TX7_isSpan := by
  refine am_met (own := RX7) (by decide +kernel) rfl kX7_isSpan koX7_isSpan 60 (fun _ _ _ _ _ => none) (fun live as M Ret h => ?_) (fun _ _ _ _ _ _ _ _ hI => by cases hI)
  unfold TX7_isSpan at h
  split at h
  · next a b =>
    refine ⟨Nat.le_of_ble_eq_true rfl, ?_⟩
    change am_wp _ _ _ _ [(0, Value.int a), (1, Value.int b)] _ _
    repeat' (first | apply And.intro | exact rfl | intro hx | (refine Exists.intro _ (And.intro rfl ?_)))
    all_goals try first | (with_reducible change am_tI _ _) | (change Ret _ _) | (change Ret _ _ _) | (change Exists _)
    all_goals try dsimp only at *
    all_goals try exact absurd ‹(1000 : Int64) = 0› (by decide)
    all_goals first | (left; rfl) | (right; rfl) | grind
  · exact h.elim
set_option maxRecDepth 100000 in
theorem wd_449 : Cond.constant "LearnLoans" 275 10000000 ∈ am_ws := am_wt2 (List.mem_of_getElem? (i := 152) (by rfl)) (by decide +kernel)
def rwX7_isPence : List dz_r := [(0, .iload_n 0, 1), (1, .ifCond .lt 14, 3), (4, .iload_n 0, 1), (5, .ldc_w 275, 3), (8, .if_icmp .gt 7, 3), (11, .iconst 1, 1), (12, .goto 4, 3), (15, .iconst 0, 1), (16, .ireturn, 1)]
theorem dzX7_isPence : dz cX7_isPence rwX7_isPence := dz_all 0 (by decide +kernel)
def kX7_isPence (live : am_E) (Ret : am_R) : am_code := [(0, am_iload 0 1), (1, am_if1 (fun x => x < 0) 15 4), (4, am_iload 0 5), (5, am_const (.int 10000000) 8), (8, am_if2 (fun x y => y < x) 15 11), (11, am_const (.int 1) 12), (12, am_goto 16), (15, am_const (.int 0) 16), (16, am_retZ Ret)]
theorem koX7_isPence (live : am_E) (Ret : am_R) : ∀ q ∈ kX7_isPence live Ret, am_ok RX7 cX7_isPence 1 (some .boolean) 0 0 live Ret q.1 q.2 :=
  am_kz dzX7_isPence <|
  am_kd (fun d => ak_iload_n d rfl rfl) <|
  am_kd (fun d => ak_if_lt d (by decide +kernel) rfl) <|
  am_kd (fun d => ak_iload_n d rfl rfl) <|
  am_kd (fun d => ak_ldcw wd_449 d rfl) <|
  am_kd (fun d => ak_icmp_gt d (by decide +kernel) rfl) <|
  am_kd (fun d => ak_iconst d (by decide +kernel) rfl) <|
  am_kd (fun d => ak_goto d (by decide +kernel)) <|
  am_kd (fun d => ak_iconst d (by decide +kernel) rfl) <|
  am_kd (fun d => ak_retZ d) <| am_kdn
def TX7_isPence : am_T := fun _ as M R => match as with
  | [.int v] => R (some (.int (if 0 ≤ v ∧ v ≤ 10000000 then 1 else 0))) M
  | _ => False
set_option maxRecDepth 100000 in
set_option maxHeartbeats 4000000 in
theorem metX7_isPence : am_Met yX7_isPence cX7_isPence 1 (some .boolean) (0) (0) TX7_isPence := by
  refine am_met (own := RX7) (by decide +kernel) rfl kX7_isPence koX7_isPence 60 (fun _ _ _ _ _ => none) (fun live as M Ret h => ?_) (fun _ _ _ _ _ _ _ _ hI => by cases hI)
  unfold TX7_isPence at h
  split at h
  · next v =>
    refine ⟨Nat.le_of_ble_eq_true rfl, ?_⟩
    change am_wp _ _ _ _ [(0, Value.int v)] _ _
    repeat' (first | apply And.intro | exact rfl | intro hx | (refine Exists.intro _ (And.intro rfl ?_)))
    all_goals try first | (with_reducible change am_tI _ _) | (change Ret _ _) | (change Ret _ _ _) | (change Exists _)
    all_goals try dsimp only at *
    all_goals try exact absurd ‹(1000 : Int64) = 0› (by decide)
    all_goals first | (left; rfl) | (right; rfl) | grind
  · exact h.elim
def rwX7_isPlan : List dz_r := [(0, .iload_n 0, 1), (1, .ifCond .lt 12, 3), (4, .iload_n 0, 1), (5, .iconst 5, 1), (6, .if_icmp .ge 7, 3), (9, .iconst 1, 1), (10, .goto 4, 3), (13, .iconst 0, 1), (14, .ireturn, 1)]
theorem dzX7_isPlan : dz cX7_isPlan rwX7_isPlan := dz_all 0 (by decide +kernel)
def kX7_isPlan (live : am_E) (Ret : am_R) : am_code := [(0, am_iload 0 1), (1, am_if1 (fun x => x < 0) 13 4), (4, am_iload 0 5), (5, am_const (.int 5) 6), (6, am_if2 (fun x y => y ≤ x) 13 9), (9, am_const (.int 1) 10), (10, am_goto 14), (13, am_const (.int 0) 14), (14, am_retZ Ret)]
theorem koX7_isPlan (live : am_E) (Ret : am_R) : ∀ q ∈ kX7_isPlan live Ret, am_ok RX7 cX7_isPlan 1 (some .boolean) 0 0 live Ret q.1 q.2 :=
  am_kz dzX7_isPlan <|
  am_kd (fun d => ak_iload_n d rfl rfl) <|
  am_kd (fun d => ak_if_lt d (by decide +kernel) rfl) <|
  am_kd (fun d => ak_iload_n d rfl rfl) <|
  am_kd (fun d => ak_iconst d (by decide +kernel) rfl) <|
  am_kd (fun d => ak_icmp_ge d (by decide +kernel) rfl) <|
  am_kd (fun d => ak_iconst d (by decide +kernel) rfl) <|
  am_kd (fun d => ak_goto d (by decide +kernel)) <|
  am_kd (fun d => ak_iconst d (by decide +kernel) rfl) <|
  am_kd (fun d => ak_retZ d) <| am_kdn
def TX7_isPlan : am_T := fun _ as M R => match as with
  | [.int v] => R (some (.int (if 0 ≤ v ∧ v < 5 then 1 else 0))) M
  | _ => False
set_option maxRecDepth 100000 in
set_option maxHeartbeats 4000000 in
theorem metX7_isPlan : am_Met yX7_isPlan cX7_isPlan 1 (some .boolean) (0) (0) TX7_isPlan := by
  refine am_met (own := RX7) (by decide +kernel) rfl kX7_isPlan koX7_isPlan 60 (fun _ _ _ _ _ => none) (fun live as M Ret h => ?_) (fun _ _ _ _ _ _ _ _ hI => by cases hI)
  unfold TX7_isPlan at h
  split at h
  · next v =>
    refine ⟨Nat.le_of_ble_eq_true rfl, ?_⟩
    change am_wp _ _ _ _ [(0, Value.int v)] _ _
    repeat' (first | apply And.intro | exact rfl | intro hx | (refine Exists.intro _ (And.intro rfl ?_)))
    all_goals try first | (with_reducible change am_tI _ _) | (change Ret _ _) | (change Ret _ _ _) | (change Exists _)
    all_goals try dsimp only at *
    all_goals try exact absurd ‹(1000 : Int64) = 0› (by decide)
    all_goals first | (left; rfl) | (right; rfl) | grind
  · exact h.elim
def rwX7_isChance : List dz_r := [(0, .iload_n 0, 1), (1, .ifCond .lt 13, 3), (4, .iload_n 0, 1), (5, .bipush 10, 2), (7, .if_icmp .gt 7, 3), (10, .iconst 1, 1), (11, .goto 4, 3), (14, .iconst 0, 1), (15, .ireturn, 1)]
theorem dzX7_isChance : dz cX7_isChance rwX7_isChance := dz_all 0 (by decide +kernel)
def kX7_isChance (live : am_E) (Ret : am_R) : am_code := [(0, am_iload 0 1), (1, am_if1 (fun x => x < 0) 14 4), (4, am_iload 0 5), (5, am_const (.int 10) 7), (7, am_if2 (fun x y => y < x) 14 10), (10, am_const (.int 1) 11), (11, am_goto 15), (14, am_const (.int 0) 15), (15, am_retZ Ret)]
theorem koX7_isChance (live : am_E) (Ret : am_R) : ∀ q ∈ kX7_isChance live Ret, am_ok RX7 cX7_isChance 1 (some .boolean) 0 0 live Ret q.1 q.2 :=
  am_kz dzX7_isChance <|
  am_kd (fun d => ak_iload_n d rfl rfl) <|
  am_kd (fun d => ak_if_lt d (by decide +kernel) rfl) <|
  am_kd (fun d => ak_iload_n d rfl rfl) <|
  am_kd (fun d => ak_bipush d (by decide +kernel) rfl) <|
  am_kd (fun d => ak_icmp_gt d (by decide +kernel) rfl) <|
  am_kd (fun d => ak_iconst d (by decide +kernel) rfl) <|
  am_kd (fun d => ak_goto d (by decide +kernel)) <|
  am_kd (fun d => ak_iconst d (by decide +kernel) rfl) <|
  am_kd (fun d => ak_retZ d) <| am_kdn
def TX7_isChance : am_T := fun _ as M R => match as with
  | [.int v] => R (some (.int (if 0 ≤ v ∧ v ≤ 10 then 1 else 0))) M
  | _ => False
set_option maxRecDepth 100000 in
set_option maxHeartbeats 4000000 in
theorem metX7_isChance : am_Met yX7_isChance cX7_isChance 1 (some .boolean) (0) (0) TX7_isChance := by
  refine am_met (own := RX7) (by decide +kernel) rfl kX7_isChance koX7_isChance 60 (fun _ _ _ _ _ => none) (fun live as M Ret h => ?_) (fun _ _ _ _ _ _ _ _ hI => by cases hI)
  unfold TX7_isChance at h
  split at h
  · next v =>
    refine ⟨Nat.le_of_ble_eq_true rfl, ?_⟩
    change am_wp _ _ _ _ [(0, Value.int v)] _ _
    repeat' (first | apply And.intro | exact rfl | intro hx | (refine Exists.intro _ (And.intro rfl ?_)))
    all_goals try first | (with_reducible change am_tI _ _) | (change Ret _ _) | (change Ret _ _ _) | (change Exists _)
    all_goals try dsimp only at *
    all_goals try exact absurd ‹(1000 : Int64) = 0› (by decide)
    all_goals first | (left; rfl) | (right; rfl) | grind
  · exact h.elim
set_option maxRecDepth 100000 in
theorem wd_148 : Cond.fieldLink "LearnLoans$Rows" 15 "LearnLoans$Rows" "wide" "I" ∈ am_ws := am_wt1 (List.mem_of_getElem? (i := 91) (by rfl)) (by decide +kernel)
set_option maxRecDepth 100000 in
theorem wd_147 : Cond.fieldLink "LearnLoans$Rows" 9 "LearnLoans$Rows" "cells" "[I" ∈ am_ws := am_wt1 (List.mem_of_getElem? (i := 90) (by rfl)) (by decide +kernel)
def rwX3_at : List dz_r := [(0, .iload_n 1, 1), (1, .aload_n 0, 1), (2, .getfield 15, 3), (5, .imul, 1), (6, .iload_n 2, 1), (7, .iadd, 1), (8, .istore_n 3, 1), (9, .iload_n 3, 1), (10, .ifCond .lt 21, 3), (13, .iload_n 3, 1), (14, .aload_n 0, 1), (15, .getfield 9, 3), (18, .arraylength, 1), (19, .if_icmp .ge 12, 3), (22, .aload_n 0, 1), (23, .getfield 9, 3), (26, .iload_n 3, 1), (27, .iaload, 1), (28, .goto 4, 3), (31, .iconst (-1), 1), (32, .ireturn, 1)]
theorem dzX3_at : dz cX3_at rwX3_at := dz_all 0 (by decide +kernel)
def kX3_at (live : am_E) (Ret : am_R) : am_code := [(0, am_iload 1 1), (1, am_aload 0 2), (2, am_getI live 3 1 5), (5, am_i2 (fun x y => x * y) 6), (6, am_iload 2 7), (7, am_i2 (fun x y => x + y) 8), (8, am_istore 3 4 9), (9, am_iload 3 10), (10, am_if1 (fun x => x < 0) 31 13), (13, am_iload 3 14), (14, am_aload 0 15), (15, am_getR live 3 0 18), (18, am_alen live 0 19), (19, am_if2 (fun x y => y ≤ x) 31 22), (22, am_aload 0 23), (23, am_getR live 3 0 26), (26, am_iload 3 27), (27, am_ald live 0 28), (28, am_goto 32), (31, am_const (.int (-1)) 32), (32, am_retI Ret)]
theorem koX3_at (live : am_E) (Ret : am_R) : ∀ q ∈ kX3_at live Ret, am_ok RX3 cX3_at 4 (some .int) 0 0 live Ret q.1 q.2 :=
  am_kz dzX3_at <|
  am_kd (fun d => ak_iload_n d rfl rfl) <|
  am_kd (fun d => ak_aload_n d rfl rfl) <|
  am_kd (fun d => ak_getI (C := RX3) (T := TX3) (N := 3) rfl inX3w (by decide) rfl rfl rfl wd_148 d rfl) <|
  am_kd (fun d => ak_imul d rfl) <|
  am_kd (fun d => ak_iload_n d rfl rfl) <|
  am_kd (fun d => ak_iadd d rfl) <|
  am_kd (fun d => ak_istore_n d rfl rfl) <|
  am_kd (fun d => ak_iload_n d rfl rfl) <|
  am_kd (fun d => ak_if_lt d (by decide +kernel) rfl) <|
  am_kd (fun d => ak_iload_n d rfl rfl) <|
  am_kd (fun d => ak_aload_n d rfl rfl) <|
  am_kd (fun d => ak_getR (C := RX3) (T := TX3) (N := 3) rfl inX3w (by decide) rfl rfl rfl wd_147 d rfl) <|
  am_kd (fun d => ak_alen (t := 0) (fun _ => rfl) d rfl) <|
  am_kd (fun d => ak_icmp_ge d (by decide +kernel) rfl) <|
  am_kd (fun d => ak_aload_n d rfl rfl) <|
  am_kd (fun d => ak_getR (C := RX3) (T := TX3) (N := 3) rfl inX3w (by decide) rfl rfl rfl wd_147 d rfl) <|
  am_kd (fun d => ak_iload_n d rfl rfl) <|
  am_kd (fun d => ak_iald (t := 0) (fun _ => rfl) rfl d rfl) <|
  am_kd (fun d => ak_goto d (by decide +kernel)) <|
  am_kd (fun d => ak_iconst d (by decide +kernel) rfl) <|
  am_kd (fun d => ak_retI d) <| am_kdn
/-- Rows.at: this at the name r, its numbers at c -/
def TX3_at : am_T := fun live as M R => match as with
  | [.ref r, .int a, .int b] => am_ex (live.2 r 0) (fun c => am_if (am_isO live 3 r && am_isA live 0 c && Nat.blt (am_len c) 100000) (R (some (.int (am_at (M.1 c) (am_len c) (a * M.1 r 1 + b)))) M))
  | _ => False
set_option maxRecDepth 100000 in
set_option maxHeartbeats 4000000 in
theorem metX3_at : am_Met yX3_at cX3_at 4 (some .int) (0) (0) TX3_at := by
  refine am_met (own := RX3) (by decide +kernel) rfl kX3_at koX3_at 60 (fun _ _ _ _ _ => none) (fun live as M Ret h => ?_) (fun _ _ _ _ _ _ _ _ hI => by cases hI)
  unfold TX3_at at h
  split at h
  · next r a b =>
    refine ⟨Nat.le_of_ble_eq_true rfl, ?_⟩
    change am_wp _ _ _ _ [(0, Value.ref r), (1, Value.int a), (2, Value.int b)] _ _
    have hh := am_qm h
    clear h
    obtain ⟨c, h2, h⟩ := hh
    have hh := am_if_mp h
    clear h
    obtain ⟨hb, h⟩ := hh
    rw [Bool.and_eq_true, Bool.and_eq_true] at hb
    obtain ⟨⟨h1, h3⟩, h4⟩ := hb
    have h4 : am_len c < 100000 := Nat.le_of_ble_eq_true h4
    repeat' (first | (with_reducible exact h1) | (with_reducible exact h2) | (with_reducible exact h3) | (refine Exists.intro _ (And.intro h2 ?_)) | apply And.intro | exact rfl | intro hx | (refine Exists.intro _ (And.intro rfl ?_)) | ((with_reducible change _ = true); simp only [h1, h2, h3, Bool.true_and]; rfl))
    all_goals try first | (with_reducible change am_tI _ _) | (change Ret _ _) | (change Ret _ _ _) | (change Exists _)
    all_goals try dsimp only at *
    all_goals try exact absurd ‹(1000 : Int64) = 0› (by decide)
    · rw [am_at_no (am_in_no1 ‹_›)] at h; exact h
    · rw [am_at_no (am_in_no2 h4 ‹_›)] at h; exact h
    · exact (am_in_of h4 ‹_› ‹_›).1
    · exact (am_in_of h4 ‹_› ‹_›).2
    · rw [am_at_in (am_in_of h4 ‹_› ‹_›)] at h; exact h
  · exact h.elim
end
-- part 11.small2.lean.txt
section
/-! the class: whether a person, a loan; a stretch laid; which is nearer -/
set_option maxRecDepth 100000 in
theorem wd_390 : Cond.fieldLink "LearnLoans" 27 "LearnLoans" "house" "LLearnLoans$House;" ∈ am_ws := am_wt2 (List.mem_of_getElem? (i := 93) (by rfl)) (by decide +kernel)
set_option maxRecDepth 100000 in
theorem wd_194 : Cond.fieldLink "LearnLoans" 38 "LearnLoans$House" "people" "LLearnLoans$People;" ∈ am_ws := am_wt1 (List.mem_of_getElem? (i := 137) (by rfl)) (by decide +kernel)
set_option maxRecDepth 100000 in
theorem wd_121 : Cond.fieldLink "LearnLoans" 42 "LearnLoans$People" "size" "I" ∈ am_ws := am_wt1 (List.mem_of_getElem? (i := 64) (by rfl)) (by decide +kernel)
def rwX7_isPerson : List dz_r := [(0, .iload_n 1, 1), (1, .ifCond .lt 21, 3), (4, .iload_n 1, 1), (5, .aload_n 0, 1), (6, .getfield 27, 3), (9, .getfield 38, 3), (12, .getfield 42, 3), (15, .if_icmp .ge 7, 3), (18, .iconst 1, 1), (19, .goto 4, 3), (22, .iconst 0, 1), (23, .ireturn, 1)]
theorem dzX7_isPerson : dz cX7_isPerson rwX7_isPerson := dz_all 0 (by decide +kernel)
def kX7_isPerson (live : am_E) (Ret : am_R) : am_code := [(0, am_iload 1 1), (1, am_if1 (fun x => x < 0) 22 4), (4, am_iload 1 5), (5, am_aload 0 6), (6, am_getR live 7 0 9), (9, am_getR live 0 0 12), (12, am_getI live 2 7 15), (15, am_if2 (fun x y => y ≤ x) 22 18), (18, am_const (.int 1) 19), (19, am_goto 23), (22, am_const (.int 0) 23), (23, am_retZ Ret)]
theorem koX7_isPerson (live : am_E) (Ret : am_R) : ∀ q ∈ kX7_isPerson live Ret, am_ok RX7 cX7_isPerson 2 (some .boolean) 0 0 live Ret q.1 q.2 :=
  am_kz dzX7_isPerson <|
  am_kd (fun d => ak_iload_n d rfl rfl) <|
  am_kd (fun d => ak_if_lt d (by decide +kernel) rfl) <|
  am_kd (fun d => ak_iload_n d rfl rfl) <|
  am_kd (fun d => ak_aload_n d rfl rfl) <|
  am_kd (fun d => ak_getR (C := RX7) (T := TX7) (N := 4) rfl inX7w (by decide) rfl rfl rfl wd_390 d rfl) <|
  am_kd (fun d => ak_getR (C := RX0) (T := TX0) (N := 13) rfl inX0w (by decide) rfl rfl rfl wd_194 d rfl) <|
  am_kd (fun d => ak_getI (C := RX2) (T := TX2) (N := 8) rfl inX2w (by decide) rfl rfl rfl wd_121 d rfl) <|
  am_kd (fun d => ak_icmp_ge d (by decide +kernel) rfl) <|
  am_kd (fun d => ak_iconst d (by decide +kernel) rfl) <|
  am_kd (fun d => ak_goto d (by decide +kernel)) <|
  am_kd (fun d => ak_iconst d (by decide +kernel) rfl) <|
  am_kd (fun d => ak_retZ d) <| am_kdn
def TX7_isPerson : am_T := fun live as M R => match as with
  | [.ref n, .int v] => am_mn live ∧ n = 0 ∧ R (some (.int (if 0 ≤ v ∧ v < M.1 21 7 then 1 else 0))) M
  | _ => False
set_option maxRecDepth 100000 in
set_option maxHeartbeats 4000000 in
theorem metX7_isPerson : am_Met yX7_isPerson cX7_isPerson 2 (some .boolean) (0) (0) TX7_isPerson := by
  refine am_met (own := RX7) (by decide +kernel) rfl kX7_isPerson koX7_isPerson 60 (fun _ _ _ _ _ => none) (fun live as M Ret h => ?_) (fun _ _ _ _ _ _ _ _ hI => by cases hI)
  unfold TX7_isPerson at h
  split at h
  · next n v =>
    refine ⟨Nat.le_of_ble_eq_true rfl, ?_⟩
    change am_wp _ _ _ _ [(0, Value.ref n), (1, Value.int v)] _ _
    obtain ⟨⟨i1, i2, rfl⟩, rfl, h⟩ := h
    repeat' (first | apply And.intro | exact rfl | intro hx | (refine Exists.intro _ (And.intro rfl ?_)))
    all_goals try first | (with_reducible change am_tI _ _) | (change Ret _ _) | (change Ret _ _ _) | (change Exists _)
    all_goals try dsimp only at *
    all_goals try exact absurd ‹(1000 : Int64) = 0› (by decide)
    all_goals first | (left; rfl) | (right; rfl) | grind
  · exact h.elim
set_option maxRecDepth 100000 in
theorem wd_207 : Cond.fieldLink "LearnLoans" 122 "LearnLoans$House" "loans" "LLearnLoans$Rows;" ∈ am_ws := am_wt1 (List.mem_of_getElem? (i := 150) (by rfl)) (by decide +kernel)
set_option maxRecDepth 100000 in
theorem wd_152 : Cond.fieldLink "LearnLoans" 108 "LearnLoans$Rows" "size" "I" ∈ am_ws := am_wt1 (List.mem_of_getElem? (i := 95) (by rfl)) (by decide +kernel)
def rwX7_isLoan : List dz_r := [(0, .iload_n 1, 1), (1, .ifCond .lt 21, 3), (4, .iload_n 1, 1), (5, .aload_n 0, 1), (6, .getfield 27, 3), (9, .getfield 122, 3), (12, .getfield 108, 3), (15, .if_icmp .ge 7, 3), (18, .iconst 1, 1), (19, .goto 4, 3), (22, .iconst 0, 1), (23, .ireturn, 1)]
theorem dzX7_isLoan : dz cX7_isLoan rwX7_isLoan := dz_all 0 (by decide +kernel)
def kX7_isLoan (live : am_E) (Ret : am_R) : am_code := [(0, am_iload 1 1), (1, am_if1 (fun x => x < 0) 22 4), (4, am_iload 1 5), (5, am_aload 0 6), (6, am_getR live 7 0 9), (9, am_getR live 0 4 12), (12, am_getI live 3 2 15), (15, am_if2 (fun x y => y ≤ x) 22 18), (18, am_const (.int 1) 19), (19, am_goto 23), (22, am_const (.int 0) 23), (23, am_retZ Ret)]
theorem koX7_isLoan (live : am_E) (Ret : am_R) : ∀ q ∈ kX7_isLoan live Ret, am_ok RX7 cX7_isLoan 2 (some .boolean) 0 0 live Ret q.1 q.2 :=
  am_kz dzX7_isLoan <|
  am_kd (fun d => ak_iload_n d rfl rfl) <|
  am_kd (fun d => ak_if_lt d (by decide +kernel) rfl) <|
  am_kd (fun d => ak_iload_n d rfl rfl) <|
  am_kd (fun d => ak_aload_n d rfl rfl) <|
  am_kd (fun d => ak_getR (C := RX7) (T := TX7) (N := 4) rfl inX7w (by decide) rfl rfl rfl wd_390 d rfl) <|
  am_kd (fun d => ak_getR (C := RX0) (T := TX0) (N := 13) rfl inX0w (by decide) rfl rfl rfl wd_207 d rfl) <|
  am_kd (fun d => ak_getI (C := RX3) (T := TX3) (N := 3) rfl inX3w (by decide) rfl rfl rfl wd_152 d rfl) <|
  am_kd (fun d => ak_icmp_ge d (by decide +kernel) rfl) <|
  am_kd (fun d => ak_iconst d (by decide +kernel) rfl) <|
  am_kd (fun d => ak_goto d (by decide +kernel)) <|
  am_kd (fun d => ak_iconst d (by decide +kernel) rfl) <|
  am_kd (fun d => ak_retZ d) <| am_kdn
def TX7_isLoan : am_T := fun live as M R => match as with
  | [.ref n, .int v] => am_mn live ∧ n = 0 ∧ R (some (.int (if 0 ≤ v ∧ v < M.1 33 2 then 1 else 0))) M
  | _ => False
set_option maxRecDepth 100000 in
set_option maxHeartbeats 4000000 in
theorem metX7_isLoan : am_Met yX7_isLoan cX7_isLoan 2 (some .boolean) (0) (0) TX7_isLoan := by
  refine am_met (own := RX7) (by decide +kernel) rfl kX7_isLoan koX7_isLoan 60 (fun _ _ _ _ _ => none) (fun live as M Ret h => ?_) (fun _ _ _ _ _ _ _ _ hI => by cases hI)
  unfold TX7_isLoan at h
  split at h
  · next n v =>
    refine ⟨Nat.le_of_ble_eq_true rfl, ?_⟩
    change am_wp _ _ _ _ [(0, Value.ref n), (1, Value.int v)] _ _
    obtain ⟨⟨i1, i2, rfl⟩, rfl, h⟩ := h
    repeat' (first | apply And.intro | exact rfl | intro hx | (refine Exists.intro _ (And.intro rfl ?_)))
    all_goals try first | (with_reducible change am_tI _ _) | (change Ret _ _) | (change Ret _ _ _) | (change Exists _)
    all_goals try dsimp only at *
    all_goals try exact absurd ‹(1000 : Int64) = 0› (by decide)
    all_goals first | (left; rfl) | (right; rfl) | grind
  · exact h.elim
set_option maxRecDepth 100000 in
theorem wd_472 : Cond.fieldLink "LearnLoans" 276 "LearnLoans" "LEAST" "[I" ∈ am_ws := am_wt2 (List.mem_of_getElem? (i := 175) (by rfl)) (by decide +kernel)
set_option maxRecDepth 100000 in
theorem wd_474 : Cond.fieldLink "LearnLoans" 279 "LearnLoans" "MOST" "[I" ∈ am_ws := am_wt2 (List.mem_of_getElem? (i := 177) (by rfl)) (by decide +kernel)
def rwX7_isNumber : List dz_r := [(0, .iload_n 0, 1), (1, .ifCond .lt 31, 3), (4, .iload_n 0, 1), (5, .bipush 6, 2), (7, .if_icmp .ge 25, 3), (10, .iload_n 1, 1), (11, .getstatic 276, 3), (14, .iload_n 0, 1), (15, .iaload, 1), (16, .if_icmp .lt 16, 3), (19, .iload_n 1, 1), (20, .getstatic 279, 3), (23, .iload_n 0, 1), (24, .iaload, 1), (25, .if_icmp .gt 7, 3), (28, .iconst 1, 1), (29, .goto 4, 3), (32, .iconst 0, 1), (33, .ireturn, 1)]
theorem dzX7_isNumber : dz cX7_isNumber rwX7_isNumber := dz_all 0 (by decide +kernel)
def kX7_isNumber (live : am_E) (Ret : am_R) : am_code := [(0, am_iload 0 1), (1, am_if1 (fun x => x < 0) 32 4), (4, am_iload 0 5), (5, am_const (.int 6) 7), (7, am_if2 (fun x y => y ≤ x) 32 10), (10, am_iload 1 11), (11, am_const (.ref 1001) 14), (14, am_iload 0 15), (15, am_sld 1 16), (16, am_if2 (fun x y => x < y) 32 19), (19, am_iload 1 20), (20, am_const (.ref 1002) 23), (23, am_iload 0 24), (24, am_sld 2 25), (25, am_if2 (fun x y => y < x) 32 28), (28, am_const (.int 1) 29), (29, am_goto 33), (32, am_const (.int 0) 33), (33, am_retZ Ret)]
theorem koX7_isNumber (live : am_E) (Ret : am_R) : ∀ q ∈ kX7_isNumber live Ret, am_ok RX7 cX7_isNumber 2 (some .boolean) 0 0 live Ret q.1 q.2 :=
  am_kz dzX7_isNumber <|
  am_kd (fun d => ak_iload_n d rfl rfl) <|
  am_kd (fun d => ak_if_lt d (by decide +kernel) rfl) <|
  am_kd (fun d => ak_iload_n d rfl rfl) <|
  am_kd (fun d => ak_bipush d (by decide +kernel) rfl) <|
  am_kd (fun d => ak_icmp_ge d (by decide +kernel) rfl) <|
  am_kd (fun d => ak_iload_n d rfl rfl) <|
  am_kd (fun d => ak_gets (k := 1) (by decide) rfl wd_472 d rfl) <|
  am_kd (fun d => ak_iload_n d rfl rfl) <|
  am_kd (fun d => ak_sld (by decide) d rfl) <|
  am_kd (fun d => ak_icmp_lt d (by decide +kernel) rfl) <|
  am_kd (fun d => ak_iload_n d rfl rfl) <|
  am_kd (fun d => ak_gets (k := 2) (by decide) rfl wd_474 d rfl) <|
  am_kd (fun d => ak_iload_n d rfl rfl) <|
  am_kd (fun d => ak_sld (by decide) d rfl) <|
  am_kd (fun d => ak_icmp_gt d (by decide +kernel) rfl) <|
  am_kd (fun d => ak_iconst d (by decide +kernel) rfl) <|
  am_kd (fun d => ak_goto d (by decide +kernel)) <|
  am_kd (fun d => ak_iconst d (by decide +kernel) rfl) <|
  am_kd (fun d => ak_retZ d) <| am_kdn
def am_isNum (w v : Int32) : Prop := (0 ≤ w ∧ w < 6) ∧ am_sf 1 w.toNatClampNeg ≤ v ∧ v ≤ am_sf 2 w.toNatClampNeg
def TX7_isNumber : am_T := fun live as M R => match as with
  | [.int w, .int v] => (am_isNum w v → R (some (.int 1)) M) ∧ (¬ am_isNum w v → R (some (.int 0)) M)
  | _ => False
set_option maxRecDepth 100000 in
set_option maxHeartbeats 4000000 in
theorem metX7_isNumber : am_Met yX7_isNumber cX7_isNumber 2 (some .boolean) (0) (0) TX7_isNumber := by
  refine am_met (own := RX7) (by decide +kernel) rfl kX7_isNumber koX7_isNumber 60 (fun _ _ _ _ _ => none) (fun live as M Ret h => ?_) (fun _ _ _ _ _ _ _ _ hI => by cases hI)
  unfold TX7_isNumber at h
  split at h
  · next w v =>
    refine ⟨Nat.le_of_ble_eq_true rfl, ?_⟩
    change am_wp _ _ _ _ [(0, Value.int w), (1, Value.int v)] _ _
    repeat' (first | apply And.intro | exact rfl | intro hx | (refine Exists.intro _ (And.intro rfl ?_)))
    all_goals try first | (with_reducible change am_tI _ _) | (change Ret _ _) | (change Ret _ _ _) | (change Exists _)
    all_goals try dsimp only at *
    all_goals try exact absurd ‹(1000 : Int64) = 0› (by decide)
    all_goals first | (left; rfl) | (right; rfl) | skip
    all_goals first | grind [am_isNum] | (simp only [i_lt, i_le, am_sN, Int32.reduceToInt] at *; omega)
  · exact h.elim
set_option maxRecDepth 100000 in
theorem wd_427 : Cond.methodLink "LearnLoans" 282 Lib.Math.max.name ∈ am_ws := am_wt2 (List.mem_of_getElem? (i := 130) (by rfl)) (by decide +kernel)
set_option maxRecDepth 100000 in
theorem wd_428 : Cond.static Lib.Math.max.name ∈ am_ws := am_wt2 (List.mem_of_getElem? (i := 131) (by rfl)) (by decide +kernel)
set_option maxRecDepth 100000 in
theorem wd_68 : Cond.initialized "java/lang/Math" ∈ am_ws := am_wt1 (List.mem_of_getElem? (i := 11) (by rfl)) (by decide +kernel)
set_option maxRecDepth 100000 in
theorem wd_429 : Cond.code Lib.Math.max.name Lib.Math.max.code 2 (some .int) ∈ am_ws := am_wt2 (List.mem_of_getElem? (i := 132) (by rfl)) (by decide +kernel)
def rwX7_lay : List dz_r := [(0, .iload_n 1, 1), (1, .iconst 0, 1), (2, .invokestatic 282, 3), (5, .istore 4, 2), (7, .iload 4, 2), (9, .iload_n 2, 1), (10, .if_icmp .gt 21, 3), (13, .iload 4, 2), (15, .aload_n 0, 1), (16, .arraylength, 1), (17, .if_icmp .ge 14, 3), (20, .aload_n 0, 1), (21, .iload 4, 2), (23, .iload_n 3, 1), (24, .iastore, 1), (25, .iinc 4 1, 3), (28, .goto (-21), 3), (31, .return_, 1)]
theorem dzX7_lay : dz cX7_lay rwX7_lay := dz_all 0 (by decide +kernel)
def kX7_lay (live : am_E) (Ret : am_R) : am_code := [(0, am_iload 1 1), (1, am_const (.int 0) 2), (2, am_math2 (fun x y => if x < y then y else x) 23 5), (5, am_istore 4 5 7), (7, am_iload 4 9), (9, am_iload 2 10), (10, am_if2 (fun x y => y < x) 31 13), (13, am_iload 4 15), (15, am_aload 0 16), (16, am_alen live 0 17), (17, am_if2 (fun x y => y ≤ x) 31 20), (20, am_aload 0 21), (21, am_iload 4 23), (23, am_iload 3 24), (24, am_ast live 0 25), (25, am_iinc 4 5 1 28), (28, am_goto 7), (31, am_retV Ret)]
theorem koX7_lay (live : am_E) (Ret : am_R) : ∀ q ∈ kX7_lay live Ret, am_ok RX7 cX7_lay 5 none 1 23 live Ret q.1 q.2 :=
  am_kz dzX7_lay <|
  am_kd (fun d => ak_iload_n d rfl rfl) <|
  am_kd (fun d => ak_iconst d (by decide +kernel) rfl) <|
  am_kd (fun d => ak_imax (am_w4 wd_427 wd_428 wd_68 wd_429) (by decide) d rfl) <|
  am_kd (fun d => ak_istore d rfl) <|
  am_kd (fun d => ak_iload d rfl) <|
  am_kd (fun d => ak_iload_n d rfl rfl) <|
  am_kd (fun d => ak_icmp_gt d (by decide +kernel) rfl) <|
  am_kd (fun d => ak_iload d rfl) <|
  am_kd (fun d => ak_aload_n d rfl rfl) <|
  am_kd (fun d => ak_alen (t := 0) (fun _ => rfl) d rfl) <|
  am_kd (fun d => ak_icmp_ge d (by decide +kernel) rfl) <|
  am_kd (fun d => ak_aload_n d rfl rfl) <|
  am_kd (fun d => ak_iload d rfl) <|
  am_kd (fun d => ak_iload_n d rfl rfl) <|
  am_kd (fun d => ak_iast (t := 0) (fun _ => rfl) rfl d rfl) <|
  am_kd (fun d => ak_iinc d (by decide +kernel) rfl) <|
  am_kd (fun d => ak_goto d (by decide +kernel)) <|
  am_kd (fun d => ak_retV d) <| am_kdn
def TX7_lay : am_T := fun live as M R => match as with
  | [.ref c, .int a, .int b, .int v] => am_if (am_isA live 0 c && Nat.blt (am_len c) 100000) (R none (am_lay M c (max a.toInt 0) (min b.toInt ((am_len c : Int) - 1)) v))
  | _ => False
def JX7_lay : am_E → List Value → am_M → am_R → am_inv := fun live as M0 _ pc => match as with
  | [.ref c, .int a, .int b, .int v] => (match pc with
    | 7 => some ([0, 2, 3, 4], fun k L st M => ∃ i : Int32, L = [(0, .ref c), (2, .int b), (3, .int v), (4, .int i)] ∧ st = [] ∧ k = ((am_len c + 1 - i.toInt).toNat, 0) ∧ max a.toInt 0 ≤ i.toInt ∧ (i.toInt = max a.toInt 0 ∨ i.toInt ≤ min b.toInt ((am_len c : Int) - 1) + 1) ∧ M = am_lay M0 c (max a.toInt 0) (i.toInt - 1) v)
    | _ => none)
  | _ => none
set_option maxRecDepth 100000 in
set_option maxHeartbeats 4000000 in
theorem metX7_lay : am_Met yX7_lay cX7_lay 5 none (1) (23) TX7_lay := by
  refine am_met (own := RX7) (by decide +kernel) rfl kX7_lay koX7_lay 60 JX7_lay ?_ ?_
  · intro live as M Ret h
    unfold TX7_lay at h
    split at h
    · next c a b v =>
      refine ⟨Nat.le_of_ble_eq_true rfl, ?_⟩
      change am_wp _ _ _ _ [(0, Value.ref c), (1, Value.int a), (2, Value.int b), (3, Value.int v)] _ _
      have hh := am_if_mp h
      clear h
      obtain ⟨hb, h⟩ := hh
      rw [Bool.and_eq_true] at hb
      obtain ⟨h1, h4⟩ := hb
      have h4 : am_len c < 100000 := Nat.le_of_ble_eq_true h4
      repeat' (first | (with_reducible exact h1) | apply And.intro | exact rfl | intro hx | (refine Exists.intro _ (And.intro rfl ?_)) | ((with_reducible change _ = true); simp only [h1, Bool.true_and]; rfl))
      all_goals try first | (with_reducible change am_tI _ _) | (change Ret _ _) | (change Ret _ _ _) | (change Exists _)
      all_goals try dsimp only at *
      all_goals try exact absurd ‹(1000 : Int64) = 0› (by decide)
      have hlo := i_lo a
      refine ⟨_, _, rfl, rfl, rfl, ?_, Or.inl ?_, (am_lay_nil ?_).symm⟩
      all_goals
        split
        all_goals
          simp only [i_lt, Int32.reduceToInt] at *
          omega
    · exact h.elim
  · intro live as M0 Ret h k pc I hI L st M hi
    unfold TX7_lay at h
    split at h
    · next c a b v =>
      have hh := am_if_mp h
      clear h
      obtain ⟨hb, h⟩ := hh
      rw [Bool.and_eq_true] at hb
      obtain ⟨h1, h4⟩ := hb
      have h4 : am_len c < 100000 := Nat.le_of_ble_eq_true h4
      change (match pc with | 7 => _ | _ => none) = _ at hI
      split at hI
      · cases hI
        obtain ⟨i, rfl, rfl, rfl, e1, e2, rfl⟩ := hi
        have hn : (Int32.ofNat (am_len c)).toInt = (am_len c : Int) := i_nat (by omega)
        repeat' (first | (with_reducible exact h1) | apply And.intro | exact rfl | intro hx | (refine Exists.intro _ (And.intro rfl ?_)) | ((with_reducible change _ = true); simp only [h1, Bool.true_and]; rfl))
        all_goals try first | (with_reducible change am_tI _ _) | (change Ret _ _) | (change Ret _ _ _) | (change Exists _)
        all_goals try dsimp only at *
        all_goals try exact absurd ‹(1000 : Int64) = 0› (by decide)
        rotate_right
        · refine ⟨_, Or.inl ?_, i + 1, rfl, rfl, rfl, ?_, Or.inr ?_, ?_⟩
          all_goals simp only [i_lt, i_le, hn] at *
          all_goals
            have hi := i_add (x := i) (y := 1) (by simp only [Int32.reduceToInt]; omega) (by simp only [Int32.reduceToInt]; omega)
            simp only [Int32.reduceToInt] at hi
          · simp only [hi]; omega
          · omega
          · omega
          · rw [am_lay_put (by omega) (i_clamp (by omega))]
            exact am_lay_eq (fun q => by omega)
        all_goals simp only [i_lt, i_le, hn] at *
        · rw [am_lay_eq (lo' := max a.toInt 0) (hi' := min b.toInt ((am_len c : Int) - 1)) (fun q => by omega)]; exact h
        · rw [am_lay_eq (lo' := max a.toInt 0) (hi' := min b.toInt ((am_len c : Int) - 1)) (fun q => by omega)]; exact h
        · omega
        · omega
      · cases hI
    · exact h.elim
end
-- part 12.rows.lean.txt
section
/-! Rows -/
def rwX3_put : List dz_r := [(0, .iload_n 1, 1), (1, .aload_n 0, 1), (2, .getfield 15, 3), (5, .imul, 1), (6, .iload_n 2, 1), (7, .iadd, 1), (8, .istore 4, 2), (10, .iload_n 2, 1), (11, .aload_n 0, 1), (12, .getfield 15, 3), (15, .if_icmp .ge 26, 3), (18, .iload 4, 2), (20, .ifCond .lt 21, 3), (23, .iload 4, 2), (25, .aload_n 0, 1), (26, .getfield 9, 3), (29, .arraylength, 1), (30, .if_icmp .ge 11, 3), (33, .aload_n 0, 1), (34, .getfield 9, 3), (37, .iload 4, 2), (39, .iload_n 3, 1), (40, .iastore, 1), (41, .return_, 1)]
theorem dzX3_put : dz cX3_put rwX3_put := dz_all 0 (by decide +kernel)
def kX3_put (live : am_E) (Ret : am_R) : am_code := [(0, am_iload 1 1), (1, am_aload 0 2), (2, am_getI live 3 1 5), (5, am_i2 (fun x y => x * y) 6), (6, am_iload 2 7), (7, am_i2 (fun x y => x + y) 8), (8, am_istore 4 5 10), (10, am_iload 2 11), (11, am_aload 0 12), (12, am_getI live 3 1 15), (15, am_if2 (fun x y => y ≤ x) 41 18), (18, am_iload 4 20), (20, am_if1 (fun x => x < 0) 41 23), (23, am_iload 4 25), (25, am_aload 0 26), (26, am_getR live 3 0 29), (29, am_alen live 0 30), (30, am_if2 (fun x y => y ≤ x) 41 33), (33, am_aload 0 34), (34, am_getR live 3 0 37), (37, am_iload 4 39), (39, am_iload 3 40), (40, am_ast live 0 41), (41, am_retV Ret)]
theorem koX3_put (live : am_E) (Ret : am_R) : ∀ q ∈ kX3_put live Ret, am_ok RX3 cX3_put 5 none 0 0 live Ret q.1 q.2 :=
  am_kz dzX3_put <|
  am_kd (fun d => ak_iload_n d rfl rfl) <|
  am_kd (fun d => ak_aload_n d rfl rfl) <|
  am_kd (fun d => ak_getI (C := RX3) (T := TX3) (N := 3) rfl inX3w (by decide) rfl rfl rfl wd_148 d rfl) <|
  am_kd (fun d => ak_imul d rfl) <|
  am_kd (fun d => ak_iload_n d rfl rfl) <|
  am_kd (fun d => ak_iadd d rfl) <|
  am_kd (fun d => ak_istore d rfl) <|
  am_kd (fun d => ak_iload_n d rfl rfl) <|
  am_kd (fun d => ak_aload_n d rfl rfl) <|
  am_kd (fun d => ak_getI (C := RX3) (T := TX3) (N := 3) rfl inX3w (by decide) rfl rfl rfl wd_148 d rfl) <|
  am_kd (fun d => ak_icmp_ge d (by decide +kernel) rfl) <|
  am_kd (fun d => ak_iload d rfl) <|
  am_kd (fun d => ak_if_lt d (by decide +kernel) rfl) <|
  am_kd (fun d => ak_iload d rfl) <|
  am_kd (fun d => ak_aload_n d rfl rfl) <|
  am_kd (fun d => ak_getR (C := RX3) (T := TX3) (N := 3) rfl inX3w (by decide) rfl rfl rfl wd_147 d rfl) <|
  am_kd (fun d => ak_alen (t := 0) (fun _ => rfl) d rfl) <|
  am_kd (fun d => ak_icmp_ge d (by decide +kernel) rfl) <|
  am_kd (fun d => ak_aload_n d rfl rfl) <|
  am_kd (fun d => ak_getR (C := RX3) (T := TX3) (N := 3) rfl inX3w (by decide) rfl rfl rfl wd_147 d rfl) <|
  am_kd (fun d => ak_iload d rfl) <|
  am_kd (fun d => ak_iload_n d rfl rfl) <|
  am_kd (fun d => ak_iast (t := 0) (fun _ => rfl) rfl d rfl) <|
  am_kd (fun d => ak_retV d) <| am_kdn
def TX3_put : am_T := fun live as M R => match as with
  | [.ref r, .int a, .int b, .int v] => am_ex (live.2 r 0) (fun c => am_if (am_rc live r c) (R none (am_rput M r c a b v)))
  | _ => False
set_option maxRecDepth 100000 in
set_option maxHeartbeats 4000000 in
theorem metX3_put : am_Met yX3_put cX3_put 5 none (0) (0) TX3_put := by
  refine am_met (own := RX3) (by decide +kernel) rfl kX3_put koX3_put 60 (fun _ _ _ _ _ => none) (fun live as M Ret h => ?_) (fun _ _ _ _ _ _ _ _ hI => by cases hI)
  unfold TX3_put at h
  split at h
  · next r a b v =>
    refine ⟨Nat.le_of_ble_eq_true rfl, ?_⟩
    change am_wp _ _ _ _ [(0, Value.ref r), (1, Value.int a), (2, Value.int b), (3, Value.int v)] _ _
    have hh := am_qm h
    clear h
    obtain ⟨c, h2, h⟩ := hh
    have hh := am_if_mp h
    clear h
    obtain ⟨hb, h⟩ := hh
    obtain ⟨h1, h3, h4, h5⟩ := am_rc_spec hb
    repeat' (first | (with_reducible exact h1) | (with_reducible exact h2) | (with_reducible exact h3) | (refine Exists.intro _ (And.intro h2 ?_)) | apply And.intro | exact rfl | intro hx | (refine Exists.intro _ (And.intro rfl ?_)) | ((with_reducible change _ = true); simp only [h1, h2, h3, Bool.true_and]; rfl))
    all_goals try first | (with_reducible change am_tI _ _) | (change Ret _ _) | (change Ret _ _ _) | (change Exists _)
    all_goals try dsimp only at *
    all_goals try exact absurd ‹(1000 : Int64) = 0› (by decide)
    · rw [am_rput_f (fun q => by have := q.1; simp only [i_lt, i_le] at *; omega)] at h; exact h
    · rw [am_rput_f (fun q => am_in_no1 ‹_› q.2)] at h; exact h
    · rw [am_rput_f (fun q => am_in_no2 h4 ‹_› q.2)] at h; exact h
    · exact (am_in_of h4 ‹_› ‹_›).1
    · exact (am_in_of h4 ‹_› ‹_›).2
    · rw [am_rput_t (by simp only [i_lt, i_le] at *; omega) (am_in_of h4 ‹_› ‹_›)] at h; exact h
  · exact h.elim
set_option maxRecDepth 100000 in
theorem wd_150 : Cond.fieldLink "LearnLoans$Rows" 19 "LearnLoans$Rows" "size" "I" ∈ am_ws := am_wt1 (List.mem_of_getElem? (i := 93) (by rfl)) (by decide +kernel)
theorem hy_X3_put : yX3_put.cls ≠ "java/lang/invoke/MethodHandle" ∧ yX3_put.cls ≠ "java/lang/invoke/VarHandle" ∧ (parseMethodDescriptor yX3_put.desc).map (fun d => d.parameters.length) = some 3 := ⟨by decide +kernel, by decide +kernel, by decide +kernel⟩
set_option maxRecDepth 100000 in
theorem wd_484 : Cond.methodLink "LearnLoans$Rows" 22 yX3_put ∈ am_ws := am_wt2 (List.mem_of_getElem? (i := 187) (by rfl)) (by decide +kernel)
set_option maxRecDepth 100000 in
theorem wd_485 : Cond.instanceMethod yX3_put ∈ am_ws := am_wt2 (List.mem_of_getElem? (i := 188) (by rfl)) (by decide +kernel)
set_option maxRecDepth 100000 in
theorem wd_486 : Cond.selects "LearnLoans$Rows" yX3_put yX3_put ∈ am_ws := am_wt2 (List.mem_of_getElem? (i := 189) (by rfl)) (by decide +kernel)
set_option maxRecDepth 100000 in
theorem wd_64 : Cond.initialized "LearnLoans$Rows" ∈ am_ws := am_wt1 (List.mem_of_getElem? (i := 7) (by rfl)) (by decide +kernel)
set_option maxRecDepth 100000 in
theorem wd_487 : Cond.code yX3_put cX3_put 5 none ∈ am_ws := am_wt2 (List.mem_of_getElem? (i := 190) (by rfl)) (by decide +kernel)
def rwX3_add : List dz_r := [(0, .aload_n 0, 1), (1, .aload_n 0, 1), (2, .getfield 19, 3), (5, .iconst 0, 1), (6, .iload_n 1, 1), (7, .invokevirtual 22, 3), (10, .aload_n 0, 1), (11, .aload_n 0, 1), (12, .getfield 19, 3), (15, .iconst 1, 1), (16, .iload_n 2, 1), (17, .invokevirtual 22, 3), (20, .aload_n 0, 1), (21, .aload_n 0, 1), (22, .getfield 19, 3), (25, .iconst 2, 1), (26, .iload_n 3, 1), (27, .invokevirtual 22, 3), (30, .aload_n 0, 1), (31, .dup, 1), (32, .getfield 19, 3), (35, .iconst 1, 1), (36, .iadd, 1), (37, .putfield 19, 3), (40, .aload_n 0, 1), (41, .getfield 19, 3), (44, .iconst 1, 1), (45, .isub, 1), (46, .ireturn, 1)]
theorem dzX3_add : dz cX3_add rwX3_add := dz_all 0 (by decide +kernel)
def kX3_add (live : am_E) (Ret : am_R) : am_code := [(0, am_aload 0 1), (1, am_aload 0 2), (2, am_getI live 3 2 5), (5, am_const (.int 0) 6), (6, am_iload 1 7), (7, am_callV live 3 3 TX3_put 10), (10, am_aload 0 11), (11, am_aload 0 12), (12, am_getI live 3 2 15), (15, am_const (.int 1) 16), (16, am_iload 2 17), (17, am_callV live 3 3 TX3_put 20), (20, am_aload 0 21), (21, am_aload 0 22), (22, am_getI live 3 2 25), (25, am_const (.int 2) 26), (26, am_iload 3 27), (27, am_callV live 3 3 TX3_put 30), (30, am_aload 0 31), (31, am_dup 32), (32, am_getI live 3 2 35), (35, am_const (.int 1) 36), (36, am_i2 (fun x y => x + y) 37), (37, am_putI live 3 2 40), (40, am_aload 0 41), (41, am_getI live 3 2 44), (44, am_const (.int 1) 45), (45, am_i2 (fun x y => x - y) 46), (46, am_retI Ret)]
theorem koX3_add (live : am_E) (Ret : am_R) : ∀ q ∈ kX3_add live Ret, am_ok RX3 cX3_add 4 (some .int) 1 24 live Ret q.1 q.2 :=
  am_kz dzX3_add <|
  am_kd (fun d => ak_aload_n d rfl rfl) <|
  am_kd (fun d => ak_aload_n d rfl rfl) <|
  am_kd (fun d => ak_getI (C := RX3) (T := TX3) (N := 3) rfl inX3w (by decide) rfl rfl rfl wd_150 d rfl) <|
  am_kd (fun d => ak_iconst d (by decide +kernel) rfl) <|
  am_kd (fun d => ak_iload_n d rfl rfl) <|
  am_kd (fun d => ak_callV (C := RX3) (F := TX3) (N := 3) metX3_put rfl ⟨rfl, hy_X3_put⟩ (am_w5 wd_484 wd_485 wd_486 wd_64 wd_487) (by decide) d rfl) <|
  am_kd (fun d => ak_aload_n d rfl rfl) <|
  am_kd (fun d => ak_aload_n d rfl rfl) <|
  am_kd (fun d => ak_getI (C := RX3) (T := TX3) (N := 3) rfl inX3w (by decide) rfl rfl rfl wd_150 d rfl) <|
  am_kd (fun d => ak_iconst d (by decide +kernel) rfl) <|
  am_kd (fun d => ak_iload_n d rfl rfl) <|
  am_kd (fun d => ak_callV (C := RX3) (F := TX3) (N := 3) metX3_put rfl ⟨rfl, hy_X3_put⟩ (am_w5 wd_484 wd_485 wd_486 wd_64 wd_487) (by decide) d rfl) <|
  am_kd (fun d => ak_aload_n d rfl rfl) <|
  am_kd (fun d => ak_aload_n d rfl rfl) <|
  am_kd (fun d => ak_getI (C := RX3) (T := TX3) (N := 3) rfl inX3w (by decide) rfl rfl rfl wd_150 d rfl) <|
  am_kd (fun d => ak_iconst d (by decide +kernel) rfl) <|
  am_kd (fun d => ak_iload_n d rfl rfl) <|
  am_kd (fun d => ak_callV (C := RX3) (F := TX3) (N := 3) metX3_put rfl ⟨rfl, hy_X3_put⟩ (am_w5 wd_484 wd_485 wd_486 wd_64 wd_487) (by decide) d rfl) <|
  am_kd (fun d => ak_aload_n d rfl rfl) <|
  am_kd (fun d => ak_dup d rfl) <|
  am_kd (fun d => ak_getI (C := RX3) (T := TX3) (N := 3) rfl inX3w (by decide) rfl rfl rfl wd_150 d rfl) <|
  am_kd (fun d => ak_iconst d (by decide +kernel) rfl) <|
  am_kd (fun d => ak_iadd d rfl) <|
  am_kd (fun d => ak_putI (C := RX3) (T := TX3) (N := 3) rfl inX3w tyX3_ok nmX3 (by decide) rfl rfl rfl rfl (by decide +kernel) wd_150 d rfl) <|
  am_kd (fun d => ak_aload_n d rfl rfl) <|
  am_kd (fun d => ak_getI (C := RX3) (T := TX3) (N := 3) rfl inX3w (by decide) rfl rfl rfl wd_150 d rfl) <|
  am_kd (fun d => ak_iconst d (by decide +kernel) rfl) <|
  am_kd (fun d => ak_isub d rfl) <|
  am_kd (fun d => ak_retI d) <| am_kdn
def am_radd (M : am_M) (r c : Nat) (x y z : Int32) : am_M := am_wI (am_rput (am_rput (am_rput M r c (M.1 r 2) 0 x) r c (M.1 r 2) 1 y) r c (M.1 r 2) 2 z) r 2 (M.1 r 2 + 1)
def TX3_add : am_T := fun live as M R => match as with
  | [.ref r, .int x, .int y, .int z] => am_ex (live.2 r 0) (fun c => am_if (am_rc live r c) (R (some (.int (M.1 r 2 + 1 - 1))) (am_radd M r c x y z)))
  | _ => False
set_option maxRecDepth 100000 in
set_option maxHeartbeats 4000000 in
theorem metX3_add : am_Met yX3_add cX3_add 4 (some .int) (1) (24) TX3_add := by
  refine am_met (own := RX3) (by decide +kernel) rfl kX3_add koX3_add 60 (fun _ _ _ _ _ => none) (fun live as M Ret h => ?_) (fun _ _ _ _ _ _ _ _ hI => by cases hI)
  unfold TX3_add at h
  split at h
  · next r x y z =>
    refine ⟨Nat.le_of_ble_eq_true rfl, ?_⟩
    change am_wp _ _ _ _ [(0, Value.ref r), (1, Value.int x), (2, Value.int y), (3, Value.int z)] _ _
    have hh := am_qm h
    clear h
    obtain ⟨c, h2, h⟩ := hh
    have hh := am_if_mp h
    clear h
    obtain ⟨hb, h⟩ := hh
    obtain ⟨h1, h3, h4, h5⟩ := am_rc_spec hb
    repeat' (first | (with_reducible exact h1) | (with_reducible exact h2) | (with_reducible exact hb) | (refine Exists.intro _ (And.intro h2 ?_)) | apply And.intro | exact rfl | intro hx | (refine Exists.intro _ (And.intro rfl ?_)) | ((with_reducible change _ = true); simp only [h1, h2, hb, Bool.true_and]; rfl))
    all_goals try first | (with_reducible change am_tI _ _) | (change Ret _ _) | (change Ret _ _ _) | (change Exists _)
    all_goals try dsimp only at *
    all_goals try exact absurd ‹(1000 : Int64) = 0› (by decide)
    simp only [am_wI_1, am_rput_ne h5, and_self, if_true]
    exact h
  · exact h.elim
def rwX3_dropLast : List dz_r := [(0, .aload_n 0, 1), (1, .getfield 19, 3), (4, .ifCond .le 13, 3), (7, .aload_n 0, 1), (8, .dup, 1), (9, .getfield 19, 3), (12, .iconst 1, 1), (13, .isub, 1), (14, .putfield 19, 3), (17, .return_, 1)]
theorem dzX3_dropLast : dz cX3_dropLast rwX3_dropLast := dz_all 0 (by decide +kernel)
def kX3_dropLast (live : am_E) (Ret : am_R) : am_code := [(0, am_aload 0 1), (1, am_getI live 3 2 4), (4, am_if1 (fun x => x ≤ 0) 17 7), (7, am_aload 0 8), (8, am_dup 9), (9, am_getI live 3 2 12), (12, am_const (.int 1) 13), (13, am_i2 (fun x y => x - y) 14), (14, am_putI live 3 2 17), (17, am_retV Ret)]
theorem koX3_dropLast (live : am_E) (Ret : am_R) : ∀ q ∈ kX3_dropLast live Ret, am_ok RX3 cX3_dropLast 1 none 0 0 live Ret q.1 q.2 :=
  am_kz dzX3_dropLast <|
  am_kd (fun d => ak_aload_n d rfl rfl) <|
  am_kd (fun d => ak_getI (C := RX3) (T := TX3) (N := 3) rfl inX3w (by decide) rfl rfl rfl wd_150 d rfl) <|
  am_kd (fun d => ak_if_le d (by decide +kernel) rfl) <|
  am_kd (fun d => ak_aload_n d rfl rfl) <|
  am_kd (fun d => ak_dup d rfl) <|
  am_kd (fun d => ak_getI (C := RX3) (T := TX3) (N := 3) rfl inX3w (by decide) rfl rfl rfl wd_150 d rfl) <|
  am_kd (fun d => ak_iconst d (by decide +kernel) rfl) <|
  am_kd (fun d => ak_isub d rfl) <|
  am_kd (fun d => ak_putI (C := RX3) (T := TX3) (N := 3) rfl inX3w tyX3_ok nmX3 (by decide) rfl rfl rfl rfl (by decide +kernel) wd_150 d rfl) <|
  am_kd (fun d => ak_retV d) <| am_kdn
def TX3_dropLast : am_T := fun live as M R => match as with
  | [.ref r] => am_if (am_isO live 3 r) (R none (am_wIc (0 < M.1 r 2) M r 2 (M.1 r 2 - 1)))
  | _ => False
set_option maxRecDepth 100000 in
set_option maxHeartbeats 4000000 in
theorem metX3_dropLast : am_Met yX3_dropLast cX3_dropLast 1 none (0) (0) TX3_dropLast := by
  refine am_met (own := RX3) (by decide +kernel) rfl kX3_dropLast koX3_dropLast 60 (fun _ _ _ _ _ => none) (fun live as M Ret h => ?_) (fun _ _ _ _ _ _ _ _ hI => by cases hI)
  unfold TX3_dropLast at h
  split at h
  · next r =>
    refine ⟨Nat.le_of_ble_eq_true rfl, ?_⟩
    change am_wp _ _ _ _ [(0, Value.ref r)] _ _
    have hh := am_if_mp h
    clear h
    obtain ⟨h1, h⟩ := hh
    repeat' (first | (with_reducible exact h1) | apply And.intro | exact rfl | intro hx | (refine Exists.intro _ (And.intro rfl ?_)) | ((with_reducible change _ = true); simp only [h1, Bool.true_and]; rfl))
    all_goals try first | (with_reducible change am_tI _ _) | (change Ret _ _) | (change Ret _ _ _) | (change Exists _)
    all_goals try dsimp only at *
    all_goals try exact absurd ‹(1000 : Int64) = 0› (by decide)
    · rw [am_wIc_f (by simp only [i_lt, i_le] at *; omega)] at h; exact h
    · rw [am_wIc_t (by simp only [i_lt, i_le] at *; omega)] at h; exact h
  · exact h.elim
set_option maxRecDepth 100000 in
theorem wd_850 : Cond.methodLink "LearnLoans$Rows" 26 Lib.Math.min.name ∈ am_ws := am_wt4 (List.mem_of_getElem? (i := 73) (by rfl)) (by decide +kernel)
set_option maxRecDepth 100000 in
theorem wd_851 : Cond.static Lib.Math.min.name ∈ am_ws := am_wt4 (List.mem_of_getElem? (i := 74) (by rfl)) (by decide +kernel)
set_option maxRecDepth 100000 in
theorem wd_852 : Cond.code Lib.Math.min.name Lib.Math.min.code 2 (some .int) ∈ am_ws := am_wt4 (List.mem_of_getElem? (i := 75) (by rfl)) (by decide +kernel)
set_option maxRecDepth 100000 in
theorem wd_853 : Cond.methodLink "LearnLoans$Rows" 32 arraycopyName ∈ am_ws := am_wt4 (List.mem_of_getElem? (i := 76) (by rfl)) (by decide +kernel)
set_option maxRecDepth 100000 in
theorem wd_501 : Cond.native arraycopyName ∈ am_ws := am_wt2 (List.mem_of_getElem? (i := 204) (by rfl)) (by decide +kernel)
set_option maxRecDepth 100000 in
theorem wd_500 : Cond.static arraycopyName ∈ am_ws := am_wt2 (List.mem_of_getElem? (i := 203) (by rfl)) (by decide +kernel)
set_option maxRecDepth 100000 in
theorem wd_69 : Cond.initialized "java/lang/System" ∈ am_ws := am_wt1 (List.mem_of_getElem? (i := 12) (by rfl)) (by decide +kernel)
def rwX3_takeOver : List dz_r := [(0, .aload_n 1, 1), (1, .getfield 9, 3), (4, .iconst 0, 1), (5, .aload_n 0, 1), (6, .getfield 9, 3), (9, .iconst 0, 1), (10, .aload_n 0, 1), (11, .getfield 9, 3), (14, .arraylength, 1), (15, .aload_n 1, 1), (16, .getfield 9, 3), (19, .arraylength, 1), (20, .invokestatic 26, 3), (23, .invokestatic 32, 3), (26, .aload_n 0, 1), (27, .aload_n 1, 1), (28, .getfield 19, 3), (31, .putfield 19, 3), (34, .return_, 1)]
theorem dzX3_takeOver : dz cX3_takeOver rwX3_takeOver := dz_all 0 (by decide +kernel)
def kX3_takeOver (live : am_E) (Ret : am_R) : am_code := [(0, am_aload 1 1), (1, am_getR live 3 0 4), (4, am_const (.int 0) 5), (5, am_aload 0 6), (6, am_getR live 3 0 9), (9, am_const (.int 0) 10), (10, am_aload 0 11), (11, am_getR live 3 0 14), (14, am_alen live 0 15), (15, am_aload 1 16), (16, am_getR live 3 0 19), (19, am_alen live 0 20), (20, am_math2 (fun x y => if y < x then y else x) 31 23), (23, am_copyI live 31 26), (26, am_aload 0 27), (27, am_aload 1 28), (28, am_getI live 3 2 31), (31, am_putI live 3 2 34), (34, am_retV Ret)]
theorem koX3_takeOver (live : am_E) (Ret : am_R) : ∀ q ∈ kX3_takeOver live Ret, am_ok RX3 cX3_takeOver 2 none 1 31 live Ret q.1 q.2 :=
  am_kz dzX3_takeOver <|
  am_kd (fun d => ak_aload_n d rfl rfl) <|
  am_kd (fun d => ak_getR (C := RX3) (T := TX3) (N := 3) rfl inX3w (by decide) rfl rfl rfl wd_147 d rfl) <|
  am_kd (fun d => ak_iconst d (by decide +kernel) rfl) <|
  am_kd (fun d => ak_aload_n d rfl rfl) <|
  am_kd (fun d => ak_getR (C := RX3) (T := TX3) (N := 3) rfl inX3w (by decide) rfl rfl rfl wd_147 d rfl) <|
  am_kd (fun d => ak_iconst d (by decide +kernel) rfl) <|
  am_kd (fun d => ak_aload_n d rfl rfl) <|
  am_kd (fun d => ak_getR (C := RX3) (T := TX3) (N := 3) rfl inX3w (by decide) rfl rfl rfl wd_147 d rfl) <|
  am_kd (fun d => ak_alen (t := 0) (fun _ => rfl) d rfl) <|
  am_kd (fun d => ak_aload_n d rfl rfl) <|
  am_kd (fun d => ak_getR (C := RX3) (T := TX3) (N := 3) rfl inX3w (by decide) rfl rfl rfl wd_147 d rfl) <|
  am_kd (fun d => ak_alen (t := 0) (fun _ => rfl) d rfl) <|
  am_kd (fun d => ak_imin (am_w4 wd_850 wd_851 wd_68 wd_852) (by decide) d rfl) <|
  am_kd (fun d => ak_copyI (am_w4 wd_853 wd_501 wd_500 wd_69) (by decide) d rfl) <|
  am_kd (fun d => ak_aload_n d rfl rfl) <|
  am_kd (fun d => ak_aload_n d rfl rfl) <|
  am_kd (fun d => ak_getI (C := RX3) (T := TX3) (N := 3) rfl inX3w (by decide) rfl rfl rfl wd_150 d rfl) <|
  am_kd (fun d => ak_putI (C := RX3) (T := TX3) (N := 3) rfl inX3w tyX3_ok nmX3 (by decide) rfl rfl rfl rfl (by decide +kernel) wd_150 d rfl) <|
  am_kd (fun d => ak_retV d) <| am_kdn
def TX3_takeOver : am_T := fun live as M R => match as with
  | [.ref r, .ref r2] => am_ex (live.2 r 0) (fun c => am_ex (live.2 r2 0) (fun c2 => am_if (am_rc live r c && am_rc live r2 c2 && Nat.beq (am_len c) (am_len c2)) (R none (am_wI (am_cI M c (va_cpy (M.1 c2) (M.1 c) 0 0 (am_len c))) r 2 (M.1 r2 2)))))
  | _ => False
set_option maxRecDepth 100000 in
set_option maxHeartbeats 4000000 in
theorem metX3_takeOver : am_Met yX3_takeOver cX3_takeOver 2 none (1) (31) TX3_takeOver := by
  refine am_met (own := RX3) (by decide +kernel) rfl kX3_takeOver koX3_takeOver 60 (fun _ _ _ _ _ => none) (fun live as M Ret h => ?_) (fun _ _ _ _ _ _ _ _ hI => by cases hI)
  unfold TX3_takeOver at h
  split at h
  · next r r2 =>
    refine ⟨Nat.le_of_ble_eq_true rfl, ?_⟩
    change am_wp _ _ _ _ [(0, Value.ref r), (1, Value.ref r2)] _ _
    have hh := am_qm h
    clear h
    obtain ⟨c, h2, h⟩ := hh
    have hh := am_qm h
    clear h
    obtain ⟨c2, h6, h⟩ := hh
    have hh := am_if_mp h
    clear h
    obtain ⟨hb, h⟩ := hh
    simp only [Bool.and_eq_true] at hb
    obtain ⟨⟨hb, hc⟩, he⟩ := hb
    have he := Nat.eq_of_beq_eq_true he
    obtain ⟨h1, h3, h4, h5⟩ := am_rc_spec hb
    obtain ⟨h7, h8, h9, h10⟩ := am_rc_spec hc
    have hne := am_OA h7 h3
    have hn : (Int32.ofNat (am_len c2)).toInt = (am_len c2 : Int) := i_nat (by omega)
    have hn2 : (Int32.ofNat (am_len c2)).toNatClampNeg = am_len c2 := by have := i_clamp (x := Int32.ofNat (am_len c2)) (by omega); omega
    repeat' (first | (with_reducible exact h1) | (with_reducible exact h2) | (with_reducible exact h3) | (with_reducible exact h6) | (with_reducible exact h7) | (with_reducible exact h8) | (refine Exists.intro _ (Exists.intro _ (And.intro h2 (And.intro h6 ?_)))) | (refine Exists.intro _ (And.intro h2 ?_)) | (refine Exists.intro _ (And.intro h6 ?_)) | apply And.intro | exact rfl | intro hx | (refine Exists.intro _ (And.intro rfl ?_)) | ((with_reducible change _ = true); simp only [h1, h2, h3, h6, h7, h8, Bool.true_and]; rfl))
    all_goals try first | (with_reducible change am_tI _ _) | (change Ret _ _) | (change Ret _ _ _) | (change Exists _)
    all_goals try dsimp only at *
    all_goals try exact absurd ‹(1000 : Int64) = 0› (by decide)
    all_goals simp only [he, ite_self, hn, Int32.toInt_zero]
    · omega
    · omega
    · omega
    · omega
    · omega
    · simp only [he, hn2, am_cI_1, hne, if_false] at h ⊢
      exact h
  · exact h.elim
set_option maxRecDepth 100000 in
theorem wd_883 : Cond.constantLong "LearnLoans$Rows" 38 31 ∈ am_ws := am_wt4 (List.mem_of_getElem? (i := 106) (by rfl)) (by decide +kernel)
def rwX3_mixed : List dz_r := [(0, .aload_n 0, 1), (1, .getfield 19, 3), (4, .aload_n 0, 1), (5, .getfield 15, 3), (8, .imul, 1), (9, .aload_n 0, 1), (10, .getfield 9, 3), (13, .arraylength, 1), (14, .invokestatic 26, 3), (17, .istore_n 3, 1), (18, .iconst 0, 1), (19, .istore 4, 2), (21, .iload 4, 2), (23, .iload_n 3, 1), (24, .if_icmp .ge 24, 3), (27, .ldc2_w 38, 3), (30, .lload_n 1, 1), (31, .lmul, 1), (32, .aload_n 0, 1), (33, .getfield 9, 3), (36, .iload 4, 2), (38, .iaload, 1), (39, .i2l, 1), (40, .ladd, 1), (41, .lstore_n 1, 1), (42, .iinc 4 1, 3), (45, .goto (-24), 3), (48, .lload_n 1, 1), (49, .lreturn, 1)]
theorem dzX3_mixed : dz cX3_mixed rwX3_mixed := dz_all 0 (by decide +kernel)
def kX3_mixed (live : am_E) (Ret : am_R) : am_code := [(0, am_aload 0 1), (1, am_getI live 3 2 4), (4, am_aload 0 5), (5, am_getI live 3 1 8), (8, am_i2 (fun x y => x * y) 9), (9, am_aload 0 10), (10, am_getR live 3 0 13), (13, am_alen live 0 14), (14, am_math2 (fun x y => if y < x then y else x) 23 17), (17, am_istore 3 5 18), (18, am_const (.int 0) 19), (19, am_istore 4 5 21), (21, am_iload 4 23), (23, am_iload 3 24), (24, am_if2 (fun x y => y ≤ x) 48 27), (27, am_const (.long 31) 30), (30, am_lload 1 31), (31, am_l2 (fun x y => x * y) 32), (32, am_aload 0 33), (33, am_getR live 3 0 36), (36, am_iload 4 38), (38, am_ald live 0 39), (39, am_i2l 40), (40, am_l2 (fun x y => x + y) 41), (41, am_lstore 1 5 42), (42, am_iinc 4 5 1 45), (45, am_goto 21), (48, am_lload 1 49), (49, am_retL Ret)]
theorem koX3_mixed (live : am_E) (Ret : am_R) : ∀ q ∈ kX3_mixed live Ret, am_ok RX3 cX3_mixed 5 (some .long) 1 23 live Ret q.1 q.2 :=
  am_kz dzX3_mixed <|
  am_kd (fun d => ak_aload_n d rfl rfl) <|
  am_kd (fun d => ak_getI (C := RX3) (T := TX3) (N := 3) rfl inX3w (by decide) rfl rfl rfl wd_150 d rfl) <|
  am_kd (fun d => ak_aload_n d rfl rfl) <|
  am_kd (fun d => ak_getI (C := RX3) (T := TX3) (N := 3) rfl inX3w (by decide) rfl rfl rfl wd_148 d rfl) <|
  am_kd (fun d => ak_imul d rfl) <|
  am_kd (fun d => ak_aload_n d rfl rfl) <|
  am_kd (fun d => ak_getR (C := RX3) (T := TX3) (N := 3) rfl inX3w (by decide) rfl rfl rfl wd_147 d rfl) <|
  am_kd (fun d => ak_alen (t := 0) (fun _ => rfl) d rfl) <|
  am_kd (fun d => ak_imin (am_w4 wd_850 wd_851 wd_68 wd_852) (by decide) d rfl) <|
  am_kd (fun d => ak_istore_n d rfl rfl) <|
  am_kd (fun d => ak_iconst d (by decide +kernel) rfl) <|
  am_kd (fun d => ak_istore d rfl) <|
  am_kd (fun d => ak_iload d rfl) <|
  am_kd (fun d => ak_iload_n d rfl rfl) <|
  am_kd (fun d => ak_icmp_ge d (by decide +kernel) rfl) <|
  am_kd (fun d => ak_ldc2 wd_883 d rfl) <|
  am_kd (fun d => ak_lload_n d rfl rfl) <|
  am_kd (fun d => ak_lmul d rfl) <|
  am_kd (fun d => ak_aload_n d rfl rfl) <|
  am_kd (fun d => ak_getR (C := RX3) (T := TX3) (N := 3) rfl inX3w (by decide) rfl rfl rfl wd_147 d rfl) <|
  am_kd (fun d => ak_iload d rfl) <|
  am_kd (fun d => ak_iald (t := 0) (fun _ => rfl) rfl d rfl) <|
  am_kd (fun d => ak_i2l d rfl) <|
  am_kd (fun d => ak_ladd d rfl) <|
  am_kd (fun d => ak_lstore_n d rfl rfl) <|
  am_kd (fun d => ak_iinc d (by decide +kernel) rfl) <|
  am_kd (fun d => ak_goto d (by decide +kernel)) <|
  am_kd (fun d => ak_lload_n d rfl rfl) <|
  am_kd (fun d => ak_retL d) <| am_kdn
def TX3_mixed : am_T := fun live as M R => match as with
  | [.ref r, .long x] => am_ex (live.2 r 0) (fun c => am_if (am_rc live r c) (∀ y, R (some (.long y)) M))
  | _ => False
def JX3_mixed : am_E → List Value → am_M → am_R → am_inv := fun live as M0 _ pc => match as with
  | [.ref r, .long x] => (match live.2 r 0 with
    | some c => (match pc with
      | 21 => some ([0, 1, 3, 4], fun k L st M => ∃ (y : Int64) (e i : Int32), L = [(0, .ref r), (1, .long y), (3, .int e), (4, .int i)] ∧ st = [] ∧ k = ((am_len c + 1 - i.toInt).toNat, 0) ∧ 0 ≤ i.toInt ∧ e.toInt ≤ am_len c ∧ M = M0)
      | _ => none)
    | none => none)
  | _ => none
set_option maxRecDepth 100000 in
set_option maxHeartbeats 4000000 in
theorem metX3_mixed : am_Met yX3_mixed cX3_mixed 5 (some .long) (1) (23) TX3_mixed := by
  refine am_met (own := RX3) (by decide +kernel) rfl kX3_mixed koX3_mixed 60 JX3_mixed ?_ ?_
  · intro live as M Ret h
    unfold TX3_mixed at h
    split at h
    · next r x =>
      refine ⟨Nat.le_of_ble_eq_true rfl, ?_⟩
      change am_wp _ _ _ _ [(0, Value.ref r), (1, Value.long x)] _ _
      have hh := am_qm h
      clear h
      obtain ⟨c, h2, h⟩ := hh
      have hh := am_if_mp h
      clear h
      obtain ⟨hb, h⟩ := hh
      obtain ⟨h1, h3, h4, h5⟩ := am_rc_spec hb
      have hn : (Int32.ofNat (am_len c)).toInt = (am_len c : Int) := i_nat (by omega)
      have hJ : ∀ pc, JX3_mixed live [.ref r, .long x] M Ret pc = (match pc with
        | 21 => some ([0, 1, 3, 4], fun k L st M' => ∃ (y : Int64) (e i : Int32), L = [(0, .ref r), (1, .long y), (3, .int e), (4, .int i)] ∧ st = [] ∧ k = ((am_len c + 1 - i.toInt).toNat, 0) ∧ 0 ≤ i.toInt ∧ e.toInt ≤ am_len c ∧ M' = M)
        | _ => none) := fun pc => by unfold JX3_mixed; simp only [h2]
      rw [show JX3_mixed live [.ref r, .long x] M Ret = _ from funext hJ]
      repeat' (first | (with_reducible exact h1) | (with_reducible exact h2) | (with_reducible exact h3) | (refine Exists.intro _ (And.intro h2 ?_)) | apply And.intro | exact rfl | intro hx | (refine Exists.intro _ (And.intro rfl ?_)) | ((with_reducible change _ = true); simp only [h1, h2, h3, Bool.true_and]; rfl))
      all_goals try first | (with_reducible change am_tI _ _) | (change Ret _ _) | (change Ret _ _ _) | (change Exists _)
      all_goals try dsimp only at *
      all_goals try exact absurd ‹(1000 : Int64) = 0› (by decide)
      refine ⟨_, _, _, _, rfl, rfl, rfl, by decide, ?_, rfl⟩
      split
      · omega
      · simp only [i_lt] at *; omega
    · exact h.elim
  · intro live as M0 Ret h k pc I hI L st M hi
    unfold TX3_mixed at h
    split at h
    · next r x =>
      have hh := am_qm h
      clear h
      obtain ⟨c, h2, h⟩ := hh
      have hh := am_if_mp h
      clear h
      obtain ⟨hb, h⟩ := hh
      obtain ⟨h1, h3, h4, h5⟩ := am_rc_spec hb
      have hJ : ∀ pc, JX3_mixed live [.ref r, .long x] M0 Ret pc = (match pc with
        | 21 => some ([0, 1, 3, 4], fun k L st M' => ∃ (y : Int64) (e i : Int32), L = [(0, .ref r), (1, .long y), (3, .int e), (4, .int i)] ∧ st = [] ∧ k = ((am_len c + 1 - i.toInt).toNat, 0) ∧ 0 ≤ i.toInt ∧ e.toInt ≤ am_len c ∧ M' = M0)
        | _ => none) := fun pc => by unfold JX3_mixed; simp only [h2]
      rw [show JX3_mixed live [.ref r, .long x] M0 Ret = _ from funext hJ] at hI ⊢
      change (match pc with | 21 => _ | _ => none) = _ at hI
      split at hI
      · cases hI
        obtain ⟨y, e, i, rfl, rfl, rfl, e1, e2, rfl⟩ := hi
        repeat' (first | (with_reducible exact h1) | (with_reducible exact h2) | (with_reducible exact h3) | (refine Exists.intro _ (And.intro h2 ?_)) | apply And.intro | exact rfl | intro hx | (refine Exists.intro _ (And.intro rfl ?_)) | ((with_reducible change _ = true); simp only [h1, h2, h3, Bool.true_and]; rfl))
        all_goals try first | (with_reducible change am_tI _ _) | (change Ret _ _) | (change Ret _ _ _) | (change Exists _)
        all_goals try dsimp only at *
        all_goals try exact absurd ‹(1000 : Int64) = 0› (by decide)
        · exact h _
        · omega
        · simp only [i_lt, i_le] at *; omega
        · refine ⟨_, Or.inl ?_, _, _, i + 1, rfl, rfl, rfl, ?_, e2, rfl⟩
          all_goals simp only [i_lt, i_le] at *
          all_goals
            have hi := i_add (x := i) (y := 1) (by simp only [Int32.reduceToInt]; omega) (by simp only [Int32.reduceToInt]; omega)
            simp only [Int32.reduceToInt] at hi
            omega
      · cases hI
    · exact h.elim
end
