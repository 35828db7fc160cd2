-- ===== end of PART A; then your names; then what follows =====
/-! THE CLAIM OUT OF ONE WALK OF THE LAW'S BODY. Your part is whole_start (and what it stands on); all else here is the same for every law, but numbers. -/
def R_law : String := "LearnLoansLaw"
def lw_P (b : Addr) (xs : List Int32) (args : Array Value) (s : State) : Prop := args = #[.ref b] ∧ s.IntsAt b xs ∧ xs.length ≤ 4096 ∧ (Jvm.Cond.and given_1 narrow_1).before args s = true
def lw_Q (_ : Array Value) (s : State) (o : Outcome) (t : State) : Prop := o = .returned (some (.int 1)) ∧ Framed s o t [] 600000 7302250
def lw_Z (below : List Frame) (a : Array Value) (s : State) : State → Prop := fun t => ∃ o, t.status = .running ∧ Ended t below o ∧ lw_Q a s o t
/-- the law's own end, with 1 on the stack, nothing written that was there before, its room as the claim has it -/
theorem lw_ret {p : Program} {l : Launch} {e : Env} {s : State} {m : MethodId} {below : List Frame} {meth : Method} {c : Code} {b : Nat} (hx : p.tables.exec = Jvm.exec) (hb : c.code = code) (hr : meth.sig.returnType = ret) (hlocks : meth.locks = false) {pc : Nat} {H : Heap} {ls : Array Slot} (hdg : decode code pc = .ok (.ireturn, 1)) : W p l e room_1 s m #[Value.ref b] below meth c H [] 600000 7302250 (lw_Z below #[Value.ref b] s) (F0 m pc ls [.int 1]) := by
  intro T hT X
  obtain ⟨fs, hret, hrun, hended, hW, hframe⟩ := X.leave (v := some (.int 1)) (hlocks := hlocks) (fun h => by rw [hr] at h; cases h)
  have hmeth' : T.vm.method? m = some meth := X.method'
  refine ⟨T.setFrames fs, ?_, .returned (some (.int 1)), hrun, hended, rfl, ⟨_, rfl⟩, hW, hframe⟩
  jvm_step X.here [X.here.top, hx, hb, hdg, hmeth', hr, ret, narrow_b1]
  (try refine ⟨rfl, ?_⟩); (try refine ⟨rfl, ?_⟩)
  first | (intro acts; rw [hret _ acts rfl rfl rfl]) | rw [hret _ _ rfl rfl rfl]
  exact Steps.refl _
/-- what holds at the law's entry: the machine, the code, the tables' words (any of lw_tbl by 'hts w (by decide +kernel)'), the script of L ints xs at the cell b, what the Statement gives of the start (any of its parts by flat_of_before) -/
def lw_At (p : Program) (s : State) (m : MethodId) (meth : Method) (c : Code) (b L : Nat) (xs : Nat → Int32) : Prop :=
  p.tables.exec = Jvm.exec ∧ c.code = code ∧ meth.sig.returnType = ret ∧ c.maxLocals = 4 ∧ s.vm.findClass R_law = some m.cls ∧ (∀ w ∈ lw_tbl, w.before #[Value.ref b] s = true) ∧ va_X b L xs s s.heap ∧ b < s.heap.size ∧ meth.locks = false ∧ (Jvm.Cond.and given_1 narrow_1).before #[Value.ref b] s = true
-- ===== YOUR PART BEGINS =====
/-! what the start gives -/
theorem dL_law_1847 : decode cL_law 1847 = .ok (.iconst 1, 1) := by decide +kernel
theorem dL_law_1848 : decode cL_law 1848 = .ok (.ireturn, 1) := by decide +kernel
theorem law_tys {s : State} {args : Array Value} (hts : ∀ w ∈ lw_tbl, w.before args s = true) : ∃ cA : Nat → ClassId, ∀ (k : Nat) (q : ClassId × FieldType), (am_tys cA)[k]? = some q → ArrOfT s q.1 q.2 ∧ va_RA s q.1 q.2 := by
  obtain ⟨c0, k0, p0, a0, b0, d0⟩ := Cond.arrayClass_spec (hts (.arrayClass .int) (by decide +kernel))
  obtain ⟨c1, k1, p1, a1, b1, d1⟩ := Cond.arrayClass_spec (hts (.arrayClass .long) (by decide +kernel))
  obtain ⟨c2, k2, p2, a2, b2, d2⟩ := Cond.arrayClass_spec (hts (.arrayClass .boolean) (by decide +kernel))
  obtain ⟨p3, c3, k3, a3, -, b3, d3, e3⟩ := Cond.arrayOver_spec (hts (.arrayOver (.object "LearnLoans$Text")) (by decide +kernel))
  obtain ⟨p4, c4, k4, a4, -, b4, d4, e4⟩ := Cond.arrayOver_spec (hts (.arrayOver (.object "LearnLoans$House")) (by decide +kernel))
  refine ⟨fun t => match t with | 0 => c0 | 1 => c1 | 2 => c2 | 3 => c3 | _ => c4, fun k q hk => ?_⟩
  match k, hk with
  | 0, hk => cases hk; exact ⟨fun n z => ⟨fun q h => (by cases h), k0, b0, p0, d0⟩, a0⟩
  | 1, hk => cases hk; exact ⟨fun n z => ⟨fun q h => (by cases h), k1, b1, p1, d1⟩, a1⟩
  | 2, hk => cases hk; exact ⟨fun n z => ⟨fun q h => (by cases h), k2, b2, p2, d2⟩, a2⟩
  | 3, hk => cases hk; exact ⟨fun n z => ⟨fun q h => (by cases h), k3, b3, p3, d3⟩, k3, p3, b3, d3, a3, e3⟩
  | 4, hk => cases hk; exact ⟨fun n z => ⟨fun q h => (by cases h), k4, b4, p4, d4⟩, k4, p4, b4, d4, a4, e4⟩
  | k + 5, hk => cases hk
theorem law_D {s : State} {args : Array Value} (htw : ∀ w ∈ am_ws, w.before args s = true) : ∃ D : va_G, ∀ (c : Nat) (q : vw_C), am_cl[c]? = some q → u_Kn s q.1 q.2.1 q.2.2 (D.1 c) (D.2 c) := by
  obtain ⟨c0, i0, h0⟩ := u_known (C := RX0) (T := TX0) (N := 13) (n := 13) htw inX0w (htw (.instantiable RX0 13) (am_wsi (by decide +kernel) (by decide +kernel)))
  obtain ⟨c1, i1, h1⟩ := u_known (C := RX1) (T := TX1) (N := 7) (n := 7) htw inX1w (htw (.instantiable RX1 7) (am_wsi (by decide +kernel) (by decide +kernel)))
  obtain ⟨c2, i2, h2⟩ := u_known (C := RX2) (T := TX2) (N := 8) (n := 8) htw inX2w (htw (.instantiable RX2 8) (am_wsi (by decide +kernel) (by decide +kernel)))
  obtain ⟨c3, i3, h3⟩ := u_known (C := RX3) (T := TX3) (N := 3) (n := 3) htw inX3w (htw (.instantiable RX3 3) (am_wsi (by decide +kernel) (by decide +kernel)))
  obtain ⟨c4, i4, h4⟩ := u_known (C := RX4) (T := TX4) (N := 19) (n := 19) htw inX4w (htw (.instantiable RX4 19) (am_wsi (by decide +kernel) (by decide +kernel)))
  obtain ⟨c5, i5, h5⟩ := u_known (C := RX5) (T := TX5) (N := 7) (n := 7) htw inX5w (htw (.instantiable RX5 7) (am_wsi (by decide +kernel) (by decide +kernel)))
  obtain ⟨c6, i6, h6⟩ := u_known (C := RX6) (T := TX6) (N := 9) (n := 9) htw inX6w (htw (.instantiable RX6 9) (am_wsi (by decide +kernel) (by decide +kernel)))
  obtain ⟨c7, i7, h7⟩ := u_known (C := RX7) (T := TX7) (N := 4) (n := 4) htw inX7w (htw (.instantiable RX7 4) (am_wsi (by decide +kernel) (by decide +kernel)))
  obtain ⟨c8, i8, h8⟩ := u_known (C := RX8) (T := TX8) (N := 27) (n := 27) htw inX8w (htw (.instantiable RX8 27) (am_wsi (by decide +kernel) (by decide +kernel)))
  refine ⟨(fun c => match c with | 0 => c0 | 1 => c1 | 2 => c2 | 3 => c3 | 4 => c4 | 5 => c5 | 6 => c6 | 7 => c7 | _ => c8, fun c => match c with | 0 => i0 | 1 => i1 | 2 => i2 | 3 => i3 | 4 => i4 | 5 => i5 | 6 => i6 | 7 => i7 | _ => i8), fun c q hq => ?_⟩
  match c, hq with
  | 0, hq => cases hq; exact h0
  | 1, hq => cases hq; exact h1
  | 2, hq => cases hq; exact h2
  | 3, hq => cases hq; exact h3
  | 4, hq => cases hq; exact h4
  | 5, hq => cases hq; exact h5
  | 6, hq => cases hq; exact h6
  | 7, hq => cases hq; exact h7
  | 8, hq => cases hq; exact h8
  | c + 9, hq => cases hq
theorem law_T1 {s : State} {args : Array Value} (hs : ∀ w ∈ flatC (Jvm.Cond.and given_1 narrow_1), w.before args s = true) : ∃ t : Nat, (Term.static "LearnLoans" "LEAST" "[I").eval args s none [] s = some (.ref t) ∧ va_T .int t 6 (fun j => .int (am_sf 1 j)) (fun q => s.heap.size ≤ q) s s.heap := by
  refine va_Tof (by decide) (hs (.arrayOf (.static "LearnLoans" "LEAST" "[I") .int) (by decide +kernel)) (va_eqt (z := 6) (hs (.eq (.length (.static "LearnLoans" "LEAST" "[I")) (.int 6)) (by decide +kernel))) (fun j hj => ?_) (fun a h => Nat.not_le.mpr h)
  match j, hj with
  | 0, _ => exact va_eqt (z := 0) (hs (.eq (.elem (.static "LearnLoans" "LEAST" "[I") (.int 0)) (.int 0)) (by decide +kernel))
  | 1, _ => exact va_eqt (z := 0) (hs (.eq (.elem (.static "LearnLoans" "LEAST" "[I") (.int 1)) (.int 0)) (by decide +kernel))
  | 2, _ => exact va_eqt (z := 0) (hs (.eq (.elem (.static "LearnLoans" "LEAST" "[I") (.int 2)) (.int 0)) (by decide +kernel))
  | 3, _ => exact va_eqt (z := 1) (hs (.eq (.elem (.static "LearnLoans" "LEAST" "[I") (.int 3)) (.int 1)) (by decide +kernel))
  | 4, _ => exact va_eqt (z := 0) (hs (.eq (.elem (.static "LearnLoans" "LEAST" "[I") (.int 4)) (.int 0)) (by decide +kernel))
  | 5, _ => exact va_eqt (z := 0) (hs (.eq (.elem (.static "LearnLoans" "LEAST" "[I") (.int 5)) (.int 0)) (by decide +kernel))
  | j + 6, h => exact absurd h (by omega)
theorem law_T2 {s : State} {args : Array Value} (hs : ∀ w ∈ flatC (Jvm.Cond.and given_1 narrow_1), w.before args s = true) : ∃ t : Nat, (Term.static "LearnLoans" "MOST" "[I").eval args s none [] s = some (.ref t) ∧ va_T .int t 6 (fun j => .int (am_sf 2 j)) (fun q => s.heap.size ≤ q) s s.heap := by
  refine va_Tof (by decide) (hs (.arrayOf (.static "LearnLoans" "MOST" "[I") .int) (by decide +kernel)) (va_eqt (z := 6) (hs (.eq (.length (.static "LearnLoans" "MOST" "[I")) (.int 6)) (by decide +kernel))) (fun j hj => ?_) (fun a h => Nat.not_le.mpr h)
  match j, hj with
  | 0, _ => exact va_eqt (z := 10000000) (hs (.eq (.elem (.static "LearnLoans" "MOST" "[I") (.int 0)) (.int 10000000)) (by decide +kernel))
  | 1, _ => exact va_eqt (z := 1000) (hs (.eq (.elem (.static "LearnLoans" "MOST" "[I") (.int 1)) (.int 1000)) (by decide +kernel))
  | 2, _ => exact va_eqt (z := 500) (hs (.eq (.elem (.static "LearnLoans" "MOST" "[I") (.int 2)) (.int 500)) (by decide +kernel))
  | 3, _ => exact va_eqt (z := 60) (hs (.eq (.elem (.static "LearnLoans" "MOST" "[I") (.int 3)) (.int 60)) (by decide +kernel))
  | 4, _ => exact va_eqt (z := 9) (hs (.eq (.elem (.static "LearnLoans" "MOST" "[I") (.int 4)) (.int 9)) (by decide +kernel))
  | 5, _ => exact va_eqt (z := 1000000) (hs (.eq (.elem (.static "LearnLoans" "MOST" "[I") (.int 5)) (.int 1000000)) (by decide +kernel))
  | j + 6, h => exact absurd h (by omega)
theorem law_T0 {s : State} {args : Array Value} (hs : ∀ w ∈ flatC (Jvm.Cond.and given_1 narrow_1), w.before args s = true) : ∃ t : Nat, (Term.static "LearnLoans" "AT_FIRST" "[I").eval args s none [] s = some (.ref t) ∧ va_T .int t 6 (fun j => .int (am_sf 0 j)) (fun q => s.heap.size ≤ q) s s.heap := by
  refine va_Tof (by decide) (hs (.arrayOf (.static "LearnLoans" "AT_FIRST" "[I") .int) (by decide +kernel)) (va_eqt (z := 6) (hs (.eq (.length (.static "LearnLoans" "AT_FIRST" "[I")) (.int 6)) (by decide +kernel))) (fun j hj => ?_) (fun a h => Nat.not_le.mpr h)
  match j, hj with
  | 0, _ => exact va_eqt (z := 2000000) (hs (.eq (.elem (.static "LearnLoans" "AT_FIRST" "[I") (.int 0)) (.int 2000000)) (by decide +kernel))
  | 1, _ => exact va_eqt (z := 90) (hs (.eq (.elem (.static "LearnLoans" "AT_FIRST" "[I") (.int 1)) (.int 90)) (by decide +kernel))
  | 2, _ => exact va_eqt (z := 30) (hs (.eq (.elem (.static "LearnLoans" "AT_FIRST" "[I") (.int 2)) (.int 30)) (by decide +kernel))
  | 3, _ => exact va_eqt (z := 30) (hs (.eq (.elem (.static "LearnLoans" "AT_FIRST" "[I") (.int 3)) (.int 30)) (by decide +kernel))
  | 4, _ => exact va_eqt (z := 0) (hs (.eq (.elem (.static "LearnLoans" "AT_FIRST" "[I") (.int 4)) (.int 0)) (by decide +kernel))
  | 5, _ => exact va_eqt (z := 10000) (hs (.eq (.elem (.static "LearnLoans" "AT_FIRST" "[I") (.int 5)) (.int 10000)) (by decide +kernel))
  | j + 6, h => exact absurd h (by omega)
theorem an_run {own : String} {cc : ByteArray} {nL : Nat} {rt : Option FieldType} {rf rl mc ms : Nat} {ini : Bool} {Pp : State → (Nat → Nat) → Nat → Prop} {Ret : an_R} {p : Program} {l : Launch} {e : Env} {s : State} {m : MethodId} {args : Array Value} {below : List Frame} {meth : Method} {c : Code} {D : va_G} {cA : Nat → ClassId} {al0 : Nat → Nat} {B : Nat} {live0 : am_E} {R : Room} {Q : State → Prop} {code : an_code} {cut : an_cut} (hok : ∀ q ∈ code, an_ok own cc nL rt rf rl mc ms ini Pp Ret q.1 q.2) (hC : am_C p s m args meth c D cA al0 B own cc nL rt) (hR : an_Rk R rf rl mc ms) (hQ : an_Qk s args below D cA al0 B live0 mc ms Ret Q) (hni : ini = true → meth.name = "<init>") (hPp : Pp s al0 B)
    (hcut : ∀ pc I, cut pc = some I → ∀ L st M, I L st M → an_W p l e R Q s m args below meth c D cA al0 B live0 nL pc L st M) {N pc : Nat} {L : am_L} {st : List Value} {M : am_X} (h : an_wp code cut N (an_go code pc) L st M) : an_W p l e R Q s m args below meth c D cA al0 B live0 nL pc L st M := by
  obtain ⟨pc2, ⟨q, r, e1, e2⟩, w⟩ := an_wp_ok hok hC hR hQ hni hPp hcut N _ L st M (fun x hx => an_go_in _ _ _ hx) h
  rw [← an_go_hd _ _ _ _ e1, e2]
  exact w
theorem law_case {Ln : Nat} (xs : Nat → Int32) {i : Int32} {i1 i2 : Bool} {kc kn : Nat} {M : am_M} (h : LI i1 i2 M) (hi : lawI Ln i kc kn) : ∀ pc ∈ lawS, ∃ code : an_code, (∀ q ∈ code, an_ok RL cL_law 4 (some .boolean) 2000 80000 600000 7302250 false (lawP Ln xs) an_noR q.1 q.2) ∧ an_wp code (lawC Ln i) 200 (an_go code pc) (lawL i) [] ((am_lv i1 i2, am_q i1 i2), kc, kn, M) := by
  unfold lawS
  intro pc hpc
  simp only [List.mem_cons, List.not_mem_nil, or_false] at hpc
  rcases hpc with rfl | rfl | rfl | rfl | rfl | rfl | rfl | rfl | rfl | rfl | rfl | rfl | rfl | rfl | rfl | rfl | rfl | rfl | rfl | rfl | rfl | rfl | rfl | rfl | rfl | rfl | rfl | rfl | rfl | rfl | rfl | rfl | rfl | rfl | rfl | rfl | rfl
  · exact ⟨_, koL_c0 Ln xs, caseL_c0 xs h hi⟩
  · exact ⟨_, koL_c1 Ln xs, caseL_c1 xs h hi⟩
  · exact ⟨_, koL_c2 Ln xs, caseL_c2 xs h hi⟩
  · exact ⟨_, koL_c3 Ln xs, caseL_c3 xs h hi⟩
  · exact ⟨_, koL_c4 Ln xs, caseL_c4 xs h hi⟩
  · exact ⟨_, koL_c5 Ln xs, caseL_c5 xs h hi⟩
  · exact ⟨_, koL_c6 Ln xs, caseL_c6 xs h hi⟩
  · exact ⟨_, koL_c7 Ln xs, caseL_c7 xs h hi⟩
  · exact ⟨_, koL_c8 Ln xs, caseL_c8 xs h hi⟩
  · exact ⟨_, koL_c9 Ln xs, caseL_c9 xs h hi⟩
  · exact ⟨_, koL_c10 Ln xs, caseL_c10 xs h hi⟩
  · exact ⟨_, koL_c11 Ln xs, caseL_c11 xs h hi⟩
  · exact ⟨_, koL_c12 Ln xs, caseL_c12 xs h hi⟩
  · exact ⟨_, koL_c13 Ln xs, caseL_c13 xs h hi⟩
  · exact ⟨_, koL_c14 Ln xs, caseL_c14 xs h hi⟩
  · exact ⟨_, koL_c15 Ln xs, caseL_c15 xs h hi⟩
  · exact ⟨_, koL_c16 Ln xs, caseL_c16 xs h hi⟩
  · exact ⟨_, koL_c17 Ln xs, caseL_c17 xs h hi⟩
  · exact ⟨_, koL_c18 Ln xs, caseL_c18 xs h hi⟩
  · exact ⟨_, koL_c19 Ln xs, caseL_c19 xs h hi⟩
  · exact ⟨_, koL_c20 Ln xs, caseL_c20 xs h hi⟩
  · exact ⟨_, koL_c21 Ln xs, caseL_c21 xs h hi⟩
  · exact ⟨_, koL_c22 Ln xs, caseL_c22 xs h hi⟩
  · exact ⟨_, koL_c23 Ln xs, caseL_c23 xs h hi⟩
  · exact ⟨_, koL_c24 Ln xs, caseL_c24 xs h hi⟩
  · exact ⟨_, koL_c25 Ln xs, caseL_c25 xs h hi⟩
  · exact ⟨_, koL_c26 Ln xs, caseL_c26 xs h hi⟩
  · exact ⟨_, koL_c27 Ln xs, caseL_c27 xs h hi⟩
  · exact ⟨_, koL_c28 Ln xs, caseL_c28 xs h hi⟩
  · exact ⟨_, koL_c29 Ln xs, caseL_c29 xs h hi⟩
  · exact ⟨_, koL_c30 Ln xs, caseL_c30 xs h hi⟩
  · exact ⟨_, koL_c31 Ln xs, caseL_c31 xs h hi⟩
  · exact ⟨_, koL_c32 Ln xs, caseL_c32 xs h hi⟩
  · exact ⟨_, koL_c33 Ln xs, caseL_c33 xs h hi⟩
  · exact ⟨_, koL_c34 Ln xs, caseL_c34 xs h hi⟩
  · exact ⟨_, koL_c35 Ln xs, caseL_c35 xs h hi⟩
  · exact ⟨_, koL_c36 Ln xs, caseL_c36 xs h hi⟩
set_option maxRecDepth 100000 in
set_option maxHeartbeats 4000000 in
theorem whole_start {p : Program} {e : Env} {s : State} {m : MethodId} {below : List Frame} {meth : Method} {c : Code} (l : Launch) (hflags : l.flags = flags0) {b L : Nat} {xs : Nat → Int32} (hL : L ≤ 4096) (C0 : lw_At p s m meth c b L xs) : W p l e room_1 s m #[Value.ref b] below meth c s.heap [] 0 0 (lw_Z below #[Value.ref b] s) (entryFrame m ([Value.ref b] : List Value).toArray 4) := by
  obtain ⟨hx, hb, hr, hml, hown, hts, hX, hbl, hlk, hgv⟩ := C0
  have htw : ∀ w ∈ am_ws, w.before #[Value.ref b] s = true := fun w hw => hts w (List.mem_filter.mp hw).1
  have hs := flat_of_before _ hgv
  obtain ⟨D, hD⟩ := law_D htw
  obtain ⟨cA, hcA⟩ := law_tys hts
  obtain ⟨t0, v0, z0⟩ := law_T0 hs
  obtain ⟨t1, v1, z1⟩ := law_T1 hs
  obtain ⟨t2, v2, z2⟩ := law_T2 hs
  have hA : ∀ a : Nat, a < s.heap.size → ¬ s.heap.size ≤ a := fun a h => Nat.not_le.mpr h
  obtain ⟨al0, g0, g1, g2, g3⟩ : ∃ al0 : Nat → Nat, al0 1000 = t0 ∧ al0 1001 = t1 ∧ al0 1002 = t2 ∧ al0 2000 = b := ⟨fun q => if q = 1000 then t0 else if q = 1001 then t1 else if q = 1002 then t2 else b, rfl, rfl, rfl, rfl⟩
  have hini : (Cond.initialized "LearnLoans").before #[Value.ref b] s = true := hts _ (by decide +kernel)
  have hZ : am_Z al0 s.heap.size s := fun k hk => by
    match k, hk with
    | 0, _ => rw [show al0 (1000 + 0) = t0 from g0]; exact ⟨va_Zof (hts (.laysStatic "LearnLoans" "AT_FIRST" "[I") (by decide +kernel)) hini v0 hA, z0⟩
    | 1, _ => rw [show al0 (1000 + 1) = t1 from g1]; exact ⟨va_Zof (hts (.laysStatic "LearnLoans" "LEAST" "[I") (by decide +kernel)) hini v1 hA, z1⟩
    | 2, _ => rw [show al0 (1000 + 2) = t2 from g2]; exact ⟨va_Zof (hts (.laysStatic "LearnLoans" "MOST" "[I") (by decide +kernel)) hini v2 hA, z2⟩
    | k + 3, h => exact absurd h (by unfold am_ns; omega)
  have hN : am_N s := by
    refine ⟨fun q hq => ?_, fun q hq => ?_, fun C hC => ?_⟩
    · unfold am_nest at hq
      simp only [List.mem_cons, List.not_mem_nil, or_false] at hq
      rcases hq with rfl | rfl
      all_goals exact va_Nw.of rfl (hts _ (by decide +kernel))
    · unfold am_nestM at hq
      simp only [List.mem_cons, List.not_mem_nil, or_false] at hq
      rcases hq with rfl | rfl | rfl | rfl
      all_goals exact va_Nw.of rfl (hts _ (by decide +kernel))
    · unfold am_over at hC
      simp only [List.mem_cons, List.not_mem_nil, or_false] at hC
      rcases hC with rfl | rfl
      all_goals exact va_AO.of (hts _ (by decide +kernel))
  have hC : am_C p s m #[Value.ref b] meth c D cA al0 s.heap.size RL cL_law 4 (some .boolean) := ⟨hx, hb, hml, hown, htw, hlk, hr, ⟨hD, hcA⟩, Nat.le_refl _, hZ, hN⟩
  have hR : an_Rk room_1 2000 80000 600000 7302250 := ⟨Nat.le_of_ble_eq_true rfl, Nat.le_of_ble_eq_true rfl, rfl, rfl⟩
  have hQ : an_Qk s #[Value.ref b] below D cA al0 s.heap.size an_E0 600000 7302250 an_noR (lw_Z below #[Value.ref b] s) := Or.inr (fun _ _ _ q => q)
  have hPp : lawP L xs s al0 s.heap.size := by
    unfold lawP
    rw [g3]
    exact ⟨hX, hbl, Nat.not_le.mpr hbl⟩
  have hni : false = true → meth.name = "<init>" := fun h => by cases h
  have w1847 : ∀ (Lc : am_L) (X : am_X), an_W p l e room_1 (lw_Z below #[Value.ref b] s) s m #[Value.ref b] below meth c D cA al0 s.heap.size an_E0 4 1847 Lc [] X := by
    intro Lc X al hal hI hcc hcn H locs ls hP hS hl
    refine lv_iconst (v := 1) hx hb dL_law_1847 (by decide) ?_
    refine va_forget (fun q hq => hS.2.2 q hq) ?_
    refine W.widen (k := 600000) (n := 7302250) hcc hcn ?_
    exact lw_ret hx hb hr hlk dL_law_1848
  have hz : ∀ pc I, lawZ pc = some I → ∀ Lc st X, I Lc st X → an_W p l e room_1 (lw_Z below #[Value.ref b] s) s m #[Value.ref b] below meth c D cA al0 s.heap.size an_E0 4 pc Lc st X := by
    intro pc I hI Lc st X h
    unfold lawZ at hI
    cases hq : Nat.beq pc 1847 with
    | true =>
      rw [hq] at hI
      cases hI
      have e := Nat.eq_of_beq_eq_true hq
      subst e
      subst h
      exact w1847 Lc X
    | false => rw [hq] at hI; cases hI
  have hle := lv_entry ([Value.ref b]) (n := 4) (Nat.le_of_ble_eq_true rfl)
  rw [lg_entry_eq]
  have hP0 : am_P D cA al0 s.heap.size an_E0 an_M0 s.heap := ⟨fun n h => (by cases h), fun n m h => (by cases h), fun n h => (by cases h), fun n h => (by cases h)⟩
  have hI0 : an_I an_E0 an_E0 := ⟨fun _ h => h, fun a k r h => (by cases h)⟩
  suffices hgo : an_W p l e room_1 (lw_Z below #[Value.ref b] s) s m #[Value.ref b] below meth c D cA al0 s.heap.size an_E0 4 0 [(0, .ref 2000)] [] (an_E0, 0, 0, an_M0) by
    refine hgo al0 (fun _ _ => rfl) hI0 (Nat.zero_le _) (Nat.zero_le _) s.heap [] _ hP0 va_S.rf ?_
    show lv_has _ 4 [(0, .ref (al0 2000))]
    rw [g3]
    exact hle
  have e0 : (Int32.ofNat L).toInt = (L : Int) := i_nat (by omega)
  have d8 : (8 : Int32).toInt = 8 := rfl
  have main : ∀ (n : Nat) (i : Int32) (X : am_X), (L : Int) - i.toInt < (n : Int) → lawG L i X → an_W p l e room_1 (lw_Z below #[Value.ref b] s) s m #[Value.ref b] below meth c D cA al0 s.heap.size an_E0 4 18 (lawL i) [] X := by
    intro n
    induction n with
    | zero =>
      intro i X hn hG
      obtain ⟨i1, i2, kc, kn, M, -, -, hb, -, -⟩ := hG
      exact absurd hn (by omega)
    | succ n ih =>
      intro i X hn hG
      obtain ⟨i1, i2, kc, kn, M, rfl, hLI, hb, hk1, hk2⟩ := hG
      by_cases hz' : Int32.ofNat L - 8 < i
      · exact an_run (koL_B L xs) hC hR hQ hni hPp hz (segL_B2 xs _ hz')
      · have hz2 : i.toInt + 8 ≤ (L : Int) := by
          have q := hz'
          rw [i_lt, i_sub (by rw [e0, d8]; omega) (by rw [e0, d8]; omega), e0, d8] at q
          omega
        have hI : lawI L i kc kn := ⟨(), ⟨hb.1, hz2, hb.2.2⟩, hk1, hk2⟩
        have hend : ∀ X', lawE L i X' → an_W p l e room_1 (lw_Z below #[Value.ref b] s) s m #[Value.ref b] below meth c D cA al0 s.heap.size an_E0 4 1841 (lawL i) [] X' := by
          intro X' hX'
          refine an_run (koL_Z L xs) hC hR hQ hni hPp (fun pc I hI' Lc st X2 h2 => ?_) (segL_Z L xs i X')
          unfold lawT at hI'
          cases hq : Nat.beq pc 18 with
          | true =>
            rw [hq] at hI'
            cases hI'
            obtain ⟨h3, rfl, rfl⟩ := h2
            have e := Nat.eq_of_beq_eq_true hq
            subst e
            refine an_W_nm (ks := [0, 1, 2, 3]) ?_
            rw [h3]
            have hX' := hX'
            obtain ⟨-, j1, j2, a, b', N, rfl, hN, hb', ha, hb2⟩ := hX'
            have e8 : (i + 8).toInt = i.toInt + 8 := by
              have q := i_add (x := i) (y := 8) (by rw [d8]; omega) (by rw [d8]; omega)
              rw [q, d8]
            exact ih (i + 8) _ (by omega) ⟨j1, j2, a, b', N, rfl, hN, ⟨by omega, by omega, by omega⟩, by omega, by omega⟩
          | false => rw [hq] at hI'; cases hI'
        have hcut : ∀ pc I, lawC L i pc = some I → ∀ Lc st X, I Lc st X → an_W p l e room_1 (lw_Z below #[Value.ref b] s) s m #[Value.ref b] below meth c D cA al0 s.heap.size an_E0 4 pc Lc st X := by
          intro pc I hI' Lc st X h2
          unfold lawC at hI'
          split at hI'
          · cases hI'
            obtain ⟨rfl, rfl, h3⟩ := h2
            exact hend X h3
          · cases hI'
        refine an_run (koL_B L xs) hC hR hQ hni hPp (fun pc I hI' Lc st X2 h2 => ?_) (segL_B xs _ hz' ⟨hb.1, by omega⟩)
        unfold lawB at hI'
        cases hq : lawS.contains pc || Nat.beq pc 1841 with
        | true =>
          rw [hq] at hI'
          cases hI'
          obtain ⟨rfl, rfl, rfl⟩ := h2
          rcases Bool.or_eq_true _ _ |>.mp hq with h1 | h1
          · obtain ⟨code, k1, k2⟩ := law_case xs hLI hI pc (by simpa using h1)
            exact an_run k1 hC hR hQ hni hPp hcut k2
          · have e := Nat.eq_of_beq_eq_true h1
            subst e
            exact hend _ (lawE.mk hI hLI (by omega) (by omega))
        | false => rw [hq] at hI'; cases hI'
  refine an_run (koL_A L xs) hC hR hQ hni hPp (fun pc I hI' Lc st X2 h2 => ?_) (segL_A L xs)
  unfold lawT at hI'
  cases hq : Nat.beq pc 18 with
  | true =>
    rw [hq] at hI'
    cases hI'
    obtain ⟨h3, rfl, rfl⟩ := h2
    have e := Nat.eq_of_beq_eq_true hq
    subst e
    refine an_W_nm (ks := [0, 1, 2, 3]) ?_
    rw [h3, an_Ef_eq]
    exact main (L + 1) 0 _ (by rw [show (0 : Int32).toInt = 0 from rfl]; omega) ⟨false, false, 66, 18779, an_Mf, rfl, an_Mf_L, ⟨by decide, by rw [show (0 : Int32).toInt = 0 from rfl]; omega, hL⟩, by decide, by decide⟩
  | false => rw [hq] at hI'; cases hI'
-- ===== YOUR PART ENDS =====
set_option maxHeartbeats 4000000 in
theorem lw_walk (l : Launch) (hflags : l.flags = flags0) (b : Addr) (xs : List Int32) : MetFree l x (headSpec (Jvm.Cond.code x code maxLocals ret :: tables_1) room_1) (lw_P b xs) (fun _ _ _ _ _ => True) lw_Q := by
  refine MetFree.of_bodyS (code := code) (maxLocals := maxLocals) (ret := ret) (by decide) ?_ ?_
  · intro args s m h hn
    obtain ⟨meth, c, h1, h2, h3, h4, h5, h6, -, -⟩ := Cond.code_spec hn (atoms_spec (ws := Jvm.Cond.code x code maxLocals ret :: tables_1) h _ List.mem_cons_self)
    exact ⟨meth, c, h1, h2, h3, h4, h5, h6⟩
  · intro p e s m args below meth c s₁ B hml0 hP _
    obtain ⟨rfl, hx, hbd, hgv⟩ := hP
    obtain ⟨scr, harrAt, hlist, hof, hsmall⟩ := hx
    obtain ⟨hcb, hkn, -, -⟩ := State.arrayAt?_spec harrAt
    have hown : s.vm.findClass R_law = some m.cls := findClass_of_methodNamed B.named
    have hts0 : ∀ c ∈ (Jvm.Cond.code x code maxLocals ret :: tables_1), c.before #[Value.ref b] s = true := atoms_spec (ws := Jvm.Cond.code x code maxLocals ret :: tables_1) B.pre
    have hts : ∀ w ∈ lw_tbl, w.before #[Value.ref b] s = true := k2_hts_sels lw_privs (fun w hw => hts0 w (List.mem_cons_of_mem _ hw)) lw_privs_ok
    have hml : c.maxLocals = 4 := B.maxLocals_eq (hts0 _ List.mem_cons_self)
    have X₀ : Stand p l e room_1 s m #[Value.ref b] below meth c s₁ [] 0 0 := Stand.of_body B
    have hh0 : s₁.heap = s.heap := by rw [B.state]; rfl
    have hsz : scr.slots.size = xs.length := by rw [← Array.length_toList, hlist, List.length_map]
    have hval : ∀ j : Nat, j < xs.length → scr.slots[j]? = some (.int (xs.getD j 0)) := fun j hj => by
      rw [← Array.getElem?_toList, hlist]
      simp [hj]
    have hbl : b < s.heap.size := (Array.getElem?_eq_some_iff.mp hcb).1
    have hX : va_X b xs.length (fun j => xs.getD j 0) s s.heap := ⟨scr, hcb, hof, hkn, hsz, hval⟩
    have K : W p l e room_1 s m #[Value.ref b] below meth c s₁.heap [] 0 0 (lw_Z below #[Value.ref b] s) (entryFrame m ([Value.ref b] : List Value).toArray 4) := by
      rw [hh0]
      exact whole_start l hflags hbd ⟨B.exec, B.bytes, B.returns, hml, hown, hts, hX, hbl, B.notSynchronized, hgv⟩
    obtain ⟨t, a1, o, b1, b2, b3⟩ := K s₁ rfl X₀
    exact ⟨t, o, a1, b1, b2, b3⟩
theorem lw_pre_spec {args : Array Value} {s : State} (h : (Jvm.Cond.and given_1 narrow_1).before args s = true) (hr : rest_1_c.before args s = true) : ∃ (b : Addr) (xs : List Int32), lw_P b xs args s := by
  have hs := flat_of_before _ h
  have hq := flat_of_before _ hr
  have hc : (Cond.count 1).before args s = true := hs _ (by decide +kernel)
  have harr : (Cond.arrayOf (.arg 0) .int).before args s = true := hs _ (by decide +kernel)
  have hle : (Cond.le (.length (.arg 0)) (.int 4096)).before args s = true := hs _ (by decide +kernel)
  have hlen : (Cond.isInt (.length (.arg 0))).before args s = true := hq _ (by decide +kernel)
  have hall : (Cond.all (.arg 0) (.isInt (.elem (.arg 0) (.index 0)))).before args s = true := hq _ (by decide +kernel)
  obtain ⟨b, xs, hb, hx⟩ := State.ints_of_pre rfl harr hlen hall
  have hsm : xs.length < 2 ^ 31 := hx.choose_spec.2.2.2
  have hev : (Term.length (.arg 0)).eval args s none [] s = some (.int xs.length.toInt32) := hx.length_eval hb
  have hv := Cond.le_ints hev (show (Term.int 4096).eval args s none [] s = some (.int 4096) from rfl)
  have hd : xs.length.toInt32 ≤ 4096 := by
    simpa [Cond.before, Cond.holds, hv] using hle
  have hN : xs.length ≤ 4096 := (Int32.ofNat_le_ofNat hsm (by decide)).mp (show Int32.ofNat xs.length ≤ Int32.ofNat 4096 from hd)
  exact ⟨b, xs, Cond.one_arg hc (show args[0]? = some (.ref b) from hb), hx, hN, h⟩
theorem lw_comes (l : Launch) (hflags : l.flags = flags0) : Comes l x (Jvm.Cond.code x code maxLocals ret :: tables_1) room_1 (fun tb e args s => Calls_1 tb e args s ∧ rest_1 tb e args s ∧ Pre_1 tb e args s)
    (fun _ _ args s o t => lw_Q args s o t) := by
  intro p e ha hc hk s m args below hf hfit hheap happ hpre
  obtain ⟨b, xs, hP⟩ := lw_pre_spec hpre.2.2 hpre.2.1
  obtain ⟨k, o, h1, h2, h3, hQ⟩ := lw_walk l hflags b xs p e ha hc hk s m args below hf ((Spec.applies_iff_loose hf).mp happ).1 hP trivial
  exact ⟨k, o, h1, h2, h3, hQ⟩
theorem lw_frame {s t : State} {o : Outcome} {args : Array Value} (h : Framed s o t [] 600000 7302250) :
    Framed s o t (fieldLocs frame_1_writes args s ++ arrayLocs frame_1_arrays args s ++ staticLocs frame_1_statics s) 600000 7302250 := h
theorem lw_limb (L : Cond) (hL : ∀ (args : Array Value) (s t : State), L.after args s (.returned (some (.int 1))) t = true) :
    ArmFor flags0 classFile x code maxLocals ret World_1 tables_1 room_1 Calls_1 rest_1 Pre_1
      (fun tb e a s o t => postC L tb e a s o t ∧ Framed s o t (fieldLocs frame_1_writes a s ++ arrayLocs frame_1_arrays a s ++ staticLocs frame_1_statics s) 600000 7302250) := by
  intro l hflags _ _ p e ha hc hk s m args below hf hfit hheap happ hpre
  obtain ⟨k, o, h1, h2, h3, rfl, hF⟩ := lw_comes l hflags p e ha hc hk s m args below hf hfit hheap happ hpre
  exact ⟨k, _, h1, h2, h3, hL args s _, lw_frame hF⟩
theorem i_vc : Claimed_1_1 ∧ Claimed_1_2 := ⟨lw_limb limb_1_1 (fun args s t => by simp [limb_1_1, Cond.after, Cond.holds, Cond.value]), lw_limb limb_1_2 (fun args s t => Cond.after_iff.mpr (by
  first | (rw [show limb_1_2 = Cond.eq .result (.int 1) from rfl, Cond.eq_ints (x := 1) (y := 1) rfl rfl]; simp; done) | (simp [limb_1_2, Cond.value, Term.eval]; done)))⟩
