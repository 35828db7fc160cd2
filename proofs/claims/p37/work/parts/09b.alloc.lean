/-! AN: births. What is live, what the references hold and how many cells are made are part of the memory. -/
abbrev am_X : Type := am_E × Nat × Nat × am_M
abbrev an_K : Type := Nat → am_L → List Value → am_X → Prop
abbrev an_S : Type := am_L → List Value → am_X → an_K → Prop
abbrev an_R : Type := Option Value → am_E → am_M → Prop
abbrev an_T : Type := am_E → List Value → am_M → an_R → Prop
def an_agree (live0 : am_E) (al0 al : Nat → Nat) : Prop := ∀ q, (live0.1 q = true ∨ 1000 ≤ q) → al q = al0 q
/-- what is referred to is live -/
def an_cl (E : am_E) : Prop := ∀ a k r, E.1 a = true → E.2 a k = some r → E.1 r = true
def an_I (live0 E : am_E) : Prop := (∀ q, live0.1 q = true → E.1 q = true) ∧ an_cl E
def an_W (p : Program) (l : Launch) (e : Env) (R : Room) (Q : State → Prop) (s : State) (m : MethodId) (args : Array Value) (below : List Frame) (meth : Method) (c : Code) (D : va_G) (cA : Nat → ClassId) (al0 : Nat → Nat) (B : Nat) (live0 : am_E) (nL : Nat) : an_K := fun pc L st X =>
  ∀ (al : Nat → Nat), an_agree live0 al0 al → an_I live0 X.1 → X.2.1 ≤ R.cells → X.2.2.1 ≤ R.slots → am_W p l e (R, X.2.1, X.2.2.1, Q) s m args below meth c D cA al B X.1 nL pc L st X.2.2.2
def an_Qc (D : va_G) (cA : Nat → ClassId) (al0 : Nat → Nat) (B : Nat) (live0 : am_E) (Ret : an_R) : Array Value → State → Outcome → State → Prop := fun _ st o t =>
  ∃ (r : Option Value) (E' : am_E) (M' : am_M) (al' : Nat → Nat), an_agree live0 al0 al' ∧ an_I live0 E' ∧ Ret r E' M' ∧ o = .returned (r.map (am_cv al')) ∧ am_P D cA al' B E' M' t.heap ∧ va_F (fun q => B ≤ q) st t
def an_Rk (R : Room) (rf rl mc ms : Nat) : Prop := rf ≤ R.frames ∧ rl ≤ R.locals ∧ R.cells = mc ∧ R.slots = ms
def an_Qk (s : State) (args : Array Value) (below : List Frame) (D : va_G) (cA : Nat → ClassId) (al0 : Nat → Nat) (B : Nat) (live0 : am_E) (mc ms : Nat) (Ret : an_R) (Q : State → Prop) : Prop :=
  Q = MQ below (an_Qc D cA al0 B live0 Ret) args s mc ms (fun q => B ≤ q) ∨ ∀ r E M, ¬ Ret r E M
def an_ok (own : String) (cc : ByteArray) (nL : Nat) (rt : Option FieldType) (rf rl mc ms : Nat) (ini : Bool) (Pp : State → (Nat → Nat) → Nat → Prop) (Ret : an_R) (pc : Nat) (sem : an_S) : Prop :=
  ∀ (p : Program) (l : Launch) (e : Env) (R : Room) (Q : State → Prop) (s : State) (m : MethodId) (args : Array Value) (below : List Frame) (meth : Method) (c : Code) (D : va_G) (cA : Nat → ClassId) (al0 : Nat → Nat) (B : Nat) (live0 : am_E), am_C p s m args meth c D cA al0 B own cc nL rt → an_Rk R rf rl mc ms → an_Qk s args below D cA al0 B live0 mc ms Ret Q → (ini = true → meth.name = "<init>") → Pp s al0 B →
    ∀ (L : am_L) (st : List Value) (X : am_X) (K : an_K), (∀ pc' L' st' X', K pc' L' st' X' → an_W p l e R Q s m args below meth c D cA al0 B live0 nL pc' L' st' X') → sem L st X K → an_W p l e R Q s m args below meth c D cA al0 B live0 nL pc L st X
/-! a method as a list of what its instructions do; its run with cuts -/
abbrev an_code : Type := List (Nat × an_S)
def an_go : an_code → Nat → an_code
  | [], _ => []
  | q :: r, pc => match Nat.beq q.1 pc with
    | true => q :: r
    | false => an_go r pc
def an_nxt (code rest : an_code) (pc : Nat) : an_code := match rest with
  | [] => an_go code pc
  | r :: rs => match Nat.beq r.1 pc with
    | true => r :: rs
    | false => an_go code pc
abbrev an_cut : Type := Nat → Option (am_L → List Value → am_X → Prop)
/-- by the recursor itself: so the kernel unfolds it step by step -/
noncomputable def an_wp (code : an_code) (cut : an_cut) (n : Nat) : an_code → am_L → List Value → am_X → Prop :=
  @Nat.rec (fun _ => an_code → am_L → List Value → am_X → Prop) (fun _ _ _ _ => False) (fun _ ih cs L st M => match cs with
    | [] => False
    | q :: rest => q.2 L st M (fun pc' L' st' M' => match cut pc' with
      | some I => I L' st' M'
      | none => ih (an_nxt code rest pc') L' st' M')) n
theorem an_go_hd : ∀ (code : an_code) (pc : Nat) (q : Nat × an_S) (r : an_code), an_go code pc = q :: r → q.1 = pc
  | [], _, _, _, h => by cases h
  | a :: rs, pc, q, r, h => by
    unfold an_go at h
    cases hb : Nat.beq a.1 pc with
    | true =>
      rw [hb] at h
      have e : a :: rs = q :: r := h
      cases e
      exact Nat.eq_of_beq_eq_true hb
    | false =>
      rw [hb] at h
      exact an_go_hd rs pc q r h
theorem an_go_in : ∀ (code : an_code) (pc : Nat) (q : Nat × an_S), q ∈ an_go code pc → q ∈ code
  | [], _, _, h => by cases h
  | a :: rs, pc, q, h => by
    unfold an_go at h
    cases hb : Nat.beq a.1 pc with
    | true => rw [hb] at h; exact h
    | false => rw [hb] at h; exact List.mem_cons_of_mem _ (an_go_in rs pc q h)
theorem an_nxt_hd {code rest : an_code} {pc : Nat} {q : Nat × an_S} {r : an_code} (h : an_nxt code rest pc = q :: r) : q.1 = pc := by
  unfold an_nxt at h
  cases rest with
  | nil => exact an_go_hd _ _ _ _ h
  | cons a rs =>
    cases hb : Nat.beq a.1 pc with
    | true =>
      simp only [hb] at h
      cases h
      exact Nat.eq_of_beq_eq_true hb
    | false =>
      simp only [hb] at h
      exact an_go_hd _ _ _ _ h
theorem an_nxt_in {code rest : an_code} {pc : Nat} {q : Nat × an_S} (hr : ∀ x ∈ rest, x ∈ code) (h : q ∈ an_nxt code rest pc) : q ∈ code := by
  unfold an_nxt at h
  cases rest with
  | nil => exact an_go_in _ _ _ h
  | cons a rs =>
    cases hb : Nat.beq a.1 pc with
    | true =>
      simp only [hb] at h
      exact hr _ h
    | false =>
      simp only [hb] at h
      exact an_go_in _ _ _ h
section ANW
variable {own : String} {cc : ByteArray} {nL : Nat} {rt : Option FieldType} {rf rl : Nat} {mc ms : Nat} {ini : Bool} {Pp : State → (Nat → Nat) → Nat → Prop} {Ret : an_R} {p : Program} {l : Launch} {e : Env} {s : State} {m : MethodId} {args : Array Value} {below : List Frame} {meth : Method} {c : Code} {D : va_G} {cA : Nat → ClassId} {al0 : Nat → Nat} {B : Nat} {live0 : am_E} {R : Room} {Q : State → Prop}
theorem an_wp_ok {code : an_code} {cut : an_cut} (hok : ∀ q ∈ code, an_ok own cc nL rt rf rl mc ms ini Pp Ret q.1 q.2) (hC : am_C p s m args meth c D cA al0 B own cc nL rt) (hR : an_Rk R rf rl mc ms) (hQ : an_Qk s args below D cA al0 B live0 mc ms Ret Q) (hni : ini = true → meth.name = "<init>") (hPp : Pp s al0 B)
    (hcut : ∀ pc I, cut pc = some I → ∀ L st M, I L st M → an_W p l e R Q s m args below meth c D cA al0 B live0 nL pc L st M) :
    ∀ (n : Nat) (cs : an_code) (L : am_L) (st : List Value) (M : am_X), (∀ q ∈ cs, q ∈ code) → an_wp code cut n cs L st M → ∃ pc, (∃ q r, cs = q :: r ∧ q.1 = pc) ∧ an_W p l e R Q s m args below meth c D cA al0 B live0 nL pc L st M
  | 0, _, _, _, _, _, h => h.elim
  | n + 1, [], _, _, _, _, h => h.elim
  | n + 1, q :: rest, L, st, M, hin, h => by
    refine ⟨q.1, ⟨q, rest, rfl, rfl⟩, ?_⟩
    refine hok q (hin q List.mem_cons_self) p l e R Q s m args below meth c D cA al0 B live0 hC hR hQ hni hPp L st M _ (fun pc' L' st' M' hk => ?_) h
    cases hc : cut pc' with
    | some I =>
      simp only [hc] at hk
      exact hcut pc' I hc L' st' M' hk
    | none =>
      simp only [hc] at hk
      obtain ⟨pc2, ⟨q2, r2, e1, e2⟩, hw⟩ := an_wp_ok hok hC hR hQ hni hPp hcut n _ L' st' M' (fun x hx => an_nxt_in (fun y hy => hin y (List.mem_cons_of_mem _ hy)) hx) hk
      have e3 := an_nxt_hd e1
      rw [← e3, e2]
      exact hw
/-- loops: invariants with a pair that falls -/
abbrev an_inv : Type := Nat → Option (List Nat × (Nat × Nat → am_L → List Value → am_X → Prop))
theorem an_W_nm {ks : List Nat} {pc : Nat} {L : am_L} {st : List Value} {M : am_X} (h : an_W p l e R Q s m args below meth c D cA al0 B live0 nL pc (am_nm ks L) st M) : an_W p l e R Q s m args below meth c D cA al0 B live0 nL pc L st M := by
  intro al hal hI hcc hcn H locs ls hP hS hl
  refine h al hal hI hcc hcn H locs ls hP hS ⟨hl.1, hl.2.1, fun q hq => ?_⟩
  obtain ⟨x, hx, rfl⟩ := List.mem_map.mp hq
  exact hl.2.2 _ (List.mem_map.mpr ⟨x, am_nm_mem hx, rfl⟩)
def an_cutl (inv : an_inv) (k : Nat × Nat) : an_cut := fun pc => match inv pc with
  | some I => some (fun L st M => ∃ k', am_lt k' k ∧ I.2 k' (am_nm I.1 L) st M)
  | none => none
def an_cut0 (inv : an_inv) : an_cut := fun pc => match inv pc with
  | some I => some (fun L st M => ∃ k', I.2 k' (am_nm I.1 L) st M)
  | none => none
theorem an_loops {code : an_code} {inv : an_inv} (hok : ∀ q ∈ code, an_ok own cc nL rt rf rl mc ms ini Pp Ret q.1 q.2) (hC : am_C p s m args meth c D cA al0 B own cc nL rt) (hR : an_Rk R rf rl mc ms) (hQ : an_Qk s args below D cA al0 B live0 mc ms Ret Q) (hni : ini = true → meth.name = "<init>") (hPp : Pp s al0 B)
    (N : Nat) (h : ∀ (k : Nat × Nat) (pc : Nat) I, inv pc = some I → ∀ L st M, I.2 k L st M → an_wp code (an_cutl inv k) N (an_go code pc) L st M) :
    ∀ (a b : Nat) (pc : Nat) I, inv pc = some I → ∀ L st M, I.2 (a, b) L st M → an_W p l e R Q s m args below meth c D cA al0 B live0 nL pc L st M := by
  intro a
  induction a using Nat.strongRecOn with
  | ind a iha =>
    intro b
    induction b using Nat.strongRecOn with
    | ind b ihb =>
      intro pc I hI L st M hi
      have hw := h (a, b) pc I hI L st M hi
      obtain ⟨pc2, ⟨q, r, e1, e2⟩, w⟩ := an_wp_ok (l := l) (e := e) (below := below) hok hC hR hQ hni hPp (cut := an_cutl inv (a, b)) (fun pc' I' hc L' st' M' hh => by
        unfold an_cutl at hc
        cases hi' : inv pc' with
        | none => rw [hi'] at hc; cases hc
        | some J =>
          rw [hi'] at hc
          cases hc
          obtain ⟨⟨a', b'⟩, hlt, hj⟩ := hh
          refine an_W_nm (ks := J.1) ?_
          rcases hlt with hlt | ⟨e, hlt⟩
          · exact iha a' hlt b' pc' J hi' _ st' M' hj
          · have e' : a' = a := e
            subst e'
            exact ihb b' hlt pc' J hi' _ st' M' hj) N _ L st M (fun x hx => an_go_in _ _ _ hx) hw
      rw [← an_go_hd _ _ _ _ e1, e2]
      exact w
end ANW
/-- a method's contract, with births -/
def an_Met (y : MethodName) (cc : ByteArray) (nL : Nat) (rt : Option FieldType) (rf rl mc ms : Nat) (T : an_T) : Prop :=
  ∀ (l : Launch) (D : va_G) (cA : Nat → ClassId) (al : Nat → Nat) (B : Nat) (live : am_E) (as : List Value) (M : am_M) (Ret : an_R), an_cl live → T live as M Ret →
    Met l y (.code y cc nL rt :: am_ws) { frames := rf, cells := mc, slots := ms, locals := rl } (am_Pc D cA al B live as M) (an_Qc D cA al B live Ret) mc ms (fun q => B ≤ q)
theorem an_met {y : MethodName} {own : String} {cc : ByteArray} {nL : Nat} {rt : Option FieldType} {rf rl mc ms : Nat} {ini : Bool} {T : an_T} (hy : plainName y.cls = true) (hown : y.cls = own) (hni : ini = true → y.name = "<init>") (code : an_R → an_code)
    (hok : ∀ Ret, ∀ q ∈ code Ret, an_ok own cc nL rt rf rl mc ms ini (fun _ _ _ => True) Ret q.1 q.2) (N : Nat) (inv : am_E → List Value → am_M → an_R → an_inv)
    (hin : ∀ live as M Ret, T live as M Ret → (lg_sl as).length ≤ nL ∧ an_wp (code Ret) (an_cut0 (inv live as M Ret)) N (an_go (code Ret) 0) (lv_args 0 as) [] (live, 0, 0, M))
    (hl : ∀ live as M0 Ret, T live as M0 Ret → ∀ (k : Nat × Nat) (pc : Nat) I, inv live as M0 Ret pc = some I → ∀ L st M, I.2 k L st M → an_wp (code Ret) (an_cutl (inv live as M0 Ret) k) N (an_go (code Ret) pc) L st M) :
    an_Met y cc nL rt rf rl mc ms T := by
  intro l D cA al B live as M Ret hcl hT
  refine Met.ofW (cc := cc) (maxL := nL) (ret := rt) hy rfl ?_
  intro p e s m args below meth c s₁ Bd hml hv
  obtain ⟨rfl, hsz, hP, hK, hZ, hN⟩ := hv
  have hts0 := atoms_spec (ws := Cond.code y cc nL rt :: am_ws) Bd.pre
  have hC : am_C p s m (as.map (am_cv al)).toArray meth c D cA al B own cc nL rt := ⟨Bd.exec, Bd.bytes, hml, hown ▸ findClass_of_methodNamed Bd.named, fun w hw => hts0 w (List.mem_cons_of_mem _ hw), Bd.notSynchronized, Bd.returns, hK, hsz, hZ, hN⟩
  have hR : an_Rk { frames := rf, cells := mc, slots := ms, locals := rl } rf rl mc ms := ⟨Nat.le_refl _, Nat.le_refl _, rfl, rfl⟩
  have hQ : an_Qk s (as.map (am_cv al)).toArray below D cA al B live mc ms Ret (MQ below (an_Qc D cA al B live Ret) (as.map (am_cv al)).toArray s mc ms (fun q => B ≤ q)) := Or.inl rfl
  have hn2 : ini = true → meth.name = "<init>" := fun h => (name_of_methodNamed Bd.named Bd.method).1.trans (hni h)
  obtain ⟨hlen, hwp⟩ := hin live as M Ret hT
  obtain ⟨pc2, ⟨q, r, e1, e2⟩, w⟩ := an_wp_ok (l := l) (e := e) (below := below) (hok Ret) hC hR hQ hn2 trivial (cut := an_cut0 (inv live as M Ret)) (fun pc' I' hc L' st' M' hh => by
    unfold an_cut0 at hc
    cases hi' : inv live as M Ret pc' with
    | none => rw [hi'] at hc; cases hc
    | some J =>
      rw [hi'] at hc
      cases hc
      obtain ⟨⟨a', b'⟩, hj⟩ := hh
      exact an_W_nm (ks := J.1) (an_loops (hok Ret) hC hR hQ hn2 trivial N (hl live as M Ret hT) a' b' pc' J hi' _ st' M' hj)) N _ _ _ _ (fun x hx => an_go_in _ _ _ hx) hwp
  have e3 := an_go_hd _ _ _ _ e1
  have e4 : pc2 = 0 := by rw [← e2, e3]
  subst e4
  have hle := lv_entry (as.map (am_cv al)) (n := nL) (by rw [am_slen]; exact hlen)
  rw [am_args] at hle
  rw [lg_entry_eq]
  exact w al (fun _ _ => rfl) ⟨fun _ h => h, hcl⟩ (Nat.zero_le _) (Nat.zero_le _) s.heap [] _ hP va_S.rf hle
/-! what births do -/
theorem am_Z.al {al0 al : Nat → Nat} {B : Nat} {s : State} (h : ∀ q, 1000 ≤ q → al q = al0 q) (hZ : am_Z al0 B s) : am_Z al B s := fun k hk => by
  rw [h (1000 + k) (Nat.le_add_right _ _)]; exact hZ k hk
theorem am_C.al {p : Program} {s : State} {m : MethodId} {args : Array Value} {meth : Method} {c : Code} {D : va_G} {cA : Nat → ClassId} {al0 al : Nat → Nat} {B : Nat} {own : String} {cc : ByteArray} {nL : Nat} {rt : Option FieldType} (hC : am_C p s m args meth c D cA al0 B own cc nL rt) (h : ∀ q, 1000 ≤ q → al q = al0 q) : am_C p s m args meth c D cA al B own cc nL rt := by
  obtain ⟨a1, a2, a3, a4, a5, a6, a7, a8, a9, a10, a11⟩ := hC
  exact ⟨a1, a2, a3, a4, a5, a6, a7, a8, a9, a10.al h, a11⟩
def an_lf (f : am_E → am_S) : an_S := fun L st X K => match X with
  | (E, k, n, M) => f E L st M (fun pc' L' st' M' => K pc' L' st' (E, k, n, M'))
def an_no : am_R := fun _ _ => False
theorem an_lift {own : String} {cc : ByteArray} {nL : Nat} {rt : Option FieldType} {rf rl mc ms : Nat} {ini : Bool} {Pp : State → (Nat → Nat) → Nat → Prop} {Ret : an_R} {pc : Nat} {f : am_E → am_S} (h : ∀ live, am_ok own cc nL rt rf rl live an_no pc (f live)) : an_ok own cc nL rt rf rl mc ms ini Pp Ret pc (an_lf f) := by
  intro p l e R Q s m args below meth c D cA al0 B live0 hC hR hQ hni hPp L st X K hK hs al hal hI hc hn
  obtain ⟨E, k0, n0, M⟩ := X
  exact h E p l e s m args below meth c D cA al B (hC.al (fun q hq => hal q (Or.inr hq))) (R, k0, n0, Q) ⟨hR.1, hR.2.1, hc, hn, Or.inr (fun _ _ q => q)⟩ L st M _ (fun pc' L' st' M' k => hK pc' L' st' (E, k0, n0, M') k al hal hI hc hn) hs
def an_bE (E : am_E) (n : Nat) : am_E := (fun q => Nat.beq q n || E.1 q, fun a b => match Nat.beq a n with | true => none | false => E.2 a b)
def an_bM (M : am_M) (n : Nat) : am_M := (fun a b => match Nat.beq a n with | true => 0 | false => M.1 a b, fun a b => match Nat.beq a n with | true => 0 | false => M.2 a b)
def an_up (al : Nat → Nat) (n q : Nat) : Nat → Nat := fun x => if x = n then q else al x
theorem an_ce_cg {Q Q' : Nat → Nat → Option Nat} {cA : Nat → ClassId} {al al' : Nat → Nat} {M M' : am_M} {n : Nat} (h1 : ∀ k, M'.1 n k = M.1 n k) (h2 : ∀ k, M'.2 n k = M.2 n k) (hq : ∀ k, (Q' n k).map al' = (Q n k).map al) : am_ce Q' cA al' M' n = am_ce Q cA al M n := by
  unfold am_ce
  cases am_sh n with
  | inl ci =>
    refine congrArg Sum.inr (Prod.ext rfl ?_)
    refine congrArg (fun f => List.map f (List.range (am_nf ci))) ?_
    funext k
    unfold am_fv
    rw [h1, h2, hq]
  | inr q =>
    refine congrArg Sum.inl (Prod.ext rfl (Prod.ext rfl ?_))
    show am_ae Q' al' M' n q.1 = am_ae Q al M n q.1
    unfold am_ae
    rw [show M'.1 n = M.1 n from funext h1, show M'.2 n = M.2 n from funext h2, show (fun k => (Q' n k).map al') = (fun k => (Q n k).map al) from funext hq]
theorem an_bne {n m : Nat} (h : n ≠ m) : Nat.beq n m = false := by
  cases hb : Nat.beq n m with
  | true => exact absurd (Nat.eq_of_beq_eq_true hb) h
  | false => rfl
theorem an_beq (n : Nat) : Nat.beq n n = true := Nat.beq_refl n
theorem an_bE_new (E : am_E) (n : Nat) : (an_bE E n).1 n = true := by
  show (Nat.beq n n || E.1 n) = true
  rw [an_beq]; rfl
theorem an_bE_old (E : am_E) {n q : Nat} (h : E.1 q = true) : (an_bE E n).1 q = true := by
  show (Nat.beq q n || E.1 q) = true
  rw [h, Bool.or_true]
theorem an_bE_of (E : am_E) {n q : Nat} (h : (an_bE E n).1 q = true) : q = n ∨ E.1 q = true := by
  have h : (Nat.beq q n || E.1 q) = true := h
  rcases Bool.or_eq_true _ _ |>.mp h with h | h
  · exact Or.inl (Nat.eq_of_beq_eq_true h)
  · exact Or.inr h
theorem an_bE_2 (E : am_E) {n a : Nat} (k : Nat) (h : a ≠ n) : (an_bE E n).2 a k = E.2 a k := by
  show (match Nat.beq a n with | true => none | false => E.2 a k) = _
  rw [an_bne h]
theorem an_bE_2n (E : am_E) (n k : Nat) : (an_bE E n).2 n k = none := by
  show (match Nat.beq n n with | true => none | false => E.2 n k) = _
  rw [an_beq]
theorem an_bM_1 (M : am_M) {n a : Nat} (k : Nat) (h : a ≠ n) : (an_bM M n).1 a k = M.1 a k := by
  show (match Nat.beq a n with | true => 0 | false => M.1 a k) = _
  rw [an_bne h]
theorem an_bM_2 (M : am_M) {n a : Nat} (k : Nat) (h : a ≠ n) : (an_bM M n).2 a k = M.2 a k := by
  show (match Nat.beq a n with | true => 0 | false => M.2 a k) = _
  rw [an_bne h]
theorem an_bM_1n (M : am_M) (n k : Nat) : (an_bM M n).1 n k = 0 := by
  show (match Nat.beq n n with | true => 0 | false => M.1 n k) = _
  rw [an_beq]
theorem an_bM_2n (M : am_M) (n k : Nat) : (an_bM M n).2 n k = 0 := by
  show (match Nat.beq n n with | true => 0 | false => M.2 n k) = _
  rw [an_beq]
theorem an_bI {live0 E : am_E} {n : Nat} (h : an_I live0 E) : an_I live0 (an_bE E n) := by
  refine ⟨fun q hq => an_bE_old E (h.1 q hq), fun a k r ha hr => ?_⟩
  by_cases e : a = n
  · subst e
    rw [an_bE_2n] at hr
    cases hr
  · rw [an_bE_2 E k e] at hr
    rcases an_bE_of E ha with h1 | h1
    · exact absurd h1 e
    · exact an_bE_old E (h.2 a k r h1 hr)
theorem an_born {D : va_G} {cA : Nat → ClassId} {al : Nat → Nat} {B : Nat} {E : am_E} {M : am_M} {H H1 : Heap} {n q : Nat} {e : va_E} (hP : am_P D cA al B E M H) (hcl : an_cl E) (hf : E.1 n = false) (h4 : n < 400)
    (hP1 : va_P D am_cl (am_ws0 cA al E M ++ [(q, e)]) H1) (hD1 : va_D (fun q => B ≤ q) (am_ws0 cA al E M ++ [(q, e)])) (he : am_ce (an_bE E n).2 cA (an_up al n q) (an_bM M n) n = e) : am_P D cA (an_up al n q) B (an_bE E n) (an_bM M n) H1 := by
  have hne : ∀ {m : Nat}, E.1 m = true → m ≠ n := fun hm z => by
    rw [z, hf] at hm
    cases hm
  have hlast : (am_ws0 cA al E M ++ [(q, e)])[(am_ws0 cA al E M).length]? = some (q, e) := by
    rw [List.getElem?_append_right (Nat.le_refl _), Nat.sub_self]
    rfl
  have hold : ∀ {m : Nat}, E.1 m = true → ∃ k, k < (am_ws0 cA al E M).length ∧ (am_ws0 cA al E M ++ [(q, e)])[k]? = some (al m, am_ce E.2 cA al M m) := fun {m} hm => by
    obtain ⟨k, hk⟩ := am_wl_at hm (hP.2.2.2 m hm)
    have hk2 := am_ws0_at (cA := cA) (al := al) (M := M) hk
    have hlt := (List.getElem?_eq_some_iff.mp hk2).1
    exact ⟨k, hlt, by rw [List.getElem?_append_left hlt]; exact hk2⟩
  have e1 : an_up al n q n = q := if_pos rfl
  have e2 : ∀ {m : Nat}, m ≠ n → an_up al n q m = al m := fun h => if_neg h
  refine ⟨fun m hm => ?_, fun i j hi hj hij => ?_, fun m hm => ?_, fun m hm => ?_⟩
  · rcases an_bE_of E hm with z | z
    · rw [z, he, e1]
      exact hP1 _ _ hlast
    · obtain ⟨k, -, hk⟩ := hold z
      rw [e2 (hne z), an_ce_cg (M := M) (Q := E.2) (al := al) (fun k => an_bM_1 M k (hne z)) (fun k => an_bM_2 M k (hne z)) (fun k => ?_)]
      · exact hP1 _ _ hk
      · rw [an_bE_2 E k (hne z)]
        cases hr : E.2 m k with
        | none => rfl
        | some r => exact congrArg some (e2 (hne (hcl m k r z hr)))
  · rcases an_bE_of E hi with zi | zi
    · rcases an_bE_of E hj with zj | zj
      · rw [zi, zj]
      · exfalso
        rw [zi, e1, e2 (hne zj)] at hij
        obtain ⟨k, hk1, hk⟩ := hold zj
        have := hD1.1 _ _ _ _ hlast hk hij
        omega
    · rcases an_bE_of E hj with zj | zj
      · exfalso
        rw [zj, e1, e2 (hne zi)] at hij
        obtain ⟨k, hk1, hk⟩ := hold zi
        have := hD1.1 _ _ _ _ hk hlast hij
        omega
      · rw [e2 (hne zi), e2 (hne zj)] at hij
        exact hP.2.1 i j zi zj hij
  · rcases an_bE_of E hm with z | z
    · rw [z, e1]
      exact hD1.2 _ _ hlast
    · rw [e2 (hne z)]
      exact hP.2.2.1 m z
  · rcases an_bE_of E hm with z | z
    · rw [z]; exact h4
    · exact hP.2.2.2 m z
/-- the references at hand are live, or static -/
def an_rk (E : am_E) (v : Value) : Bool := match v with
  | .ref n => E.1 n || Nat.ble 1000 n
  | _ => true
theorem an_rk_cv {E : am_E} {al al' : Nat → Nat} (h : ∀ q, (E.1 q = true ∨ 1000 ≤ q) → al' q = al q) {v : Value} (hv : an_rk E v = true) : am_cv al' v = am_cv al v := by
  cases v with
  | ref n =>
    have hv : (E.1 n || Nat.ble 1000 n) = true := hv
    refine congrArg Value.ref (h n ?_)
    rcases Bool.or_eq_true _ _ |>.mp hv with z | z
    · exact Or.inl z
    · exact Or.inr (Nat.le_of_ble_eq_true z)
  | _ => rfl
theorem an_st_cv {E : am_E} {al al' : Nat → Nat} (h : ∀ q, (E.1 q = true ∨ 1000 ≤ q) → al' q = al q) {st : List Value} (hv : st.all (an_rk E) = true) : st.map (am_cv al') = st.map (am_cv al) :=
  List.map_congr_left (fun v hm => an_rk_cv h (List.all_eq_true.mp hv v hm))
theorem an_lc_cv {E : am_E} {al al' : Nat → Nat} (h : ∀ q, (E.1 q = true ∨ 1000 ≤ q) → al' q = al q) {L : am_L} (hv : L.all (fun q => an_rk E q.2) = true) : am_lc al' L = am_lc al L :=
  List.map_congr_left (fun v hm => Prod.ext rfl (an_rk_cv h (List.all_eq_true.mp hv v hm)))
def an_fr (E : am_E) (kc kn : Nat) (L : am_L) (st : List Value) (n mc ms k j : Nat) : Bool := !(E.1 n) && (Nat.blt n 400 && (Nat.ble (kc + k) mc && (Nat.ble (kn + j) ms && (L.all (fun q => an_rk E q.2) && st.all (an_rk E)))))
theorem an_fr_spec {E : am_E} {kc kn : Nat} {L : am_L} {st : List Value} {n mc ms k j : Nat} (h : an_fr E kc kn L st n mc ms k j = true) : E.1 n = false ∧ n < 400 ∧ kc + k ≤ mc ∧ kn + j ≤ ms ∧ L.all (fun q => an_rk E q.2) = true ∧ st.all (an_rk E) = true := by
  unfold an_fr at h
  simp only [Bool.and_eq_true, Bool.not_eq_true'] at h
  exact ⟨h.1, Nat.le_of_ble_eq_true h.2.1, Nat.le_of_ble_eq_true h.2.2.1, Nat.le_of_ble_eq_true h.2.2.2.1, h.2.2.2.2.1, h.2.2.2.2.2⟩
theorem an_up_old {E : am_E} {al : Nat → Nat} {n q : Nat} (hf : E.1 n = false) (h4 : n < 400) : ∀ x, (E.1 x = true ∨ 1000 ≤ x) → an_up al n q x = al x := fun x hx => if_neg (fun z => by
  subst z
  rcases hx with h | h
  · rw [hf] at h; cases h
  · omega)
theorem an_agree.up {live0 E : am_E} {al0 al : Nat → Nat} {n q : Nat} (h : an_agree live0 al0 al) (hs : ∀ q, live0.1 q = true → E.1 q = true) (hf : E.1 n = false) (h4 : n < 400) : an_agree live0 al0 (an_up al n q) := fun x hx => (an_up_old (E := E) hf h4 x (hx.imp (hs x) (fun z => z))).trans (h x hx)
