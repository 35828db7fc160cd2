-- part 79zo.life4.lean.txt
section
/-! runs exact: a life: what is taken in it; the reference -/
theorem z_it_tog2 {F : Nat → z_S → z_S} {ms : List Int32} {a : Nat} (s : z_S) : ∀ n : Nat, (∀ y, a ≤ y → y < a + n → ∀ s, z_tog (F y s).1 90 ms = z_tog s.1 90 ms + z_tog (F y s).1 30 ms) → z_tog (z_it F a n s).1 90 ms = z_tog s.1 90 ms + z_sum (fun i => z_tog (z_it F a (i + 1) s).1 30 ms) n
  | 0, _ => by
    show z_tog s.1 90 ms = z_tog s.1 90 ms + 0
    rw [Int64.add_zero]
  | n + 1, h => by
    show z_tog (F (a + n) (z_it F a n s)).1 90 ms = z_tog s.1 90 ms + (z_sum (fun i => z_tog (z_it F a (i + 1) s).1 30 ms) n + z_tog (z_it F a (n + 1) s).1 30 ms)
    rw [h (a + n) (by omega) (by omega), z_it_tog2 s n (fun y z1 z2 => h y z1 (by omega)), Int64.add_assoc]
    rfl
/-- only the first year pays -/
theorem z_sum_p1 {f P : Nat → Int64} (h : ∀ i, i ≠ 0 → P i = 0) : ∀ {n : Nat}, z_sum (fun i => f i + P i) n = z_sum f n + (if n = 0 then 0 else P 0)
  | 0 => by
    show (0 : Int64) = 0 + (if 0 = 0 then 0 else P 0)
    rw [if_pos rfl, Int64.add_zero]
  | n + 1 => by
    show z_sum (fun i => f i + P i) n + (f n + P n) = z_sum f n + f n + (if n + 1 = 0 then 0 else P 0)
    rw [z_sum_p1 h, if_neg (show ¬ n + 1 = 0 by omega)]
    by_cases z : n = 0
    · subst z
      rw [if_pos rfl, Int64.add_zero, ← Int64.add_assoc]
    · rw [if_neg z, h n z, Int64.add_zero, Int64.add_assoc, Int64.add_comm (P 0), ← Int64.add_assoc]
theorem r_P_ct {M : am_M} {p y e a d : Int32} {q : Int64} {S : (Nat → Int64) × (Nat → Int32)} (hn : r_n M ≤ 30) : r_P M p y e a d q S = r_P M p y e a d q (z_ct S.1, z_cb S.2) := by
  have hm : ∀ l ∈ r_mine M p (r_n M), am_in l 30 := fun l hl => by
    have w := (z_mine_in (by omega) hl).1
    exact ⟨w.1, by have := w.2; omega⟩
  have hQ : ∀ l ∈ z_pf (r_own M p) (r_of M p y) (r_n M) (10 * r_n M), am_in l 30 := fun l hl => z_pf_in hn hl
  have B := z_ct_rbs (en := r_ends M y d) (cap := fun l o => r_cap o (r_rt M l y e a o)) (o1 := r_o1 M y) (dr := r_dr M y) (p := S) hm
  unfold r_P
  rw [← B]
  dsimp only
  generalize (r_mine M p (r_n M)).foldl (r_bg M y e a d) S = T
  have P := z_ct_rps (b := T.2) (p := (T.1, q)) hQ
  dsimp only at P
  rw [← P]
/-- what is paid looks at the same -/
theorem r_P_cg {K M : am_M} {p y e a d : Int32} {q : Int64} (h1 : K.1 201 = M.1 201) (h2 : ∀ j, 3 ≤ j → j ≤ 6 → K.1 200 j = M.1 200 j) (hpl : ∀ l, r_pl K l y = r_pl M l y) : r_P K p y e a d q = r_P M p y e a d q := by
  have lo : ∀ l w, r_lo K l w = r_lo M l w := fun l w => by unfold r_lo; rw [h1]
  have inF : ∀ pl w p, r_inF K pl w p y = r_inF M pl w p y := fun pl w p => by
    unfold r_inF r_A
    rw [h1, h2 3 (by decide) (by decide), h2 4 (by decide) (by decide), h2 5 (by decide) (by decide), h2 6 (by decide) (by decide)]
  have sg : ∀ pl, r_sg K pl = r_sg M pl := fun pl => by unfold r_sg; rw [h1]
  have sn : ∀ pl, r_sn K pl = r_sn M pl := fun pl => by unfold r_sn; rw [h1]
  have e1 : r_ends K y d = r_ends M y d := funext fun l => by
    unfold r_ends
    exact decide_eq_decide.mpr (by rw [lo, lo, hpl, inF])
  have e2 : ∀ l o, r_rt K l y e a o = r_rt M l y e a o := fun l o => by
    unfold r_rt r_fx
    rw [hpl, inF, inF, sg, sn, lo, lo, h1]
  have e3 : r_o1 K y = r_o1 M y := funext fun l => funext fun o => by unfold r_o1; rw [lo, lo]
  have e4 : r_dr K y = r_dr M y := funext fun l => funext fun o => by unfold r_dr r_given; rw [lo, h1]
  have eb : r_bg K y e a d = r_bg M y e a d := by
    unfold r_bg
    rw [e1, e3, e4, show (fun l o => r_cap o (r_rt K l y e a o)) = (fun l o => r_cap o (r_rt M l y e a o)) from funext fun l => funext fun o => by rw [e2]]
  have e7 : r_of K p y = r_of M p y := funext fun l => by unfold r_of; rw [hpl, inF]
  have e8 : r_own K p = r_own M p := funext fun l => by
    unfold r_own
    exact decide_eq_decide.mpr (by rw [lo])
  have e9 : r_n K = r_n M := by unfold r_n; rw [h1]
  funext S
  unfold r_P r_mine
  rw [eb, e7, e8, e9]
/-- years of a life, sums and what is struck -/
def r_lvS (M : am_M) (p lf : Int32) (y : Nat) (k : Int32) (sum : Int64) (n : Nat) : (Nat → Int64) × (Nat → Int32) := z_it (r_ly M p lf sum y) y n (r_R M p k y)
theorem z_it_0 {σ : Type} {F : Nat → σ → σ} {a : Nat} {s : σ} : z_it F a 0 s = s := rfl
theorem r_lvS_0 {M : am_M} {p lf k : Int32} {y : Nat} {sum : Int64} : r_lvS M p lf y k sum 0 = r_R M p k y := by
  unfold r_lvS
  rw [z_it_0]
/-- what is taken and paid in a year of it -/
def r_lvF (M : am_M) (p lf : Int32) (y : Nat) (k : Int32) (sum : Int64) (i : Nat) : Int64 := z_tog (r_lvS M p lf y k sum (i + 1)).1 30 (r_mine M p (r_n M)) + r_P M p (Int32.ofNat (y + i)) (r_le M lf (y + i)) 0 0 (if y + i = y then sum else 0) (r_lvS M p lf y k sum i)
def r_livV (M : am_M) (p lf : Int32) (y : Nat) (k : Int32) (sum : Int64) : Int64 := z_sum (r_lvF M p lf y k sum) (40 - y)
theorem r_liv_cg {K M : am_M} (h1 : K.1 201 = M.1 201) (h2 : ∀ j, 3 ≤ j → j ≤ 6 → K.1 200 j = M.1 200 j) (hpl : ∀ l y, r_pl K l y = r_pl M l y) {p lf k : Int32} {y : Nat} {q : Int64} : r_livV K p lf y k q = r_livV M p lf y k q := by
  have eY : ∀ y e a d q, r_Y K p y e a d q = r_Y M p y e a d q := fun y e a d q => r_Y_cg h1 h2 (fun l => hpl l y)
  have eP : ∀ y e a d q, r_P K p y e a d q = r_P M p y e a d q := fun y e a d q => r_P_cg h1 h2 (fun l => hpl l y)
  have yr : r_yr K p k = r_yr M p k := funext fun n => by
    unfold r_yr
    rw [eY]
    unfold r_e r_la r_dd r_known
    rw [h1]
  have le : ∀ n, r_le K lf n = r_le M lf n := fun n => by unfold r_le; rw [h1]
  have ly : r_ly K p lf q y = r_ly M p lf q y := funext fun n => funext fun S => by unfold r_ly; rw [eY, le]
  have mm : r_mine K p (r_n K) = r_mine M p (r_n M) := r_mine_cg h1 p
  have lv : ∀ n, r_lvS K p lf y k q n = r_lvS M p lf y k q n := fun n => by unfold r_lvS r_R; rw [ly, yr]
  unfold r_livV
  refine z_sum_cg (fun i _ => ?_)
  unfold r_lvF
  rw [lv, lv, eP, le, mm]
theorem r_ky.pl {M N : am_M} (h : r_ky M N) (l y : Int32) : r_pl N l y = r_pl M l y := by
  unfold r_pl
  rw [h.i (show (200 : Nat) ≠ 204 by decide) (by decide) (Or.inr ⟨by decide, by decide, by decide⟩), h.i (show (200 : Nat) ≠ 204 by decide) (by decide) (Or.inr ⟨by decide, by decide, by decide⟩), show N.1 201 = M.1 201 from funext fun b => h.i (by decide) (by decide) (Or.inl (by decide))]
theorem r_ky.liv {M N : am_M} (h : r_ky M N) {p lf k : Int32} {y : Nat} {q : Int64} : r_livV N p lf y k q = r_livV M p lf y k q := r_liv_cg (funext fun b => h.i (by decide) (by decide) (Or.inl (by decide))) (fun j h3 h6 => h.i (by decide) (by decide) (Or.inr ⟨by omega, by omega, by omega⟩)) h.pl
theorem r_ky.oa {M N : am_M} (h : r_ky M N) {p : Int32} (o : r_oa M p) : r_oa N p := ⟨(), fun _ hz => h.oo (o.v hz)⟩
/-- no plan leads: as it is -/
theorem r_liv_n {M : am_M} (h7 : M.1 200 7 = -1) {y0 p lf k : Int32} {y : Nat} {q : Int64} : r_livV (r_ld M (-1) y0) p lf y k q = r_livV M p lf y k q := r_liv_cg r_ld_1 (fun j h3 h6 => r_ld_2 (by omega) (by omega)) (fun l y => r_pl_n h7)
/-- what the class has changed isn't looked at -/
theorem r_liv_ld {M N : am_M} (h1 : N.1 201 = M.1 201) (h2 : N.1 200 = M.1 200) {pl y0 p lf k : Int32} {y : Nat} {q : Int64} : r_livV (r_ld N pl y0) p lf y k q = r_livV (r_ld M pl y0) p lf y k q := by
  refine r_liv_cg (by rw [r_ld_1, r_ld_1, h1]) (fun j h3 h6 => by rw [r_ld_2 (by omega) (by omega), r_ld_2 (by omega) (by omega), h2]) (fun l y => ?_)
  unfold r_pl
  rw [r_ld_7, r_ld_8, r_ld_1, r_ld_7, r_ld_8, r_ld_1, h1]
theorem r_oa_ld {M : am_M} {pl y0 p : Int32} (h : r_oa M p) : r_oa (r_ld M pl y0) p := ⟨(), fun y hy => ⟨(), fun q hq => by rw [r_inF_ld]; exact (h.v hy).v hq⟩⟩
theorem r_R_ct {M M' : am_M} {p k : Int32} {n : Nat} {S : (Nat → Int64) × (Nat → Int32)} (n1 : 0 ≤ (M.1 201 1).toInt ∧ (M.1 201 1).toInt ≤ 30) (h : r_s2 M' = z_it (r_yr M p k) 0 n S) (z : z_zero S) : (z_ct (r_fl M'), z_cb (M'.1 213)) = r_R M p k n := by
  have c : (r_n M : Int) = (M.1 201 1).toInt := i_clamp n1.1
  have e := r_it_ct (M := M) (p := p) (k := k) (n := n) (S := S) (by omega)
  rw [z.ct, ← h] at e
  exact e
/-- a year of a life, the machine's -/
theorem r_lv_s {M0 M N : am_M} {p l i e k : Int32} {q q' : Int64} {y j : Nat} (n1 : 0 ≤ (M.1 201 1).toInt ∧ (M.1 201 1).toInt ≤ 30) (ky : r_ky M0 M) (ei : Int32.ofNat (y + j) = i) (ee : r_le M0 l (y + j) = e) (eq : (if y + j = y then q else 0) = q') (h : (z_ct (r_fl M), z_cb (M.1 213)) = r_lvS M0 p l y k q j) (s2 : r_s2 N = r_Y M p i e 0 0 q' (r_s2 M)) (pd : N.2 200 22 = r_P M p i e 0 0 q' (r_s2 M)) : (z_ct (r_fl N), z_cb (N.1 213)) = r_lvS M0 p l y k q (j + 1) ∧ z_tog (r_fl N) 30 (r_mine M p (r_n M)) + N.2 200 22 = r_lvF M0 p l y k q j := by
  have cn : (r_n M : Int) = (M.1 201 1).toInt := i_clamp n1.1
  have e1 := r_Y_ct (M := M) (p := p) (y := i) (e := e) (a := 0) (d := 0) (q := q') (S := r_s2 M) (by omega)
  rw [← s2, ky.Y] at e1
  have e1 : (z_ct (r_fl N), z_cb (N.1 213)) = r_Y M0 p i e 0 0 q' (z_ct (r_fl M), z_cb (M.1 213)) := e1
  rw [h] at e1
  have e2 : (z_ct (r_fl N), z_cb (N.1 213)) = r_lvS M0 p l y k q (j + 1) := by
    rw [e1]
    show _ = r_Y M0 p (Int32.ofNat (y + j)) (r_le M0 l (y + j)) 0 0 (if y + j = y then q else 0) (z_it (r_ly M0 p l q y) y j (r_R M0 p k y))
    rw [ei, ee, eq]
    rfl
  refine ⟨e2, ?_⟩
  have e3 : r_P M p i e 0 0 q' (r_s2 M) = r_P M0 p i e 0 0 q' (r_lvS M0 p l y k q j) := by
    rw [← h, ← ky.P]
    exact r_P_ct (by omega)
  have e4 : r_mine M p (r_n M) = r_mine M0 p (r_n M0) := ky.f (fun K => r_mine K p (r_n K)) (fun _ _ _ => rfl) (fun _ _ _ _ _ _ => rfl)
  unfold r_lvF
  rw [ei, ee, eq, ← e3, ← pd, ← e2, ← e4]
  exact congrArg (fun x => x + N.2 200 22) (z_tog_cg (s := r_fl N) (s' := z_ct (r_fl N)) (w := 30) (w' := 30) (fun x hx => (z_ct_v (by have := g_cl (r_mine_z n1 hx).1; omega)).symm))
def kX8_livedE (live : am_E) (Ret : am_R) : am_code := [(0, am_aload 0 1), (1, am_iload 1 2), (2, am_iload 3 3), (3, am_const (.int 1) 4), (4, am_i2 (fun x y => x - y) 5), (5, am_iload 4 7), (7, am_callV live 8 3 TE8_run 10), (10, am_const (.long 0) 11), (11, am_lstore 7 10 13), (13, am_iload 3 14), (14, am_istore 9 10 16), (16, am_iload 9 18), (18, am_const (.int 40) 20), (20, am_if2 (fun x y => y ≤ x) 82 23), (23, am_aload 0 24), (24, am_iload 1 25), (25, am_iload 9 27), (27, am_aload 0 28), (28, am_getR live 8 0 31), (31, am_const (.int 3573) 34), (34, am_const (.int 40) 36), (36, am_iload 2 37), (37, am_i2 (fun x y => x * y) 38), (38, am_i2 (fun x y => x + y) 39), (39, am_iload 9 41), (41, am_i2 (fun x y => x + y) 42), (42, am_ald live 0 43), (43, am_const (.int 0) 44), (44, am_const (.int 0) 45), (45, am_iload 9 47), (47, am_iload 3 48), (48, am_if2 (fun x y => x = y) 51 56), (51, am_lload 5 53), (53, am_goto 57), (56, am_const (.long 0) 57), (57, am_callV live 8 6 TE8_stepYear 60), (60, am_lload 7 62), (62, am_aload 0 63), (63, am_iload 1 64), (64, am_const (.int 1) 65), (65, am_callV live 8 2 TE8_allOf 68), (68, am_aload 0 69), (69, am_getJ live 8 22 72), (72, am_l2 (fun x y => x + y) 73), (73, am_l2 (fun x y => x + y) 74), (74, am_lstore 7 10 76), (76, am_iinc 9 10 1 79), (79, am_goto 16), (82, am_lload 7 84), (84, am_retL Ret)]
theorem koX8_livedE (live : am_E) (Ret : am_R) : ∀ q ∈ kX8_livedE live Ret, am_ok RX8 cX8_lived 10 (some .long) 10 253 live Ret q.1 q.2 :=
  am_kz dzX8_lived <|
  am_kd (fun d => ak_aload_n d rfl rfl) <|
  am_kd (fun d => ak_iload_n d rfl rfl) <|
  am_kd (fun d => ak_iload_n d rfl rfl) <|
  am_kd (fun d => ak_iconst d (by decide +kernel) rfl) <|
  am_kd (fun d => ak_isub d rfl) <|
  am_kd (fun d => ak_iload d rfl) <|
  am_kd (fun d => ak_callV (C := RX8) (F := TX8) (N := 27) metX8_runE rfl ⟨rfl, hy_X8_run⟩ (am_w5 wd_1158 wd_1160 wd_42 wd_67 wd_1161) (by decide) d rfl) <|
  am_kd (fun d => ak_lconst d (by decide +kernel) rfl) <|
  am_kd (fun d => ak_lstore d rfl) <|
  am_kd (fun d => ak_iload_n d rfl rfl) <|
  am_kd (fun d => ak_istore d rfl) <|
  am_kd (fun d => ak_iload d rfl) <|
  am_kd (fun d => ak_bipush d (by decide +kernel) rfl) <|
  am_kd (fun d => ak_icmp_ge d (by decide +kernel) rfl) <|
  am_kd (fun d => ak_aload_n d rfl rfl) <|
  am_kd (fun d => ak_iload_n d rfl rfl) <|
  am_kd (fun d => ak_iload d rfl) <|
  am_kd (fun d => ak_aload_n d rfl rfl) <|
  am_kd (fun d => ak_getR (C := RX8) (T := TX8) (N := 27) rfl inX8w (by decide) rfl rfl rfl wd_895 d rfl) <|
  am_kd (fun d => ak_sipush d (by decide +kernel) rfl) <|
  am_kd (fun d => ak_bipush d (by decide +kernel) rfl) <|
  am_kd (fun d => ak_iload_n d rfl rfl) <|
  am_kd (fun d => ak_imul d rfl) <|
  am_kd (fun d => ak_iadd d rfl) <|
  am_kd (fun d => ak_iload d rfl) <|
  am_kd (fun d => ak_iadd d rfl) <|
  am_kd (fun d => ak_iald (t := 0) (fun _ => rfl) rfl d rfl) <|
  am_kd (fun d => ak_iconst d (by decide +kernel) rfl) <|
  am_kd (fun d => ak_iconst d (by decide +kernel) rfl) <|
  am_kd (fun d => ak_iload d rfl) <|
  am_kd (fun d => ak_iload_n d rfl rfl) <|
  am_kd (fun d => ak_icmp_ne d (by decide +kernel) rfl) <|
  am_kd (fun d => ak_lload d rfl) <|
  am_kd (fun d => ak_goto d (by decide +kernel)) <|
  am_kd (fun d => ak_lconst d (by decide +kernel) rfl) <|
  am_kd (fun d => ak_callV (C := RX8) (F := TX8) (N := 27) metX8_stepYearE rfl ⟨rfl, hy_X8_stepYear⟩ (am_w5 wd_1166 wd_1168 wd_44 wd_67 wd_1169) (by decide) d rfl) <|
  am_kd (fun d => ak_lload d rfl) <|
  am_kd (fun d => ak_aload_n d rfl rfl) <|
  am_kd (fun d => ak_iload_n d rfl rfl) <|
  am_kd (fun d => ak_iconst d (by decide +kernel) rfl) <|
  am_kd (fun d => ak_callV (C := RX8) (F := TX8) (N := 27) metX8_allOfE rfl ⟨rfl, hy_X8_allOf⟩ (am_w5 wd_1195 wd_1197 wd_50 wd_67 wd_1198) (by decide) d rfl) <|
  am_kd (fun d => ak_aload_n d rfl rfl) <|
  am_kd (fun d => ak_getJ (C := RX8) (T := TX8) (N := 27) rfl inX8w (by decide) rfl rfl rfl wd_917 d rfl) <|
  am_kd (fun d => ak_ladd d rfl) <|
  am_kd (fun d => ak_ladd d rfl) <|
  am_kd (fun d => ak_lstore d rfl) <|
  am_kd (fun d => ak_iinc d (by decide +kernel) rfl) <|
  am_kd (fun d => ak_goto d (by decide +kernel)) <|
  am_kd (fun d => ak_lload d rfl) <|
  am_kd (fun d => ak_retL d) <| am_kdn
def TE8_lived : am_T := fun live as M R => match as with
  | [.ref n, .int p, .int l, .int y, .int k, .long q] => am_mn live ∧ n = 200 ∧ am_in p 12 ∧ am_in l 4 ∧ am_in y 40 ∧ r_I M ∧ r_oa M p ∧ ∀ M', r_ky M M' → r_I M' → R (some (.long (r_livV M p l y.toNatClampNeg k q))) M'
  | _ => False
def JE8_lived : am_E → List Value → am_M → am_R → am_inv := fun live as M0 _ pc => match as with
  | [.ref n, .int p, .int l, .int y, .int k, .long q] => (match pc with
    | 16 => some ([0, 1, 2, 3, 5, 7, 9], fun u L st M => ∃ (v : Int64) (i : Int32) (j : Nat), L = [(0, .ref 200), (1, .int p), (2, .int l), (3, .int y), (5, .long q), (7, .long v), (9, .int i)] ∧ st = [] ∧ u = ((41 - i.toInt).toNat, 0) ∧ (i.toInt = y.toInt + j ∧ i.toInt ≤ 40) ∧ v = z_sum (r_lvF M0 p l y.toNatClampNeg k q) j ∧ r_ky M0 M ∧ r_I M ∧ (z_ct (r_fl M), z_cb (M.1 213)) = r_lvS M0 p l y.toNatClampNeg k q j)
    | _ => none)
  | _ => none
set_option maxRecDepth 100000 in
set_option maxHeartbeats 4000000 in
theorem metX8_livedE : am_Met yX8_lived cX8_lived 10 (some .long) (10) (253) TE8_lived := by
  refine am_met (own := RX8) (by decide +kernel) rfl kX8_livedE koX8_livedE 100 JE8_lived ?_ ?_
  · intro live as M Ret h
    unfold TE8_lived at h
    split at h
    · next n p l y k q =>
      refine ⟨Nat.le_of_ble_eq_true rfl, ?_⟩
      change am_wp _ _ _ _ [(0, Value.ref n), (1, Value.int p), (2, Value.int l), (3, Value.int y), (4, Value.int k), (5, Value.long q)] _ _
      obtain ⟨hmn, rfl, hp, hl, hy, hR, hoa, h⟩ := h
      have hmn2 := hmn
      obtain ⟨i1, i2, rfl⟩ := hmn2
      have em := i_sub (x := y) (y := 1) (by simp only [Int32.reduceToInt]; have := hy.1; omega) (by simp only [Int32.reduceToInt]; have := hy.2; omega)
      simp only [Int32.reduceToInt] at em
      have y1 := hy.1
      have y2 := hy.2
      have cy := i_clamp y1
      have ym : -1 ≤ (y - 1).toInt ∧ (y - 1).toInt ≤ 39 := ⟨by omega, by omega⟩
      have n1 := hR.n1
      repeat' (first | (with_reducible exact hmn) | (with_reducible exact hp) | (with_reducible exact ym) | (with_reducible exact hR) | (with_reducible exact hoa) | apply And.intro | exact rfl | ((with_reducible change r_I _); (with_reducible assumption)) | intro hx | (refine Exists.intro _ (And.intro rfl ?_)))
      all_goals try first | (with_reducible change am_tI _ _) | (change Ret _ _) | (change Ret _ _ _) | (change Exists _)
      all_goals try dsimp only at *
      all_goals try (with_reducible exact absurd ‹(1000 : Int64) = 0› am_z1000)
      all_goals
        rename_i N s0 ky rN z0
        have e0 := hx
        rw [show ((y - 1).toInt + 1).toNat = y.toNatClampNeg by omega] at e0
        exact ⟨_, _, _, 0, rfl, rfl, rfl, ⟨by omega, by omega⟩, rfl, ky, rN, (r_R_ct n1 e0 z0).trans r_lvS_0.symm⟩
    · exact h.elim
  · intro live as M0 Ret h k pc I hI L st M hi
    unfold TE8_lived at h
    split at h
    · next n p l y k q =>
      obtain ⟨hmn, rfl, hp, hl, hy, hR, hoa, h⟩ := h
      have hmn2 := hmn
      obtain ⟨i1, i2, rfl⟩ := hmn2
      have l201 : am_len 201 = 3760 := rfl
      have l1 := hl.1
      have l2 := hl.2
      have y1 := hy.1
      have y2 := hy.2
      have cy := i_clamp y1
      have a0 : am_in (0 : Int32) 4 := ⟨by decide, by decide⟩
      have w1 : am_in (1 : Int32) 5 := ⟨by decide, by decide⟩
      change (match pc with | 16 => _ | _ => none) = _ at hI
      split at hI
      · cases hI
        obtain ⟨v, i, j, rfl, rfl, rfl, ⟨e1, e4⟩, ev, e2, e3, es⟩ := hi
        have ci := i_clamp (x := i) (by omega)
        by_cases hz : (40 : Int32) ≤ i
        · have hz2 := hz
          simp only [i_le, Int32.reduceToInt] at hz2
          have hh := h M e2 e3
          have eV : r_livV M0 p l y.toNatClampNeg k q = v := by
            rw [ev]
            unfold r_livV
            rw [show 40 - y.toNatClampNeg = j by omega]
          rw [eV] at hh
          repeat' (first | apply And.intro | exact rfl | (intro hx; with_reducible exact absurd hz hx) | intro hx | (refine Exists.intro _ (And.intro rfl ?_)))
          all_goals try first | (with_reducible change am_tI _ _) | (change Ret _ _) | (change Ret _ _ _) | (change Exists _)
          all_goals try dsimp only at *
          all_goals try (with_reducible exact absurd ‹(1000 : Int64) = 0› am_z1000)
          all_goals exact hh
        · have hz2 := hz
          simp only [i_le, Int32.reduceToInt] at hz2
          have hi := i_inc (x := i) (by omega) (by omega)
          have hyi : am_in i 40 := ⟨by omega, by omega⟩
          have oi := o_cl hyi (by decide)
          have e40 := r_mul (c := 40) (x := l) ⟨by decide, by decide⟩ ⟨by omega, by omega⟩
          simp only [Int32.reduceToInt] at e40
          have ea := r_off (c := 3573) (x := 40 * l) ⟨by decide, by decide⟩ ⟨by omega, by omega⟩
          simp only [e40, Int32.reduceToInt] at ea
          have eb := r_off (c := 3573 + 40 * l) (x := i) ⟨by omega, by omega⟩ ⟨by omega, by omega⟩
          rw [ea] at eb
          have x1 : 0 ≤ (3573 + 40 * l + i).toInt := by omega
          have x2 : (3573 + 40 * l + i).toInt < (am_len 201 : Int) := by rw [l201]; omega
          have n1 := e3.n1
          have hoM : r_oo M p i := e2.oo (hoa.v hyi)
          have ei : Int32.ofNat (y.toNatClampNeg + j) = i := by
            rw [show y.toNatClampNeg + j = i.toNatClampNeg by omega]
            exact oi
          have xx := (x_40 (p := l) (y := i) ⟨l1, by omega⟩ ⟨by omega, by omega⟩).2
          have cxx := i_clamp (x := l * 40 + i) (by omega)
          have cb := i_clamp x1
          have c201 : M.1 201 = M0.1 201 := funext fun b => e2.i (by decide) (by decide) (Or.inl (by decide))
          have ee : r_le M0 l (y.toNatClampNeg + j) = M.1 201 (3573 + 40 * l + i).toNatClampNeg := by
            unfold r_le
            rw [ei, ← c201, show (3573 + 40 * l + i).toNatClampNeg = 3573 + (l * 40 + i).toNatClampNeg by omega]
          have fin : ∀ (q' : Int64) (N : am_M), (if y.toNatClampNeg + j = y.toNatClampNeg then q else 0) = q' → r_ky M N → r_fl N = (r_S3 M p i (M.1 201 (3573 + 40 * l + i).toNatClampNeg) 0 0 q' (10 * r_n M)).1 → N.1 213 = (r_S1 M p i (M.1 201 (3573 + 40 * l + i).toNatClampNeg) 0 0).2 → N.2 200 22 = q' - (r_S2 M p i (M.1 201 (3573 + 40 * l + i).toNatClampNeg) 0 0 q' (10 * r_n M)).2 → (z_ct (r_fl N), z_cb (N.1 213)) = r_lvS M0 p l y.toNatClampNeg k q (j + 1) ∧ v + (z_tog (r_fl N) (30 * (1 : Int32).toNatClampNeg) (r_mine N p (r_n N)) + N.2 200 22) = z_sum (r_lvF M0 p l y.toNatClampNeg k q) (j + 1) := fun q' N eq ky m1 m2 m3 => by
            have s2 : r_s2 N = r_Y M p i (M.1 201 (3573 + 40 * l + i).toNatClampNeg) 0 0 q' (r_s2 M) := by
              refine Prod.ext ?_ ?_
              · exact m1
              · exact m2
            have f := r_lv_s (k := k) n1 e2 ei ee eq es s2 m3
            have mm : r_mine N p (r_n N) = r_mine M p (r_n M) := ky.f (fun K => r_mine K p (r_n K)) (fun _ _ _ => rfl) (fun _ _ _ _ _ _ => rfl)
            refine ⟨f.1, ?_⟩
            rw [mm, ev, show 30 * (1 : Int32).toNatClampNeg = 30 from rfl]
            exact congrArg (fun x => z_sum (r_lvF M0 p l y.toNatClampNeg k q) j + x) f.2
          by_cases zy : i = y
          · have fin2 := fun N => fin q N (if_pos (by rw [zy] at e1; omega))
            repeat' (first | (with_reducible exact x1) | (with_reducible exact x2) | (with_reducible exact hmn) | (with_reducible exact hp) | (with_reducible exact hyi) | (with_reducible exact a0) | (with_reducible exact w1) | (with_reducible exact e3) | (with_reducible exact hoM) | apply And.intro | exact rfl | (intro hx; with_reducible exact absurd hx hz) | (intro hx; with_reducible exact absurd zy hx) | ((with_reducible change r_I _); (with_reducible assumption)) | (intro hx; exact absurd hx (by decide)) | (intro hx; exact absurd (by decide) hx) | decide | intro hx | (refine Exists.intro _ (And.intro rfl ?_)))
            all_goals try first | (with_reducible change am_tI _ _) | (change Ret _ _) | (change Ret _ _ _) | (change Exists _)
            all_goals try dsimp only at *
            all_goals try (with_reducible exact absurd ‹(1000 : Int64) = 0› am_z1000)
            all_goals
              rename_i N ky hRN m1 m2
              have m3 := hx
              obtain ⟨f1, f2⟩ := fin2 N ky m1 m2 m3
              exact ⟨_, am_lt_l (by omega), _, _, j + 1, rfl, rfl, rfl, ⟨by omega, by omega⟩, f2, e2.tr ky, hRN, f1⟩
          · have zy2 : ¬ y.toNatClampNeg + j = y.toNatClampNeg := fun w => zy (by rw [i_eq]; omega)
            have fin2 := fun N => fin 0 N (if_neg zy2)
            repeat' (first | (with_reducible exact x1) | (with_reducible exact x2) | (with_reducible exact hmn) | (with_reducible exact hp) | (with_reducible exact hyi) | (with_reducible exact a0) | (with_reducible exact w1) | (with_reducible exact e3) | (with_reducible exact hoM) | apply And.intro | exact rfl | (intro hx; with_reducible exact absurd hx hz) | (intro hx; with_reducible exact absurd hx zy) | ((with_reducible change r_I _); (with_reducible assumption)) | (intro hx; exact absurd hx (by decide)) | (intro hx; exact absurd (by decide) hx) | decide | intro hx | (refine Exists.intro _ (And.intro rfl ?_)))
            all_goals try first | (with_reducible change am_tI _ _) | (change Ret _ _) | (change Ret _ _ _) | (change Exists _)
            all_goals try dsimp only at *
            all_goals try (with_reducible exact absurd ‹(1000 : Int64) = 0› am_z1000)
            all_goals
              rename_i N ky hRN m1 m2
              have m3 := hx
              obtain ⟨f1, f2⟩ := fin2 N ky m1 m2 m3
              exact ⟨_, am_lt_l (by omega), _, _, j + 1, rfl, rfl, rfl, ⟨by omega, by omega⟩, f2, e2.tr ky, hRN, f1⟩
      · cases hI
    · exact h.elim
end
-- part 79zp.life5.lean.txt
section
/-! runs exact: a life: the class's -/
theorem z_q_nil {f : Int32 → Nat} : ∀ o : Nat, z_q f [] o = []
  | 0 => rfl
  | o + 1 => by
    show z_q f [] o ++ [] = []
    rw [z_q_nil o]
    rfl
theorem z_T_nil {b : (Nat → Int64) → Int32 → Nat → Int64} {f : Int32 → Nat} {ask : Int32 → Int64} {sd : Int32 → Bool} {p : z_S} : (z_T b f ask sd [] p).2.2 = p.2.2 := by
  unfold z_T
  rw [z_q_nil]
  dsimp only
  by_cases z : 0 < p.2.1
  · rw [if_pos z]
    rfl
  · rw [if_neg z]
theorem c_it_nil {N : am_M} (hm : c_ms N (c_sz N) = []) {a : Nat} {s : z_S} : ∀ n : Nat, (z_it (fun y => c_yr N (Int32.ofNat y)) a n s).2.2 = s.2.2
  | 0 => rfl
  | n + 1 => by
    refine Eq.trans ?_ (c_it_nil (a := a) (s := s) hm n)
    show (c_T (c_look N (Int32.ofNat (a + n))) (Int32.ofNat (a + n)) _).2.2 = _
    unfold c_T
    rw [c_look_ms, hm]
    exact z_T_nil
theorem r_P_nil {K : am_M} {p y e a d : Int32} {q : Int64} {S : (Nat → Int64) × (Nat → Int32)} (hm : r_mine K p (r_n K) = []) : r_P K p y e a d q S = 0 := by
  have hQ : z_pf (r_own K p) (r_of K p y) (r_n K) (10 * r_n K) = [] := by
    rcases Nat.eq_zero_or_pos (r_n K) with z | z
    · rw [z, Nat.mul_zero, z_pf_0]
    · rw [z_pf_e z]
      have hm : z_mine (r_own K p) (r_n K) = [] := hm
      rw [hm, z_q_nil]
  unfold r_P
  rw [hQ]
  exact Int64.sub_self _
theorem r_liv_nil {K : am_M} {p lf k : Int32} {y : Nat} {q : Int64} (hm : r_mine K p (r_n K) = []) : r_livV K p lf y k q = 0 := by
  unfold r_livV
  refine z_sum_no (fun i _ => ?_)
  unfold r_lvF
  rw [r_P_nil hm, hm, Int64.add_zero]
  rfl
section LXV
variable {i1 i2 : Bool} {M N N2 N3 N4 : am_M} {p k lf pl y dd : Int32} {sum : Int64}
theorem LX.dda (h : LX i1 i2 M) (hp : am_in p 12) (hy : am_in y 40) : ¬ (if M.1 23 p.toNatClampNeg ≠ -1 ∧ M.1 23 p.toNatClampNeg ≤ y - 1 then (1 : Int32) else 0) = 0 ↔ r_da M p y.toInt := by
  have li := h.li
  have p1 := hp.1
  have p2 := hp.2
  have y1 := hy.1
  have y2 := hy.2
  have cp := i_clamp p1
  have em := i_sub (x := y) (y := 1) (by simp only [Int32.reduceToInt]; omega) (by simp only [Int32.reduceToInt]; omega)
  simp only [Int32.reduceToInt] at em
  have died : M.1 23 p.toNatClampNeg = M.1 201 (22 + p).toNatClampNeg := by
    have q := li.e (o := 3) (k0 := 0) (b0 := 22) (n := 12) (by decide) (k := p.toNatClampNeg) (by omega)
    rw [Nat.zero_add] at q
    rw [x_off (c := 22) (cn := 22) rfl (x := p) ⟨p1, by omega⟩ (by decide)]
    exact q
  have dr := (li.v (k := (22 + p).toNatClampNeg) (by rw [x_off (c := 22) (cn := 22) rfl (x := p) ⟨p1, by omega⟩ (by decide)]; omega)).a7 (by rw [x_off (c := 22) (cn := 22) rfl (x := p) ⟨p1, by omega⟩ (by decide)]; omega)
  have n1 := neg1 dr.1
  rw [died]
  unfold r_da
  by_cases z : M.1 201 (22 + p).toNatClampNeg < 0
  · rw [if_neg (fun q => q.1 (n1.mpr z))]
    exact ⟨fun q => absurd rfl q, fun q => absurd z q.1⟩
  · by_cases w : M.1 201 (22 + p).toNatClampNeg ≤ y - 1
    · rw [if_pos ⟨fun q => z (n1.mp q), w⟩]
      rw [i_le] at w
      exact ⟨fun _ => ⟨z, by omega⟩, fun _ => by decide⟩
    · rw [if_neg (fun q => w q.2)]
      rw [i_le] at w
      exact ⟨fun q => absurd rfl q, fun q => absurd q.2 (by omega)⟩
theorem LX.msn (h : LX i1 i2 M) (hb : c_bg M p k N) (ni : ∀ a j, a ≠ 8 → ¬ (a = 4 ∧ 10 ≤ j ∧ j ≤ 18) → N2.1 a j = N.1 a j) : c_ms N2 (c_sz N2) = r_mine M p (r_n M) := by
  rw [← h.li.mine, ← hb.ms]
  unfold c_ms c_sz
  rw [ni 4 7 (by decide) (fun q => absurd q.2.1 (by decide))]
  refine List.map_congr_left (fun j _ => ?_)
  rw [ni 7 _ (by decide) (fun q => absurd q.1 (by decide))]
theorem LX.coal (h : LX i1 i2 M) (hp : am_in p 12) (hb : c_bg M p k N) (sz : 0 ≤ (N2.1 4 7).toInt) (ni : ∀ a j, a ≠ 8 → ¬ (a = 4 ∧ 10 ≤ j ∧ j ≤ 18) → N2.1 a j = N.1 a j) (n11 : N2.1 4 11 = lf) (n12 : N2.1 4 12 = pl) (hlf : am_in lf 4) (hpl : pl = -1 ∨ am_in pl 5) : c_oa N2 := by
  refine ⟨(), fun y hy => ⟨(), fun i hi => ?_⟩⟩
  have n1 := h.li.n1
  rw [c_look_1 (fun q => absurd q.2 (by decide))] at hi
  have cs : ((N2.1 4 7).toNatClampNeg : Int) = (N2.1 4 7).toInt := i_clamp sz
  have hm : N2.1 7 i ∈ r_mine M p (r_n M) := by
    rw [← h.msn hb ni]
    exact List.mem_map.mpr ⟨i, List.mem_range.mpr (show i < (N2.1 4 7).toNatClampNeg by omega), rfl⟩
  have hne : c_mine M p (M.1 33 2).toNatClampNeg ≠ [] := fun q => by
    rw [← h.li.mine, q] at hm
    exact absurd hm List.not_mem_nil
  obtain ⟨lk, -⟩ := h.lkl hp hb hne ni n11 n12 hlf hpl hy (y0 := y) (Int.le_refl _)
  have zi : z_in (r_ld M pl y) p (N2.1 7 i) := r_mine_z (by rw [r_ld_1]; exact n1) (by rw [r_mine_cg r_ld_1 p]; exact hm)
  rw [c_look_1 (fun q => absurd q.1 (by decide)), lk.cell zi ⟨by decide, by decide⟩]
  exact (z_isNum (lk.cr zi (w := 4) ⟨by decide, by decide⟩)).2.2.2.2.1 rfl
/-- turned to a life -/
abbrev c_tt (N : am_M) (lf pl dd : Int32) (sum : Int64) : am_M := am_wJ (am_wJ (am_wI (am_wI (am_wI N 4 11 lf) 4 12 pl) 4 13 dd) 4 14 sum) 4 15 0
theorem c_tt_i {a j : Nat} (h4 : ¬ (a = 4 ∧ 10 ≤ j ∧ j ≤ 18)) : (c_tt N2 lf pl dd sum).1 a j = N2.1 a j := by
  show (am_wI (am_wI (am_wI N2 4 11 lf) 4 12 pl) 4 13 dd).1 a j = N2.1 a j
  rw [am_wI_1, if_neg (fun q => h4 ⟨q.1, by have := q.2; omega, by have := q.2; omega⟩), am_wI_1, if_neg (fun q => h4 ⟨q.1, by have := q.2; omega, by have := q.2; omega⟩), am_wI_1, if_neg (fun q => h4 ⟨q.1, by have := q.2; omega, by have := q.2; omega⟩)]
theorem c_tt_sc : g_sc N2 (c_tt N2 lf pl dd sum) := ⟨(), fun a b z => ⟨c_tt_i (fun q => by have := q.1; omega), by
  simp only [am_wJ_1, z_wI2]
  rw [if_neg (fun q => by have := q.1; omega), if_neg (fun q => by have := q.1; omega)]⟩⟩
theorem c_gn.ni (h : c_gn N N2) : ∀ a j, a ≠ 8 → ¬ (a = 4 ∧ 10 ≤ j ∧ j ≤ 18) → N2.1 a j = N.1 a j := fun a j h8 h4 => h.i h8 (fun q => h4 ⟨q.1, by have := q.2; omega, by have := q.2; omega⟩)
theorem LX.tt (h : LX i1 i2 M) (hb : c_bg M p k N) (g2 : c_gn N N2) : t_b (c_tt N2 lf pl dd sum) 20 := ((h.t0.g hb.sc).g g2.sc).g c_tt_sc
theorem LX.tto (h : LX i1 i2 M) (hp : am_in p 12) (hb : c_bg M p k N) (g2 : c_gn N N2) (r2 : g_rI N2) (hlf : am_in lf 4) (hpl : pl = -1 ∨ am_in pl 5) : c_oa (c_tt N2 lf pl dd sum) := h.coal hp hb (by rw [c_tt_i (fun q => absurd q.2.1 (by decide))]; exact r2.s.sz.1) (fun a j h8 h4 => (c_tt_i h4).trans (g2.ni a j h8 h4)) rfl rfl hlf hpl
theorem c_bg.nx (hb : c_bg M p k N) (hy : am_in y 40) (t2 : (N2.1 4 10).toInt = (N.1 4 10).toInt + c_nn (N.1 4 10) (y - 1)) : N2.1 4 10 = y := by
  have y1 := hy.1
  have y2 := hy.2
  have em := i_sub (x := y) (y := 1) (by simp only [Int32.reduceToInt]; omega) (by simp only [Int32.reduceToInt]; omega)
  simp only [Int32.reduceToInt] at em
  obtain ⟨-, f10, -⟩ := hb.f
  have z0 : (N.1 4 10).toInt = 0 := by rw [f10]; rfl
  have cn : (c_nn (N.1 4 10) (y - 1) : Int) = y.toInt := by
    unfold c_nn
    rw [if_pos (show (y - 1).toInt ≤ 39 by omega), z0]
    omega
  rw [i_eq]
  omega
theorem LX.ttn (hb : c_bg M p k N) (hy : am_in y 40) (t2 : (N2.1 4 10).toInt = (N.1 4 10).toInt + c_nn (N.1 4 10) (y - 1)) : ((c_tt N2 lf pl dd sum).1 4 10).toInt ≤ 40 := by
  have e : (c_tt N2 lf pl dd sum).1 4 10 = y := hb.nx hy t2
  have y2 := hy.2
  rw [e]
  omega
end LXV
end
-- part 79zpb.life5b.lean.txt
section
/-! runs exact: a life: the class's, what it takes and pays -/
section LXW
variable {i1 i2 : Bool} {M N N2 N3 N4 : am_M} {p k lf pl y dd : Int32} {sum : Int64}
theorem z_it_tog3 {F : Nat → z_S → z_S} {ms : List Int32} {a n : Nat} {s0 : Nat → Int64} {due paid : Int64} (h : ∀ y, a ≤ y → y < a + n → ∀ s, z_tog (F y s).1 90 ms = z_tog s.1 90 ms + z_tog (F y s).1 30 ms) : z_tog (z_it F a n (s0, due, paid)).1 90 ms = z_tog s0 90 ms + z_sum (fun i => z_tog (z_it F a (i + 1) (s0, due, paid)).1 30 ms) n := z_it_tog2 (s0, due, paid) n h
/-- what a life takes and pays -/
theorem LX.lived (h : LX i1 i2 M) (hp : am_in p 12) (hp2 : p.toInt < (M.1 201 0).toInt) (hk : am_in k 40) (hb : c_bg M p k N) (hy : am_in y 40) (g2 : c_gn N N2) (s2 : c_st N2 = z_it (fun y => c_yr N (Int32.ofNat y)) (N.1 4 10).toNatClampNeg (c_nn (N.1 4 10) (y - 1)) (c_st N)) (t2 : (N2.1 4 10).toInt = (N.1 4 10).toInt + c_nn (N.1 4 10) (y - 1)) (hlf : am_in lf 4) (hpl : pl = -1 ∨ am_in pl 5) (hsum : 0 ≤ sum.toInt) (hdd : (if N2.1 23 (N2.1 4 8).toNatClampNeg ≠ -1 ∧ N2.1 23 (N2.1 4 8).toNatClampNeg ≤ N2.1 4 10 - 1 then (1 : Int32) else 0) = dd) (e3 : c_tt N2 lf pl dd sum = N3) (g4 : c_gn N3 N4) (s4 : c_st N4 = z_it (fun y => c_yr N3 (Int32.ofNat y)) (N3.1 4 10).toNatClampNeg (c_nn (N3.1 4 10) 39) (c_st N3)) : z_tog (N4.2 6) 90 (c_ms N4 (c_sz N4)) - z_tog (N2.2 6) 90 (c_ms N2 (c_sz N2)) + N4.2 4 15 = r_livV (r_ld M pl y) p lf y.toNatClampNeg k sum ∧ (sum = 0 → N4.2 4 15 = 0) := by
  have li := h.li
  have y1 := hy.1
  have y2 := hy.2
  have cy := i_clamp y1
  have em := i_sub (x := y) (y := 1) (by simp only [Int32.reduceToInt]; omega) (by simp only [Int32.reduceToInt]; omega)
  simp only [Int32.reduceToInt] at em
  have hu : -1 ≤ (y - 1).toInt ∧ (y - 1).toInt ≤ 39 := ⟨by omega, by omega⟩
  obtain ⟨⟨f8, f9⟩, f10, f11, f12, f14, f15⟩ := hb.f
  obtain ⟨R, -, -⟩ := h.go hp hp2 hk hb hu s2
  rw [show (y - 1).toInt + 1 = y.toInt by omega, show y.toInt.toNat = y.toNatClampNeg by omega] at R
  have n10 : N2.1 4 10 = y := hb.nx hy t2
  have n8 : N2.1 4 8 = p := (g2.i (by decide) (fun q => absurd q.2 (by decide))).trans f8
  have n23 : N2.1 23 p.toNatClampNeg = M.1 23 p.toNatClampNeg := (g2.i (by decide) (fun q => absurd q.1 (by decide))).trans (congrFun (hb.o (by decide) (by decide) (by decide)) _)
  have dv : ¬ dd = 0 ↔ r_da M p y.toInt := by
    rw [← hdd, n8, n23, n10]
    exact h.dda hp hy
  have ni : ∀ a j, a ≠ 8 → ¬ (a = 4 ∧ 10 ≤ j ∧ j ≤ 18) → N3.1 a j = N.1 a j := fun a j h8 h4 => by
    rw [← e3]
    exact (c_tt_i h4).trans (g2.ni a j h8 h4)
  have n11 : N3.1 4 11 = lf := by rw [← e3]; rfl
  have n12 : N3.1 4 12 = pl := by rw [← e3]; rfl
  have n13 : N3.1 4 13 = dd := by rw [← e3]; rfl
  have n310 : N3.1 4 10 = y := by rw [← e3]; exact n10
  have e6 : N3.2 6 = N2.2 6 := by rw [← e3]; simp only [z_wI2, z_wJo (show (6 : Nat) ≠ 4 by decide)]
  have e14 : N3.2 4 14 = sum := by rw [← e3]; rfl
  have e15 : N3.2 4 15 = 0 := by rw [← e3]; rfl
  have st3 : c_st N3 = (N2.2 6, sum, 0) := by
    unfold c_st
    rw [e6, e14, e15]
  have en : c_nn y 39 = 40 - y.toNatClampNeg := by
    unfold c_nn
    rw [if_pos (by decide)]
    simp only [Int32.reduceToInt]
    omega
  rw [n310, st3, en] at s4
  have ms2 := h.msn hb g2.ni
  have ms4 := h.msn hb (fun a j h8 h4 => (g4.ni a j h8 h4).trans (ni a j h8 h4))
  have ms3 := h.msn hb ni
  have K1 : r_mine (r_ld M pl y) p (r_n (r_ld M pl y)) = r_mine M p (r_n M) := r_mine_cg r_ld_1 p
  have S0e : r_R (r_ld M pl y) p k y.toNatClampNeg = r_R M p k y.toNatClampNeg := by
    unfold r_R
    exact z_it_cg (fun n _ hn => r_yr_ld li.n7 (by omega) (by omega))
  have q15 : N4.2 4 15 = (z_it (fun y => c_yr N3 (Int32.ofNat y)) y.toNatClampNeg (40 - y.toNatClampNeg) (N2.2 6, sum, 0)).2.2 := congrArg (fun x : z_S => x.2.2) s4
  rw [ms2, ms4]
  by_cases hne : c_mine M p (M.1 33 2).toNatClampNeg = []
  · have m0 : r_mine M p (r_n M) = [] := by rw [← li.mine]; exact hne
    have p4 : N4.2 4 15 = 0 := q15.trans (c_it_nil (by rw [ms3, m0]) _)
    rw [m0, r_liv_nil (by rw [K1, m0]), p4]
    exact ⟨by rw [show z_tog (N4.2 6) 90 [] = 0 from rfl, show z_tog (N2.2 6) 90 [] = 0 from rfl]; decide, fun _ => rfl⟩
  · have R0 : z_RL (r_ld M pl y) p dd (y.toNatClampNeg : Int) (N2.2 6) (r_R M p k y.toNatClampNeg).1 (r_R M p k y.toNatClampNeg).2 := fun l hl => by
      rw [K1] at hl
      obtain ⟨q1, q2, q3⟩ := R l hl
      refine ⟨q1, fun w => q2 (dv.mp w), fun w => (q3 w).imp dv.mpr (fun x => ?_)⟩
      unfold r_lo at x ⊢
      rw [r_ld_1]
      omega
    have L := h.life hp hb hne ni n11 n12 n13 hlf hpl (y0 := y.toNatClampNeg) (y0i := y) (by omega) hsum (S0 := r_R M p k y.toNatClampNeg) R0
    have cn : (r_n M : Int) = (M.1 201 1).toInt := i_clamp li.n1.1
    have n130 := li.n1
    have zin : ∀ l ∈ r_mine M p (r_n M), z_in M p l := fun l hl => r_mine_z li.n1 hl
    have T := z_it_tog3 (F := fun y => c_yr N3 (Int32.ofNat y)) (ms := r_mine M p (r_n M)) (a := y.toNatClampNeg) (s0 := N2.2 6) (due := sum) (paid := 0) (n := 40 - y.toNatClampNeg) (fun n hn1 hn2 s => by
      have on := o_nat (n := n) (by omega)
      have hyn : am_in (Int32.ofNat n) 40 := ⟨by omega, by omega⟩
      obtain ⟨lk, -⟩ := h.lkl hp hb hne ni n11 n12 hlf hpl hyn (y0 := y) (by omega)
      have ec : c_yr N3 (Int32.ofNat n) = z_T (c_b (c_look N3 (Int32.ofNat n)) (Int32.ofNat n)) (c_of (c_look N3 (Int32.ofNat n)) (Int32.ofNat n)) (c_ask (c_look N3 (Int32.ofNat n)) (Int32.ofNat n)) (c_sd (c_look N3 (Int32.ofNat n)) (Int32.ofNat n)) (r_mine M p (r_n M)) := by
        unfold c_yr c_T
        rw [c_look_ms, ms3]
      show z_tog (c_yr N3 (Int32.ofNat n) s).1 90 _ = z_tog s.1 90 _ + z_tog (c_yr N3 (Int32.ofNat n) s).1 30 _
      rw [ec]
      exact z_T_tog (fun x hx => (zin x hx).1) (z_mine_nd (by omega)) (fun l hl => (lk.of (r_mine_z (by rw [r_ld_1]; exact li.n1) (by rw [K1]; exact hl))).2))
    have T1 : z_tog (N4.2 6) 90 (r_mine M p (r_n M)) = z_tog (z_it (fun y => c_yr N3 (Int32.ofNat y)) y.toNatClampNeg (40 - y.toNatClampNeg) (N2.2 6, sum, 0)).1 90 (r_mine M p (r_n M)) := congrArg (fun x : z_S => z_tog x.1 90 (r_mine M p (r_n M))) s4
    have pd := q15.trans (L (40 - y.toNatClampNeg) (by omega)).2.2
    have key : ∀ i, i < 40 - y.toNatClampNeg → z_tog (z_it (fun y => c_yr N3 (Int32.ofNat y)) y.toNatClampNeg (i + 1) (N2.2 6, sum, 0)).1 30 (r_mine M p (r_n M)) = z_tog (r_lvS (r_ld M pl y) p lf y.toNatClampNeg k sum (i + 1)).1 30 (r_mine M p (r_n M)) := fun i hi => by
      have Li := (L (i + 1) (by omega)).1
      have eS : r_lvS (r_ld M pl y) p lf y.toNatClampNeg k sum (i + 1) = z_it (r_ly (r_ld M pl y) p lf sum y.toNatClampNeg) y.toNatClampNeg (i + 1) (r_R M p k y.toNatClampNeg) := by
        unfold r_lvS
        rw [S0e]
      rw [eS]
      generalize z_it (fun y => c_yr N3 (Int32.ofNat y)) y.toNatClampNeg (i + 1) (N2.2 6, sum, 0) = A at Li ⊢
      generalize z_it (r_ly (r_ld M pl y) p lf sum y.toNatClampNeg) y.toNatClampNeg (i + 1) (r_R M p k y.toNatClampNeg) = B at Li ⊢
      unfold z_tog
      exact z_tog_cg (s := A.1) (s' := B.1) (w := 30) (w' := 30) (fun l hl => (Li l (by rw [K1]; exact hl)).1.1 1 (by decide))
    have sE := z_sum_cg key
    refine ⟨?_, fun z => ?_⟩
    · rw [T1, T, sE, pd, Int64.add_comm (z_tog (N2.2 6) 90 (r_mine M p (r_n M))), Int64.add_sub_cancel]
      unfold r_livV
      have P1 := z_sum_p1 (f := fun i => z_tog (r_lvS (r_ld M pl y) p lf y.toNatClampNeg k sum (i + 1)).1 30 (r_mine M p (r_n M))) (P := fun i => r_P (r_ld M pl y) p (Int32.ofNat (y.toNatClampNeg + i)) (r_le (r_ld M pl y) lf (y.toNatClampNeg + i)) 0 0 (if y.toNatClampNeg + i = y.toNatClampNeg then sum else 0) (r_lvS (r_ld M pl y) p lf y.toNatClampNeg k sum i)) (fun i hi => by
        show r_P _ _ _ _ _ _ (if y.toNatClampNeg + i = y.toNatClampNeg then sum else 0) _ = 0
        rw [if_neg (by omega)]
        exact r_P_0) (n := 40 - y.toNatClampNeg)
      have eF : r_lvF (r_ld M pl y) p lf y.toNatClampNeg k sum = fun i => z_tog (r_lvS (r_ld M pl y) p lf y.toNatClampNeg k sum (i + 1)).1 30 (r_mine M p (r_n M)) + r_P (r_ld M pl y) p (Int32.ofNat (y.toNatClampNeg + i)) (r_le (r_ld M pl y) lf (y.toNatClampNeg + i)) 0 0 (if y.toNatClampNeg + i = y.toNatClampNeg then sum else 0) (r_lvS (r_ld M pl y) p lf y.toNatClampNeg k sum i) := funext fun i => by
        unfold r_lvF
        rw [K1]
      rw [eF, P1]
      refine congrArg (fun x => _ + x) ?_
      by_cases z : 40 - y.toNatClampNeg = 0
      · rw [if_pos z, if_pos z]
      · rw [if_neg z, if_neg z]
        show _ = r_P (r_ld M pl y) p (Int32.ofNat (y.toNatClampNeg + 0)) (r_le (r_ld M pl y) lf (y.toNatClampNeg + 0)) 0 0 (if y.toNatClampNeg + 0 = y.toNatClampNeg then sum else 0) (r_lvS (r_ld M pl y) p lf y.toNatClampNeg k sum 0)
        rw [r_lvS_0, Nat.add_zero, if_pos rfl, S0e]
    · rw [pd, z]
      split
      · rfl
      · exact r_P_0
end LXW
end
