/-! runs, exact: the reference: a run -/
def kX8_runE (live : am_E) (Ret : am_R) : am_code := [(0, am_aload 0 1), (1, am_callV live 8 0 TE8_beginRun 4), (4, am_const (.int 0) 5), (5, am_istore 4 6 7), (7, am_iload 4 9), (9, am_iload 2 10), (10, am_if2 (fun x y => y < x) 78 13), (13, am_aload 0 14), (14, am_getR live 8 0 17), (17, am_const (.int 22) 19), (19, am_iload 1 20), (20, am_i2 (fun x y => x + y) 21), (21, am_ald live 0 22), (22, am_istore 5 6 24), (24, am_aload 0 25), (25, am_iload 1 26), (26, am_iload 4 28), (28, am_aload 0 29), (29, am_iload 1 30), (30, am_iload 4 32), (32, am_iload 3 33), (33, am_callV live 8 3 TX8_earningsOf 36), (36, am_aload 0 37), (37, am_getR live 8 0 40), (40, am_const (.int 34) 42), (42, am_const (.int 40) 44), (44, am_iload 1 45), (45, am_i2 (fun x y => x * y) 46), (46, am_i2 (fun x y => x + y) 47), (47, am_iload 4 49), (49, am_i2 (fun x y => x + y) 50), (50, am_ald live 0 51), (51, am_iload 5 53), (53, am_if1 (fun x => x < 0) 67 56), (56, am_iload 5 58), (58, am_iload 4 60), (60, am_if2 (fun x y => y < x) 67 63), (63, am_const (.int 1) 64), (64, am_goto 68), (67, am_const (.int 0) 68), (68, am_const (.long 0) 69), (69, am_callV live 8 6 TE8_stepYear 72), (72, am_iinc 4 6 1 75), (75, am_goto 7), (78, am_retV Ret)]
theorem koX8_runE (live : am_E) (Ret : am_R) : ∀ q ∈ kX8_runE live Ret, am_ok RX8 cX8_run 6 none 9 228 live Ret q.1 q.2 :=
  am_kc (ak_aload_n dX8_run_0 rfl rfl) <|
  am_kc (ak_callV (C := RX8) (F := TX8) (N := 27) metX8_beginRunE rfl ⟨rfl, by decide +kernel, by decide +kernel, by decide +kernel⟩ (am_w5 wd_1162 wd_1164 wd_43 wd_67 wd_1165) (by decide) dX8_run_1 rfl) <|
  am_kc (ak_iconst dX8_run_4 (by decide +kernel) rfl) <|
  am_kc (ak_istore dX8_run_5 rfl) <|
  am_kc (ak_iload dX8_run_7 rfl) <|
  am_kc (ak_iload_n dX8_run_9 rfl rfl) <|
  am_kc (ak_icmp_gt dX8_run_10 (by decide +kernel) rfl) <|
  am_kc (ak_aload_n dX8_run_13 rfl rfl) <|
  am_kc (ak_getR (C := RX8) (T := TX8) (N := 27) rfl inX8w (by decide) rfl rfl rfl wd_895 dX8_run_14 rfl) <|
  am_kc (ak_bipush dX8_run_17 (by decide +kernel) rfl) <|
  am_kc (ak_iload_n dX8_run_19 rfl rfl) <|
  am_kc (ak_iadd dX8_run_20 rfl) <|
  am_kc (ak_iald (t := 0) (fun _ => rfl) rfl dX8_run_21 rfl) <|
  am_kc (ak_istore dX8_run_22 rfl) <|
  am_kc (ak_aload_n dX8_run_24 rfl rfl) <|
  am_kc (ak_iload_n dX8_run_25 rfl rfl) <|
  am_kc (ak_iload dX8_run_26 rfl) <|
  am_kc (ak_aload_n dX8_run_28 rfl rfl) <|
  am_kc (ak_iload_n dX8_run_29 rfl rfl) <|
  am_kc (ak_iload dX8_run_30 rfl) <|
  am_kc (ak_iload_n dX8_run_32 rfl rfl) <|
  am_kc (ak_callV (C := RX8) (F := TX8) (N := 27) metX8_earningsOf rfl ⟨rfl, by decide +kernel, by decide +kernel, by decide +kernel⟩ (am_w5 wd_1026 wd_1028 wd_28 wd_67 wd_1029) (by decide) dX8_run_33 rfl) <|
  am_kc (ak_aload_n dX8_run_36 rfl rfl) <|
  am_kc (ak_getR (C := RX8) (T := TX8) (N := 27) rfl inX8w (by decide) rfl rfl rfl wd_895 dX8_run_37 rfl) <|
  am_kc (ak_bipush dX8_run_40 (by decide +kernel) rfl) <|
  am_kc (ak_bipush dX8_run_42 (by decide +kernel) rfl) <|
  am_kc (ak_iload_n dX8_run_44 rfl rfl) <|
  am_kc (ak_imul dX8_run_45 rfl) <|
  am_kc (ak_iadd dX8_run_46 rfl) <|
  am_kc (ak_iload dX8_run_47 rfl) <|
  am_kc (ak_iadd dX8_run_49 rfl) <|
  am_kc (ak_iald (t := 0) (fun _ => rfl) rfl dX8_run_50 rfl) <|
  am_kc (ak_iload dX8_run_51 rfl) <|
  am_kc (ak_if_lt dX8_run_53 (by decide +kernel) rfl) <|
  am_kc (ak_iload dX8_run_56 rfl) <|
  am_kc (ak_iload dX8_run_58 rfl) <|
  am_kc (ak_icmp_gt dX8_run_60 (by decide +kernel) rfl) <|
  am_kc (ak_iconst dX8_run_63 (by decide +kernel) rfl) <|
  am_kc (ak_goto dX8_run_64 (by decide +kernel)) <|
  am_kc (ak_iconst dX8_run_67 (by decide +kernel) rfl) <|
  am_kc (ak_lconst dX8_run_68 (by decide +kernel) rfl) <|
  am_kc (ak_callV (C := RX8) (F := TX8) (N := 27) metX8_stepYearE rfl ⟨rfl, by decide +kernel, by decide +kernel, by decide +kernel⟩ (am_w5 wd_1166 wd_1168 wd_44 wd_67 wd_1169) (by decide) dX8_run_69 rfl) <|
  am_kc (ak_iinc dX8_run_72 (by decide +kernel) rfl) <|
  am_kc (ak_goto dX8_run_75 (by decide +kernel)) <|
  am_kc (ak_retV dX8_run_78) <| am_kn
/-- a year of a run: what is earned, where, dead or not -/
def r_e (M : am_M) (p k : Int32) (y : Int32) : Int32 := r_known M p y k
def r_la (M : am_M) (p y : Int32) : Int32 := M.1 201 (34 + 40 * p + y).toNatClampNeg
def r_dd (M : am_M) (p y : Int32) : Int32 := if M.1 201 (22 + p).toNatClampNeg < 0 then 0 else if y < M.1 201 (22 + p).toNatClampNeg then 0 else 1
/-- a year's step: sums, struck -/
def r_Y (M : am_M) (p y e a d : Int32) (q : Int64) (s : (Nat → Int64) × (Nat → Int32)) : (Nat → Int64) × (Nat → Int32) :=
  (((z_pf (r_own M p) (r_of M p y) (r_n M) (10 * r_n M)).foldl (z_rk (r_due M y e a) (r_sd M y) ((r_mine M p (r_n M)).foldl (r_bg M y e a d) s).2) (((z_pf (r_own M p) (r_of M p y) (r_n M) (10 * r_n M)).foldl (z_rp ((r_mine M p (r_n M)).foldl (r_bg M y e a d) s).2) (((r_mine M p (r_n M)).foldl (r_bg M y e a d) s).1, q)).1, 0)).1, ((r_mine M p (r_n M)).foldl (r_bg M y e a d) s).2)
/-- what is paid in it -/
def r_P (M : am_M) (p y e a d : Int32) (q : Int64) (s : (Nat → Int64) × (Nat → Int32)) : Int64 := q - ((z_pf (r_own M p) (r_of M p y) (r_n M) (10 * r_n M)).foldl (z_rp ((r_mine M p (r_n M)).foldl (r_bg M y e a d) s).2) (((r_mine M p (r_n M)).foldl (r_bg M y e a d) s).1, q)).2
theorem r_ky.Y {M N : am_M} (h : r_ky M N) (p y e a d : Int32) (q : Int64) : r_Y N p y e a d q = r_Y M p y e a d q := h.f (fun K => r_Y K p y e a d q) (fun _ _ _ => rfl) (fun _ _ _ _ _ _ => rfl)
theorem r_ky.P {M N : am_M} (h : r_ky M N) (p y e a d : Int32) (q : Int64) : r_P N p y e a d q = r_P M p y e a d q := h.f (fun K => r_P K p y e a d q) (fun _ _ _ => rfl) (fun _ _ _ _ _ _ => rfl)
theorem r_ky.oo {M N : am_M} (h : r_ky M N) {p y : Int32} (o : r_oo M p y) : r_oo N p y := ⟨(), fun pl hp => by
  have e : r_inF N pl 4 p y = r_inF M pl 4 p y := h.f (fun K => r_inF K pl 4 p y) (fun _ _ _ => rfl) (fun _ _ _ _ _ _ => rfl)
  rw [e]
  exact o.v hp⟩
/-- orders are such in all years -/
def r_oa (M : am_M) (p : Int32) : Prop := ∃ _ : Unit, ∀ y, am_in y 40 → r_oo M p y
theorem r_oa.v {M : am_M} {p y : Int32} (h : r_oa M p) (hy : am_in y 40) : r_oo M p y := by obtain ⟨-, h⟩ := h; exact h y hy
abbrev r_yr (M : am_M) (p k : Int32) (y : Nat) : (Nat → Int64) × (Nat → Int32) → (Nat → Int64) × (Nat → Int32) := r_Y M p (Int32.ofNat y) (r_e M p k (Int32.ofNat y)) (r_la M p (Int32.ofNat y)) (r_dd M p (Int32.ofNat y)) 0
def z_zero (s : (Nat → Int64) × (Nat → Int32)) : Prop := (∀ k, k < 180 → s.1 k = 0) ∧ ∀ l, l < 30 → s.2 l = 0
def TE8_run : am_T := fun live as M R => match as with
  | [.ref n, .int p, .int u, .int k] => am_mn live ∧ n = 200 ∧ am_in p 12 ∧ (-1 ≤ u.toInt ∧ u.toInt ≤ 39) ∧ r_I M ∧ r_oa M p ∧ ∀ M' s0, r_ky M M' → r_I M' → z_zero s0 → r_s2 M' = z_it (r_yr M p k) 0 (u.toInt + 1).toNat s0 → R none M'
  | _ => False
def JE8_run : am_E → List Value → am_M → am_R → am_inv := fun live as M0 _ pc => match as with
  | [.ref n, .int p, .int u, .int w] => (match pc with
    | 7 => some ([0, 1, 2, 3, 4], fun k L st M => ∃ (i : Int32) (s0 : (Nat → Int64) × (Nat → Int32)), L = [(0, .ref 200), (1, .int p), (2, .int u), (3, .int w), (4, .int i)] ∧ st = [] ∧ k = ((41 - i.toInt).toNat, 0) ∧ (0 ≤ i.toInt ∧ i.toInt ≤ u.toInt + 1) ∧ r_ky M0 M ∧ r_I M ∧ z_zero s0 ∧ r_s2 M = z_it (r_yr M0 p w) 0 i.toNatClampNeg s0)
    | _ => none)
  | _ => none
set_option maxRecDepth 100000 in
set_option maxHeartbeats 4000000 in
theorem metX8_runE : am_Met yX8_run cX8_run 6 none (9) (228) TE8_run := by
  refine am_met (own := RX8) (by decide +kernel) rfl kX8_runE koX8_runE 100 JE8_run ?_ ?_
  · intro live as M Ret h
    unfold TE8_run at h
    split at h
    · next n p u k =>
      refine ⟨Nat.le_of_ble_eq_true rfl, ?_⟩
      change am_wp _ _ _ _ [(0, Value.ref n), (1, Value.int p), (2, Value.int u), (3, Value.int k)] _ _
      obtain ⟨hmn, rfl, hp, hu, hR, hoa, h⟩ := h
      have hmn2 := hmn
      obtain ⟨i1, i2, rfl⟩ := hmn2
      repeat' (first | (with_reducible exact hmn) | (with_reducible exact hR) | apply And.intro | exact rfl | ((with_reducible change r_I _); (with_reducible assumption)) | intro hx | (refine Exists.intro _ (And.intro rfl ?_)))
      all_goals try first | (with_reducible change am_tI _ _) | (change Ret _ _) | (change Ret _ _ _) | (change Exists _)
      all_goals try dsimp only at *
      all_goals try exact absurd ‹(1000 : Int64) = 0› (by decide)
      all_goals
        rename_i N ky hRN z1
        have z2 := hx
        exact ⟨_, _, r_s2 N, rfl, rfl, rfl, ⟨by decide, by simp only [Int32.toInt_zero]; omega⟩, ky, hRN, ⟨z1, z2⟩, rfl⟩
    · exact h.elim
  · intro live as M0 Ret h k pc I hI L st M hi
    unfold TE8_run at h
    split at h
    · next n p u k =>
      obtain ⟨hmn, rfl, hp, hu, hR, hoa, h⟩ := h
      have hmn2 := hmn
      obtain ⟨i1, i2, rfl⟩ := hmn2
      have l201 : am_len 201 = 3760 := rfl
      have p1 := hp.1
      have p2 := hp.2
      change (match pc with | 7 => _ | _ => none) = _ at hI
      split at hI
      · cases hI
        obtain ⟨i, s0, rfl, rfl, rfl, ⟨e1, e4⟩, e2, e3, z0, es⟩ := hi
        have ci := i_clamp e1
        by_cases hz : u < i
        · have hz2 := hz
          simp only [i_lt] at hz2
          have hh := h M s0 e2 e3 z0 (by rw [es, show (u.toInt + 1).toNat = i.toNatClampNeg by omega])
          repeat' (first | apply And.intro | exact rfl | (intro hx; with_reducible exact absurd hz hx) | intro hx | (refine Exists.intro _ (And.intro rfl ?_)))
          all_goals try first | (with_reducible change am_tI _ _) | (change Ret _ _) | (change Ret _ _ _) | (change Exists _)
          all_goals try dsimp only at *
          all_goals try exact absurd ‹(1000 : Int64) = 0› (by decide)
          exact hh
        · have hz2 := hz
          simp only [i_lt] at hz2
          have hy : am_in i 40 := ⟨e1, by omega⟩
          have hi := i_inc (x := i) (by omega) (by omega)
          have ci1 := i_clamp (x := i + 1) (by omega)
          have oi := o_cl hy (by decide)
          have e22 := r_off (c := 22) (x := p) ⟨by decide, by decide⟩ ⟨by omega, by omega⟩
          have e40 := r_mul (c := 40) (x := p) ⟨by decide, by decide⟩ ⟨by omega, by omega⟩
          simp only [Int32.reduceToInt] at e22 e40
          have ea := r_off (c := 34) (x := 40 * p) ⟨by decide, by decide⟩ ⟨by omega, by omega⟩
          simp only [e40, Int32.reduceToInt] at ea
          have eb := r_off (c := 34 + 40 * p) (x := i) ⟨by omega, by omega⟩ ⟨by omega, by omega⟩
          rw [ea] at eb
          have x1 : 0 ≤ (22 + p).toInt := by omega
          have x2 : (22 + p).toInt < (am_len 201 : Int) := by rw [l201]; omega
          have x3 : 0 ≤ (34 + 40 * p + i).toInt := by omega
          have x4 : (34 + 40 * p + i).toInt < (am_len 201 : Int) := by rw [l201]; omega
          have hla : am_in (M.1 201 (34 + 40 * p + i).toNatClampNeg) 4 := by
            have c1 := i_clamp (x := 34 + 40 * p + i) x3
            have c2 := i_clamp (x := p) p1
            have c3 := i_clamp (x := i) e1
            rw [show (34 + 40 * p + i).toNatClampNeg = 34 + (40 * p.toNatClampNeg + i.toNatClampNeg) by omega]
            exact e3.ld (by omega)
          have hoM : r_oo M p i := e2.oo (hoa.v hy)
          have fin : ∀ (d : Int32) (N : am_M), d = r_dd M p i → r_fl N = (r_S3 M p i (r_e M p k i) (r_la M p i) d 0 (10 * r_n M)).1 → N.1 213 = (r_S1 M p i (r_e M p k i) (r_la M p i) d).2 → r_s2 N = z_it (r_yr M0 p k) 0 (i + 1).toNatClampNeg s0 := fun d N ed n1 n2 => by
            rw [show (i + 1).toNatClampNeg = i.toNatClampNeg + 1 by omega]
            show _ = r_yr M0 p k (0 + i.toNatClampNeg) (z_it (r_yr M0 p k) 0 i.toNatClampNeg s0)
            rw [← es, Nat.zero_add]
            unfold r_yr
            rw [oi]
            have f1 : r_e M0 p k i = r_e M p k i := (e2.f (fun K => r_e K p k i) (fun _ _ _ => rfl) (fun _ _ _ _ _ _ => rfl)).symm
            have f2 : r_la M0 p i = r_la M p i := (e2.f (fun K => r_la K p i) (fun _ _ _ => rfl) (fun _ _ _ _ _ _ => rfl)).symm
            have f3 : r_dd M0 p i = r_dd M p i := (e2.f (fun K => r_dd K p i) (fun _ _ _ => rfl) (fun _ _ _ _ _ _ => rfl)).symm
            rw [f1, f2, f3, ← e2.Y, ← ed]
            refine Prod.ext ?_ ?_
            · exact n1
            · exact n2
          by_cases zd : M.1 201 (22 + p).toNatClampNeg < 0
          · have fin2 := fun N => fin 0 N (if_pos zd).symm
            repeat' (first | (with_reducible exact x1) | (with_reducible exact x2) | (with_reducible exact x3) | (with_reducible exact x4) | (with_reducible exact hmn) | (with_reducible exact hp) | (with_reducible exact hy) | (with_reducible exact hla) | (with_reducible exact e3) | (with_reducible exact hoM) | apply And.intro | exact rfl | (intro hx; with_reducible exact absurd hx hz) | (intro hx; with_reducible exact absurd zd hx) | ((with_reducible change r_I _); (with_reducible assumption)) | (intro hx; exact absurd hx (by decide)) | (intro hx; exact absurd (by decide) hx) | decide | intro hx | (refine Exists.intro _ (And.intro rfl ?_)))
            all_goals try first | (with_reducible change am_tI _ _) | (change Ret _ _) | (change Ret _ _ _) | (change Exists _)
            all_goals try dsimp only at *
            all_goals try exact absurd ‹(1000 : Int64) = 0› (by decide)
            all_goals
              rename_i N ky hRN n1 n2
              have n3 := hx
              exact ⟨_, am_lt_l (by omega), _, s0, rfl, rfl, rfl, ⟨by omega, by omega⟩, e2.tr ky, hRN, z0, fin2 N n1 n2⟩
          · by_cases zy : i < M.1 201 (22 + p).toNatClampNeg
            · have fin2 := fun N => fin 0 N (by unfold r_dd; rw [if_neg zd, if_pos zy])
              repeat' (first | (with_reducible exact x1) | (with_reducible exact x2) | (with_reducible exact x3) | (with_reducible exact x4) | (with_reducible exact hmn) | (with_reducible exact hp) | (with_reducible exact hy) | (with_reducible exact hla) | (with_reducible exact e3) | (with_reducible exact hoM) | apply And.intro | exact rfl | (intro hx; with_reducible exact absurd hx hz) | (intro hx; with_reducible exact absurd hx zd) | (intro hx; with_reducible exact absurd zy hx) | ((with_reducible change r_I _); (with_reducible assumption)) | (intro hx; exact absurd hx (by decide)) | (intro hx; exact absurd (by decide) hx) | decide | intro hx | (refine Exists.intro _ (And.intro rfl ?_)))
              all_goals try first | (with_reducible change am_tI _ _) | (change Ret _ _) | (change Ret _ _ _) | (change Exists _)
              all_goals try dsimp only at *
              all_goals try exact absurd ‹(1000 : Int64) = 0› (by decide)
              all_goals
                rename_i N ky hRN n1 n2
                have n3 := hx
                exact ⟨_, am_lt_l (by omega), _, s0, rfl, rfl, rfl, ⟨by omega, by omega⟩, e2.tr ky, hRN, z0, fin2 N n1 n2⟩
            · have fin2 := fun N => fin 1 N (by unfold r_dd; rw [if_neg zd, if_neg zy])
              repeat' (first | (with_reducible exact x1) | (with_reducible exact x2) | (with_reducible exact x3) | (with_reducible exact x4) | (with_reducible exact hmn) | (with_reducible exact hp) | (with_reducible exact hy) | (with_reducible exact hla) | (with_reducible exact e3) | (with_reducible exact hoM) | apply And.intro | exact rfl | (intro hx; with_reducible exact absurd hx hz) | (intro hx; with_reducible exact absurd hx zd) | (intro hx; with_reducible exact absurd hx zy) | ((with_reducible change r_I _); (with_reducible assumption)) | (intro hx; exact absurd hx (by decide)) | (intro hx; exact absurd (by decide) hx) | decide | intro hx | (refine Exists.intro _ (And.intro rfl ?_)))
              all_goals try first | (with_reducible change am_tI _ _) | (change Ret _ _) | (change Ret _ _ _) | (change Exists _)
              all_goals try dsimp only at *
              all_goals try exact absurd ‹(1000 : Int64) = 0› (by decide)
              all_goals
                rename_i N ky hRN n1 n2
                have n3 := hx
                exact ⟨_, am_lt_l (by omega), _, s0, rfl, rfl, rfl, ⟨by omega, by omega⟩, e2.tr ky, hRN, z0, fin2 N n1 n2⟩
      · cases hI
    · exact h.elim
