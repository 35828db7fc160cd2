/-! runs exact: book -/
def z_sum (f : Nat → Int64) : Nat → Int64
  | 0 => 0
  | n + 1 => z_sum f n + f n
theorem z_sum_cg {f g : Nat → Int64} : ∀ {n : Nat}, (∀ i, i < n → f i = g i) → z_sum f n = z_sum g n
  | 0, _ => rfl
  | n + 1, h => by
    show z_sum f n + f n = z_sum g n + g n
    rw [z_sum_cg (fun i hi => h i (by omega)), h n (by omega)]
theorem z_add4 (a b c d : Int64) : a + b + (c + d) = a + c + (b + d) := by
  rw [Int64.add_assoc, Int64.add_assoc, ← Int64.add_assoc b, ← Int64.add_assoc c, Int64.add_comm b c]
theorem z_sum_add {f g : Nat → Int64} : ∀ {n : Nat}, z_sum (fun i => f i + g i) n = z_sum f n + z_sum g n
  | 0 => by show (0 : Int64) = 0 + 0; rw [Int64.add_zero]
  | n + 1 => by
    show z_sum (fun i => f i + g i) n + (f n + g n) = z_sum f n + f n + (z_sum g n + g n)
    rw [z_sum_add, z_add4]
theorem z_sum_z : ∀ {n : Nat}, z_sum (fun _ => 0) n = 0
  | 0 => rfl
  | n + 1 => by
    show z_sum (fun _ => 0) n + 0 = 0
    rw [z_sum_z, Int64.add_zero]
theorem z_sum_sw {F : Nat → Nat → Int64} {n : Nat} : ∀ {m : Nat}, z_sum (fun p => z_sum (fun l => F p l) n) m = z_sum (fun l => z_sum (fun p => F p l) m) n
  | 0 => z_sum_z.symm
  | m + 1 => by
    show z_sum (fun p => z_sum (fun l => F p l) n) m + z_sum (fun l => F m l) n = z_sum (fun l => z_sum (fun p => F p l) m + F m l) n
    rw [z_sum_add, z_sum_sw]
theorem z_sum_no {f : Nat → Int64} {n : Nat} (h : ∀ i, i < n → f i = 0) : z_sum f n = 0 := (z_sum_cg h).trans z_sum_z
theorem z_sum_one {f : Nat → Int64} {a : Nat} : ∀ {n : Nat}, a < n → (∀ i, i < n → i ≠ a → f i = 0) → z_sum f n = f a
  | 0, h, _ => absurd h (by omega)
  | n + 1, h, h2 => by
    show z_sum f n + f n = f a
    by_cases z : n = a
    · rw [z_sum_no (fun i hi => h2 i (by omega) (by omega)), Int64.zero_add, z]
    · rw [z_sum_one (by omega) (fun i hi hne => h2 i (by omega) hne), h2 n (by omega) z, Int64.add_zero]
theorem z_sum_b {f : Nat → Int64} {B : Int} (hB : 0 ≤ B) (hB2 : B ≤ 10000000000000000) : ∀ {n : Nat}, n ≤ 90 → (∀ i, i < n → -B ≤ (f i).toInt ∧ (f i).toInt ≤ B) → -(n * B) ≤ (z_sum f n).toInt ∧ (z_sum f n).toInt ≤ n * B
  | 0, _, _ => by
    show -((0 : Nat) * B) ≤ (0 : Int64).toInt ∧ (0 : Int64).toInt ≤ (0 : Nat) * B
    rw [show (0 : Int64).toInt = 0 from rfl]
    omega
  | n + 1, hn, h => by
    obtain ⟨h1, h2⟩ := z_sum_b hB hB2 (n := n) (by omega) (fun i hi => h i (by omega))
    obtain ⟨h3, h4⟩ := h n (by omega)
    have e : ((n + 1 : Nat) : Int) * B = n * B + B := by rw [Int.natCast_add, Int.add_mul]; omega
    have e2 : (n : Int) * B ≤ 90 * B := Int.mul_le_mul_of_nonneg_right (by omega) hB
    have ea : (z_sum f n + f n).toInt = (z_sum f n).toInt + (f n).toInt := by
      rw [Int64.toInt_add]
      exact Int.bmod_eq_of_le (by omega) (by omega)
    show -(((n + 1 : Nat) : Int) * B) ≤ (z_sum f n + f n).toInt ∧ (z_sum f n + f n).toInt ≤ ((n + 1 : Nat) : Int) * B
    rw [e, ea]
    omega
theorem z_bk {a b : Int64} (h1 : -1000000000000000000 ≤ a.toInt ∧ a.toInt ≤ 1000000000000000000) (h2 : -1000000000000000000 ≤ b.toInt ∧ b.toInt ≤ 1000000000000000000) : (if b < a then a - b else 0) = (if a - b < 0 then 0 else a - b) := by
  have e := l_sub (x := a) (y := b) (by omega) (by omega)
  have k0 : (0 : Int64).toInt = 0 := rfl
  by_cases z : b < a
  · rw [if_pos z, if_neg (fun q => by rw [Int64.lt_iff_toInt_lt] at z q; omega)]
  · rw [if_neg z]
    by_cases y : a - b < 0
    · rw [if_pos y]
    · rw [if_neg y]
      apply Int64.toInt_inj.mp
      rw [Int64.lt_iff_toInt_lt] at z y
      omega
/-- what a row of promises adds -/
def r_pf (M : am_M) (b y : Int32) (i : Nat) : Int64 := if M.1 201 (3513 + (3 * i + 0)) = b then (if M.1 201 (3513 + (3 * i + 1)) ≤ y then (M.1 201 (3513 + (3 * i + 2))).toInt64 else 0) else 0
theorem LI.pm {i1 i2 : Bool} {M : am_M} (h : LI i1 i2 M) {i j : Int32} {n : Nat} (hi : am_in i 20) (hj : j.toInt = (n : Int)) (hn : n < 3) : am_at (M.1 55) (am_len 55) (i * M.1 54 1 + j) = M.1 201 (3513 + (3 * i.toNatClampNeg + n)) := by
  have l1 := hi.1
  have l2 := hi.2
  have e1 := i_mul (x := i) (y := 3) (by simp only [Int32.reduceToInt]; omega) (by simp only [Int32.reduceToInt]; omega)
  simp only [Int32.reduceToInt] at e1
  have e2 := i_add (x := i * 3) (y := j) (by omega) (by omega)
  have c1 := i_clamp (x := i * 3 + j) (by omega)
  have c2 := i_clamp l1
  have g := g_cl hi
  have l55 : am_len 55 = 60 := rfl
  have e := h.e (o := 35) (k0 := 0) (b0 := 3513) (n := 60) (by decide) (k := 3 * i.toNatClampNeg + n) (by omega)
  rw [Nat.zero_add] at e
  rw [h.w.2.2.2, am_at_in (show am_in (i * 3 + j) (am_len 55) from ⟨by omega, by rw [l55]; omega⟩), show (i * 3 + j).toNatClampNeg = 3 * i.toNatClampNeg + n by omega]
  exact e
def kX0_promisedE (live : am_E) (Ret : am_R) : am_code := [(0, am_const (.long 0) 1), (1, am_lstore 3 6 2), (2, am_const (.int 0) 3), (3, am_istore 5 6 5), (5, am_iload 5 7), (7, am_aload 0 8), (8, am_getR live 0 8 11), (11, am_getI live 3 2 14), (14, am_if2 (fun x y => y ≤ x) 65 17), (17, am_aload 0 18), (18, am_getR live 0 8 21), (21, am_iload 5 23), (23, am_const (.int 0) 24), (24, am_callV live 3 2 TX3_at 27), (27, am_iload 1 28), (28, am_if2 (fun x y => x = y) 31 59), (31, am_aload 0 32), (32, am_getR live 0 8 35), (35, am_iload 5 37), (37, am_const (.int 1) 38), (38, am_callV live 3 2 TX3_at 41), (41, am_iload 2 42), (42, am_if2 (fun x y => y < x) 59 45), (45, am_lload 3 46), (46, am_aload 0 47), (47, am_getR live 0 8 50), (50, am_iload 5 52), (52, am_const (.int 2) 53), (53, am_callV live 3 2 TX3_at 56), (56, am_i2l 57), (57, am_l2 (fun x y => x + y) 58), (58, am_lstore 3 6 59), (59, am_iinc 5 6 1 62), (62, am_goto 5), (65, am_lload 3 66), (66, am_retL Ret)]
theorem koX0_promisedE (live : am_E) (Ret : am_R) : ∀ q ∈ kX0_promisedE live Ret, am_ok RX0 cX0_promised 6 (some .long) 1 23 live Ret q.1 q.2 :=
  am_kc (ak_lconst dX0_promised_0 (by decide +kernel) rfl) <|
  am_kc (ak_lstore_n dX0_promised_1 rfl rfl) <|
  am_kc (ak_iconst dX0_promised_2 (by decide +kernel) rfl) <|
  am_kc (ak_istore dX0_promised_3 rfl) <|
  am_kc (ak_iload dX0_promised_5 rfl) <|
  am_kc (ak_aload_n dX0_promised_7 rfl rfl) <|
  am_kc (ak_getR (C := RX0) (T := TX0) (N := 13) rfl inX0w (by decide) rfl rfl rfl wd_216 dX0_promised_8 rfl) <|
  am_kc (ak_getI (C := RX3) (T := TX3) (N := 3) rfl inX3w (by decide) rfl rfl rfl wd_151 dX0_promised_11 rfl) <|
  am_kc (ak_icmp_ge dX0_promised_14 (by decide +kernel) rfl) <|
  am_kc (ak_aload_n dX0_promised_17 rfl rfl) <|
  am_kc (ak_getR (C := RX0) (T := TX0) (N := 13) rfl inX0w (by decide) rfl rfl rfl wd_216 dX0_promised_18 rfl) <|
  am_kc (ak_iload dX0_promised_21 rfl) <|
  am_kc (ak_iconst dX0_promised_23 (by decide +kernel) rfl) <|
  am_kc (ak_callV (C := RX3) (F := TX3) (N := 3) metX3_at rfl ⟨rfl, by decide +kernel, by decide +kernel, by decide +kernel⟩ (am_w5 wd_529 wd_503 wd_504 wd_64 wd_505) (by decide) dX0_promised_24 rfl) <|
  am_kc (ak_iload_n dX0_promised_27 rfl rfl) <|
  am_kc (ak_icmp_ne dX0_promised_28 (by decide +kernel) rfl) <|
  am_kc (ak_aload_n dX0_promised_31 rfl rfl) <|
  am_kc (ak_getR (C := RX0) (T := TX0) (N := 13) rfl inX0w (by decide) rfl rfl rfl wd_216 dX0_promised_32 rfl) <|
  am_kc (ak_iload dX0_promised_35 rfl) <|
  am_kc (ak_iconst dX0_promised_37 (by decide +kernel) rfl) <|
  am_kc (ak_callV (C := RX3) (F := TX3) (N := 3) metX3_at rfl ⟨rfl, by decide +kernel, by decide +kernel, by decide +kernel⟩ (am_w5 wd_529 wd_503 wd_504 wd_64 wd_505) (by decide) dX0_promised_38 rfl) <|
  am_kc (ak_iload_n dX0_promised_41 rfl rfl) <|
  am_kc (ak_icmp_gt dX0_promised_42 (by decide +kernel) rfl) <|
  am_kc (ak_lload_n dX0_promised_45 rfl rfl) <|
  am_kc (ak_aload_n dX0_promised_46 rfl rfl) <|
  am_kc (ak_getR (C := RX0) (T := TX0) (N := 13) rfl inX0w (by decide) rfl rfl rfl wd_216 dX0_promised_47 rfl) <|
  am_kc (ak_iload dX0_promised_50 rfl) <|
  am_kc (ak_iconst dX0_promised_52 (by decide +kernel) rfl) <|
  am_kc (ak_callV (C := RX3) (F := TX3) (N := 3) metX3_at rfl ⟨rfl, by decide +kernel, by decide +kernel, by decide +kernel⟩ (am_w5 wd_529 wd_503 wd_504 wd_64 wd_505) (by decide) dX0_promised_53 rfl) <|
  am_kc (ak_i2l dX0_promised_56 rfl) <|
  am_kc (ak_ladd dX0_promised_57 rfl) <|
  am_kc (ak_lstore_n dX0_promised_58 rfl rfl) <|
  am_kc (ak_iinc dX0_promised_59 (by decide +kernel) rfl) <|
  am_kc (ak_goto dX0_promised_62 (by decide +kernel)) <|
  am_kc (ak_lload_n dX0_promised_65 rfl rfl) <|
  am_kc (ak_retL dX0_promised_66) <| am_kn
def TE0_promised : am_T := fun live as M R => match as with
  | [.ref n, .int b, .int y] => am_mn live ∧ n = 20 ∧ (∃ i1 i2, LX i1 i2 M) ∧ R (some (.long (z_sum (r_pf M b y) (M.1 201 4).toNatClampNeg))) M
  | _ => False
def JE0_promised : am_E → List Value → am_M → am_R → am_inv := fun live as M0 _ pc => match as with
  | [.ref n, .int b, .int y] => (match pc with
    | 5 => some ([0, 1, 2, 3, 5], fun k L st M => ∃ (v : Int64) (i : Int32), L = [(0, .ref 20), (1, .int b), (2, .int y), (3, .long v), (5, .int i)] ∧ st = [] ∧ k = ((100001 - i.toInt).toNat, 0) ∧ (0 ≤ i.toInt ∧ i.toInt ≤ (M0.1 201 4).toInt) ∧ M = M0 ∧ v = z_sum (r_pf M0 b y) i.toNatClampNeg)
    | _ => none)
  | _ => none
set_option maxRecDepth 100000 in
set_option maxHeartbeats 4000000 in
theorem metX0_promisedE : am_Met yX0_promised cX0_promised 6 (some .long) (1) (23) TE0_promised := by
  refine am_met (own := RX0) (by decide +kernel) rfl kX0_promisedE koX0_promisedE 60 JE0_promised ?_ ?_
  · intro live as M Ret h
    unfold TE0_promised at h
    split at h
    · next n b y =>
      refine ⟨Nat.le_of_ble_eq_true rfl, ?_⟩
      change am_wp _ _ _ _ [(0, Value.ref n), (1, Value.int b), (2, Value.int y)] _ _
      obtain ⟨⟨i1, i2, rfl⟩, rfl, ⟨j1, j2, hX⟩, h⟩ := h
      have n4 := hX.li.n4
      repeat' (first | apply And.intro | exact rfl | intro hx | (refine Exists.intro _ (And.intro rfl ?_)))
      all_goals try first | (with_reducible change am_tI _ _) | (change Ret _ _) | (change Ret _ _ _) | (change Exists _)
      all_goals try dsimp only at *
      all_goals try exact absurd ‹(1000 : Int64) = 0› (by decide)
      exact ⟨_, _, _, rfl, rfl, rfl, ⟨by decide, n4.1⟩, rfl, rfl⟩
    · exact h.elim
  · intro live as M0 Ret h k pc I hI L st M hi
    unfold TE0_promised at h
    split at h
    · next n b y =>
      obtain ⟨⟨i1, i2, rfl⟩, rfl, ⟨j1, j2, hX⟩, h⟩ := h
      change (match pc with | 5 => _ | _ => none) = _ at hI
      split at hI
      · cases hI
        obtain ⟨v, i, rfl, rfl, rfl, ⟨e1, e2⟩, rfl, rfl⟩ := hi
        have n4 := hX.li.n4
        have ci := i_clamp e1
        have e4 := hX.li.e4
        have hi := i_inc (x := i) (by omega) (by omega)
        have ci1 := i_clamp (x := i + 1) (by omega)
        have nx : (i + 1).toNatClampNeg = i.toNatClampNeg + 1 := by omega
        by_cases hz : M.1 54 2 ≤ i
        · have hz2 := hz
          rw [e4] at hz2
          simp only [i_le] at hz2
          have en : i.toNatClampNeg = (M.1 201 4).toNatClampNeg := by
            have := i_clamp n4.1
            omega
          rw [← en] at h
          repeat' (first | apply And.intro | exact rfl | (intro hx; with_reducible exact absurd hz hx) | intro hx | (refine Exists.intro _ (And.intro rfl ?_)))
          all_goals try first | (with_reducible change am_tI _ _) | (change Ret _ _) | (change Ret _ _ _) | (change Exists _)
          all_goals try dsimp only at *
          all_goals try exact absurd ‹(1000 : Int64) = 0› (by decide)
          all_goals exact h
        · have hz2 := hz
          rw [e4] at hz2
          simp only [i_le] at hz2
          have hin : am_in i 20 := ⟨e1, by omega⟩
          have p0 := hX.li.pm hin (j := 0) (n := 0) rfl (by decide)
          have p1 := hX.li.pm hin (j := 1) (n := 1) rfl (by decide)
          have p2 := hX.li.pm hin (j := 2) (n := 2) rfl (by decide)
          by_cases y0 : am_at (M.1 55) (am_len 55) (i * M.1 54 1 + 0) = b
          · by_cases y1 : y < am_at (M.1 55) (am_len 55) (i * M.1 54 1 + 1)
            · have y2 : ¬ am_at (M.1 55) (am_len 55) (i * M.1 54 1 + 1) ≤ y := fun q => by rw [i_le] at q; rw [i_lt] at y1; omega
              have s : z_sum (r_pf M b y) (i + 1).toNatClampNeg = z_sum (r_pf M b y) i.toNatClampNeg := by
                rw [nx]
                show _ + r_pf M b y i.toNatClampNeg = _
                unfold r_pf
                rw [← p0, ← p1, if_pos y0, if_neg y2, Int64.add_zero]
              repeat' (first | apply And.intro | exact rfl | (intro hx; with_reducible exact absurd hx hz) | (intro hx; with_reducible exact absurd y0 hx) | (intro hx; with_reducible exact absurd y1 hx) | intro hx | (refine Exists.intro _ (And.intro rfl ?_)))
              all_goals try first | (with_reducible change am_tI _ _) | (change Ret _ _) | (change Ret _ _ _) | (change Exists _)
              all_goals try dsimp only at *
              all_goals try exact absurd ‹(1000 : Int64) = 0› (by decide)
              all_goals exact ⟨_, am_lt_l (by omega), _, _, rfl, rfl, rfl, ⟨by omega, by omega⟩, rfl, s.symm⟩
            · have y2 : am_at (M.1 55) (am_len 55) (i * M.1 54 1 + 1) ≤ y := by rw [i_le]; rw [i_lt] at y1; omega
              have s : z_sum (r_pf M b y) (i + 1).toNatClampNeg = z_sum (r_pf M b y) i.toNatClampNeg + (am_at (M.1 55) (am_len 55) (i * M.1 54 1 + 2)).toInt64 := by
                rw [nx]
                show _ + r_pf M b y i.toNatClampNeg = _
                unfold r_pf
                rw [← p0, ← p1, ← p2, if_pos y0, if_pos y2]
              repeat' (first | apply And.intro | exact rfl | (intro hx; with_reducible exact absurd hx hz) | (intro hx; with_reducible exact absurd hx y1) | (intro hx; with_reducible exact absurd y0 hx) | intro hx | (refine Exists.intro _ (And.intro rfl ?_)))
              all_goals try first | (with_reducible change am_tI _ _) | (change Ret _ _) | (change Ret _ _ _) | (change Exists _)
              all_goals try dsimp only at *
              all_goals try exact absurd ‹(1000 : Int64) = 0› (by decide)
              all_goals exact ⟨_, am_lt_l (by omega), _, _, rfl, rfl, rfl, ⟨by omega, by omega⟩, rfl, s.symm⟩
          · have s : z_sum (r_pf M b y) (i + 1).toNatClampNeg = z_sum (r_pf M b y) i.toNatClampNeg := by
              rw [nx]
              show _ + r_pf M b y i.toNatClampNeg = _
              unfold r_pf
              rw [← p0, if_neg y0, Int64.add_zero]
            repeat' (first | apply And.intro | exact rfl | (intro hx; with_reducible exact absurd hx hz) | (intro hx; with_reducible exact absurd hx y0) | intro hx | (refine Exists.intro _ (And.intro rfl ?_)))
            all_goals try first | (with_reducible change am_tI _ _) | (change Ret _ _) | (change Ret _ _ _) | (change Exists _)
            all_goals try dsimp only at *
            all_goals try exact absurd ‹(1000 : Int64) = 0› (by decide)
            all_goals exact ⟨_, am_lt_l (by omega), _, _, rfl, rfl, rfl, ⟨by omega, by omega⟩, rfl, s.symm⟩
      · cases hI
    · exact h.elim
