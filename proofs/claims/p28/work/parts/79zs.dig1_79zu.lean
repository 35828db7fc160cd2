-- part 79zs.dig1.lean.txt
section
/-! exact: digest: what it is, over what is told -/
def r_dgP (M : am_M) : Int64 := z_ppl (fun p => M.1 201 (10 + p)) (fun p => M.1 201 (22 + p)) (fun j => M.1 201 (34 + j)) (M.1 201 0).toNatClampNeg (z_mx (M.1 201) 6 347)
def r_dgL (M : am_M) : Int64 := z_mx (fun j => M.1 201 (2838 + j)) (8 * (M.1 201 1).toNatClampNeg) (r_dgP M)
def r_dgA (M : am_M) : Int64 := z_mx (fun j => M.1 201 (2478 + j)) (6 * (M.1 201 2).toNatClampNeg) (r_dgL M)
def r_dgM (M : am_M) : Int64 := z_mx (fun j => M.1 201 (3078 + j)) (3 * (M.1 201 3).toNatClampNeg) (r_dgA M)
def r_dgT (M : am_M) : Nat → Int64
  | 0 => r_dgM M
  | t + 1 => z_mx (fun i => M.1 201 (3258 + 50 * t + i)) (M.1 201 (3508 + t)).toNatClampNeg (31 * r_dgT M t + (M.1 201 (3508 + t)).toInt64)
def r_dgR (M : am_M) : Nat → Int64
  | 0 => r_dgT M 5
  | l + 1 => 31 * (31 * r_dgR M l + (r_R M (r_lo M (Int32.ofNat l) 0) 39 40).1 l) + (r_R M (r_lo M (Int32.ofNat l) 0) 39 40).1 (90 + l)
def r_digV (M : am_M) : Int64 := r_dgR M (r_n M)
theorem r_dig_cg {M N : am_M} (h1 : N.1 201 = M.1 201) (h2 : N.1 200 = M.1 200) : r_digV N = r_digV M := by
  have eM : r_dgM N = r_dgM M := by
    unfold r_dgM r_dgA r_dgL r_dgP
    rw [h1]
  have eT : ∀ t, r_dgT N t = r_dgT M t := fun t => by
    induction t with
    | zero => exact eM
    | succ t ih =>
      unfold r_dgT
      rw [ih, h1]
  have eR : ∀ l, r_dgR N l = r_dgR M l := fun l => by
    induction l with
    | zero => exact eT 5
    | succ l ih =>
      unfold r_dgR
      rw [ih, r_R_cg h1 h2, show r_lo N (Int32.ofNat l) 0 = r_lo M (Int32.ofNat l) 0 by unfold r_lo; rw [h1]]
  unfold r_digV
  rw [eR]
  unfold r_n
  rw [h1]
section LID
variable {i1 i2 : Bool} {M : am_M}
theorem LI.cnt (h : LI i1 i2 M) {i : Int32} (hi : 0 ≤ i.toInt ∧ i.toInt ≤ 5) : c_count M i = M.1 201 i.toNatClampNeg := by
  have q : i = 0 ∨ i = 1 ∨ i = 2 ∨ i = 3 ∨ i = 4 ∨ i = 5 := by
    simp only [i_eq, Int32.reduceToInt, Int32.toInt_zero]
    omega
  unfold c_count
  rw [h.e0, h.e1, h.e2, h.e3, h.e4, h.e5]
  rcases q with rfl | rfl | rfl | rfl | rfl | rfl <;> first | rfl | simp
theorem i_mul_n {x w : Int32} {n m : Nat} (hx : 0 ≤ x.toInt ∧ x.toInt ≤ (n : Int)) (hw : w.toInt = (m : Int)) (hb : n * m ≤ 100000) : (x * w).toInt = (m * x.toNatClampNeg : Nat) ∧ (x * w).toNatClampNeg = m * x.toNatClampNeg ∧ m * x.toNatClampNeg ≤ n * m := by
  have c := i_clamp hx.1
  have k : x.toNatClampNeg ≤ n := by omega
  have k2 : m * x.toNatClampNeg ≤ n * m := by rw [Nat.mul_comm n m]; exact Nat.mul_le_mul_left m k
  have e : x.toInt * w.toInt = ((m * x.toNatClampNeg : Nat) : Int) := by rw [hw, ← c, Int.mul_comm]; exact (Int.natCast_mul _ _).symm
  have e2 := i_mul (x := x) (y := w) (by rw [e]; omega) (by rw [e]; omega)
  rw [e] at e2
  have c2 := i_clamp (x := x * w) (by omega)
  exact ⟨e2, by omega, k2⟩
theorem LI.dgl (h : LI i1 i2 M) : (M.1 33 2 * M.1 33 1).toInt = (8 * (M.1 201 1).toNatClampNeg : Nat) ∧ (M.1 33 2 * M.1 33 1).toNatClampNeg = 8 * (M.1 201 1).toNatClampNeg ∧ 8 * (M.1 201 1).toNatClampNeg ≤ 240 := by
  rw [h.e1, h.w.2.1]
  exact i_mul_n (n := 30) (m := 8) h.n1 rfl (by decide)
theorem LI.dga (h : LI i1 i2 M) : (M.1 31 2 * M.1 31 1).toInt = (6 * (M.1 201 2).toNatClampNeg : Nat) ∧ (M.1 31 2 * M.1 31 1).toNatClampNeg = 6 * (M.1 201 2).toNatClampNeg ∧ 6 * (M.1 201 2).toNatClampNeg ≤ 360 := by
  rw [h.e2, h.w.1]
  exact i_mul_n (n := 60) (m := 6) h.n2 rfl (by decide)
theorem LI.dgm (h : LI i1 i2 M) : (M.1 35 2 * M.1 35 1).toInt = (3 * (M.1 201 3).toNatClampNeg : Nat) ∧ (M.1 35 2 * M.1 35 1).toNatClampNeg = 3 * (M.1 201 3).toNatClampNeg ∧ 3 * (M.1 201 3).toNatClampNeg ≤ 180 := by
  rw [h.e3, h.w.2.2.1]
  exact i_mul_n (n := 60) (m := 3) h.n3 rfl (by decide)
theorem LI.dg (h : LI i1 i2 M) : z_mx (M.1 36) (M.1 35 2 * M.1 35 1).toNatClampNeg (z_mx (M.1 32) (M.1 31 2 * M.1 31 1).toNatClampNeg (z_mx (M.1 34) (M.1 33 2 * M.1 33 1).toNatClampNeg (z_ppl (M.1 22) (M.1 23) (M.1 24) (M.1 21 7).toNatClampNeg (z_mx (M.1 201) 6 347)))) = r_dgT M 0 := by
  have l := h.dgl
  have a := h.dga
  have m := h.dgm
  have n0 := h.n0
  have c0 := i_clamp n0.1
  rw [l.2.1, a.2.1, m.2.1, h.e0]
  have eP : z_ppl (M.1 22) (M.1 23) (M.1 24) (M.1 201 0).toNatClampNeg (z_mx (M.1 201) 6 347) = r_dgP M := z_ppl_cg (fun i hi => by
    have q := h.e (o := 2) (k0 := 0) (b0 := 10) (n := 12) (by decide) (k := i) (by omega)
    rw [Nat.zero_add] at q
    exact q) (fun i hi => by
    have q := h.e (o := 3) (k0 := 0) (b0 := 22) (n := 12) (by decide) (k := i) (by omega)
    rw [Nat.zero_add] at q
    exact q) (fun i hi => by
    have q := h.e (o := 4) (k0 := 0) (b0 := 34) (n := 480) (by decide) (k := i) (by omega)
    rw [Nat.zero_add] at q
    exact q)
  rw [eP]
  have eL : z_mx (M.1 34) (8 * (M.1 201 1).toNatClampNeg) (r_dgP M) = r_dgL M := z_mx_cg (fun i hi => by
    have q := h.e (o := 14) (k0 := 0) (b0 := 2838) (n := 240) (by decide) (k := i) (by omega)
    rw [Nat.zero_add] at q
    exact q)
  rw [eL]
  have eA : z_mx (M.1 32) (6 * (M.1 201 2).toNatClampNeg) (r_dgL M) = r_dgA M := z_mx_cg (fun i hi => h.acts hi)
  rw [eA]
  exact z_mx_cg (fun i hi => by
    have q := h.e (o := 16) (k0 := 0) (b0 := 3078) (n := 180) (by decide) (k := i) (by omega)
    rw [Nat.zero_add] at q
    exact q)
theorem LI.dgt (h : LI i1 i2 M) {t : Nat} (ht : t < 5) : 0 ≤ (M.1 (39 + 3 * t) 5).toInt ∧ (M.1 (39 + 3 * t) 5).toInt ≤ 50 ∧ z_mx (M.1 (40 + 3 * t)) (M.1 (39 + 3 * t) 5).toNatClampNeg (31 * r_dgT M t + (M.1 (39 + 3 * t) 5).toInt64) = r_dgT M (t + 1) := by
  have tx := h.i.tx ht
  have c := i_clamp tx.1
  have e5 := h.e (rl_c_tx t ht).1 (k := 0) (by decide)
  rw [show 20 + (19 + 3 * t) = 39 + 3 * t by omega, show 3508 + t + 0 = 3508 + t by omega] at e5
  have e5 : M.1 (39 + 3 * t) 5 = M.1 201 (3508 + t) := e5
  rw [e5]
  refine ⟨tx.1, tx.2, z_mx_cg (fun i hi => ?_)⟩
  have e := h.e (rl_c_tx t ht).2 (k := i) (by omega)
  rw [show 20 + (20 + 3 * t) = 40 + 3 * t by omega, Nat.zero_add] at e
  exact e
end LID
def kX7_digestE (live : am_E) (Ret : am_R) : am_code := [(0, am_const (.long 347) 3), (3, am_lstore 1 4 4), (4, am_const (.int 0) 5), (5, am_istore 3 4 6), (6, am_iload 3 7), (7, am_const (.int 5) 8), (8, am_if2 (fun x y => y < x) 30 11), (11, am_const (.long 31) 14), (14, am_lload 1 15), (15, am_l2 (fun x y => x * y) 16), (16, am_aload 0 17), (17, am_iload 3 18), (18, am_callV live 7 1 TX7_count 21), (21, am_i2l 22), (22, am_l2 (fun x y => x + y) 23), (23, am_lstore 1 4 24), (24, am_iinc 3 4 1 27), (27, am_goto 6), (30, am_aload 0 31), (31, am_getR live 7 0 34), (34, am_getR live 0 0 37), (37, am_lload 1 38), (38, am_callV live 2 1 TE2_mixed 41), (41, am_lstore 1 4 42), (42, am_aload 0 43), (43, am_getR live 7 0 46), (46, am_getR live 0 4 49), (49, am_lload 1 50), (50, am_callV live 3 1 TE3_mixed 53), (53, am_lstore 1 4 54), (54, am_aload 0 55), (55, am_getR live 7 0 58), (58, am_getR live 0 3 61), (61, am_lload 1 62), (62, am_callV live 3 1 TE3_mixed 65), (65, am_lstore 1 4 66), (66, am_aload 0 67), (67, am_getR live 7 0 70), (70, am_getR live 0 5 73), (73, am_lload 1 74), (74, am_callV live 3 1 TE3_mixed 77), (77, am_lstore 1 4 78), (78, am_const (.int 0) 79), (79, am_istore 3 4 80), (80, am_iload 3 81), (81, am_const (.int 5) 82), (82, am_if2 (fun x y => y ≤ x) 105 85), (85, am_aload 0 86), (86, am_getR live 7 0 89), (89, am_getR live 0 7 92), (92, am_iload 3 93), (93, am_aald live 3 94), (94, am_lload 1 95), (95, am_callV live 5 1 TE5_mixed 98), (98, am_lstore 1 4 99), (99, am_iinc 3 4 1 102), (102, am_goto 80), (105, am_aload 0 106), (106, am_const (.int 39) 108), (108, am_const (.int 39) 110), (110, am_callV live 7 2 TE7_runEverybody 113), (113, am_const (.int 0) 114), (114, am_istore 3 4 115), (115, am_iload 3 116), (116, am_aload 0 117), (117, am_getR live 7 0 120), (120, am_getR live 0 4 123), (123, am_getI live 3 2 126), (126, am_if2 (fun x y => y ≤ x) 172 129), (129, am_const (.long 31) 132), (132, am_lload 1 133), (133, am_l2 (fun x y => x * y) 134), (134, am_aload 0 135), (135, am_getR live 7 2 138), (138, am_getR live 4 2 141), (141, am_const (.int 0) 142), (142, am_iload 3 143), (143, am_i2 (fun x y => x + y) 144), (144, am_lald live 1 145), (145, am_l2 (fun x y => x + y) 146), (146, am_lstore 1 4 147), (147, am_const (.long 31) 150), (150, am_lload 1 151), (151, am_l2 (fun x y => x * y) 152), (152, am_aload 0 153), (153, am_getR live 7 2 156), (156, am_getR live 4 2 159), (159, am_const (.int 90) 161), (161, am_iload 3 162), (162, am_i2 (fun x y => x + y) 163), (163, am_lald live 1 164), (164, am_l2 (fun x y => x + y) 165), (165, am_lstore 1 4 166), (166, am_iinc 3 4 1 169), (169, am_goto 115), (172, am_lload 1 173), (173, am_retL Ret)]
theorem koX7_digestE (live : am_E) (Ret : am_R) : ∀ q ∈ kX7_digestE live Ret, am_ok RX7 cX7_digest 4 (some .long) 6 147 live Ret q.1 q.2 :=
  am_kz dzX7_digest <|
  am_kd (fun d => ak_ldc2 wd_871 d rfl) <|
  am_kd (fun d => ak_lstore_n d rfl rfl) <|
  am_kd (fun d => ak_iconst d (by decide +kernel) rfl) <|
  am_kd (fun d => ak_istore_n d rfl rfl) <|
  am_kd (fun d => ak_iload_n d rfl rfl) <|
  am_kd (fun d => ak_iconst d (by decide +kernel) rfl) <|
  am_kd (fun d => ak_icmp_gt d (by decide +kernel) rfl) <|
  am_kd (fun d => ak_ldc2 wd_872 d rfl) <|
  am_kd (fun d => ak_lload_n d rfl rfl) <|
  am_kd (fun d => ak_lmul d rfl) <|
  am_kd (fun d => ak_aload_n d rfl rfl) <|
  am_kd (fun d => ak_iload_n d rfl rfl) <|
  am_kd (fun d => ak_callV (C := RX7) (F := TX7) (N := 4) metX7_count rfl ⟨rfl, hy_X7_count⟩ (am_w5 wd_873 wd_864 wd_865 wd_58 wd_866) (by decide) d rfl) <|
  am_kd (fun d => ak_i2l d rfl) <|
  am_kd (fun d => ak_ladd d rfl) <|
  am_kd (fun d => ak_lstore_n d rfl rfl) <|
  am_kd (fun d => ak_iinc d (by decide +kernel) rfl) <|
  am_kd (fun d => ak_goto d (by decide +kernel)) <|
  am_kd (fun d => ak_aload_n d rfl rfl) <|
  am_kd (fun d => ak_getR (C := RX7) (T := TX7) (N := 4) rfl inX7w (by decide) rfl rfl rfl wd_390 d rfl) <|
  am_kd (fun d => ak_getR (C := RX0) (T := TX0) (N := 13) rfl inX0w (by decide) rfl rfl rfl wd_194 d rfl) <|
  am_kd (fun d => ak_lload_n d rfl rfl) <|
  am_kd (fun d => ak_callV (C := RX2) (F := TX2) (N := 8) metX2_mixedE rfl ⟨rfl, hy_X2_mixed⟩ (am_w5 wd_874 wd_875 wd_876 wd_62 wd_877) (by decide) d rfl) <|
  am_kd (fun d => ak_lstore_n d rfl rfl) <|
  am_kd (fun d => ak_aload_n d rfl rfl) <|
  am_kd (fun d => ak_getR (C := RX7) (T := TX7) (N := 4) rfl inX7w (by decide) rfl rfl rfl wd_390 d rfl) <|
  am_kd (fun d => ak_getR (C := RX0) (T := TX0) (N := 13) rfl inX0w (by decide) rfl rfl rfl wd_207 d rfl) <|
  am_kd (fun d => ak_lload_n d rfl rfl) <|
  am_kd (fun d => ak_callV (C := RX3) (F := TX3) (N := 3) metX3_mixedE rfl ⟨rfl, hy_X3_mixed⟩ (am_w5 wd_879 wd_880 wd_881 wd_64 wd_882) (by decide) d rfl) <|
  am_kd (fun d => ak_lstore_n d rfl rfl) <|
  am_kd (fun d => ak_aload_n d rfl rfl) <|
  am_kd (fun d => ak_getR (C := RX7) (T := TX7) (N := 4) rfl inX7w (by decide) rfl rfl rfl wd_390 d rfl) <|
  am_kd (fun d => ak_getR (C := RX0) (T := TX0) (N := 13) rfl inX0w (by decide) rfl rfl rfl wd_204 d rfl) <|
  am_kd (fun d => ak_lload_n d rfl rfl) <|
  am_kd (fun d => ak_callV (C := RX3) (F := TX3) (N := 3) metX3_mixedE rfl ⟨rfl, hy_X3_mixed⟩ (am_w5 wd_879 wd_880 wd_881 wd_64 wd_882) (by decide) d rfl) <|
  am_kd (fun d => ak_lstore_n d rfl rfl) <|
  am_kd (fun d => ak_aload_n d rfl rfl) <|
  am_kd (fun d => ak_getR (C := RX7) (T := TX7) (N := 4) rfl inX7w (by decide) rfl rfl rfl wd_390 d rfl) <|
  am_kd (fun d => ak_getR (C := RX0) (T := TX0) (N := 13) rfl inX0w (by decide) rfl rfl rfl wd_209 d rfl) <|
  am_kd (fun d => ak_lload_n d rfl rfl) <|
  am_kd (fun d => ak_callV (C := RX3) (F := TX3) (N := 3) metX3_mixedE rfl ⟨rfl, hy_X3_mixed⟩ (am_w5 wd_879 wd_880 wd_881 wd_64 wd_882) (by decide) d rfl) <|
  am_kd (fun d => ak_lstore_n d rfl rfl) <|
  am_kd (fun d => ak_iconst d (by decide +kernel) rfl) <|
  am_kd (fun d => ak_istore_n d rfl rfl) <|
  am_kd (fun d => ak_iload_n d rfl rfl) <|
  am_kd (fun d => ak_iconst d (by decide +kernel) rfl) <|
  am_kd (fun d => ak_icmp_ge d (by decide +kernel) rfl) <|
  am_kd (fun d => ak_aload_n d rfl rfl) <|
  am_kd (fun d => ak_getR (C := RX7) (T := TX7) (N := 4) rfl inX7w (by decide) rfl rfl rfl wd_390 d rfl) <|
  am_kd (fun d => ak_getR (C := RX0) (T := TX0) (N := 13) rfl inX0w (by decide) rfl rfl rfl wd_215 d rfl) <|
  am_kd (fun d => ak_iload_n d rfl rfl) <|
  am_kd (fun d => ak_aald (t := 3) (fun _ => rfl) rfl d rfl) <|
  am_kd (fun d => ak_lload_n d rfl rfl) <|
  am_kd (fun d => ak_callV (C := RX5) (F := TX5) (N := 7) metX5_mixedE rfl ⟨rfl, hy_X5_mixed⟩ (am_w5 wd_884 wd_885 wd_886 wd_65 wd_887) (by decide) d rfl) <|
  am_kd (fun d => ak_lstore_n d rfl rfl) <|
  am_kd (fun d => ak_iinc d (by decide +kernel) rfl) <|
  am_kd (fun d => ak_goto d (by decide +kernel)) <|
  am_kd (fun d => ak_aload_n d rfl rfl) <|
  am_kd (fun d => ak_bipush d (by decide +kernel) rfl) <|
  am_kd (fun d => ak_bipush d (by decide +kernel) rfl) <|
  am_kd (fun d => ak_callV (C := RX7) (F := TX7) (N := 4) metX7_runEverybodyE rfl ⟨rfl, hy_X7_runEverybody⟩ (am_w5 wd_743 wd_745 wd_23 wd_58 wd_746) (by decide) d rfl) <|
  am_kd (fun d => ak_iconst d (by decide +kernel) rfl) <|
  am_kd (fun d => ak_istore_n d rfl rfl) <|
  am_kd (fun d => ak_iload_n d rfl rfl) <|
  am_kd (fun d => ak_aload_n d rfl rfl) <|
  am_kd (fun d => ak_getR (C := RX7) (T := TX7) (N := 4) rfl inX7w (by decide) rfl rfl rfl wd_390 d rfl) <|
  am_kd (fun d => ak_getR (C := RX0) (T := TX0) (N := 13) rfl inX0w (by decide) rfl rfl rfl wd_207 d rfl) <|
  am_kd (fun d => ak_getI (C := RX3) (T := TX3) (N := 3) rfl inX3w (by decide) rfl rfl rfl wd_152 d rfl) <|
  am_kd (fun d => ak_icmp_ge d (by decide +kernel) rfl) <|
  am_kd (fun d => ak_ldc2 wd_872 d rfl) <|
  am_kd (fun d => ak_lload_n d rfl rfl) <|
  am_kd (fun d => ak_lmul d rfl) <|
  am_kd (fun d => ak_aload_n d rfl rfl) <|
  am_kd (fun d => ak_getR (C := RX7) (T := TX7) (N := 4) rfl inX7w (by decide) rfl rfl rfl wd_392 d rfl) <|
  am_kd (fun d => ak_getR (C := RX4) (T := TX4) (N := 19) rfl inX4w (by decide) rfl rfl rfl wd_298 d rfl) <|
  am_kd (fun d => ak_iconst d (by decide +kernel) rfl) <|
  am_kd (fun d => ak_iload_n d rfl rfl) <|
  am_kd (fun d => ak_iadd d rfl) <|
  am_kd (fun d => ak_lald (t := 1) (fun _ => rfl) rfl d rfl) <|
  am_kd (fun d => ak_ladd d rfl) <|
  am_kd (fun d => ak_lstore_n d rfl rfl) <|
  am_kd (fun d => ak_ldc2 wd_872 d rfl) <|
  am_kd (fun d => ak_lload_n d rfl rfl) <|
  am_kd (fun d => ak_lmul d rfl) <|
  am_kd (fun d => ak_aload_n d rfl rfl) <|
  am_kd (fun d => ak_getR (C := RX7) (T := TX7) (N := 4) rfl inX7w (by decide) rfl rfl rfl wd_392 d rfl) <|
  am_kd (fun d => ak_getR (C := RX4) (T := TX4) (N := 19) rfl inX4w (by decide) rfl rfl rfl wd_298 d rfl) <|
  am_kd (fun d => ak_bipush d (by decide +kernel) rfl) <|
  am_kd (fun d => ak_iload_n d rfl rfl) <|
  am_kd (fun d => ak_iadd d rfl) <|
  am_kd (fun d => ak_lald (t := 1) (fun _ => rfl) rfl d rfl) <|
  am_kd (fun d => ak_ladd d rfl) <|
  am_kd (fun d => ak_lstore_n d rfl rfl) <|
  am_kd (fun d => ak_iinc d (by decide +kernel) rfl) <|
  am_kd (fun d => ak_goto d (by decide +kernel)) <|
  am_kd (fun d => ak_lload_n d rfl rfl) <|
  am_kd (fun d => ak_retL d) <| am_kdn
def TE7_digest : am_T := fun live as M R => match as with
  | [.ref n] => am_mn live ∧ n = 0 ∧ (∃ i1 i2, LX i1 i2 M) ∧ ∀ M', g_sc M M' → g_rI M' → R (some (.long (r_digV M))) M'
  | _ => False
def JE7_digest : am_E → List Value → am_M → am_R → am_inv := fun live as M0 _ pc => match as with
  | [.ref n] => (match pc with
    | 6 => some ([0, 1, 3], fun u L st M => ∃ (v : Int64) (i : Int32), L = [(0, .ref 0), (1, .long v), (3, .int i)] ∧ st = [] ∧ u = (2000 + (8 - i.toInt).toNat, 0) ∧ (0 ≤ i.toInt ∧ i.toInt ≤ 6) ∧ v = z_mx (M0.1 201) i.toNatClampNeg 347 ∧ M = M0)
    | 80 => some ([0, 1, 3], fun u L st M => ∃ (v : Int64) (i : Int32), L = [(0, .ref 0), (1, .long v), (3, .int i)] ∧ st = [] ∧ u = (1000 + (8 - i.toInt).toNat, 0) ∧ (0 ≤ i.toInt ∧ i.toInt ≤ 5) ∧ v = r_dgT M0 i.toNatClampNeg ∧ M = M0)
    | 115 => some ([0, 1, 3], fun u L st M => ∃ (v : Int64) (i : Int32), L = [(0, .ref 0), (1, .long v), (3, .int i)] ∧ st = [] ∧ u = ((31 - i.toInt).toNat, 0) ∧ (0 ≤ i.toInt ∧ i.toInt ≤ (M0.1 201 1).toInt) ∧ v = r_dgR M0 i.toNatClampNeg ∧ g_sc M0 M ∧ g_rI M ∧ c_ev M0 39 39 (M0.1 201 0).toInt M)
    | _ => none)
  | _ => none
set_option maxRecDepth 100000 in
set_option maxHeartbeats 4000000 in
theorem metX7_digestE : am_Met yX7_digest cX7_digest 4 (some .long) (6) (147) TE7_digest := by
  refine am_met (own := RX7) (by decide +kernel) rfl kX7_digestE koX7_digestE 150 JE7_digest ?_ ?_
  · intro live as M Ret h
    unfold TE7_digest at h
    split at h
    · next n =>
      refine ⟨Nat.le_of_ble_eq_true rfl, ?_⟩
      change am_wp _ _ _ _ [(0, Value.ref n)] _ _
      obtain ⟨hmn, rfl, ⟨j1, j2, hX⟩, h⟩ := h
      have hmn2 := hmn
      obtain ⟨i1, i2, rfl⟩ := hmn2
      repeat' (first | (with_reducible exact hmn) | apply And.intro | exact rfl | (intro hx; exact absurd hx (by decide)) | (intro hx; exact absurd (by decide) hx) | decide | intro hx | (refine Exists.intro _ (And.intro rfl ?_)))
      all_goals try first | (with_reducible change am_tI _ _) | (change Ret _ _) | (change Ret _ _ _) | (change Exists _)
      all_goals try dsimp only at *
      all_goals try (with_reducible exact absurd ‹(1000 : Int64) = 0› am_z1000)
      all_goals exact ⟨_, _, _, rfl, rfl, rfl, ⟨by decide, by decide⟩, rfl, rfl⟩
    · exact h.elim
  · intro live as M0 Ret h k pc I hI L st M hi
    unfold TE7_digest at h
    split at h
    · next n =>
      obtain ⟨hmn, rfl, ⟨j1, j2, hX⟩, h⟩ := h
      have hmn2 := hmn
      obtain ⟨i1, i2, rfl⟩ := hmn2
      have li := hX.li
      change (match pc with | 6 => _ | 80 => _ | 115 => _ | _ => none) = _ at hI
      split at hI
      · cases hI
        obtain ⟨v, i, rfl, rfl, rfl, ⟨e1, e2⟩, ev, rfl⟩ := hi
        have ci := i_clamp e1
        by_cases hz : (5 : Int32) < i
        · have hz2 := hz
          simp only [i_lt, Int32.reduceToInt] at hz2
          have L := li.dgl
          have A := li.dga
          have Mv := li.dgm
          have y1 : 0 ≤ (M.1 33 2 * M.1 33 1).toInt := by omega
          have y2 : (M.1 33 2 * M.1 33 1).toInt ≤ (am_len 34 : Int) := by rw [show am_len 34 = 240 from rfl]; omega
          have y3 : 0 ≤ (M.1 31 2 * M.1 31 1).toInt := by omega
          have y4 : (M.1 31 2 * M.1 31 1).toInt ≤ (am_len 32 : Int) := by rw [show am_len 32 = 366 from rfl]; omega
          have y5 : 0 ≤ (M.1 35 2 * M.1 35 1).toInt := by omega
          have y6 : (M.1 35 2 * M.1 35 1).toInt ≤ (am_len 36 : Int) := by rw [show am_len 36 = 180 from rfl]; omega
          have hs : 0 ≤ (M.1 21 7).toInt ∧ (M.1 21 7).toInt ≤ 12 := by rw [li.e0]; exact li.n0
          have fin : z_mx (M.1 36) (M.1 35 2 * M.1 35 1).toNatClampNeg (z_mx (M.1 32) (M.1 31 2 * M.1 31 1).toNatClampNeg (z_mx (M.1 34) (M.1 33 2 * M.1 33 1).toNatClampNeg (z_ppl (M.1 22) (M.1 23) (M.1 24) (M.1 21 7).toNatClampNeg v))) = r_dgT M 0 := by
            rw [ev, show i.toNatClampNeg = 6 by omega]
            exact li.dg
          repeat' (first | (with_reducible exact hmn) | (with_reducible exact hs) | (with_reducible exact y1) | (with_reducible exact y2) | (with_reducible exact y3) | (with_reducible exact y4) | (with_reducible exact y5) | (with_reducible exact y6) | apply And.intro | exact rfl | (intro hx; with_reducible exact absurd hz hx) | (intro hx; exact absurd hx (by decide)) | (intro hx; exact absurd (by decide) hx) | decide | intro hx | (refine Exists.intro _ (And.intro rfl ?_)))
          all_goals try first | (with_reducible change am_tI _ _) | (change Ret _ _) | (change Ret _ _ _) | (change Exists _)
          all_goals try dsimp only at *
          all_goals try (with_reducible exact absurd ‹(1000 : Int64) = 0› am_z1000)
          all_goals first
            | exact ⟨_, am_lt_l (by simp only [Int32.reduceToInt]; omega), _, _, rfl, rfl, rfl, ⟨by decide, by decide⟩, fin, rfl⟩
            | skip
        · have hz2 := hz
          simp only [i_lt, Int32.reduceToInt] at hz2
          have hi := i_inc (x := i) (by omega) (by omega)
          have ci1 := i_clamp (x := i + 1) (by omega)
          have cnt := li.cnt (i := i) ⟨e1, by omega⟩
          have nx : 31 * v + (c_count M i).toInt64 = z_mx (M.1 201) (i + 1).toNatClampNeg 347 := by
            rw [cnt, show (i + 1).toNatClampNeg = i.toNatClampNeg + 1 by omega, ev]
            rfl
          repeat' (first | (with_reducible exact hmn) | apply And.intro | exact rfl | (intro hx; with_reducible exact absurd hx hz) | intro hx | (refine Exists.intro _ (And.intro rfl ?_)))
          all_goals try first | (with_reducible change am_tI _ _) | (change Ret _ _) | (change Ret _ _ _) | (change Exists _)
          all_goals try dsimp only at *
          all_goals try (with_reducible exact absurd ‹(1000 : Int64) = 0› am_z1000)
          all_goals exact ⟨_, am_lt_l (by omega), _, _, rfl, rfl, rfl, ⟨by omega, by omega⟩, nx, rfl⟩
      · cases hI
        obtain ⟨v, i, rfl, rfl, rfl, ⟨e1, e2⟩, ev, rfl⟩ := hi
        have ci := i_clamp e1
        by_cases hz : (5 : Int32) ≤ i
        · have hz2 := hz
          simp only [i_le, Int32.reduceToInt] at hz2
          have y39 : am_in (39 : Int32) 40 ∧ am_in (39 : Int32) 40 := ⟨⟨by decide, by decide⟩, ⟨by decide, by decide⟩⟩
          have n1 := li.n1
          rw [show i.toNatClampNeg = 5 by omega] at ev
          repeat' (first | (with_reducible exact hmn) | (with_reducible exact y39) | apply And.intro | exact rfl | (intro hx; with_reducible exact absurd hz hx) | intro hx | (refine Exists.intro _ (And.intro rfl ?_)))
          all_goals try first | (with_reducible change am_tI _ _) | (change Ret _ _) | (change Ret _ _ _) | (change Exists _)
          all_goals try dsimp only at *
          all_goals try (with_reducible exact absurd ‹(1000 : Int64) = 0› am_z1000)
          all_goals first
            | exact ⟨_, _, hX⟩
            | skip
          rename_i N c1 r1
          have ev1 := hx
          exact ⟨_, am_lt_l (by simp only [Int32.reduceToInt]; omega), _, _, rfl, rfl, rfl, ⟨by decide, n1.1⟩, ev, c1, r1, ev1⟩
        · have hz2 := hz
          simp only [i_le, Int32.reduceToInt] at hz2
          have hi := i_inc (x := i) (by omega) (by omega)
          have ci1 := i_clamp (x := i + 1) (by omega)
          have hp : am_in i 5 := ⟨e1, by omega⟩
          obtain ⟨t, s, c, h2, k1, k2, k3, h1, ht, et, es, ec, k4⟩ := g_txt hmn hp
          have l38 : am_len 38 = 5 := rfl
          obtain ⟨g1, g2, nx⟩ := li.dgt (t := i.toNatClampNeg) (by omega)
          rw [← et, ← es] at nx
          rw [← et] at g1 g2
          rw [← ev, show i.toNatClampNeg + 1 = (i + 1).toNatClampNeg by omega] at nx
          repeat' (first | (with_reducible exact hmn) | (with_reducible exact h1) | (with_reducible exact h2) | (refine Exists.intro _ (And.intro h2 ?_)) | apply And.intro | exact rfl | (intro hx; with_reducible exact absurd hx hz) | intro hx | (refine Exists.intro _ (And.intro rfl ?_)) | (refine am_tP_in k1 k2 k3 ?_) | ((with_reducible change _ = true); simp only [h1, h2, Bool.true_and]; rfl))
          all_goals try first | (with_reducible change am_tI _ _) | (change Ret _ _) | (change Ret _ _ _) | (change Exists _)
          all_goals try dsimp only at *
          all_goals try (with_reducible exact absurd ‹(1000 : Int64) = 0› am_z1000)
          all_goals first
            | (with_reducible exact hp.1)
            | (rw [l38]; exact hp.2)
            | (with_reducible exact g1)
            | (with_reducible exact g2)
            | exact hp.1
            | exact g1
            | exact g2
            | exact ⟨_, am_lt_l (by omega), _, _, rfl, rfl, rfl, ⟨by omega, by omega⟩, nx, rfl⟩
      · cases hI
        obtain ⟨v, i, rfl, rfl, rfl, ⟨e1, e4⟩, rfl, e2, e3, ee⟩ := hi
        have c1 : M.1 33 2 = M0.1 201 1 := (e2.i 2 (by decide)).trans li.e1
        have n1 := li.n1
        have cn : (r_n M0 : Int) = (M0.1 201 1).toInt := i_clamp n1.1
        have ci := i_clamp e1
        by_cases hz : M.1 33 2 ≤ i
        · have hz2 := hz
          rw [c1] at hz2
          simp only [i_le] at hz2
          have hh := h M e2 e3
          rw [show r_digV M0 = r_dgR M0 i.toNatClampNeg by unfold r_digV; rw [show i.toNatClampNeg = r_n M0 by omega]] at hh
          repeat' (first | (with_reducible exact hmn) | apply And.intro | exact rfl | (intro hx; with_reducible exact absurd hz hx) | intro hx | (refine Exists.intro _ (And.intro rfl ?_)))
          all_goals try first | (with_reducible change am_tI _ _) | (change Ret _ _) | (change Ret _ _ _) | (change Exists _)
          all_goals try dsimp only at *
          all_goals try (with_reducible exact absurd ‹(1000 : Int64) = 0› am_z1000)
          all_goals exact hh
        · have hz2 := hz
          rw [c1] at hz2
          simp only [i_le] at hz2
          have hi := i_inc (x := i) (by omega) (by omega)
          have ci1 := i_clamp (x := i + 1) (by omega)
          have hl : am_in i 30 := ⟨e1, by omega⟩
          have gl := g_cl hl
          have ol := o_cl hl (by decide)
          have f0 := g_ix hl 0 0 rfl (by decide)
          have f90 := g_ix hl 90 90 rfl (by decide)
          have l6 : am_len 6 = 180 := rfl
          obtain ⟨-, hp2, -⟩ := li.pe hl (by omega)
          have v6 := (ee.v hl (by omega) hp2).1
          have v0 := v6 0 (by decide)
          have v3 := v6 3 (by decide)
          rw [Nat.mul_zero, show (39 : Int32).toNatClampNeg + 1 = 40 from rfl, ← f0.2.2] at v0
          rw [show 30 * 3 = 90 from rfl, show (39 : Int32).toNatClampNeg + 1 = 40 from rfl, ← f90.2.2] at v3
          have nx : 31 * (31 * r_dgR M0 i.toNatClampNeg + M.2 6 (0 + i).toNatClampNeg) + M.2 6 (90 + i).toNatClampNeg = r_dgR M0 (i + 1).toNatClampNeg := by
            rw [v0, v3, f0.2.2, f90.2.2, Nat.zero_add, show (i + 1).toNatClampNeg = i.toNatClampNeg + 1 by omega]
            show _ = 31 * (31 * r_dgR M0 i.toNatClampNeg + (r_R M0 (r_lo M0 (Int32.ofNat i.toNatClampNeg) 0) 39 40).1 i.toNatClampNeg) + (r_R M0 (r_lo M0 (Int32.ofNat i.toNatClampNeg) 0) 39 40).1 (90 + i.toNatClampNeg)
            rw [ol]
          repeat' (first | (with_reducible exact hmn) | apply And.intro | exact rfl | (intro hx; with_reducible exact absurd hx hz) | intro hx | (refine Exists.intro _ (And.intro rfl ?_)))
          all_goals try first | (with_reducible change am_tI _ _) | (change Ret _ _) | (change Ret _ _ _) | (change Exists _)
          all_goals try dsimp only at *
          all_goals try (with_reducible exact absurd ‹(1000 : Int64) = 0› am_z1000)
          all_goals first
            | (with_reducible exact f0.1)
            | (rw [l6]; exact f0.2.1)
            | (with_reducible exact f90.1)
            | (rw [l6]; exact f90.2.1)
            | exact f0.1
            | exact f90.1
            | exact ⟨_, am_lt_l (by omega), _, _, rfl, rfl, rfl, ⟨by omega, by omega⟩, nx, e2, e3, ee⟩
            | skip
      · cases hI
    · exact h.elim
end
-- part 79zt.dig2.lean.txt
section
/-! exact: digest: the reference -/
theorem z_mx_0 {g : Nat → Int32} {h : Int64} : z_mx g 0 h = h := rfl
theorem z_mx_s {g : Nat → Int32} {n : Nat} {h : Int64} : z_mx g (n + 1) h = 31 * z_mx g n h + (g n).toInt64 := rfl
theorem z_ppl_0 {b d l : Nat → Int32} {h : Int64} : z_ppl b d l 0 h = h := rfl
theorem z_ppl_s {b d l : Nat → Int32} {n : Nat} {h : Int64} : z_ppl b d l (n + 1) h = z_mx (fun y => l (40 * n + y)) 40 (31 * (31 * z_ppl b d l n h + (b n).toInt64) + (d n).toInt64) := rfl
theorem i_c0 : (0 : Int32).toNatClampNeg = 0 := rfl
theorem r_dgT_0 {M : am_M} : r_dgT M 0 = r_dgM M := by unfold r_dgT; rfl
theorem r_dgT_s {M : am_M} {t : Nat} : r_dgT M (t + 1) = z_mx (fun i => M.1 201 (3258 + 50 * t + i)) (M.1 201 (3508 + t)).toNatClampNeg (31 * r_dgT M t + (M.1 201 (3508 + t)).toInt64) := by
  conv => lhs; unfold r_dgT
theorem r_dgR_0 {M : am_M} : r_dgR M 0 = r_dgT M 5 := by unfold r_dgR; rfl
theorem r_dgR_s {M : am_M} {l : Nat} : r_dgR M (l + 1) = 31 * (31 * r_dgR M l + (r_R M (r_lo M (Int32.ofNat l) 0) 39 40).1 l) + (r_R M (r_lo M (Int32.ofNat l) 0) 39 40).1 (90 + l) := by
  conv => lhs; unfold r_dgR
def kX8_digestE (live : am_E) (Ret : am_R) : am_code := [(0, am_const (.long 347) 3), (3, am_lstore 1 5 4), (4, am_const (.int 0) 5), (5, am_istore 3 5 6), (6, am_iload 3 7), (7, am_const (.int 6) 9), (9, am_if2 (fun x y => y ≤ x) 32 12), (12, am_const (.long 31) 15), (15, am_lload 1 16), (16, am_l2 (fun x y => x * y) 17), (17, am_aload 0 18), (18, am_getR live 8 0 21), (21, am_iload 3 22), (22, am_ald live 0 23), (23, am_i2l 24), (24, am_l2 (fun x y => x + y) 25), (25, am_lstore 1 5 26), (26, am_iinc 3 5 1 29), (29, am_goto 6), (32, am_const (.int 0) 33), (33, am_istore 3 5 34), (34, am_iload 3 35), (35, am_aload 0 36), (36, am_getR live 8 0 39), (39, am_const (.int 0) 40), (40, am_ald live 0 41), (41, am_if2 (fun x y => y ≤ x) 123 44), (44, am_const (.long 31) 47), (47, am_lload 1 48), (48, am_l2 (fun x y => x * y) 49), (49, am_aload 0 50), (50, am_getR live 8 0 53), (53, am_const (.int 10) 55), (55, am_iload 3 56), (56, am_i2 (fun x y => x + y) 57), (57, am_ald live 0 58), (58, am_i2l 59), (59, am_l2 (fun x y => x + y) 60), (60, am_lstore 1 5 61), (61, am_const (.long 31) 64), (64, am_lload 1 65), (65, am_l2 (fun x y => x * y) 66), (66, am_aload 0 67), (67, am_getR live 8 0 70), (70, am_const (.int 22) 72), (72, am_iload 3 73), (73, am_i2 (fun x y => x + y) 74), (74, am_ald live 0 75), (75, am_i2l 76), (76, am_l2 (fun x y => x + y) 77), (77, am_lstore 1 5 78), (78, am_const (.int 0) 79), (79, am_istore 4 5 81), (81, am_iload 4 83), (83, am_const (.int 40) 85), (85, am_if2 (fun x y => y ≤ x) 117 88), (88, am_const (.long 31) 91), (91, am_lload 1 92), (92, am_l2 (fun x y => x * y) 93), (93, am_aload 0 94), (94, am_getR live 8 0 97), (97, am_const (.int 34) 99), (99, am_const (.int 40) 101), (101, am_iload 3 102), (102, am_i2 (fun x y => x * y) 103), (103, am_i2 (fun x y => x + y) 104), (104, am_iload 4 106), (106, am_i2 (fun x y => x + y) 107), (107, am_ald live 0 108), (108, am_i2l 109), (109, am_l2 (fun x y => x + y) 110), (110, am_lstore 1 5 111), (111, am_iinc 4 5 1 114), (114, am_goto 81), (117, am_iinc 3 5 1 120), (120, am_goto 34), (123, am_const (.int 0) 124), (124, am_istore 3 5 125), (125, am_iload 3 126), (126, am_const (.int 8) 128), (128, am_aload 0 129), (129, am_getR live 8 0 132), (132, am_const (.int 1) 133), (133, am_ald live 0 134), (134, am_i2 (fun x y => x * y) 135), (135, am_if2 (fun x y => y ≤ x) 162 138), (138, am_const (.long 31) 141), (141, am_lload 1 142), (142, am_l2 (fun x y => x * y) 143), (143, am_aload 0 144), (144, am_getR live 8 0 147), (147, am_const (.int 2838) 150), (150, am_iload 3 151), (151, am_i2 (fun x y => x + y) 152), (152, am_ald live 0 153), (153, am_i2l 154), (154, am_l2 (fun x y => x + y) 155), (155, am_lstore 1 5 156), (156, am_iinc 3 5 1 159), (159, am_goto 125), (162, am_const (.int 0) 163), (163, am_istore 3 5 164), (164, am_iload 3 165), (165, am_const (.int 6) 167), (167, am_aload 0 168), (168, am_getR live 8 0 171), (171, am_const (.int 2) 172), (172, am_ald live 0 173), (173, am_i2 (fun x y => x * y) 174), (174, am_if2 (fun x y => y ≤ x) 201 177), (177, am_const (.long 31) 180), (180, am_lload 1 181), (181, am_l2 (fun x y => x * y) 182), (182, am_aload 0 183), (183, am_getR live 8 0 186), (186, am_const (.int 2478) 189), (189, am_iload 3 190), (190, am_i2 (fun x y => x + y) 191), (191, am_ald live 0 192), (192, am_i2l 193), (193, am_l2 (fun x y => x + y) 194), (194, am_lstore 1 5 195), (195, am_iinc 3 5 1 198), (198, am_goto 164), (201, am_const (.int 0) 202), (202, am_istore 3 5 203), (203, am_iload 3 204), (204, am_const (.int 3) 205), (205, am_aload 0 206), (206, am_getR live 8 0 209), (209, am_const (.int 3) 210), (210, am_ald live 0 211), (211, am_i2 (fun x y => x * y) 212), (212, am_if2 (fun x y => y ≤ x) 239 215), (215, am_const (.long 31) 218), (218, am_lload 1 219), (219, am_l2 (fun x y => x * y) 220), (220, am_aload 0 221), (221, am_getR live 8 0 224), (224, am_const (.int 3078) 227), (227, am_iload 3 228), (228, am_i2 (fun x y => x + y) 229), (229, am_ald live 0 230), (230, am_i2l 231), (231, am_l2 (fun x y => x + y) 232), (232, am_lstore 1 5 233), (233, am_iinc 3 5 1 236), (236, am_goto 203), (239, am_const (.int 0) 240), (240, am_istore 3 5 241), (241, am_iload 3 242), (242, am_const (.int 5) 243), (243, am_if2 (fun x y => y ≤ x) 318 246), (246, am_const (.long 31) 249), (249, am_lload 1 250), (250, am_l2 (fun x y => x * y) 251), (251, am_aload 0 252), (252, am_getR live 8 0 255), (255, am_const (.int 3508) 258), (258, am_iload 3 259), (259, am_i2 (fun x y => x + y) 260), (260, am_ald live 0 261), (261, am_i2l 262), (262, am_l2 (fun x y => x + y) 263), (263, am_lstore 1 5 264), (264, am_const (.int 0) 265), (265, am_istore 4 5 267), (267, am_iload 4 269), (269, am_aload 0 270), (270, am_getR live 8 0 273), (273, am_const (.int 3508) 276), (276, am_iload 3 277), (277, am_i2 (fun x y => x + y) 278), (278, am_ald live 0 279), (279, am_if2 (fun x y => y ≤ x) 312 282), (282, am_const (.long 31) 285), (285, am_lload 1 286), (286, am_l2 (fun x y => x * y) 287), (287, am_aload 0 288), (288, am_getR live 8 0 291), (291, am_const (.int 3258) 294), (294, am_const (.int 50) 296), (296, am_iload 3 297), (297, am_i2 (fun x y => x * y) 298), (298, am_i2 (fun x y => x + y) 299), (299, am_iload 4 301), (301, am_i2 (fun x y => x + y) 302), (302, am_ald live 0 303), (303, am_i2l 304), (304, am_l2 (fun x y => x + y) 305), (305, am_lstore 1 5 306), (306, am_iinc 4 5 1 309), (309, am_goto 267), (312, am_iinc 3 5 1 315), (315, am_goto 241), (318, am_const (.int 0) 319), (319, am_istore 3 5 320), (320, am_iload 3 321), (321, am_aload 0 322), (322, am_getR live 8 0 325), (325, am_const (.int 1) 326), (326, am_ald live 0 327), (327, am_if2 (fun x y => y ≤ x) 376 330), (330, am_aload 0 331), (331, am_aload 0 332), (332, am_iload 3 333), (333, am_const (.int 0) 334), (334, am_callV live 8 2 TX8_ofLoan 337), (337, am_const (.int 39) 339), (339, am_const (.int 39) 341), (341, am_callV live 8 3 TE8_run 344), (344, am_const (.long 31) 347), (347, am_lload 1 348), (348, am_l2 (fun x y => x * y) 349), (349, am_aload 0 350), (350, am_getR live 8 15 353), (353, am_iload 3 354), (354, am_lald live 1 355), (355, am_l2 (fun x y => x + y) 356), (356, am_lstore 1 5 357), (357, am_const (.long 31) 360), (360, am_lload 1 361), (361, am_l2 (fun x y => x * y) 362), (362, am_aload 0 363), (363, am_getR live 8 17 366), (366, am_iload 3 367), (367, am_lald live 1 368), (368, am_l2 (fun x y => x + y) 369), (369, am_lstore 1 5 370), (370, am_iinc 3 5 1 373), (373, am_goto 320), (376, am_lload 1 377), (377, am_retL Ret)]
theorem koX8_digestE (live : am_E) (Ret : am_R) : ∀ q ∈ kX8_digestE live Ret, am_ok RX8 cX8_digest 5 (some .long) 10 253 live Ret q.1 q.2 :=
  am_kz dzX8_digest <|
  am_kd (fun d => ak_ldc2 wd_1305 d rfl) <|
  am_kd (fun d => ak_lstore_n d rfl rfl) <|
  am_kd (fun d => ak_iconst d (by decide +kernel) rfl) <|
  am_kd (fun d => ak_istore_n d rfl rfl) <|
  am_kd (fun d => ak_iload_n d rfl rfl) <|
  am_kd (fun d => ak_bipush d (by decide +kernel) rfl) <|
  am_kd (fun d => ak_icmp_ge d (by decide +kernel) rfl) <|
  am_kd (fun d => ak_ldc2 wd_1306 d rfl) <|
  am_kd (fun d => ak_lload_n d rfl rfl) <|
  am_kd (fun d => ak_lmul d rfl) <|
  am_kd (fun d => ak_aload_n d rfl rfl) <|
  am_kd (fun d => ak_getR (C := RX8) (T := TX8) (N := 27) rfl inX8w (by decide) rfl rfl rfl wd_895 d rfl) <|
  am_kd (fun d => ak_iload_n d rfl rfl) <|
  am_kd (fun d => ak_iald (t := 0) (fun _ => rfl) rfl d rfl) <|
  am_kd (fun d => ak_i2l d rfl) <|
  am_kd (fun d => ak_ladd d rfl) <|
  am_kd (fun d => ak_lstore_n d rfl rfl) <|
  am_kd (fun d => ak_iinc d (by decide +kernel) rfl) <|
  am_kd (fun d => ak_goto d (by decide +kernel)) <|
  am_kd (fun d => ak_iconst d (by decide +kernel) rfl) <|
  am_kd (fun d => ak_istore_n d rfl rfl) <|
  am_kd (fun d => ak_iload_n d rfl rfl) <|
  am_kd (fun d => ak_aload_n d rfl rfl) <|
  am_kd (fun d => ak_getR (C := RX8) (T := TX8) (N := 27) rfl inX8w (by decide) rfl rfl rfl wd_895 d rfl) <|
  am_kd (fun d => ak_iconst d (by decide +kernel) rfl) <|
  am_kd (fun d => ak_iald (t := 0) (fun _ => rfl) rfl d rfl) <|
  am_kd (fun d => ak_icmp_ge d (by decide +kernel) rfl) <|
  am_kd (fun d => ak_ldc2 wd_1306 d rfl) <|
  am_kd (fun d => ak_lload_n d rfl rfl) <|
  am_kd (fun d => ak_lmul d rfl) <|
  am_kd (fun d => ak_aload_n d rfl rfl) <|
  am_kd (fun d => ak_getR (C := RX8) (T := TX8) (N := 27) rfl inX8w (by decide) rfl rfl rfl wd_895 d rfl) <|
  am_kd (fun d => ak_bipush d (by decide +kernel) rfl) <|
  am_kd (fun d => ak_iload_n d rfl rfl) <|
  am_kd (fun d => ak_iadd d rfl) <|
  am_kd (fun d => ak_iald (t := 0) (fun _ => rfl) rfl d rfl) <|
  am_kd (fun d => ak_i2l d rfl) <|
  am_kd (fun d => ak_ladd d rfl) <|
  am_kd (fun d => ak_lstore_n d rfl rfl) <|
  am_kd (fun d => ak_ldc2 wd_1306 d rfl) <|
  am_kd (fun d => ak_lload_n d rfl rfl) <|
  am_kd (fun d => ak_lmul d rfl) <|
  am_kd (fun d => ak_aload_n d rfl rfl) <|
  am_kd (fun d => ak_getR (C := RX8) (T := TX8) (N := 27) rfl inX8w (by decide) rfl rfl rfl wd_895 d rfl) <|
  am_kd (fun d => ak_bipush d (by decide +kernel) rfl) <|
  am_kd (fun d => ak_iload_n d rfl rfl) <|
  am_kd (fun d => ak_iadd d rfl) <|
  am_kd (fun d => ak_iald (t := 0) (fun _ => rfl) rfl d rfl) <|
  am_kd (fun d => ak_i2l d rfl) <|
  am_kd (fun d => ak_ladd d rfl) <|
  am_kd (fun d => ak_lstore_n d rfl rfl) <|
  am_kd (fun d => ak_iconst d (by decide +kernel) rfl) <|
  am_kd (fun d => ak_istore d rfl) <|
  am_kd (fun d => ak_iload d rfl) <|
  am_kd (fun d => ak_bipush d (by decide +kernel) rfl) <|
  am_kd (fun d => ak_icmp_ge d (by decide +kernel) rfl) <|
  am_kd (fun d => ak_ldc2 wd_1306 d rfl) <|
  am_kd (fun d => ak_lload_n d rfl rfl) <|
  am_kd (fun d => ak_lmul d rfl) <|
  am_kd (fun d => ak_aload_n d rfl rfl) <|
  am_kd (fun d => ak_getR (C := RX8) (T := TX8) (N := 27) rfl inX8w (by decide) rfl rfl rfl wd_895 d rfl) <|
  am_kd (fun d => ak_bipush d (by decide +kernel) rfl) <|
  am_kd (fun d => ak_bipush d (by decide +kernel) rfl) <|
  am_kd (fun d => ak_iload_n d rfl rfl) <|
  am_kd (fun d => ak_imul d rfl) <|
  am_kd (fun d => ak_iadd d rfl) <|
  am_kd (fun d => ak_iload d rfl) <|
  am_kd (fun d => ak_iadd d rfl) <|
  am_kd (fun d => ak_iald (t := 0) (fun _ => rfl) rfl d rfl) <|
  am_kd (fun d => ak_i2l d rfl) <|
  am_kd (fun d => ak_ladd d rfl) <|
  am_kd (fun d => ak_lstore_n d rfl rfl) <|
  am_kd (fun d => ak_iinc d (by decide +kernel) rfl) <|
  am_kd (fun d => ak_goto d (by decide +kernel)) <|
  am_kd (fun d => ak_iinc d (by decide +kernel) rfl) <|
  am_kd (fun d => ak_goto d (by decide +kernel)) <|
  am_kd (fun d => ak_iconst d (by decide +kernel) rfl) <|
  am_kd (fun d => ak_istore_n d rfl rfl) <|
  am_kd (fun d => ak_iload_n d rfl rfl) <|
  am_kd (fun d => ak_bipush d (by decide +kernel) rfl) <|
  am_kd (fun d => ak_aload_n d rfl rfl) <|
  am_kd (fun d => ak_getR (C := RX8) (T := TX8) (N := 27) rfl inX8w (by decide) rfl rfl rfl wd_895 d rfl) <|
  am_kd (fun d => ak_iconst d (by decide +kernel) rfl) <|
  am_kd (fun d => ak_iald (t := 0) (fun _ => rfl) rfl d rfl) <|
  am_kd (fun d => ak_imul d rfl) <|
  am_kd (fun d => ak_icmp_ge d (by decide +kernel) rfl) <|
  am_kd (fun d => ak_ldc2 wd_1306 d rfl) <|
  am_kd (fun d => ak_lload_n d rfl rfl) <|
  am_kd (fun d => ak_lmul d rfl) <|
  am_kd (fun d => ak_aload_n d rfl rfl) <|
  am_kd (fun d => ak_getR (C := RX8) (T := TX8) (N := 27) rfl inX8w (by decide) rfl rfl rfl wd_895 d rfl) <|
  am_kd (fun d => ak_sipush d (by decide +kernel) rfl) <|
  am_kd (fun d => ak_iload_n d rfl rfl) <|
  am_kd (fun d => ak_iadd d rfl) <|
  am_kd (fun d => ak_iald (t := 0) (fun _ => rfl) rfl d rfl) <|
  am_kd (fun d => ak_i2l d rfl) <|
  am_kd (fun d => ak_ladd d rfl) <|
  am_kd (fun d => ak_lstore_n d rfl rfl) <|
  am_kd (fun d => ak_iinc d (by decide +kernel) rfl) <|
  am_kd (fun d => ak_goto d (by decide +kernel)) <|
  am_kd (fun d => ak_iconst d (by decide +kernel) rfl) <|
  am_kd (fun d => ak_istore_n d rfl rfl) <|
  am_kd (fun d => ak_iload_n d rfl rfl) <|
  am_kd (fun d => ak_bipush d (by decide +kernel) rfl) <|
  am_kd (fun d => ak_aload_n d rfl rfl) <|
  am_kd (fun d => ak_getR (C := RX8) (T := TX8) (N := 27) rfl inX8w (by decide) rfl rfl rfl wd_895 d rfl) <|
  am_kd (fun d => ak_iconst d (by decide +kernel) rfl) <|
  am_kd (fun d => ak_iald (t := 0) (fun _ => rfl) rfl d rfl) <|
  am_kd (fun d => ak_imul d rfl) <|
  am_kd (fun d => ak_icmp_ge d (by decide +kernel) rfl) <|
  am_kd (fun d => ak_ldc2 wd_1306 d rfl) <|
  am_kd (fun d => ak_lload_n d rfl rfl) <|
  am_kd (fun d => ak_lmul d rfl) <|
  am_kd (fun d => ak_aload_n d rfl rfl) <|
  am_kd (fun d => ak_getR (C := RX8) (T := TX8) (N := 27) rfl inX8w (by decide) rfl rfl rfl wd_895 d rfl) <|
  am_kd (fun d => ak_sipush d (by decide +kernel) rfl) <|
  am_kd (fun d => ak_iload_n d rfl rfl) <|
  am_kd (fun d => ak_iadd d rfl) <|
  am_kd (fun d => ak_iald (t := 0) (fun _ => rfl) rfl d rfl) <|
  am_kd (fun d => ak_i2l d rfl) <|
  am_kd (fun d => ak_ladd d rfl) <|
  am_kd (fun d => ak_lstore_n d rfl rfl) <|
  am_kd (fun d => ak_iinc d (by decide +kernel) rfl) <|
  am_kd (fun d => ak_goto d (by decide +kernel)) <|
  am_kd (fun d => ak_iconst d (by decide +kernel) rfl) <|
  am_kd (fun d => ak_istore_n d rfl rfl) <|
  am_kd (fun d => ak_iload_n d rfl rfl) <|
  am_kd (fun d => ak_iconst d (by decide +kernel) rfl) <|
  am_kd (fun d => ak_aload_n d rfl rfl) <|
  am_kd (fun d => ak_getR (C := RX8) (T := TX8) (N := 27) rfl inX8w (by decide) rfl rfl rfl wd_895 d rfl) <|
  am_kd (fun d => ak_iconst d (by decide +kernel) rfl) <|
  am_kd (fun d => ak_iald (t := 0) (fun _ => rfl) rfl d rfl) <|
  am_kd (fun d => ak_imul d rfl) <|
  am_kd (fun d => ak_icmp_ge d (by decide +kernel) rfl) <|
  am_kd (fun d => ak_ldc2 wd_1306 d rfl) <|
  am_kd (fun d => ak_lload_n d rfl rfl) <|
  am_kd (fun d => ak_lmul d rfl) <|
  am_kd (fun d => ak_aload_n d rfl rfl) <|
  am_kd (fun d => ak_getR (C := RX8) (T := TX8) (N := 27) rfl inX8w (by decide) rfl rfl rfl wd_895 d rfl) <|
  am_kd (fun d => ak_sipush d (by decide +kernel) rfl) <|
  am_kd (fun d => ak_iload_n d rfl rfl) <|
  am_kd (fun d => ak_iadd d rfl) <|
  am_kd (fun d => ak_iald (t := 0) (fun _ => rfl) rfl d rfl) <|
  am_kd (fun d => ak_i2l d rfl) <|
  am_kd (fun d => ak_ladd d rfl) <|
  am_kd (fun d => ak_lstore_n d rfl rfl) <|
  am_kd (fun d => ak_iinc d (by decide +kernel) rfl) <|
  am_kd (fun d => ak_goto d (by decide +kernel)) <|
  am_kd (fun d => ak_iconst d (by decide +kernel) rfl) <|
  am_kd (fun d => ak_istore_n d rfl rfl) <|
  am_kd (fun d => ak_iload_n d rfl rfl) <|
  am_kd (fun d => ak_iconst d (by decide +kernel) rfl) <|
  am_kd (fun d => ak_icmp_ge d (by decide +kernel) rfl) <|
  am_kd (fun d => ak_ldc2 wd_1306 d rfl) <|
  am_kd (fun d => ak_lload_n d rfl rfl) <|
  am_kd (fun d => ak_lmul d rfl) <|
  am_kd (fun d => ak_aload_n d rfl rfl) <|
  am_kd (fun d => ak_getR (C := RX8) (T := TX8) (N := 27) rfl inX8w (by decide) rfl rfl rfl wd_895 d rfl) <|
  am_kd (fun d => ak_sipush d (by decide +kernel) rfl) <|
  am_kd (fun d => ak_iload_n d rfl rfl) <|
  am_kd (fun d => ak_iadd d rfl) <|
  am_kd (fun d => ak_iald (t := 0) (fun _ => rfl) rfl d rfl) <|
  am_kd (fun d => ak_i2l d rfl) <|
  am_kd (fun d => ak_ladd d rfl) <|
  am_kd (fun d => ak_lstore_n d rfl rfl) <|
  am_kd (fun d => ak_iconst d (by decide +kernel) rfl) <|
  am_kd (fun d => ak_istore d rfl) <|
  am_kd (fun d => ak_iload d rfl) <|
  am_kd (fun d => ak_aload_n d rfl rfl) <|
  am_kd (fun d => ak_getR (C := RX8) (T := TX8) (N := 27) rfl inX8w (by decide) rfl rfl rfl wd_895 d rfl) <|
  am_kd (fun d => ak_sipush d (by decide +kernel) rfl) <|
  am_kd (fun d => ak_iload_n d rfl rfl) <|
  am_kd (fun d => ak_iadd d rfl) <|
  am_kd (fun d => ak_iald (t := 0) (fun _ => rfl) rfl d rfl) <|
  am_kd (fun d => ak_icmp_ge d (by decide +kernel) rfl) <|
  am_kd (fun d => ak_ldc2 wd_1306 d rfl) <|
  am_kd (fun d => ak_lload_n d rfl rfl) <|
  am_kd (fun d => ak_lmul d rfl) <|
  am_kd (fun d => ak_aload_n d rfl rfl) <|
  am_kd (fun d => ak_getR (C := RX8) (T := TX8) (N := 27) rfl inX8w (by decide) rfl rfl rfl wd_895 d rfl) <|
  am_kd (fun d => ak_sipush d (by decide +kernel) rfl) <|
  am_kd (fun d => ak_bipush d (by decide +kernel) rfl) <|
  am_kd (fun d => ak_iload_n d rfl rfl) <|
  am_kd (fun d => ak_imul d rfl) <|
  am_kd (fun d => ak_iadd d rfl) <|
  am_kd (fun d => ak_iload d rfl) <|
  am_kd (fun d => ak_iadd d rfl) <|
  am_kd (fun d => ak_iald (t := 0) (fun _ => rfl) rfl d rfl) <|
  am_kd (fun d => ak_i2l d rfl) <|
  am_kd (fun d => ak_ladd d rfl) <|
  am_kd (fun d => ak_lstore_n d rfl rfl) <|
  am_kd (fun d => ak_iinc d (by decide +kernel) rfl) <|
  am_kd (fun d => ak_goto d (by decide +kernel)) <|
  am_kd (fun d => ak_iinc d (by decide +kernel) rfl) <|
  am_kd (fun d => ak_goto d (by decide +kernel)) <|
  am_kd (fun d => ak_iconst d (by decide +kernel) rfl) <|
  am_kd (fun d => ak_istore_n d rfl rfl) <|
  am_kd (fun d => ak_iload_n d rfl rfl) <|
  am_kd (fun d => ak_aload_n d rfl rfl) <|
  am_kd (fun d => ak_getR (C := RX8) (T := TX8) (N := 27) rfl inX8w (by decide) rfl rfl rfl wd_895 d rfl) <|
  am_kd (fun d => ak_iconst d (by decide +kernel) rfl) <|
  am_kd (fun d => ak_iald (t := 0) (fun _ => rfl) rfl d rfl) <|
  am_kd (fun d => ak_icmp_ge d (by decide +kernel) rfl) <|
  am_kd (fun d => ak_aload_n d rfl rfl) <|
  am_kd (fun d => ak_aload_n d rfl rfl) <|
  am_kd (fun d => ak_iload_n d rfl rfl) <|
  am_kd (fun d => ak_iconst d (by decide +kernel) rfl) <|
  am_kd (fun d => ak_callV (C := RX8) (F := TX8) (N := 27) metX8_ofLoan rfl ⟨rfl, hy_X8_ofLoan⟩ (am_w5 wd_1154 wd_1156 wd_41 wd_67 wd_1157) (by decide) d rfl) <|
  am_kd (fun d => ak_bipush d (by decide +kernel) rfl) <|
  am_kd (fun d => ak_bipush d (by decide +kernel) rfl) <|
  am_kd (fun d => ak_callV (C := RX8) (F := TX8) (N := 27) metX8_runE rfl ⟨rfl, hy_X8_run⟩ (am_w5 wd_1158 wd_1160 wd_42 wd_67 wd_1161) (by decide) d rfl) <|
  am_kd (fun d => ak_ldc2 wd_1306 d rfl) <|
  am_kd (fun d => ak_lload_n d rfl rfl) <|
  am_kd (fun d => ak_lmul d rfl) <|
  am_kd (fun d => ak_aload_n d rfl rfl) <|
  am_kd (fun d => ak_getR (C := RX8) (T := TX8) (N := 27) rfl inX8w (by decide) rfl rfl rfl wd_910 d rfl) <|
  am_kd (fun d => ak_iload_n d rfl rfl) <|
  am_kd (fun d => ak_lald (t := 1) (fun _ => rfl) rfl d rfl) <|
  am_kd (fun d => ak_ladd d rfl) <|
  am_kd (fun d => ak_lstore_n d rfl rfl) <|
  am_kd (fun d => ak_ldc2 wd_1306 d rfl) <|
  am_kd (fun d => ak_lload_n d rfl rfl) <|
  am_kd (fun d => ak_lmul d rfl) <|
  am_kd (fun d => ak_aload_n d rfl rfl) <|
  am_kd (fun d => ak_getR (C := RX8) (T := TX8) (N := 27) rfl inX8w (by decide) rfl rfl rfl wd_912 d rfl) <|
  am_kd (fun d => ak_iload_n d rfl rfl) <|
  am_kd (fun d => ak_lald (t := 1) (fun _ => rfl) rfl d rfl) <|
  am_kd (fun d => ak_ladd d rfl) <|
  am_kd (fun d => ak_lstore_n d rfl rfl) <|
  am_kd (fun d => ak_iinc d (by decide +kernel) rfl) <|
  am_kd (fun d => ak_goto d (by decide +kernel)) <|
  am_kd (fun d => ak_lload_n d rfl rfl) <|
  am_kd (fun d => ak_retL d) <| am_kdn
def r_dgp (M : am_M) (n : Nat) : Int64 := z_ppl (fun p => M.1 201 (10 + p)) (fun p => M.1 201 (22 + p)) (fun j => M.1 201 (34 + j)) n (z_mx (M.1 201) 6 347)
theorem r_dgp_0 {M : am_M} : r_dgp M 0 = z_mx (M.1 201) 6 347 := by
  unfold r_dgp
  rw [z_ppl_0]
theorem r_dgp_s {M : am_M} {n : Nat} : r_dgp M (n + 1) = z_mx (fun y => M.1 201 (34 + (40 * n + y))) 40 (31 * (31 * r_dgp M n + (M.1 201 (10 + n)).toInt64) + (M.1 201 (22 + n)).toInt64) := by
  unfold r_dgp
  rw [z_ppl_s]
theorem r_dgp_n {M : am_M} : r_dgp M (M.1 201 0).toNatClampNeg = r_dgP M := rfl
def TE8_digest : am_T := fun live as M R => match as with
  | [.ref n] => am_mn live ∧ n = 200 ∧ (∃ i1 i2, LX i1 i2 M) ∧ ∀ M', r_sc M M' → r_I M' → R (some (.long (r_digV M))) M'
  | _ => False
def JE8_digest : am_E → List Value → am_M → am_R → am_inv := fun live as M0 _ pc => match as with
  | [.ref n] => (match pc with
    | 6 => some ([0, 1, 3], fun u L st M => ∃ (v : Int64) (i : Int32), L = [(0, .ref 200), (1, .long v), (3, .int i)] ∧ st = [] ∧ u = (9000 + (7 - i.toInt).toNat, 0) ∧ (0 ≤ i.toInt ∧ i.toInt ≤ 6) ∧ v = z_mx (M0.1 201) i.toNatClampNeg 347 ∧ M = M0)
    | 34 => some ([0, 1, 3], fun u L st M => ∃ (v : Int64) (i : Int32), L = [(0, .ref 200), (1, .long v), (3, .int i)] ∧ st = [] ∧ u = (8000 + (13 - i.toInt).toNat * 2, 0) ∧ (0 ≤ i.toInt ∧ i.toInt ≤ (M0.1 201 0).toInt) ∧ v = r_dgp M0 i.toNatClampNeg ∧ M = M0)
    | 81 => some ([0, 1, 3, 4], fun u L st M => ∃ (v : Int64) (i j : Int32), L = [(0, .ref 200), (1, .long v), (3, .int i), (4, .int j)] ∧ st = [] ∧ u = (8000 + ((13 - i.toInt).toNat * 2 - 1), (41 - j.toInt).toNat) ∧ (0 ≤ i.toInt ∧ i.toInt < (M0.1 201 0).toInt) ∧ (0 ≤ j.toInt ∧ j.toInt ≤ 40) ∧ v = z_mx (fun y => M0.1 201 (34 + (40 * i.toNatClampNeg + y))) j.toNatClampNeg (31 * (31 * r_dgp M0 i.toNatClampNeg + (M0.1 201 (10 + i.toNatClampNeg)).toInt64) + (M0.1 201 (22 + i.toNatClampNeg)).toInt64) ∧ M = M0)
    | 125 => some ([0, 1, 3], fun u L st M => ∃ (v : Int64) (i : Int32), L = [(0, .ref 200), (1, .long v), (3, .int i)] ∧ st = [] ∧ u = (7000 + (300 - i.toInt).toNat, 0) ∧ (0 ≤ i.toInt ∧ i.toInt ≤ 8 * (M0.1 201 1).toInt) ∧ v = z_mx (fun j => M0.1 201 (2838 + j)) i.toNatClampNeg (r_dgP M0) ∧ M = M0)
    | 164 => some ([0, 1, 3], fun u L st M => ∃ (v : Int64) (i : Int32), L = [(0, .ref 200), (1, .long v), (3, .int i)] ∧ st = [] ∧ u = (6000 + (400 - i.toInt).toNat, 0) ∧ (0 ≤ i.toInt ∧ i.toInt ≤ 6 * (M0.1 201 2).toInt) ∧ v = z_mx (fun j => M0.1 201 (2478 + j)) i.toNatClampNeg (r_dgL M0) ∧ M = M0)
    | 203 => some ([0, 1, 3], fun u L st M => ∃ (v : Int64) (i : Int32), L = [(0, .ref 200), (1, .long v), (3, .int i)] ∧ st = [] ∧ u = (5000 + (200 - i.toInt).toNat, 0) ∧ (0 ≤ i.toInt ∧ i.toInt ≤ 3 * (M0.1 201 3).toInt) ∧ v = z_mx (fun j => M0.1 201 (3078 + j)) i.toNatClampNeg (r_dgA M0) ∧ M = M0)
    | 241 => some ([0, 1, 3], fun u L st M => ∃ (v : Int64) (i : Int32), L = [(0, .ref 200), (1, .long v), (3, .int i)] ∧ st = [] ∧ u = (4000 + (6 - i.toInt).toNat * 2, 0) ∧ (0 ≤ i.toInt ∧ i.toInt ≤ 5) ∧ v = r_dgT M0 i.toNatClampNeg ∧ M = M0)
    | 267 => some ([0, 1, 3, 4], fun u L st M => ∃ (v : Int64) (i j : Int32), L = [(0, .ref 200), (1, .long v), (3, .int i), (4, .int j)] ∧ st = [] ∧ u = (4000 + ((6 - i.toInt).toNat * 2 - 1), (51 - j.toInt).toNat) ∧ (0 ≤ i.toInt ∧ i.toInt < 5) ∧ (0 ≤ j.toInt ∧ j.toInt ≤ (M0.1 201 (3508 + i.toNatClampNeg)).toInt) ∧ v = z_mx (fun y => M0.1 201 (3258 + 50 * i.toNatClampNeg + y)) j.toNatClampNeg (31 * r_dgT M0 i.toNatClampNeg + (M0.1 201 (3508 + i.toNatClampNeg)).toInt64) ∧ M = M0)
    | 320 => some ([0, 1, 3], fun u L st M => ∃ (v : Int64) (i : Int32), L = [(0, .ref 200), (1, .long v), (3, .int i)] ∧ st = [] ∧ u = ((31 - i.toInt).toNat, 0) ∧ (0 ≤ i.toInt ∧ i.toInt ≤ (M0.1 201 1).toInt) ∧ v = r_dgR M0 i.toNatClampNeg ∧ r_ky M0 M ∧ r_I M)
    | _ => none)
  | _ => none
set_option maxRecDepth 100000 in
set_option maxHeartbeats 4000000 in
theorem metX8_digestE : am_Met yX8_digest cX8_digest 5 (some .long) (10) (253) TE8_digest := by
  refine am_met (own := RX8) (by decide +kernel) rfl kX8_digestE koX8_digestE 150 JE8_digest ?_ ?_
  · intro live as M Ret h
    unfold TE8_digest at h
    split at h
    · next n =>
      refine ⟨Nat.le_of_ble_eq_true rfl, ?_⟩
      change am_wp _ _ _ _ [(0, Value.ref n)] _ _
      obtain ⟨hmn, rfl, ⟨j1, j2, hX⟩, h⟩ := h
      have hmn2 := hmn
      obtain ⟨i1, i2, rfl⟩ := hmn2
      repeat' (first | (with_reducible exact hmn) | apply And.intro | exact rfl | (intro hx; exact absurd hx (by decide)) | (intro hx; exact absurd (by decide) hx) | decide | intro hx | (refine Exists.intro _ (And.intro rfl ?_)))
      all_goals try first | (with_reducible change am_tI _ _) | (change Ret _ _) | (change Ret _ _ _) | (change Exists _)
      all_goals try dsimp only at *
      all_goals try (with_reducible exact absurd ‹(1000 : Int64) = 0› am_z1000)
      all_goals exact ⟨_, _, _, rfl, rfl, rfl, ⟨by decide, by decide⟩, rfl, rfl⟩
    · exact h.elim
  · intro live as M0 Ret h k pc I hI L st M hi
    unfold TE8_digest at h
    split at h
    · next n =>
      obtain ⟨hmn, rfl, ⟨j1, j2, hX⟩, h⟩ := h
      have hmn2 := hmn
      obtain ⟨i1, i2, rfl⟩ := hmn2
      have l201 : am_len 201 = 3760 := rfl
      have w0 : 0 ≤ (0 : Int32).toInt ∧ (0 : Int32).toInt ≤ 7 := ⟨by decide, by decide⟩
      have x0l : (0 : Int32).toInt < (am_len 201 : Int) := by rw [l201]; decide
      have x1l : (1 : Int32).toInt < (am_len 201 : Int) := by rw [l201]; decide
      have x2l : (2 : Int32).toInt < (am_len 201 : Int) := by rw [l201]; decide
      have x3l : (3 : Int32).toInt < (am_len 201 : Int) := by rw [l201]; decide
      have hR := hX.li.i
      have n00 := hX.li.n0
      have n11 := hX.li.n1
      have n22 := hX.li.n2
      have n33 := hX.li.n3
      have c00 := i_clamp n00.1
      have c11 : (r_n M0 : Int) = (M0.1 201 1).toInt := i_clamp n11.1
      have c11' : ((M0.1 201 1).toNatClampNeg : Int) = (M0.1 201 1).toInt := i_clamp n11.1
      have c22 := i_clamp n22.1
      have c33 := i_clamp n33.1
      change (match pc with | 6 => _ | 34 => _ | 81 => _ | 125 => _ | 164 => _ | 203 => _ | 241 => _ | 267 => _ | 320 => _ | _ => none) = _ at hI
      split at hI
      · cases hI
        obtain ⟨v, i, rfl, rfl, rfl, ⟨e1, e2⟩, ev, rfl⟩ := hi
        have ci := i_clamp e1
        by_cases hz : (6 : Int32) ≤ i
        · have hz2 := hz
          simp only [i_le, Int32.reduceToInt] at hz2
          have ev : v = r_dgp M 0 := by
            rw [ev, show i.toNatClampNeg = 6 by omega, r_dgp_0]
          repeat' (first | apply And.intro | exact rfl | (intro hx; with_reducible exact absurd hz hx) | intro hx | (refine Exists.intro _ (And.intro rfl ?_)))
          all_goals try first | (with_reducible change am_tI _ _) | (change Ret _ _) | (change Ret _ _ _) | (change Exists _)
          all_goals try dsimp only at *
          all_goals try (with_reducible exact absurd ‹(1000 : Int64) = 0› am_z1000)
          all_goals exact ⟨_, am_lt_l (by simp only [Int32.reduceToInt]; omega), _, _, rfl, rfl, rfl, ⟨by decide, n00.1⟩, ev, rfl⟩
        · have hz2 := hz
          simp only [i_le, Int32.reduceToInt] at hz2
          have hi := i_inc (x := i) (by omega) (by omega)
          have ci1 := i_clamp (x := i + 1) (by omega)
          have nx : 31 * v + (M.1 201 i.toNatClampNeg).toInt64 = z_mx (M.1 201) (i + 1).toNatClampNeg 347 := by
            rw [show (i + 1).toNatClampNeg = i.toNatClampNeg + 1 by omega, ev, z_mx_s]
          repeat' (first | apply And.intro | exact rfl | (intro hx; with_reducible exact absurd hx hz) | intro hx | (refine Exists.intro _ (And.intro rfl ?_)))
          all_goals try first | (with_reducible change am_tI _ _) | (change Ret _ _) | (change Ret _ _ _) | (change Exists _)
          all_goals try dsimp only at *
          all_goals try (with_reducible exact absurd ‹(1000 : Int64) = 0› am_z1000)
          all_goals first
            | omega
            | (rw [l201]; omega)
            | exact ⟨_, am_lt_l (by omega), _, _, rfl, rfl, rfl, ⟨by omega, by omega⟩, nx, rfl⟩
      · cases hI
        obtain ⟨v, i, rfl, rfl, rfl, ⟨e1, e2⟩, ev, rfl⟩ := hi
        have ci := i_clamp e1
        by_cases hz : M.1 201 (Int32.toNatClampNeg 0) ≤ i
        · have hz2 := hz
          simp only [i_le] at hz2
          have hz3 : (M.1 201 0).toInt ≤ i.toInt := hz2
          have ev : v = z_mx (fun j => M.1 201 (2838 + j)) (Int32.toNatClampNeg 0) (r_dgP M) := by
            rw [ev, show i.toNatClampNeg = (M.1 201 0).toNatClampNeg by omega, i_c0, z_mx_0, r_dgp_n]
          repeat' (first | (with_reducible exact x0l) | apply And.intro | exact rfl | (intro hx; with_reducible exact absurd hz hx) | (intro hx; exact absurd hx (by decide)) | (intro hx; exact absurd (by decide) hx) | decide | intro hx | (refine Exists.intro _ (And.intro rfl ?_)))
          all_goals try first | (with_reducible change am_tI _ _) | (change Ret _ _) | (change Ret _ _ _) | (change Exists _)
          all_goals try dsimp only at *
          all_goals try (with_reducible exact absurd ‹(1000 : Int64) = 0› am_z1000)
          all_goals exact ⟨_, am_lt_l (by simp only [Int32.reduceToInt]; omega), _, _, rfl, rfl, rfl, ⟨by decide, by simp only [Int32.toInt_zero]; omega⟩, ev, rfl⟩
        · have hz2 := hz
          simp only [i_le] at hz2
          have hz3 : ¬ (M.1 201 0).toInt ≤ i.toInt := hz2
          have e10 := r_off (c := 10) (x := i) ⟨by decide, by decide⟩ ⟨by omega, by omega⟩
          have e22 := r_off (c := 22) (x := i) ⟨by decide, by decide⟩ ⟨by omega, by omega⟩
          simp only [Int32.reduceToInt] at e10 e22
          have k10 := i_clamp (x := 10 + i) (by omega)
          have k22 := i_clamp (x := 22 + i) (by omega)
          have ev : 31 * (31 * v + (M.1 201 (10 + i).toNatClampNeg).toInt64) + (M.1 201 (22 + i).toNatClampNeg).toInt64 = z_mx (fun y => M.1 201 (34 + (40 * i.toNatClampNeg + y))) (Int32.toNatClampNeg 0) (31 * (31 * r_dgp M i.toNatClampNeg + (M.1 201 (10 + i.toNatClampNeg)).toInt64) + (M.1 201 (22 + i.toNatClampNeg)).toInt64) := by
            rw [ev, show (10 + i).toNatClampNeg = 10 + i.toNatClampNeg by omega, show (22 + i).toNatClampNeg = 22 + i.toNatClampNeg by omega, i_c0, z_mx_0]
          repeat' (first | (with_reducible exact x0l) | apply And.intro | exact rfl | (intro hx; with_reducible exact absurd hx hz) | (intro hx; exact absurd hx (by decide)) | (intro hx; exact absurd (by decide) hx) | decide | intro hx | (refine Exists.intro _ (And.intro rfl ?_)))
          all_goals try first | (with_reducible change am_tI _ _) | (change Ret _ _) | (change Ret _ _ _) | (change Exists _)
          all_goals try dsimp only at *
          all_goals try (with_reducible exact absurd ‹(1000 : Int64) = 0› am_z1000)
          all_goals first
            | omega
            | (rw [l201]; omega)
            | exact ⟨_, am_lt_l (by omega), _, _, _, rfl, rfl, rfl, ⟨e1, by omega⟩, ⟨by decide, by decide⟩, ev, rfl⟩
      · cases hI
        obtain ⟨v, i, j, rfl, rfl, rfl, ⟨e1, e4⟩, ⟨e5, e6⟩, ev, rfl⟩ := hi
        have hi := i_inc (x := i) (by omega) (by omega)
        have ci := i_clamp e1
        have ci1 := i_clamp (x := i + 1) (by omega)
        have cj := i_clamp e5
        by_cases hz : (40 : Int32) ≤ j
        · have hz2 := hz
          simp only [i_le, Int32.reduceToInt] at hz2
          have ev : v = r_dgp M (i + 1).toNatClampNeg := by
            rw [show (i + 1).toNatClampNeg = i.toNatClampNeg + 1 by omega, ev, show j.toNatClampNeg = 40 by omega, r_dgp_s]
          repeat' (first | apply And.intro | exact rfl | (intro hx; with_reducible exact absurd hz hx) | intro hx | (refine Exists.intro _ (And.intro rfl ?_)))
          all_goals try first | (with_reducible change am_tI _ _) | (change Ret _ _) | (change Ret _ _ _) | (change Exists _)
          all_goals try dsimp only at *
          all_goals try (with_reducible exact absurd ‹(1000 : Int64) = 0› am_z1000)
          all_goals exact ⟨_, am_lt_l (by omega), _, _, rfl, rfl, rfl, ⟨by omega, by omega⟩, ev, rfl⟩
        · have hz2 := hz
          simp only [i_le, Int32.reduceToInt] at hz2
          have hj := i_inc (x := j) (by omega) (by omega)
          have cj1 := i_clamp (x := j + 1) (by omega)
          have e40 := r_mul (c := 40) (x := i) ⟨by decide, by decide⟩ ⟨by omega, by omega⟩
          simp only [Int32.reduceToInt] at e40
          have ea := r_off (c := 34) (x := 40 * i) ⟨by decide, by decide⟩ ⟨by omega, by omega⟩
          simp only [e40, Int32.reduceToInt] at ea
          have eb := r_off (c := 34 + 40 * i) (x := j) ⟨by omega, by omega⟩ ⟨by omega, by omega⟩
          rw [ea] at eb
          have cb := i_clamp (x := 34 + 40 * i + j) (by omega)
          have nx : 31 * v + (M.1 201 (34 + 40 * i + j).toNatClampNeg).toInt64 = z_mx (fun y => M.1 201 (34 + (40 * i.toNatClampNeg + y))) (j + 1).toNatClampNeg (31 * (31 * r_dgp M i.toNatClampNeg + (M.1 201 (10 + i.toNatClampNeg)).toInt64) + (M.1 201 (22 + i.toNatClampNeg)).toInt64) := by
            rw [show (j + 1).toNatClampNeg = j.toNatClampNeg + 1 by omega, show (34 + 40 * i + j).toNatClampNeg = 34 + (40 * i.toNatClampNeg + j.toNatClampNeg) by omega, ev, z_mx_s]
          repeat' (first | apply And.intro | exact rfl | (intro hx; with_reducible exact absurd hx hz) | intro hx | (refine Exists.intro _ (And.intro rfl ?_)))
          all_goals try first | (with_reducible change am_tI _ _) | (change Ret _ _) | (change Ret _ _ _) | (change Exists _)
          all_goals try dsimp only at *
          all_goals try (with_reducible exact absurd ‹(1000 : Int64) = 0› am_z1000)
          all_goals first
            | omega
            | (rw [l201]; omega)
            | exact ⟨_, am_lt_r (by omega), _, _, _, rfl, rfl, rfl, ⟨e1, e4⟩, ⟨by omega, by omega⟩, nx, rfl⟩
      · cases hI
        obtain ⟨v, i, rfl, rfl, rfl, ⟨e1, e2⟩, ev, rfl⟩ := hi
        have n1 : 0 ≤ (M.1 201 (Int32.toNatClampNeg 1)).toInt ∧ (M.1 201 (Int32.toNatClampNeg 1)).toInt ≤ 30 := n11
        have em := r_mul (c := 8) (x := M.1 201 (Int32.toNatClampNeg 1)) ⟨by decide, by decide⟩ ⟨n1.1, by omega⟩
        simp only [Int32.reduceToInt] at em
        have em : (8 * M.1 201 (Int32.toNatClampNeg 1)).toInt = 8 * (M.1 201 1).toInt := em
        have ci := i_clamp e1
        by_cases hz : 8 * M.1 201 (Int32.toNatClampNeg 1) ≤ i
        · have hz2 := hz
          simp only [i_le] at hz2
          have ev : v = z_mx (fun j => M.1 201 (2478 + j)) (Int32.toNatClampNeg 0) (r_dgL M) := by
            rw [ev, show i.toNatClampNeg = 8 * (M.1 201 1).toNatClampNeg by omega, i_c0, z_mx_0]
            unfold r_dgL
            rfl
          repeat' (first | (with_reducible exact x1l) | apply And.intro | exact rfl | (intro hx; with_reducible exact absurd hz hx) | (intro hx; exact absurd hx (by decide)) | (intro hx; exact absurd (by decide) hx) | decide | intro hx | (refine Exists.intro _ (And.intro rfl ?_)))
          all_goals try first | (with_reducible change am_tI _ _) | (change Ret _ _) | (change Ret _ _ _) | (change Exists _)
          all_goals try dsimp only at *
          all_goals try (with_reducible exact absurd ‹(1000 : Int64) = 0› am_z1000)
          all_goals exact ⟨_, am_lt_l (by simp only [Int32.reduceToInt]; omega), _, _, rfl, rfl, rfl, ⟨by decide, by simp only [Int32.toInt_zero]; omega⟩, ev, rfl⟩
        · have hz2 := hz
          simp only [i_le] at hz2
          have hi := i_inc (x := i) (by omega) (by omega)
          have ci1 := i_clamp (x := i + 1) (by omega)
          have eo := r_off (c := 2838) (x := i) ⟨by decide, by decide⟩ ⟨by omega, by omega⟩
          simp only [Int32.reduceToInt] at eo
          have co := i_clamp (x := 2838 + i) (by omega)
          have nx : 31 * v + (M.1 201 (2838 + i).toNatClampNeg).toInt64 = z_mx (fun j => M.1 201 (2838 + j)) (i + 1).toNatClampNeg (r_dgP M) := by
            rw [show (i + 1).toNatClampNeg = i.toNatClampNeg + 1 by omega, show (2838 + i).toNatClampNeg = 2838 + i.toNatClampNeg by omega, ev, z_mx_s]
          repeat' (first | (with_reducible exact x1l) | apply And.intro | exact rfl | (intro hx; with_reducible exact absurd hx hz) | (intro hx; exact absurd hx (by decide)) | (intro hx; exact absurd (by decide) hx) | decide | intro hx | (refine Exists.intro _ (And.intro rfl ?_)))
          all_goals try first | (with_reducible change am_tI _ _) | (change Ret _ _) | (change Ret _ _ _) | (change Exists _)
          all_goals try dsimp only at *
          all_goals try (with_reducible exact absurd ‹(1000 : Int64) = 0› am_z1000)
          all_goals first
            | omega
            | (rw [l201]; omega)
            | exact ⟨_, am_lt_l (by omega), _, _, rfl, rfl, rfl, ⟨by omega, by omega⟩, nx, rfl⟩
      · cases hI
        obtain ⟨v, i, rfl, rfl, rfl, ⟨e1, e2⟩, ev, rfl⟩ := hi
        have n2 : 0 ≤ (M.1 201 (Int32.toNatClampNeg 2)).toInt ∧ (M.1 201 (Int32.toNatClampNeg 2)).toInt ≤ 60 := n22
        have em := r_mul (c := 6) (x := M.1 201 (Int32.toNatClampNeg 2)) ⟨by decide, by decide⟩ ⟨n2.1, by omega⟩
        simp only [Int32.reduceToInt] at em
        have em : (6 * M.1 201 (Int32.toNatClampNeg 2)).toInt = 6 * (M.1 201 2).toInt := em
        have ci := i_clamp e1
        by_cases hz : 6 * M.1 201 (Int32.toNatClampNeg 2) ≤ i
        · have hz2 := hz
          simp only [i_le] at hz2
          have ev : v = z_mx (fun j => M.1 201 (3078 + j)) (Int32.toNatClampNeg 0) (r_dgA M) := by
            rw [ev, show i.toNatClampNeg = 6 * (M.1 201 2).toNatClampNeg by omega, i_c0, z_mx_0]
            unfold r_dgA
            rfl
          repeat' (first | (with_reducible exact x2l) | apply And.intro | exact rfl | (intro hx; with_reducible exact absurd hz hx) | (intro hx; exact absurd hx (by decide)) | (intro hx; exact absurd (by decide) hx) | decide | intro hx | (refine Exists.intro _ (And.intro rfl ?_)))
          all_goals try first | (with_reducible change am_tI _ _) | (change Ret _ _) | (change Ret _ _ _) | (change Exists _)
          all_goals try dsimp only at *
          all_goals try (with_reducible exact absurd ‹(1000 : Int64) = 0› am_z1000)
          all_goals exact ⟨_, am_lt_l (by simp only [Int32.reduceToInt]; omega), _, _, rfl, rfl, rfl, ⟨by decide, by simp only [Int32.toInt_zero]; omega⟩, ev, rfl⟩
        · have hz2 := hz
          simp only [i_le] at hz2
          have hi := i_inc (x := i) (by omega) (by omega)
          have ci1 := i_clamp (x := i + 1) (by omega)
          have eo := r_off (c := 2478) (x := i) ⟨by decide, by decide⟩ ⟨by omega, by omega⟩
          simp only [Int32.reduceToInt] at eo
          have co := i_clamp (x := 2478 + i) (by omega)
          have nx : 31 * v + (M.1 201 (2478 + i).toNatClampNeg).toInt64 = z_mx (fun j => M.1 201 (2478 + j)) (i + 1).toNatClampNeg (r_dgL M) := by
            rw [show (i + 1).toNatClampNeg = i.toNatClampNeg + 1 by omega, show (2478 + i).toNatClampNeg = 2478 + i.toNatClampNeg by omega, ev, z_mx_s]
          repeat' (first | (with_reducible exact x2l) | apply And.intro | exact rfl | (intro hx; with_reducible exact absurd hx hz) | (intro hx; exact absurd hx (by decide)) | (intro hx; exact absurd (by decide) hx) | decide | intro hx | (refine Exists.intro _ (And.intro rfl ?_)))
          all_goals try first | (with_reducible change am_tI _ _) | (change Ret _ _) | (change Ret _ _ _) | (change Exists _)
          all_goals try dsimp only at *
          all_goals try (with_reducible exact absurd ‹(1000 : Int64) = 0› am_z1000)
          all_goals first
            | omega
            | (rw [l201]; omega)
            | exact ⟨_, am_lt_l (by omega), _, _, rfl, rfl, rfl, ⟨by omega, by omega⟩, nx, rfl⟩
      · cases hI
        obtain ⟨v, i, rfl, rfl, rfl, ⟨e1, e2⟩, ev, rfl⟩ := hi
        have n3 : 0 ≤ (M.1 201 (Int32.toNatClampNeg 3)).toInt ∧ (M.1 201 (Int32.toNatClampNeg 3)).toInt ≤ 60 := n33
        have em := r_mul (c := 3) (x := M.1 201 (Int32.toNatClampNeg 3)) ⟨by decide, by decide⟩ ⟨n3.1, by omega⟩
        simp only [Int32.reduceToInt] at em
        have em : (3 * M.1 201 (Int32.toNatClampNeg 3)).toInt = 3 * (M.1 201 3).toInt := em
        have ci := i_clamp e1
        by_cases hz : 3 * M.1 201 (Int32.toNatClampNeg 3) ≤ i
        · have hz2 := hz
          simp only [i_le] at hz2
          have ev : v = r_dgT M (Int32.toNatClampNeg 0) := by
            rw [ev, show i.toNatClampNeg = 3 * (M.1 201 3).toNatClampNeg by omega, i_c0, r_dgT_0]
            unfold r_dgM
            rfl
          repeat' (first | (with_reducible exact x3l) | apply And.intro | exact rfl | (intro hx; with_reducible exact absurd hz hx) | (intro hx; exact absurd hx (by decide)) | (intro hx; exact absurd (by decide) hx) | decide | intro hx | (refine Exists.intro _ (And.intro rfl ?_)))
          all_goals try first | (with_reducible change am_tI _ _) | (change Ret _ _) | (change Ret _ _ _) | (change Exists _)
          all_goals try dsimp only at *
          all_goals try (with_reducible exact absurd ‹(1000 : Int64) = 0› am_z1000)
          all_goals exact ⟨_, am_lt_l (by simp only [Int32.reduceToInt]; omega), _, _, rfl, rfl, rfl, ⟨by decide, by decide⟩, ev, rfl⟩
        · have hz2 := hz
          simp only [i_le] at hz2
          have hi := i_inc (x := i) (by omega) (by omega)
          have ci1 := i_clamp (x := i + 1) (by omega)
          have eo := r_off (c := 3078) (x := i) ⟨by decide, by decide⟩ ⟨by omega, by omega⟩
          simp only [Int32.reduceToInt] at eo
          have co := i_clamp (x := 3078 + i) (by omega)
          have nx : 31 * v + (M.1 201 (3078 + i).toNatClampNeg).toInt64 = z_mx (fun j => M.1 201 (3078 + j)) (i + 1).toNatClampNeg (r_dgA M) := by
            rw [show (i + 1).toNatClampNeg = i.toNatClampNeg + 1 by omega, show (3078 + i).toNatClampNeg = 3078 + i.toNatClampNeg by omega, ev, z_mx_s]
          repeat' (first | (with_reducible exact x3l) | apply And.intro | exact rfl | (intro hx; with_reducible exact absurd hx hz) | (intro hx; exact absurd hx (by decide)) | (intro hx; exact absurd (by decide) hx) | decide | intro hx | (refine Exists.intro _ (And.intro rfl ?_)))
          all_goals try first | (with_reducible change am_tI _ _) | (change Ret _ _) | (change Ret _ _ _) | (change Exists _)
          all_goals try dsimp only at *
          all_goals try (with_reducible exact absurd ‹(1000 : Int64) = 0› am_z1000)
          all_goals first
            | omega
            | (rw [l201]; omega)
            | exact ⟨_, am_lt_l (by omega), _, _, rfl, rfl, rfl, ⟨by omega, by omega⟩, nx, rfl⟩
      · cases hI
        obtain ⟨v, i, rfl, rfl, rfl, ⟨e1, e2⟩, ev, rfl⟩ := hi
        have ci := i_clamp e1
        by_cases hz : (5 : Int32) ≤ i
        · have hz2 := hz
          simp only [i_le, Int32.reduceToInt] at hz2
          have ev : v = r_dgR M (Int32.toNatClampNeg 0) := by
            rw [ev, show i.toNatClampNeg = 5 by omega, i_c0, r_dgR_0]
          repeat' (first | apply And.intro | exact rfl | (intro hx; with_reducible exact absurd hz hx) | intro hx | (refine Exists.intro _ (And.intro rfl ?_)))
          all_goals try first | (with_reducible change am_tI _ _) | (change Ret _ _) | (change Ret _ _ _) | (change Exists _)
          all_goals try dsimp only at *
          all_goals try (with_reducible exact absurd ‹(1000 : Int64) = 0› am_z1000)
          all_goals exact ⟨_, am_lt_l (by simp only [Int32.reduceToInt]; omega), _, _, rfl, rfl, rfl, ⟨by decide, n11.1⟩, ev, r_ky.rf, hR⟩
        · have hz2 := hz
          simp only [i_le, Int32.reduceToInt] at hz2
          have tx := hR.tx (t := i.toNatClampNeg) (by omega)
          have ea := r_off (c := 3508) (x := i) ⟨by decide, by decide⟩ ⟨by omega, by omega⟩
          simp only [Int32.reduceToInt] at ea
          have ca := i_clamp (x := 3508 + i) (by omega)
          have ev : 31 * v + (M.1 201 (3508 + i).toNatClampNeg).toInt64 = z_mx (fun y => M.1 201 (3258 + 50 * i.toNatClampNeg + y)) (Int32.toNatClampNeg 0) (31 * r_dgT M i.toNatClampNeg + (M.1 201 (3508 + i.toNatClampNeg)).toInt64) := by
            rw [ev, show (3508 + i).toNatClampNeg = 3508 + i.toNatClampNeg by omega, i_c0, z_mx_0]
          repeat' (first | apply And.intro | exact rfl | (intro hx; with_reducible exact absurd hx hz) | intro hx | (refine Exists.intro _ (And.intro rfl ?_)))
          all_goals try first | (with_reducible change am_tI _ _) | (change Ret _ _) | (change Ret _ _ _) | (change Exists _)
          all_goals try dsimp only at *
          all_goals try (with_reducible exact absurd ‹(1000 : Int64) = 0› am_z1000)
          all_goals first
            | omega
            | (rw [l201]; omega)
            | exact ⟨_, am_lt_l (by omega), _, _, _, rfl, rfl, rfl, ⟨e1, by omega⟩, ⟨by decide, tx.1⟩, ev, rfl⟩
      · cases hI
        obtain ⟨v, i, j, rfl, rfl, rfl, ⟨e1, e4⟩, ⟨e5, e6⟩, ev, rfl⟩ := hi
        have hi := i_inc (x := i) (by omega) (by omega)
        have ci := i_clamp e1
        have ci1 := i_clamp (x := i + 1) (by omega)
        have cj := i_clamp e5
        have ht5 : am_in i 5 := ⟨e1, by omega⟩
        have tx := hR.tx (g_cl ht5)
        have ctx := i_clamp tx.1
        have ea := r_off (c := 3508) (x := i) ⟨by decide, by decide⟩ ⟨by omega, by omega⟩
        simp only [Int32.reduceToInt] at ea
        have ca := i_clamp (x := 3508 + i) (by omega)
        have ka : (3508 + i).toNatClampNeg = 3508 + i.toNatClampNeg := by omega
        by_cases hz : M.1 201 (3508 + i).toNatClampNeg ≤ j
        · have hz2 := hz
          rw [ka] at hz2
          simp only [i_le] at hz2
          have ev : v = r_dgT M (i + 1).toNatClampNeg := by
            rw [show (i + 1).toNatClampNeg = i.toNatClampNeg + 1 by omega, ev, show j.toNatClampNeg = (M.1 201 (3508 + i.toNatClampNeg)).toNatClampNeg by omega, r_dgT_s]
          repeat' (first | apply And.intro | exact rfl | (intro hx; with_reducible exact absurd hz hx) | intro hx | (refine Exists.intro _ (And.intro rfl ?_)))
          all_goals try first | (with_reducible change am_tI _ _) | (change Ret _ _) | (change Ret _ _ _) | (change Exists _)
          all_goals try dsimp only at *
          all_goals try (with_reducible exact absurd ‹(1000 : Int64) = 0› am_z1000)
          all_goals first
            | omega
            | (rw [l201]; omega)
            | exact ⟨_, am_lt_l (by omega), _, _, rfl, rfl, rfl, ⟨by omega, by omega⟩, ev, rfl⟩
        · have hz2 := hz
          rw [ka] at hz2
          simp only [i_le] at hz2
          have hj := i_inc (x := j) (by omega) (by omega)
          have cj1 := i_clamp (x := j + 1) (by omega)
          have e50 := r_mul (c := 50) (x := i) ⟨by decide, by decide⟩ ⟨by omega, by omega⟩
          simp only [Int32.reduceToInt] at e50
          have eb := r_off (c := 3258) (x := 50 * i) ⟨by decide, by decide⟩ ⟨by omega, by omega⟩
          simp only [e50, Int32.reduceToInt] at eb
          have ec := r_off (c := 3258 + 50 * i) (x := j) ⟨by omega, by omega⟩ ⟨by omega, by omega⟩
          rw [eb] at ec
          have cc := i_clamp (x := 3258 + 50 * i + j) (by omega)
          have nx : 31 * v + (M.1 201 (3258 + 50 * i + j).toNatClampNeg).toInt64 = z_mx (fun y => M.1 201 (3258 + 50 * i.toNatClampNeg + y)) (j + 1).toNatClampNeg (31 * r_dgT M i.toNatClampNeg + (M.1 201 (3508 + i.toNatClampNeg)).toInt64) := by
            rw [show (j + 1).toNatClampNeg = j.toNatClampNeg + 1 by omega, show (3258 + 50 * i + j).toNatClampNeg = 3258 + 50 * i.toNatClampNeg + j.toNatClampNeg by omega, ev, z_mx_s]
          repeat' (first | apply And.intro | exact rfl | (intro hx; with_reducible exact absurd hx hz) | intro hx | (refine Exists.intro _ (And.intro rfl ?_)))
          all_goals try first | (with_reducible change am_tI _ _) | (change Ret _ _) | (change Ret _ _ _) | (change Exists _)
          all_goals try dsimp only at *
          all_goals try (with_reducible exact absurd ‹(1000 : Int64) = 0› am_z1000)
          all_goals first
            | omega
            | (rw [l201]; omega)
            | exact ⟨_, am_lt_r (by omega), _, _, _, rfl, rfl, rfl, ⟨e1, e4⟩, ⟨by omega, by omega⟩, nx, rfl⟩
      · cases hI
        obtain ⟨v, i, rfl, rfl, rfl, ⟨e1, e4⟩, ev, ky, e3⟩ := hi
        have c201 : M.1 201 = M0.1 201 := funext fun b => ky.i (by decide) (by decide) (Or.inl (by decide))
        have n1 : 0 ≤ (M.1 201 (Int32.toNatClampNeg 1)).toInt ∧ (M.1 201 (Int32.toNatClampNeg 1)).toInt ≤ 30 := e3.n1
        have y39 : -1 ≤ (39 : Int32).toInt ∧ (39 : Int32).toInt ≤ 39 := ⟨by decide, by decide⟩
        have ci := i_clamp e1
        by_cases hz : M.1 201 (Int32.toNatClampNeg 1) ≤ i
        · have hz2 := hz
          rw [c201] at hz2
          simp only [i_le] at hz2
          have hz3 : (M0.1 201 1).toInt ≤ i.toInt := hz2
          have hh := h M ky.sc e3
          rw [show r_digV M0 = v by rw [ev]; unfold r_digV; rw [show i.toNatClampNeg = r_n M0 by omega]] at hh
          repeat' (first | (with_reducible exact x1l) | apply And.intro | exact rfl | (intro hx; with_reducible exact absurd hz hx) | (intro hx; exact absurd hx (by decide)) | (intro hx; exact absurd (by decide) hx) | decide | intro hx | (refine Exists.intro _ (And.intro rfl ?_)))
          all_goals try first | (with_reducible change am_tI _ _) | (change Ret _ _) | (change Ret _ _ _) | (change Exists _)
          all_goals try dsimp only at *
          all_goals try (with_reducible exact absurd ‹(1000 : Int64) = 0› am_z1000)
          all_goals exact hh
        · have hz2 := hz
          rw [c201] at hz2
          simp only [i_le] at hz2
          have hz3 : ¬ (M0.1 201 1).toInt ≤ i.toInt := hz2
          have hl : am_in i 30 := ⟨e1, by omega⟩
          have gl := g_cl hl
          have ol := o_cl hl (by decide)
          have hp := r_pers e3 hl
          have hi := i_inc (x := i) (by omega) (by omega)
          have ci1 := i_clamp (x := i + 1) (by omega)
          have x2 : i.toInt < ((30 : Nat) : Int) := by omega
          have rl : M.1 201 (2838 + 8 * i + 0).toNatClampNeg = r_lo M0 i 0 := by unfold r_lo; rw [c201]
          have hoa : r_oa M (M.1 201 (2838 + 8 * i + 0).toNatClampNeg) := ky.oa hX.roa
          repeat' (first | (with_reducible exact x1l) | (with_reducible exact hmn) | (with_reducible exact hl) | (with_reducible exact hp) | (with_reducible exact w0) | (with_reducible exact y39) | (with_reducible exact e1) | (with_reducible exact e3) | (with_reducible exact hoa) | apply And.intro | exact rfl | (intro hx; with_reducible exact absurd hx hz) | ((with_reducible change r_I _); (with_reducible assumption)) | (intro hx; exact absurd hx (by decide)) | (intro hx; exact absurd (by decide) hx) | decide | intro hx | (refine Exists.intro _ (And.intro rfl ?_)))
          all_goals try first | (with_reducible change am_tI _ _) | (change Ret _ _) | (change Ret _ _ _) | (change Exists _)
          all_goals try dsimp only at *
          all_goals try (with_reducible exact absurd ‹(1000 : Int64) = 0› am_z1000)
          all_goals first
            | exact x2
            | skip
          all_goals
            rename_i N s0 ky2 rN z0
            have e0 := hx
            have ey : r_yr M (M.1 201 (2838 + 8 * i + 0).toNatClampNeg) 39 = r_yr M0 (r_lo M0 i 0) 39 := by
              rw [rl]
              exact funext fun z => ky.f (fun K => r_yr K (r_lo M0 i 0) 39 z) (fun _ _ _ => rfl) (fun _ _ _ _ _ _ => rfl)
            rw [ey] at e0
            have q0 := (r_R_of n11 e0 z0).1 i.toNatClampNeg (by omega)
            have q9 := (r_R_of n11 e0 z0).1 (90 + i.toNatClampNeg) (by omega)
            rw [show ((39 : Int32).toInt + 1).toNat = 40 from rfl] at q0 q9
            have f0 : N.2 207 i.toNatClampNeg = r_fl N i.toNatClampNeg := (r_fl_v gl).symm
            have f9 : N.2 209 i.toNatClampNeg = r_fl N (90 + i.toNatClampNeg) := by
              unfold r_fl
              rw [if_neg (by omega), if_neg (by omega), if_neg (by omega), if_pos (by omega), show 90 + i.toNatClampNeg - 90 = i.toNatClampNeg by omega]
            refine ⟨_, am_lt_l (by omega), _, _, rfl, rfl, rfl, ⟨by omega, by omega⟩, ?_, ky.tr ky2, rN⟩
            rw [show (i + 1).toNatClampNeg = i.toNatClampNeg + 1 by omega, f0, f9, q0, q9, ev]
            rw [r_dgR_s, ol]
      · cases hI
    · exact h.elim
end
-- part 79zu.try0.lean.txt
section
/-! runs exact: another number tried: an act more is a number tried -/
theorem q_F_try {A A' : Nat → Int32} {n : Nat} {bg pl w pl0 w0 v0 f0 : Int32} {y : Int} (hA : ∀ k, k < 6 * n → A' k = A k) (h0 : A' (6 * n) = pl0) (h1 : A' (6 * n + 1) = w0) (h2 : A' (6 * n + 2) = v0) (h3 : A' (6 * n + 3) = f0) (h4 : A' (6 * n + 4) = 0) (h5 : A' (6 * n + 5) = 39) (hb : 0 ≤ bg.toInt ∧ bg.toInt ≤ 39) : q_F A' (n + 1) bg pl w y = if pl0 = pl ∧ w0 = w ∧ f0.toInt ≤ y ∧ q_le A (q_R A bg pl w y n) f0 = true then v0 else q_F A n bg pl w y := by
  have eR := q_R_cg (A := A) (A' := A') (bg := bg) (pl := pl) (w := w) (y := y) (n := n) hA
  have eF := q_F_cg (A := A) (A' := A') (bg := bg) (pl := pl) (w := w) (y := y) (n := n) hA
  by_cases hm : q_mt A' bg pl w n = true ∧ (A' (6 * n + 3)).toInt ≤ y
  · have hm1 := of_decide_eq_true hm.1
    have hy := hm.2
    rw [h3] at hy
    rw [h0, h1] at hm1
    cases ho : q_R A bg pl w y n with
    | none =>
      rw [ho] at eR
      have L : q_F A' (n + 1) bg pl w y = v0 := by
        unfold q_F
        rw [q_R_s2 hm eR]
        exact h2
      rw [L, if_pos ⟨hm1.1, hm1.2.1, hy, rfl⟩]
    | some b =>
      rw [ho] at eR
      have hlt := (q_R_lt ho).1
      have e4 := hA (6 * b + 3) (by omega)
      by_cases h33 : (A (6 * b + 3)).toInt ≤ f0.toInt
      · have L : q_F A' (n + 1) bg pl w y = v0 := by
          unfold q_F
          rw [q_R_s3 hm eR (by rw [h3, e4]; exact h33)]
          exact h2
        rw [L, if_pos ⟨hm1.1, hm1.2.1, hy, decide_eq_true h33⟩]
      · have L : q_F A' (n + 1) bg pl w y = A (6 * b + 2) := by
          unfold q_F
          rw [q_R_s4 eR (by rw [h3, e4]; exact h33)]
          exact hA _ (by omega)
        have L2 : q_F A n bg pl w y = A (6 * b + 2) := by
          unfold q_F
          simp only [ho]
        rw [L, L2, if_neg (fun q => h33 (of_decide_eq_true q.2.2.2))]
  · have nF : q_F A' (n + 1) bg pl w y = q_F A n bg pl w y := by
      rw [← eF]
      unfold q_F
      rw [q_R_s1 hm]
    rw [nF, if_neg]
    intro q
    exact hm ⟨decide_eq_true ⟨h0.trans q.1, h1.trans q.2.1, by rw [h4]; simp only [Int32.toInt_zero]; exact hb.1, by rw [h5]; simp only [Int32.reduceToInt]; exact hb.2⟩, by rw [h3]; exact q.2.2.1⟩
/-- a number tried, the reference's memory -/
def r_tr (M : am_M) (pl w v f : Int32) : am_M := am_wI (am_wI (am_wI (am_wI M 200 3 pl) 200 4 w) 200 5 v) 200 6 f
section RTR
variable {M N : am_M} {pl w v f : Int32}
theorem r_tr_1 : (r_tr M pl w v f).1 201 = M.1 201 := by
  unfold r_tr
  rw [z_wIo (show (201 : Nat) ≠ 200 by decide), z_wIo (show (201 : Nat) ≠ 200 by decide), z_wIo (show (201 : Nat) ≠ 200 by decide), z_wIo (show (201 : Nat) ≠ 200 by decide)]
theorem r_tr_o {j : Nat} (h : j < 3 ∨ 6 < j) : (r_tr M pl w v f).1 200 j = M.1 200 j := by
  unfold r_tr
  rw [am_wI_1, if_neg (fun q => by have := q.2; omega), am_wI_1, if_neg (fun q => by have := q.2; omega), am_wI_1, if_neg (fun q => by have := q.2; omega), am_wI_1, if_neg (fun q => by have := q.2; omega)]
theorem r_tr_3 : (r_tr M pl w v f).1 200 3 = pl := rfl
theorem r_tr_4 : (r_tr M pl w v f).1 200 4 = w := rfl
theorem r_tr_5 : (r_tr M pl w v f).1 200 5 = v := rfl
theorem r_tr_6 : (r_tr M pl w v f).1 200 6 = f := rfl
theorem r_tr_pl {l y : Int32} : r_pl (r_tr M pl w v f) l y = r_pl M l y := by
  unfold r_pl
  rw [r_tr_o (Or.inr (by decide)), r_tr_o (Or.inr (by decide)), r_tr_1]
theorem r_tr_I (h : r_I M) : r_I (r_tr M pl w v f) := by
  obtain ⟨-, t, s⟩ := h
  refine ⟨(), ?_, ?_⟩
  · unfold r_T at t ⊢
    rw [r_tr_1]
    exact t
  · unfold r_S at s ⊢
    rw [r_tr_o (Or.inr (by decide))]
    exact s
theorem r_tr_F {pl' w' p y : Int32} : r_inF (r_tr M pl w v f) pl' w' p y = if pl = pl' ∧ w = w' ∧ f.toInt ≤ y.toInt ∧ q_le (r_A M) (q_R (r_A M) (M.1 201 (10 + p.toNatClampNeg)) pl' w' y.toInt (M.1 201 2).toNatClampNeg) f = true then v else q_F (r_A M) (M.1 201 2).toNatClampNeg (M.1 201 (10 + p.toNatClampNeg)) pl' w' y.toInt := by
  have eA : r_A (r_tr M pl w v f) = r_A M := by
    unfold r_A
    rw [r_tr_1]
  unfold r_inF
  rw [eA, r_tr_1, r_tr_3, r_tr_4, r_tr_5, r_tr_6]
/-- years look at the same -/
theorem r_R_cg2 {K L : am_M} (h1 : K.1 201 = L.1 201) (h2 : ∀ j, 3 ≤ j → j ≤ 6 → K.1 200 j = L.1 200 j) (hpl : ∀ l y, r_pl K l y = r_pl L l y) {p k : Int32} {n : Nat} : r_R K p k n = r_R L p k n := by
  have yr : r_yr K p k = r_yr L p k := funext fun n => by
    unfold r_yr
    rw [r_Y_cg h1 h2 (fun l => hpl l _)]
    unfold r_e r_la r_dd r_known
    rw [h1]
  unfold r_R
  rw [yr]
theorem r_R_tr (h1 : N.1 201 = M.1 201) (h7 : N.1 200 7 = -1) (h7' : M.1 200 7 = -1) {p k : Int32} {n : Nat} : r_R (r_tr N pl w v f) p k n = r_R (r_tr M pl w v f) p k n := by
  refine r_R_cg2 (by rw [r_tr_1, r_tr_1, h1]) (fun j h3 h6 => ?_) (fun l y => ?_)
  · have q : j = 3 ∨ j = 4 ∨ j = 5 ∨ j = 6 := by omega
    rcases q with rfl | rfl | rfl | rfl <;> rfl
  · rw [r_tr_pl, r_tr_pl]
    unfold r_pl
    rw [h7, h7', h1, if_neg (fun q => absurd q.1 (by decide)), if_neg (fun q => absurd q.1 (by decide))]
end RTR
/-- what is taken with a number tried -/
def r_triF (M : am_M) (pl w v f y : Int32) (i : Nat) : Int64 := z_tog (r_R (r_tr M pl w v f) (Int32.ofNat i) 39 (y.toNatClampNeg + 1)).1 30 (r_mine M (Int32.ofNat i) (r_n M))
def r_triV (M : am_M) (pl w v f y : Int32) : Int64 := z_sum (r_triF M pl w v f y) (M.1 201 0).toNatClampNeg
theorem r_triV_cg {M N : am_M} {pl w v f y : Int32} (h1 : N.1 201 = M.1 201) (h7 : N.1 200 7 = -1) (h7' : M.1 200 7 = -1) : r_triV N pl w v f y = r_triV M pl w v f y := by
  unfold r_triV
  rw [h1]
  refine z_sum_cg (fun i _ => ?_)
  unfold r_triF
  rw [r_R_tr h1 h7 h7', r_mine_cg h1]
theorem r_triV_cg2 {M N : am_M} {pl w v f y : Int32} (h1 : N.1 201 = M.1 201) (h2 : N.1 200 = M.1 200) : r_triV N pl w v f y = r_triV M pl w v f y := by
  unfold r_triV
  rw [h1]
  refine z_sum_cg (fun i _ => ?_)
  unfold r_triF
  rw [r_R_cg2 (K := r_tr N pl w v f) (L := r_tr M pl w v f) (by rw [r_tr_1, r_tr_1, h1]) (fun j h3 h6 => by
    have q : j = 3 ∨ j = 4 ∨ j = 5 ∨ j = 6 := by omega
    rcases q with rfl | rfl | rfl | rfl <;> rfl) (fun l y => by
    rw [r_tr_pl, r_tr_pl]
    unfold r_pl
    rw [h1, h2]), r_mine_cg h1]
theorem g_sa.r1 {M N : am_M} (h : g_sa M N) {a : Nat} (ha : 11 ≤ a) (h32 : a ≠ 32) : N.1 a = M.1 a := funext fun b => by
  obtain ⟨-, h⟩ := h
  exact (h a b ha (fun q => absurd q h32)).1
end
