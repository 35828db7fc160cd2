/-! births: the constructors -/
theorem am_w3 {a b c : Cond} (h1 : a ∈ am_ws) (h2 : b ∈ am_ws) (h3 : c ∈ am_ws) : ∀ w ∈ ([a, b, c] : List Cond), w ∈ am_ws := by
  intro w hw
  simp only [List.mem_cons, List.not_mem_nil, or_false] at hw
  rcases hw with rfl | rfl | rfl <;> assumption
theorem zX0 : ∀ j, j < 13 → defaultValue (tyX0 j) = an_z 0 j := fun j hj => match j, hj with
  | 0, _ => rfl
  | 1, _ => rfl
  | 2, _ => rfl
  | 3, _ => rfl
  | 4, _ => rfl
  | 5, _ => rfl
  | 6, _ => rfl
  | 7, _ => rfl
  | 8, _ => rfl
  | 9, _ => rfl
  | 10, _ => rfl
  | 11, _ => rfl
  | 12, _ => rfl
  | j + 13, h => absurd h (by omega)
theorem zX1 : ∀ j, j < 7 → defaultValue (tyX1 j) = an_z 1 j := fun j hj => match j, hj with
  | 0, _ => rfl
  | 1, _ => rfl
  | 2, _ => rfl
  | 3, _ => rfl
  | 4, _ => rfl
  | 5, _ => rfl
  | 6, _ => rfl
  | j + 7, h => absurd h (by omega)
theorem zX2 : ∀ j, j < 8 → defaultValue (tyX2 j) = an_z 2 j := fun j hj => match j, hj with
  | 0, _ => rfl
  | 1, _ => rfl
  | 2, _ => rfl
  | 3, _ => rfl
  | 4, _ => rfl
  | 5, _ => rfl
  | 6, _ => rfl
  | 7, _ => rfl
  | j + 8, h => absurd h (by omega)
theorem zX3 : ∀ j, j < 3 → defaultValue (tyX3 j) = an_z 3 j := fun j hj => match j, hj with
  | 0, _ => rfl
  | 1, _ => rfl
  | 2, _ => rfl
  | j + 3, h => absurd h (by omega)
theorem zX4 : ∀ j, j < 19 → defaultValue (tyX4 j) = an_z 4 j := fun j hj => match j, hj with
  | 0, _ => rfl
  | 1, _ => rfl
  | 2, _ => rfl
  | 3, _ => rfl
  | 4, _ => rfl
  | 5, _ => rfl
  | 6, _ => rfl
  | 7, _ => rfl
  | 8, _ => rfl
  | 9, _ => rfl
  | 10, _ => rfl
  | 11, _ => rfl
  | 12, _ => rfl
  | 13, _ => rfl
  | 14, _ => rfl
  | 15, _ => rfl
  | 16, _ => rfl
  | 17, _ => rfl
  | 18, _ => rfl
  | j + 19, h => absurd h (by omega)
theorem zX5 : ∀ j, j < 7 → defaultValue (tyX5 j) = an_z 5 j := fun j hj => match j, hj with
  | 0, _ => rfl
  | 1, _ => rfl
  | 2, _ => rfl
  | 3, _ => rfl
  | 4, _ => rfl
  | 5, _ => rfl
  | 6, _ => rfl
  | j + 7, h => absurd h (by omega)
theorem zX6 : ∀ j, j < 9 → defaultValue (tyX6 j) = an_z 6 j := fun j hj => match j, hj with
  | 0, _ => rfl
  | 1, _ => rfl
  | 2, _ => rfl
  | 3, _ => rfl
  | 4, _ => rfl
  | 5, _ => rfl
  | 6, _ => rfl
  | 7, _ => rfl
  | 8, _ => rfl
  | j + 9, h => absurd h (by omega)
theorem zX7 : ∀ j, j < 4 → defaultValue (tyX7 j) = an_z 7 j := fun j hj => match j, hj with
  | 0, _ => rfl
  | 1, _ => rfl
  | 2, _ => rfl
  | 3, _ => rfl
  | j + 4, h => absurd h (by omega)
theorem zX8 : ∀ j, j < 27 → defaultValue (tyX8 j) = an_z 8 j := fun j hj => match j, hj with
  | 0, _ => rfl
  | 1, _ => rfl
  | 2, _ => rfl
  | 3, _ => rfl
  | 4, _ => rfl
  | 5, _ => rfl
  | 6, _ => rfl
  | 7, _ => rfl
  | 8, _ => rfl
  | 9, _ => rfl
  | 10, _ => rfl
  | 11, _ => rfl
  | 12, _ => rfl
  | 13, _ => rfl
  | 14, _ => rfl
  | 15, _ => rfl
  | 16, _ => rfl
  | 17, _ => rfl
  | 18, _ => rfl
  | 19, _ => rfl
  | 20, _ => rfl
  | 21, _ => rfl
  | 22, _ => rfl
  | 23, _ => rfl
  | 24, _ => rfl
  | 25, _ => rfl
  | 26, _ => rfl
  | j + 27, h => absurd h (by omega)
def an_int (L : am_L) (i : Nat) : Nat := match am_g L i with
  | some (.int x) => x.toNatClampNeg
  | _ => 0
theorem an_bE_1 (E : am_E) (n q : Nat) : (an_bE E n).1 q = (Nat.beq q n || E.1 q) := rfl
theorem an_rE_1 (E : am_E) (n k v : Nat) : (an_rE E n k v).1 = E.1 := rfl
theorem an_nb (a b : Nat) : Nat.beq a b = decide (a = b) := by
  cases h : Nat.beq a b with
  | true => rw [Nat.eq_of_beq_eq_true h]; simp
  | false => exact (decide_eq_false (Nat.ne_of_beq_eq_false h)).symm
theorem dJ7_fill_53178_0 : decode cJ7_fill_53178 0 = .ok (.iconst 0, 1) := by decide +kernel
theorem dJ7_fill_53178_1 : decode cJ7_fill_53178 1 = .ok (.istore_n 2, 1) := by decide +kernel
theorem dJ7_fill_53178_2 : decode cJ7_fill_53178 2 = .ok (.aload_n 0, 1) := by decide +kernel
theorem dJ7_fill_53178_3 : decode cJ7_fill_53178 3 = .ok (.arraylength, 1) := by decide +kernel
theorem dJ7_fill_53178_4 : decode cJ7_fill_53178 4 = .ok (.istore_n 3, 1) := by decide +kernel
theorem dJ7_fill_53178_5 : decode cJ7_fill_53178 5 = .ok (.iload_n 2, 1) := by decide +kernel
theorem dJ7_fill_53178_6 : decode cJ7_fill_53178 6 = .ok (.iload_n 3, 1) := by decide +kernel
theorem dJ7_fill_53178_7 : decode cJ7_fill_53178 7 = .ok (.if_icmp .ge 13, 3) := by decide +kernel
theorem dJ7_fill_53178_10 : decode cJ7_fill_53178 10 = .ok (.aload_n 0, 1) := by decide +kernel
theorem dJ7_fill_53178_11 : decode cJ7_fill_53178 11 = .ok (.iload_n 2, 1) := by decide +kernel
theorem dJ7_fill_53178_12 : decode cJ7_fill_53178 12 = .ok (.iload_n 1, 1) := by decide +kernel
theorem dJ7_fill_53178_13 : decode cJ7_fill_53178 13 = .ok (.iastore, 1) := by decide +kernel
theorem dJ7_fill_53178_14 : decode cJ7_fill_53178 14 = .ok (.iinc 2 1, 3) := by decide +kernel
theorem dJ7_fill_53178_17 : decode cJ7_fill_53178 17 = .ok (.goto (-12), 3) := by decide +kernel
theorem dJ7_fill_53178_20 : decode cJ7_fill_53178 20 = .ok (.return_, 1) := by decide +kernel
def kJ7_fill_53178 (live : am_E) (Ret : am_R) : am_code := [(0, am_const (.int 0) 1), (1, am_istore 2 4 2), (2, am_aload 0 3), (3, am_alen live 0 4), (4, am_istore 3 4 5), (5, am_iload 2 6), (6, am_iload 3 7), (7, am_if2 (fun x y => y ≤ x) 20 10), (10, am_aload 0 11), (11, am_iload 2 12), (12, am_iload 1 13), (13, am_ast live 0 14), (14, am_iinc 2 4 1 17), (17, am_goto 5), (20, am_retV Ret)]
theorem koJ7_fill_53178 (live : am_E) (Ret : am_R) : ∀ q ∈ kJ7_fill_53178 live Ret, am_ok RJ7 cJ7_fill_53178 4 none 0 0 live Ret q.1 q.2 :=
  am_kc (ak_iconst dJ7_fill_53178_0 (by decide +kernel) rfl) <|
  am_kc (ak_istore_n dJ7_fill_53178_1 rfl rfl) <|
  am_kc (ak_aload_n dJ7_fill_53178_2 rfl rfl) <|
  am_kc (ak_alen (t := 0) (fun _ => rfl) dJ7_fill_53178_3 rfl) <|
  am_kc (ak_istore_n dJ7_fill_53178_4 rfl rfl) <|
  am_kc (ak_iload_n dJ7_fill_53178_5 rfl rfl) <|
  am_kc (ak_iload_n dJ7_fill_53178_6 rfl rfl) <|
  am_kc (ak_icmp_ge dJ7_fill_53178_7 (by decide +kernel) rfl) <|
  am_kc (ak_aload_n dJ7_fill_53178_10 rfl rfl) <|
  am_kc (ak_iload_n dJ7_fill_53178_11 rfl rfl) <|
  am_kc (ak_iload_n dJ7_fill_53178_12 rfl rfl) <|
  am_kc (ak_iast (t := 0) (fun _ => rfl) rfl dJ7_fill_53178_13 rfl) <|
  am_kc (ak_iinc dJ7_fill_53178_14 (by decide +kernel) rfl) <|
  am_kc (ak_goto dJ7_fill_53178_17 (by decide +kernel)) <|
  am_kc (ak_retV dJ7_fill_53178_20) <| am_kn
def TJ7_fill_53178 : am_T := fun live as M R => match as with
  | [.ref c, .int v] => am_if (am_isA live 0 c && Nat.blt (am_len c) 100000) (R none (am_lay M c 0 ((am_len c : Int) - 1) v))
  | _ => False
def JJ7_fill : am_E → List Value → am_M → am_R → am_inv := fun live as M0 _ pc => match as with
  | [.ref c, .int v] => (match pc with
    | 5 => some ([0, 1, 2, 3], fun k L st M => ∃ i : Int32, L = [(0, .ref c), (1, .int v), (2, .int i), (3, .int (Int32.ofNat (am_len c)))] ∧ st = [] ∧ k = ((am_len c + 1 - i.toInt).toNat, 0) ∧ 0 ≤ i.toInt ∧ i.toInt ≤ (am_len c : Int) ∧ M = am_lay M0 c 0 (i.toInt - 1) v)
    | _ => none)
  | _ => none
set_option maxRecDepth 100000 in
set_option maxHeartbeats 4000000 in
theorem metJ7_fill_53178 : am_Met yJ7_fill_53178 cJ7_fill_53178 4 none (0) (0) TJ7_fill_53178 := by
  refine am_met (own := RJ7) (by decide +kernel) rfl kJ7_fill_53178 koJ7_fill_53178 60 JJ7_fill ?_ ?_
  · intro live as M Ret h
    unfold TJ7_fill_53178 at h
    split at h
    · next c v =>
      refine ⟨Nat.le_of_ble_eq_true rfl, ?_⟩
      change am_wp _ _ _ _ [(0, Value.ref c), (1, Value.int v)] _ _
      have hh := am_if_mp h
      clear h
      obtain ⟨hb, h⟩ := hh
      rw [Bool.and_eq_true] at hb
      obtain ⟨h1, h4⟩ := hb
      have h4 : am_len c < 100000 := Nat.le_of_ble_eq_true h4
      repeat' (first | (with_reducible exact h1) | apply And.intro | exact rfl | intro hx | (refine Exists.intro _ (And.intro rfl ?_)) | ((with_reducible change _ = true); simp only [h1, Bool.true_and]; rfl))
      all_goals try first | (with_reducible change am_tI _ _) | (change Ret _ _) | (change Ret _ _ _) | (change Exists _)
      all_goals try dsimp only at *
      all_goals try exact absurd ‹(1000 : Int64) = 0› (by decide)
      refine ⟨_, _, rfl, rfl, rfl, by decide, ?_, (am_lay_nil (by decide)).symm⟩
      simp only [Int32.reduceToInt]
      omega
    · exact h.elim
  · intro live as M0 Ret h k pc I hI L st M hi
    unfold TJ7_fill_53178 at h
    split at h
    · next c v =>
      have hh := am_if_mp h
      clear h
      obtain ⟨hb, h⟩ := hh
      rw [Bool.and_eq_true] at hb
      obtain ⟨h1, h4⟩ := hb
      have h4 : am_len c < 100000 := Nat.le_of_ble_eq_true h4
      change (match pc with | 5 => _ | _ => none) = _ at hI
      split at hI
      · cases hI
        obtain ⟨i, rfl, rfl, rfl, e1, e2, rfl⟩ := hi
        have hn : (Int32.ofNat (am_len c)).toInt = (am_len c : Int) := i_nat (by omega)
        repeat' (first | (with_reducible exact h1) | apply And.intro | exact rfl | intro hx | (refine Exists.intro _ (And.intro rfl ?_)) | ((with_reducible change _ = true); simp only [h1, Bool.true_and]; rfl))
        all_goals try first | (with_reducible change am_tI _ _) | (change Ret _ _) | (change Ret _ _ _) | (change Exists _)
        all_goals try dsimp only at *
        all_goals try exact absurd ‹(1000 : Int64) = 0› (by decide)
        rotate_right
        · refine ⟨_, Or.inl ?_, i + 1, rfl, rfl, rfl, ?_, ?_, ?_⟩
          all_goals simp only [i_lt, i_le, hn] at *
          all_goals
            have hi := i_add (x := i) (y := 1) (by simp only [Int32.reduceToInt]; omega) (by simp only [Int32.reduceToInt]; omega)
            simp only [Int32.reduceToInt] at hi
          · simp only [hi]; omega
          · omega
          · omega
          · rw [am_lay_put (by omega) (i_clamp (by omega))]
            exact am_lay_eq (fun q => by omega)
        all_goals simp only [i_lt, i_le, hn] at *
        · rw [am_lay_eq (lo' := 0) (hi' := (am_len c : Int) - 1) (fun q => by omega)]; exact h
        · omega
        · omega
      · cases hI
    · exact h.elim
set_option maxRecDepth 100000 in
theorem wd_146 : Cond.methodLink "LearnLoans$Rows" 3 objectInit ∈ am_ws := am_wsi (List.mem_of_getElem? (i := 146) (by rfl)) (by decide +kernel)
set_option maxRecDepth 100000 in
theorem wd_76 : Cond.instanceMethod objectInit ∈ am_ws := am_wsi (List.mem_of_getElem? (i := 76) (by rfl)) (by decide +kernel)
set_option maxRecDepth 100000 in
theorem wd_77 : Cond.code objectInit ⟨#[0xb1]⟩ 1 none ∈ am_ws := am_wsi (List.mem_of_getElem? (i := 77) (by rfl)) (by decide +kernel)
theorem dX3_init_0 : decode cX3_init 0 = .ok (.aload_n 0, 1) := by decide +kernel
theorem dX3_init_1 : decode cX3_init 1 = .ok (.invokespecial 3, 3) := by decide +kernel
theorem dX3_init_4 : decode cX3_init 4 = .ok (.aload_n 0, 1) := by decide +kernel
theorem dX3_init_5 : decode cX3_init 5 = .ok (.aload_n 1, 1) := by decide +kernel
theorem dX3_init_6 : decode cX3_init 6 = .ok (.putfield 9, 3) := by decide +kernel
theorem dX3_init_9 : decode cX3_init 9 = .ok (.aload_n 0, 1) := by decide +kernel
theorem dX3_init_10 : decode cX3_init 10 = .ok (.iload_n 2, 1) := by decide +kernel
theorem dX3_init_11 : decode cX3_init 11 = .ok (.putfield 15, 3) := by decide +kernel
theorem dX3_init_14 : decode cX3_init 14 = .ok (.return_, 1) := by decide +kernel
def kX3_init (Ret : an_R) : an_code := [(0, an_lf (fun live => am_aload 0 1)), (1, an_obj 20 4), (4, an_lf (fun live => am_aload 0 5)), (5, an_lf (fun live => am_aload 1 6)), (6, an_putFR 3 0 9), (9, an_lf (fun live => am_aload 0 10)), (10, an_lf (fun live => am_iload 2 11)), (11, an_putFI 3 1 14), (14, an_retV Ret)]
theorem koX3_init (Ret : an_R) : ∀ q ∈ kX3_init Ret, an_ok RX3 cX3_init 3 none 1 20 0 0 true (fun _ _ _ => True) Ret q.1 q.2 :=
  an_kc (an_lift (fun live => ak_aload_n dX3_init_0 rfl rfl)) <|
  an_kc (nk_obj (am_w3 wd_146 wd_76 wd_77) (by decide) dX3_init_1 rfl) <|
  an_kc (an_lift (fun live => ak_aload_n dX3_init_4 rfl rfl)) <|
  an_kc (an_lift (fun live => ak_aload_n dX3_init_5 rfl rfl)) <|
  an_kc (nk_putFR (C := RX3) (C2 := RX3) (T := TX3) (N := 3) rfl inX3w tyX3_ok nmX3 (by decide) rfl rfl rfl rfl rfl (tyX3_ok 0 (by decide)) (fun _ => ⟨rfl, rfl⟩) rfl wd_147 dX3_init_6 rfl) <|
  an_kc (an_lift (fun live => ak_aload_n dX3_init_9 rfl rfl)) <|
  an_kc (an_lift (fun live => ak_iload_n dX3_init_10 rfl rfl)) <|
  an_kc (nk_putFI (C := RX3) (T := TX3) (N := 3) rfl inX3w tyX3_ok nmX3 (by decide) rfl rfl rfl rfl rfl (by decide +kernel) rfl wd_148 dX3_init_11 rfl) <|
  an_kc (nk_retV dX3_init_14) <| an_kn
def TX3_init : an_T := fun E as M R => match as with
  | [.ref r, .ref c, .int w] => am_if (an_isO E 3 r && E.1 c) (R none (an_rE E r 0 c) (am_wI M r 1 w))
  | _ => False
set_option maxRecDepth 100000 in
set_option maxHeartbeats 4000000 in
theorem metX3_init : an_Met yX3_init cX3_init 3 none (1) (20) 0 0 TX3_init := by
  refine an_met (own := RX3) (ini := true) (by decide +kernel) rfl (fun _ => rfl) kX3_init koX3_init 60 (fun _ _ _ _ _ => none) (fun live as M Ret h => ?_) (fun _ _ _ _ _ _ _ _ hI => by cases hI)
  unfold TX3_init at h
  split at h
  · next r c w =>
    refine ⟨Nat.le_of_ble_eq_true rfl, ?_⟩
    change an_wp _ _ _ _ [(0, Value.ref r), (1, Value.ref c), (2, Value.int w)] _ _
    have hh := am_if_mp h
    clear h
    obtain ⟨hb, h⟩ := hh
    have hc := hb
    rw [Bool.and_eq_true] at hc
    obtain ⟨h1, h2⟩ := hc
    repeat' (first | (with_reducible exact hb) | (with_reducible exact h1) | (with_reducible exact h2) | (refine Exists.intro _ (And.intro h2 ?_)) | apply And.intro | exact rfl | intro hx | (refine Exists.intro _ (And.intro rfl ?_)) | ((with_reducible change _ = true); simp only [h1, h2, Bool.true_and]; rfl))
    all_goals try first | (with_reducible change am_tI _ _) | (change Ret _ _) | (change Ret _ _ _) | (change Exists _)
    all_goals try dsimp only at *
    all_goals try exact absurd ‹(1000 : Int64) = 0› (by decide)
    all_goals first | exact h | exact h1
  · exact h.elim
set_option maxRecDepth 100000 in
theorem wd_260 : Cond.methodLink "LearnLoans$Letters" 1 objectInit ∈ am_ws := am_wsi (List.mem_of_getElem? (i := 260) (by rfl)) (by decide +kernel)
theorem dX1_init_0 : decode cX1_init 0 = .ok (.aload_n 0, 1) := by decide +kernel
theorem dX1_init_1 : decode cX1_init 1 = .ok (.invokespecial 1, 3) := by decide +kernel
theorem dX1_init_4 : decode cX1_init 4 = .ok (.return_, 1) := by decide +kernel
def kX1_init (Ret : an_R) : an_code := [(0, an_lf (fun live => am_aload 0 1)), (1, an_obj 20 4), (4, an_retV Ret)]
theorem koX1_init (Ret : an_R) : ∀ q ∈ kX1_init Ret, an_ok RX1 cX1_init 1 none 1 20 0 0 true (fun _ _ _ => True) Ret q.1 q.2 :=
  an_kc (an_lift (fun live => ak_aload_n dX1_init_0 rfl rfl)) <|
  an_kc (nk_obj (am_w3 wd_260 wd_76 wd_77) (by decide) dX1_init_1 rfl) <|
  an_kc (nk_retV dX1_init_4) <| an_kn
def TX1_init : an_T := fun E as M R => match as with
  | [.ref _] => R none E M
  | _ => False
set_option maxRecDepth 100000 in
set_option maxHeartbeats 4000000 in
theorem metX1_init : an_Met yX1_init cX1_init 1 none (1) (20) 0 0 TX1_init := by
  refine an_met (own := RX1) (ini := true) (by decide +kernel) rfl (fun _ => rfl) kX1_init koX1_init 60 (fun _ _ _ _ _ => none) (fun live as M Ret h => ?_) (fun _ _ _ _ _ _ _ _ hI => by cases hI)
  unfold TX1_init at h
  split at h
  · next r =>
    refine ⟨Nat.le_of_ble_eq_true rfl, ?_⟩
    change an_wp _ _ _ _ [(0, Value.ref r)] _ _
    repeat' (first | apply And.intro | exact rfl | intro hx | (refine Exists.intro _ (And.intro rfl ?_)))
    all_goals try first | (with_reducible change am_tI _ _) | (change Ret _ _) | (change Ret _ _ _) | (change Exists _)
    all_goals try dsimp only at *
    all_goals try exact absurd ‹(1000 : Int64) = 0› (by decide)
    exact h
  · exact h.elim
/-- a text's place, a house's people's place -/
def an_t5 (n : Nat) : Bool := [39, 42, 45, 48, 51, 79, 82, 85, 88, 91, 119, 122, 125, 128, 131].contains n
def an_t2 (n : Nat) : Bool := [21, 61, 101].contains n
def an_ho (n k : Nat) (E : am_E) : am_E := (fun q => Nat.beq q n || (!(Nat.blt n q && Nat.ble q (n + k)) && E.1 q), E.2)
def an_fc (E : am_E) (n : Nat) : Nat → Bool
  | 0 => E.1 n
  | k + 1 => an_fc E n k && !(E.1 (n + k + 1))
theorem an_fc_spec {E : am_E} {n : Nat} : ∀ {k : Nat}, an_fc E n k = true → E.1 n = true ∧ ∀ q, n < q → q ≤ n + k → E.1 q = false
  | 0, h => ⟨h, fun q h1 h2 => by omega⟩
  | k + 1, h => by
    have h : (an_fc E n k && !(E.1 (n + k + 1))) = true := h
    rw [Bool.and_eq_true] at h
    obtain ⟨a, b⟩ := an_fc_spec h.1
    refine ⟨a, fun q h1 h2 => ?_⟩
    by_cases e : q = n + k + 1
    · rw [e]
      have := h.2
      cases hq : E.1 (n + k + 1) with
      | true => rw [hq] at this; cases this
      | false => rfl
    · exact b q h1 (by omega)
theorem an_ho_of {E : am_E} {n k : Nat} (h : an_fc E n k = true) : E = an_ho n k E := by
  obtain ⟨a, b⟩ := an_fc_spec h
  refine Prod.ext (funext fun q => ?_) rfl
  show E.1 q = (Nat.beq q n || (!(Nat.blt n q && Nat.ble q (n + k)) && E.1 q))
  by_cases e : q = n
  · rw [e, an_beq, a]; rfl
  · rw [an_bne e]
    by_cases h1 : n < q
    · by_cases h2 : q ≤ n + k
      · rw [b q h1 h2, Bool.and_false]; rfl
      · rw [show Nat.ble q (n + k) = false from by
          cases hh : Nat.ble q (n + k) with
          | true => exact absurd (Nat.le_of_ble_eq_true hh) h2
          | false => rfl, Bool.and_false]
        rfl
    · rw [show Nat.blt n q = false from by
          cases hh : Nat.blt n q with
          | true => exact absurd (Nat.le_of_ble_eq_true hh) h1
          | false => rfl, Bool.false_and]
      rfl
set_option maxRecDepth 100000 in
theorem wd_167 : Cond.methodLink "LearnLoans$Text" 3 objectInit ∈ am_ws := am_wsi (List.mem_of_getElem? (i := 167) (by rfl)) (by decide +kernel)
set_option maxRecDepth 100000 in
theorem wd_140 : Cond.arrayClass (newarray.typeOf .int) ∈ am_ws := am_wsi (List.mem_of_getElem? (i := 140) (by rfl)) (by decide +kernel)
theorem dX5_init_0 : decode cX5_init 0 = .ok (.aload_n 0, 1) := by decide +kernel
theorem dX5_init_1 : decode cX5_init 1 = .ok (.invokespecial 3, 3) := by decide +kernel
theorem dX5_init_4 : decode cX5_init 4 = .ok (.aload_n 0, 1) := by decide +kernel
theorem dX5_init_5 : decode cX5_init 5 = .ok (.bipush 50, 2) := by decide +kernel
theorem dX5_init_7 : decode cX5_init 7 = .ok (.newarray .int, 2) := by decide +kernel
theorem dX5_init_9 : decode cX5_init 9 = .ok (.putfield 9, 3) := by decide +kernel
theorem dX5_init_12 : decode cX5_init 12 = .ok (.aload_n 0, 1) := by decide +kernel
theorem dX5_init_13 : decode cX5_init 13 = .ok (.bipush 50, 2) := by decide +kernel
theorem dX5_init_15 : decode cX5_init 15 = .ok (.newarray .int, 2) := by decide +kernel
theorem dX5_init_17 : decode cX5_init 17 = .ok (.putfield 15, 3) := by decide +kernel
theorem dX5_init_20 : decode cX5_init 20 = .ok (.aload_n 0, 1) := by decide +kernel
theorem dX5_init_21 : decode cX5_init 21 = .ok (.iconst 1, 1) := by decide +kernel
theorem dX5_init_22 : decode cX5_init 22 = .ok (.putfield 18, 3) := by decide +kernel
theorem dX5_init_25 : decode cX5_init 25 = .ok (.return_, 1) := by decide +kernel
def kX5_init (n : Nat) (Ret : an_R) : an_code := [(0, an_lf (fun live => am_aload 0 1)), (1, an_obj 20 4), (4, an_lf (fun live => am_aload 0 5)), (5, an_lf (fun live => am_const (.int 50) 7)), (7, an_newa 0 50 (fun L => n + 1) 2 100 9), (9, an_putFR 5 0 12), (12, an_lf (fun live => am_aload 0 13)), (13, an_lf (fun live => am_const (.int 50) 15)), (15, an_newa 0 50 (fun L => n + 2) 2 100 17), (17, an_putFR 5 1 20), (20, an_lf (fun live => am_aload 0 21)), (21, an_lf (fun live => am_const (.int 1) 22)), (22, an_lf (fun live => am_putI live 5 6 25)), (25, an_retV Ret)]
theorem koX5_init (n : Nat) (Ret : an_R) : ∀ q ∈ kX5_init n Ret, an_ok RX5 cX5_init 1 none 1 20 2 100 true (fun _ _ _ => True) Ret q.1 q.2 :=
  an_kc (an_lift (fun live => ak_aload_n dX5_init_0 rfl rfl)) <|
  an_kc (nk_obj (am_w3 wd_167 wd_76 wd_77) (by decide) dX5_init_1 rfl) <|
  an_kc (an_lift (fun live => ak_aload_n dX5_init_4 rfl rfl)) <|
  an_kc (an_lift (fun live => ak_bipush dX5_init_5 (by decide +kernel) rfl)) <|
  an_kc (nk_newa (t := 0) (len := 50) (atype := .int) (ty := .int) rfl (fun _ => rfl) (fun _ z => by cases z) (fun _ => rfl) wd_140 (by decide) dX5_init_7 rfl) <|
  an_kc (nk_putFR (C := RX5) (C2 := RX5) (T := TX5) (N := 7) rfl inX5w tyX5_ok nmX5 (by decide) rfl rfl rfl rfl rfl (tyX5_ok 0 (by decide)) (fun _ => ⟨rfl, rfl⟩) rfl wd_168 dX5_init_9 rfl) <|
  an_kc (an_lift (fun live => ak_aload_n dX5_init_12 rfl rfl)) <|
  an_kc (an_lift (fun live => ak_bipush dX5_init_13 (by decide +kernel) rfl)) <|
  an_kc (nk_newa (t := 0) (len := 50) (atype := .int) (ty := .int) rfl (fun _ => rfl) (fun _ z => by cases z) (fun _ => rfl) wd_140 (by decide) dX5_init_15 rfl) <|
  an_kc (nk_putFR (C := RX5) (C2 := RX5) (T := TX5) (N := 7) rfl inX5w tyX5_ok nmX5 (by decide) rfl rfl rfl rfl rfl (tyX5_ok 1 (by decide)) (fun _ => ⟨rfl, rfl⟩) rfl wd_169 dX5_init_17 rfl) <|
  an_kc (an_lift (fun live => ak_aload_n dX5_init_20 rfl rfl)) <|
  an_kc (an_lift (fun live => ak_iconst dX5_init_21 (by decide +kernel) rfl)) <|
  an_kc (an_lift (fun live => ak_putI (C := RX5) (T := TX5) (N := 7) rfl inX5w tyX5_ok nmX5 (by decide) rfl rfl rfl rfl (by decide +kernel) wd_175 dX5_init_22 rfl)) <|
  an_kc (nk_retV dX5_init_25) <| an_kn
def eX5 (n : Nat) (E : am_E) : am_E := an_rE (an_bE (an_rE (an_bE (E) (n + 1)) n 0 (n + 1)) (n + 2)) n 1 (n + 2)
def mX5 (n : Nat) (M : am_M) : am_M := am_wI (an_bM (an_bM (M) (n + 1)) (n + 2)) n 6 1
def TX5n (n : Nat) : an_T := fun E as M R => match as with
  | [.ref r] => am_if (Nat.beq r n && (an_t5 n && an_fc E n 2)) (R none (eX5 n E) (mX5 n M))
  | _ => False
theorem an_t5_of {n : Nat} (h : an_t5 n = true) : n = 39 ∨ n = 42 ∨ n = 45 ∨ n = 48 ∨ n = 51 ∨ n = 79 ∨ n = 82 ∨ n = 85 ∨ n = 88 ∨ n = 91 ∨ n = 119 ∨ n = 122 ∨ n = 125 ∨ n = 128 ∨ n = 131 := by
  unfold an_t5 at h
  simpa using h
set_option maxRecDepth 100000 in
set_option maxHeartbeats 4000000 in
theorem metX5_initn (n : Nat) : an_Met yX5_init cX5_init 1 none (1) (20) 2 100 (TX5n n) := by
  refine an_met (own := RX5) (ini := true) (by decide +kernel) rfl (fun _ => rfl) (kX5_init n ) (koX5_init n  ) 120 (fun _ _ _ _ _ => none) (fun live as M Ret h => ?_) (fun _ _ _ _ _ _ _ _ hI => by cases hI)
  unfold TX5n at h
  split at h
  · next r =>
    refine ⟨Nat.le_of_ble_eq_true rfl, ?_⟩
    change an_wp _ _ _ _ [(0, Value.ref r)] _ _
    have hh := am_if_mp h
    clear h
    obtain ⟨hb, h⟩ := hh
    rw [Bool.and_eq_true, Bool.and_eq_true] at hb
    obtain ⟨h1, h2, h3⟩ := hb
    have h1 := Nat.eq_of_beq_eq_true h1
    subst h1
    obtain ⟨E, rfl⟩ : ∃ E, live = an_ho r 2 E := ⟨live, an_ho_of h3⟩
    clear h3
    have h2 := an_t5_of h2
    rcases h2 with rfl | rfl | rfl | rfl | rfl | rfl | rfl | rfl | rfl | rfl | rfl | rfl | rfl | rfl | rfl
    repeat' (first | apply And.intro | exact rfl | intro hx | (refine Exists.intro _ (And.intro rfl ?_)))
    all_goals try first | (with_reducible change am_tI _ _) | (change Ret _ _) | (change Ret _ _ _) | (change Exists _)
    all_goals try dsimp only at *
    all_goals try exact absurd ‹(1000 : Int64) = 0› (by decide)
    all_goals exact h
  · exact h.elim
def TX5_init : an_T := fun E as M R => match as with
  | [.ref n] => TX5n n E [.ref n] M R
  | _ => False
theorem metX5_init : an_Met yX5_init cX5_init 1 none 1 20 2 100 TX5_init := by
  intro l D cA al B live as M Ret hcl hT
  unfold TX5_init at hT
  split at hT
  · next n => exact metX5_initn n l D cA al B live _ M Ret hcl hT
  · exact hT.elim
set_option maxRecDepth 100000 in
theorem wd_101 : Cond.methodLink "LearnLoans$People" 3 objectInit ∈ am_ws := am_wsi (List.mem_of_getElem? (i := 101) (by rfl)) (by decide +kernel)
set_option maxRecDepth 100000 in
theorem wd_102 : Cond.methodLink "LearnLoans$People" 33 yJ7_fill_53178 ∈ am_ws := am_wsi (List.mem_of_getElem? (i := 102) (by rfl)) (by decide +kernel)
set_option maxRecDepth 100000 in
theorem wd_103 : Cond.static yJ7_fill_53178 ∈ am_ws := am_wsi (List.mem_of_getElem? (i := 103) (by rfl)) (by decide +kernel)
set_option maxRecDepth 100000 in
theorem wd_63 : Cond.initialized "java/util/Arrays" ∈ am_ws := am_wsi (List.mem_of_getElem? (i := 63) (by rfl)) (by decide +kernel)
set_option maxRecDepth 100000 in
theorem wd_104 : Cond.code yJ7_fill_53178 cJ7_fill_53178 4 none ∈ am_ws := am_wsi (List.mem_of_getElem? (i := 104) (by rfl)) (by decide +kernel)
theorem dX2_init_0 : decode cX2_init 0 = .ok (.aload_n 0, 1) := by decide +kernel
theorem dX2_init_1 : decode cX2_init 1 = .ok (.invokespecial 3, 3) := by decide +kernel
theorem dX2_init_4 : decode cX2_init 4 = .ok (.aload_n 0, 1) := by decide +kernel
theorem dX2_init_5 : decode cX2_init 5 = .ok (.bipush 12, 2) := by decide +kernel
theorem dX2_init_7 : decode cX2_init 7 = .ok (.newarray .int, 2) := by decide +kernel
theorem dX2_init_9 : decode cX2_init 9 = .ok (.putfield 9, 3) := by decide +kernel
theorem dX2_init_12 : decode cX2_init 12 = .ok (.aload_n 0, 1) := by decide +kernel
theorem dX2_init_13 : decode cX2_init 13 = .ok (.bipush 12, 2) := by decide +kernel
theorem dX2_init_15 : decode cX2_init 15 = .ok (.newarray .int, 2) := by decide +kernel
theorem dX2_init_17 : decode cX2_init 17 = .ok (.putfield 15, 3) := by decide +kernel
theorem dX2_init_20 : decode cX2_init 20 = .ok (.aload_n 0, 1) := by decide +kernel
theorem dX2_init_21 : decode cX2_init 21 = .ok (.sipush 480, 3) := by decide +kernel
theorem dX2_init_24 : decode cX2_init 24 = .ok (.newarray .int, 2) := by decide +kernel
theorem dX2_init_26 : decode cX2_init 26 = .ok (.putfield 18, 3) := by decide +kernel
theorem dX2_init_29 : decode cX2_init 29 = .ok (.aload_n 0, 1) := by decide +kernel
theorem dX2_init_30 : decode cX2_init 30 = .ok (.sipush 480, 3) := by decide +kernel
theorem dX2_init_33 : decode cX2_init 33 = .ok (.newarray .int, 2) := by decide +kernel
theorem dX2_init_35 : decode cX2_init 35 = .ok (.putfield 21, 3) := by decide +kernel
theorem dX2_init_38 : decode cX2_init 38 = .ok (.aload_n 0, 1) := by decide +kernel
theorem dX2_init_39 : decode cX2_init 39 = .ok (.sipush 480, 3) := by decide +kernel
theorem dX2_init_42 : decode cX2_init 42 = .ok (.newarray .int, 2) := by decide +kernel
theorem dX2_init_44 : decode cX2_init 44 = .ok (.putfield 24, 3) := by decide +kernel
theorem dX2_init_47 : decode cX2_init 47 = .ok (.aload_n 0, 1) := by decide +kernel
theorem dX2_init_48 : decode cX2_init 48 = .ok (.sipush 480, 3) := by decide +kernel
theorem dX2_init_51 : decode cX2_init 51 = .ok (.newarray .int, 2) := by decide +kernel
theorem dX2_init_53 : decode cX2_init 53 = .ok (.putfield 27, 3) := by decide +kernel
theorem dX2_init_56 : decode cX2_init 56 = .ok (.aload_n 0, 1) := by decide +kernel
theorem dX2_init_57 : decode cX2_init 57 = .ok (.sipush 480, 3) := by decide +kernel
theorem dX2_init_60 : decode cX2_init 60 = .ok (.newarray .int, 2) := by decide +kernel
theorem dX2_init_62 : decode cX2_init 62 = .ok (.putfield 30, 3) := by decide +kernel
theorem dX2_init_65 : decode cX2_init 65 = .ok (.aload_n 0, 1) := by decide +kernel
theorem dX2_init_66 : decode cX2_init 66 = .ok (.getfield 15, 3) := by decide +kernel
theorem dX2_init_69 : decode cX2_init 69 = .ok (.iconst (-1), 1) := by decide +kernel
theorem dX2_init_70 : decode cX2_init 70 = .ok (.invokestatic 33, 3) := by decide +kernel
theorem dX2_init_73 : decode cX2_init 73 = .ok (.aload_n 0, 1) := by decide +kernel
theorem dX2_init_74 : decode cX2_init 74 = .ok (.getfield 24, 3) := by decide +kernel
theorem dX2_init_77 : decode cX2_init 77 = .ok (.iconst (-1), 1) := by decide +kernel
theorem dX2_init_78 : decode cX2_init 78 = .ok (.invokestatic 33, 3) := by decide +kernel
theorem dX2_init_81 : decode cX2_init 81 = .ok (.aload_n 0, 1) := by decide +kernel
theorem dX2_init_82 : decode cX2_init 82 = .ok (.getfield 30, 3) := by decide +kernel
theorem dX2_init_85 : decode cX2_init 85 = .ok (.iconst (-1), 1) := by decide +kernel
theorem dX2_init_86 : decode cX2_init 86 = .ok (.invokestatic 33, 3) := by decide +kernel
theorem dX2_init_89 : decode cX2_init 89 = .ok (.return_, 1) := by decide +kernel
def kX2_init (n : Nat) (Ret : an_R) : an_code := [(0, an_lf (fun live => am_aload 0 1)), (1, an_obj 23 4), (4, an_lf (fun live => am_aload 0 5)), (5, an_lf (fun live => am_const (.int 12) 7)), (7, an_newa 0 12 (fun L => n + 1) 7 2424 9), (9, an_putFR 2 0 12), (12, an_lf (fun live => am_aload 0 13)), (13, an_lf (fun live => am_const (.int 12) 15)), (15, an_newa 0 12 (fun L => n + 2) 7 2424 17), (17, an_putFR 2 1 20), (20, an_lf (fun live => am_aload 0 21)), (21, an_lf (fun live => am_const (.int 480) 24)), (24, an_newa 0 480 (fun L => n + 3) 7 2424 26), (26, an_putFR 2 2 29), (29, an_lf (fun live => am_aload 0 30)), (30, an_lf (fun live => am_const (.int 480) 33)), (33, an_newa 0 480 (fun L => n + 4) 7 2424 35), (35, an_putFR 2 3 38), (38, an_lf (fun live => am_aload 0 39)), (39, an_lf (fun live => am_const (.int 480) 42)), (42, an_newa 0 480 (fun L => n + 5) 7 2424 44), (44, an_putFR 2 4 47), (47, an_lf (fun live => am_aload 0 48)), (48, an_lf (fun live => am_const (.int 480) 51)), (51, an_newa 0 480 (fun L => n + 6) 7 2424 53), (53, an_putFR 2 5 56), (56, an_lf (fun live => am_aload 0 57)), (57, an_lf (fun live => am_const (.int 480) 60)), (60, an_newa 0 480 (fun L => n + 7) 7 2424 62), (62, an_putFR 2 6 65), (65, an_lf (fun live => am_aload 0 66)), (66, an_lf (fun live => am_getR live 2 1 69)), (69, an_lf (fun live => am_const (.int (-1)) 70)), (70, an_lf (fun live => am_callS live 2 TJ7_fill_53178 73)), (73, an_lf (fun live => am_aload 0 74)), (74, an_lf (fun live => am_getR live 2 4 77)), (77, an_lf (fun live => am_const (.int (-1)) 78)), (78, an_lf (fun live => am_callS live 2 TJ7_fill_53178 81)), (81, an_lf (fun live => am_aload 0 82)), (82, an_lf (fun live => am_getR live 2 6 85)), (85, an_lf (fun live => am_const (.int (-1)) 86)), (86, an_lf (fun live => am_callS live 2 TJ7_fill_53178 89)), (89, an_retV Ret)]
theorem koX2_init (n : Nat) (Ret : an_R) : ∀ q ∈ kX2_init n Ret, an_ok RX2 cX2_init 1 none 1 23 7 2424 true (fun _ _ _ => True) Ret q.1 q.2 :=
  an_kc (an_lift (fun live => ak_aload_n dX2_init_0 rfl rfl)) <|
  an_kc (nk_obj (am_w3 wd_101 wd_76 wd_77) (by decide) dX2_init_1 rfl) <|
  an_kc (an_lift (fun live => ak_aload_n dX2_init_4 rfl rfl)) <|
  an_kc (an_lift (fun live => ak_bipush dX2_init_5 (by decide +kernel) rfl)) <|
  an_kc (nk_newa (t := 0) (len := 12) (atype := .int) (ty := .int) rfl (fun _ => rfl) (fun _ z => by cases z) (fun _ => rfl) wd_140 (by decide) dX2_init_7 rfl) <|
  an_kc (nk_putFR (C := RX2) (C2 := RX2) (T := TX2) (N := 8) rfl inX2w tyX2_ok nmX2 (by decide) rfl rfl rfl rfl rfl (tyX2_ok 0 (by decide)) (fun _ => ⟨rfl, rfl⟩) rfl wd_105 dX2_init_9 rfl) <|
  an_kc (an_lift (fun live => ak_aload_n dX2_init_12 rfl rfl)) <|
  an_kc (an_lift (fun live => ak_bipush dX2_init_13 (by decide +kernel) rfl)) <|
  an_kc (nk_newa (t := 0) (len := 12) (atype := .int) (ty := .int) rfl (fun _ => rfl) (fun _ z => by cases z) (fun _ => rfl) wd_140 (by decide) dX2_init_15 rfl) <|
  an_kc (nk_putFR (C := RX2) (C2 := RX2) (T := TX2) (N := 8) rfl inX2w tyX2_ok nmX2 (by decide) rfl rfl rfl rfl rfl (tyX2_ok 1 (by decide)) (fun _ => ⟨rfl, rfl⟩) rfl wd_108 dX2_init_17 rfl) <|
  an_kc (an_lift (fun live => ak_aload_n dX2_init_20 rfl rfl)) <|
  an_kc (an_lift (fun live => ak_sipush dX2_init_21 (by decide +kernel) rfl)) <|
  an_kc (nk_newa (t := 0) (len := 480) (atype := .int) (ty := .int) rfl (fun _ => rfl) (fun _ z => by cases z) (fun _ => rfl) wd_140 (by decide) dX2_init_24 rfl) <|
  an_kc (nk_putFR (C := RX2) (C2 := RX2) (T := TX2) (N := 8) rfl inX2w tyX2_ok nmX2 (by decide) rfl rfl rfl rfl rfl (tyX2_ok 2 (by decide)) (fun _ => ⟨rfl, rfl⟩) rfl wd_110 dX2_init_26 rfl) <|
  an_kc (an_lift (fun live => ak_aload_n dX2_init_29 rfl rfl)) <|
  an_kc (an_lift (fun live => ak_sipush dX2_init_30 (by decide +kernel) rfl)) <|
  an_kc (nk_newa (t := 0) (len := 480) (atype := .int) (ty := .int) rfl (fun _ => rfl) (fun _ z => by cases z) (fun _ => rfl) wd_140 (by decide) dX2_init_33 rfl) <|
  an_kc (nk_putFR (C := RX2) (C2 := RX2) (T := TX2) (N := 8) rfl inX2w tyX2_ok nmX2 (by decide) rfl rfl rfl rfl rfl (tyX2_ok 3 (by decide)) (fun _ => ⟨rfl, rfl⟩) rfl wd_113 dX2_init_35 rfl) <|
  an_kc (an_lift (fun live => ak_aload_n dX2_init_38 rfl rfl)) <|
  an_kc (an_lift (fun live => ak_sipush dX2_init_39 (by decide +kernel) rfl)) <|
  an_kc (nk_newa (t := 0) (len := 480) (atype := .int) (ty := .int) rfl (fun _ => rfl) (fun _ z => by cases z) (fun _ => rfl) wd_140 (by decide) dX2_init_42 rfl) <|
  an_kc (nk_putFR (C := RX2) (C2 := RX2) (T := TX2) (N := 8) rfl inX2w tyX2_ok nmX2 (by decide) rfl rfl rfl rfl rfl (tyX2_ok 4 (by decide)) (fun _ => ⟨rfl, rfl⟩) rfl wd_115 dX2_init_44 rfl) <|
  an_kc (an_lift (fun live => ak_aload_n dX2_init_47 rfl rfl)) <|
  an_kc (an_lift (fun live => ak_sipush dX2_init_48 (by decide +kernel) rfl)) <|
  an_kc (nk_newa (t := 0) (len := 480) (atype := .int) (ty := .int) rfl (fun _ => rfl) (fun _ z => by cases z) (fun _ => rfl) wd_140 (by decide) dX2_init_51 rfl) <|
  an_kc (nk_putFR (C := RX2) (C2 := RX2) (T := TX2) (N := 8) rfl inX2w tyX2_ok nmX2 (by decide) rfl rfl rfl rfl rfl (tyX2_ok 5 (by decide)) (fun _ => ⟨rfl, rfl⟩) rfl wd_117 dX2_init_53 rfl) <|
  an_kc (an_lift (fun live => ak_aload_n dX2_init_56 rfl rfl)) <|
  an_kc (an_lift (fun live => ak_sipush dX2_init_57 (by decide +kernel) rfl)) <|
  an_kc (nk_newa (t := 0) (len := 480) (atype := .int) (ty := .int) rfl (fun _ => rfl) (fun _ z => by cases z) (fun _ => rfl) wd_140 (by decide) dX2_init_60 rfl) <|
  an_kc (nk_putFR (C := RX2) (C2 := RX2) (T := TX2) (N := 8) rfl inX2w tyX2_ok nmX2 (by decide) rfl rfl rfl rfl rfl (tyX2_ok 6 (by decide)) (fun _ => ⟨rfl, rfl⟩) rfl wd_119 dX2_init_62 rfl) <|
  an_kc (an_lift (fun live => ak_aload_n dX2_init_65 rfl rfl)) <|
  an_kc (an_lift (fun live => ak_getR (C := RX2) (T := TX2) (N := 8) rfl inX2w (by decide) rfl rfl rfl wd_108 dX2_init_66 rfl)) <|
  an_kc (an_lift (fun live => ak_iconst dX2_init_69 (by decide +kernel) rfl)) <|
  an_kc (an_lift (fun live => ak_callSO metJ7_fill_53178 ⟨by decide +kernel, by decide +kernel, by decide +kernel⟩ (am_w4 wd_102 wd_103 wd_63 wd_104) (by decide) dX2_init_70 rfl)) <|
  an_kc (an_lift (fun live => ak_aload_n dX2_init_73 rfl rfl)) <|
  an_kc (an_lift (fun live => ak_getR (C := RX2) (T := TX2) (N := 8) rfl inX2w (by decide) rfl rfl rfl wd_115 dX2_init_74 rfl)) <|
  an_kc (an_lift (fun live => ak_iconst dX2_init_77 (by decide +kernel) rfl)) <|
  an_kc (an_lift (fun live => ak_callSO metJ7_fill_53178 ⟨by decide +kernel, by decide +kernel, by decide +kernel⟩ (am_w4 wd_102 wd_103 wd_63 wd_104) (by decide) dX2_init_78 rfl)) <|
  an_kc (an_lift (fun live => ak_aload_n dX2_init_81 rfl rfl)) <|
  an_kc (an_lift (fun live => ak_getR (C := RX2) (T := TX2) (N := 8) rfl inX2w (by decide) rfl rfl rfl wd_119 dX2_init_82 rfl)) <|
  an_kc (an_lift (fun live => ak_iconst dX2_init_85 (by decide +kernel) rfl)) <|
  an_kc (an_lift (fun live => ak_callSO metJ7_fill_53178 ⟨by decide +kernel, by decide +kernel, by decide +kernel⟩ (am_w4 wd_102 wd_103 wd_63 wd_104) (by decide) dX2_init_86 rfl)) <|
  an_kc (nk_retV dX2_init_89) <| an_kn
def eX2 (n : Nat) (E : am_E) : am_E := an_rE (an_bE (an_rE (an_bE (an_rE (an_bE (an_rE (an_bE (an_rE (an_bE (an_rE (an_bE (an_rE (an_bE (E) (n + 1)) n 0 (n + 1)) (n + 2)) n 1 (n + 2)) (n + 3)) n 2 (n + 3)) (n + 4)) n 3 (n + 4)) (n + 5)) n 4 (n + 5)) (n + 6)) n 5 (n + 6)) (n + 7)) n 6 (n + 7)
def mX2 (n : Nat) (M : am_M) : am_M := am_lay (am_lay (am_lay (an_bM (an_bM (an_bM (an_bM (an_bM (an_bM (an_bM (M) (n + 1)) (n + 2)) (n + 3)) (n + 4)) (n + 5)) (n + 6)) (n + 7)) (n + 2) 0 ((12 : Int) - 1) (-1)) (n + 5) 0 ((480 : Int) - 1) (-1)) (n + 7) 0 ((480 : Int) - 1) (-1)
def TX2n (n : Nat) : an_T := fun E as M R => match as with
  | [.ref r] => am_if (Nat.beq r n && (an_t2 n && an_fc E n 7)) (R none (eX2 n E) (mX2 n M))
  | _ => False
theorem an_t2_of {n : Nat} (h : an_t2 n = true) : n = 21 ∨ n = 61 ∨ n = 101 := by
  unfold an_t2 at h
  simpa using h
set_option maxRecDepth 100000 in
set_option maxHeartbeats 4000000 in
theorem metX2_initn (n : Nat) : an_Met yX2_init cX2_init 1 none (1) (23) 7 2424 (TX2n n) := by
  refine an_met (own := RX2) (ini := true) (by decide +kernel) rfl (fun _ => rfl) (kX2_init n ) (koX2_init n  ) 120 (fun _ _ _ _ _ => none) (fun live as M Ret h => ?_) (fun _ _ _ _ _ _ _ _ hI => by cases hI)
  unfold TX2n at h
  split at h
  · next r =>
    refine ⟨Nat.le_of_ble_eq_true rfl, ?_⟩
    change an_wp _ _ _ _ [(0, Value.ref r)] _ _
    have hh := am_if_mp h
    clear h
    obtain ⟨hb, h⟩ := hh
    rw [Bool.and_eq_true, Bool.and_eq_true] at hb
    obtain ⟨h1, h2, h3⟩ := hb
    have h1 := Nat.eq_of_beq_eq_true h1
    subst h1
    obtain ⟨E, rfl⟩ : ∃ E, live = an_ho r 7 E := ⟨live, an_ho_of h3⟩
    clear h3
    have h2 := an_t2_of h2
    rcases h2 with rfl | rfl | rfl
    repeat' (first | apply And.intro | exact rfl | intro hx | (refine Exists.intro _ (And.intro rfl ?_)))
    all_goals try first | (with_reducible change am_tI _ _) | (change Ret _ _) | (change Ret _ _ _) | (change Exists _)
    all_goals try dsimp only at *
    all_goals try exact absurd ‹(1000 : Int64) = 0› (by decide)
    all_goals exact h
  · exact h.elim
def TX2_init : an_T := fun E as M R => match as with
  | [.ref n] => TX2n n E [.ref n] M R
  | _ => False
theorem metX2_init : an_Met yX2_init cX2_init 1 none 1 23 7 2424 TX2_init := by
  intro l D cA al B live as M Ret hcl hT
  unfold TX2_init at hT
  split at hT
  · next n => exact metX2_initn n l D cA al B live _ M Ret hcl hT
  · exact hT.elim
