/-! births: the constructors -/
theorem am_w3 {a b c : Cond} (h1 : a ∈ am_ws) (h2 : b ∈ am_ws) (h3 : c ∈ am_ws) : ∀ w ∈ ([a, b, c] : List Cond), w ∈ am_ws := by
  intro w hw
  simp only [List.mem_cons, List.not_mem_nil, or_false] at hw
  rcases hw with rfl | rfl | rfl <;> assumption
theorem zX0 : ∀ j, j < 13 → defaultValue (tyX0 j) = an_z 0 j := fun j hj => match j, hj with
  | 0, _ => rfl
  | 1, _ => rfl
  | 2, _ => rfl
  | 3, _ => rfl
  | 4, _ => rfl
  | 5, _ => rfl
  | 6, _ => rfl
  | 7, _ => rfl
  | 8, _ => rfl
  | 9, _ => rfl
  | 10, _ => rfl
  | 11, _ => rfl
  | 12, _ => rfl
  | j + 13, h => absurd h (by omega)
theorem zX1 : ∀ j, j < 7 → defaultValue (tyX1 j) = an_z 1 j := fun j hj => match j, hj with
  | 0, _ => rfl
  | 1, _ => rfl
  | 2, _ => rfl
  | 3, _ => rfl
  | 4, _ => rfl
  | 5, _ => rfl
  | 6, _ => rfl
  | j + 7, h => absurd h (by omega)
theorem zX2 : ∀ j, j < 8 → defaultValue (tyX2 j) = an_z 2 j := fun j hj => match j, hj with
  | 0, _ => rfl
  | 1, _ => rfl
  | 2, _ => rfl
  | 3, _ => rfl
  | 4, _ => rfl
  | 5, _ => rfl
  | 6, _ => rfl
  | 7, _ => rfl
  | j + 8, h => absurd h (by omega)
theorem zX3 : ∀ j, j < 3 → defaultValue (tyX3 j) = an_z 3 j := fun j hj => match j, hj with
  | 0, _ => rfl
  | 1, _ => rfl
  | 2, _ => rfl
  | j + 3, h => absurd h (by omega)
theorem zX4 : ∀ j, j < 19 → defaultValue (tyX4 j) = an_z 4 j := fun j hj => match j, hj with
  | 0, _ => rfl
  | 1, _ => rfl
  | 2, _ => rfl
  | 3, _ => rfl
  | 4, _ => rfl
  | 5, _ => rfl
  | 6, _ => rfl
  | 7, _ => rfl
  | 8, _ => rfl
  | 9, _ => rfl
  | 10, _ => rfl
  | 11, _ => rfl
  | 12, _ => rfl
  | 13, _ => rfl
  | 14, _ => rfl
  | 15, _ => rfl
  | 16, _ => rfl
  | 17, _ => rfl
  | 18, _ => rfl
  | j + 19, h => absurd h (by omega)
theorem zX5 : ∀ j, j < 7 → defaultValue (tyX5 j) = an_z 5 j := fun j hj => match j, hj with
  | 0, _ => rfl
  | 1, _ => rfl
  | 2, _ => rfl
  | 3, _ => rfl
  | 4, _ => rfl
  | 5, _ => rfl
  | 6, _ => rfl
  | j + 7, h => absurd h (by omega)
theorem zX6 : ∀ j, j < 9 → defaultValue (tyX6 j) = an_z 6 j := fun j hj => match j, hj with
  | 0, _ => rfl
  | 1, _ => rfl
  | 2, _ => rfl
  | 3, _ => rfl
  | 4, _ => rfl
  | 5, _ => rfl
  | 6, _ => rfl
  | 7, _ => rfl
  | 8, _ => rfl
  | j + 9, h => absurd h (by omega)
theorem zX7 : ∀ j, j < 4 → defaultValue (tyX7 j) = an_z 7 j := fun j hj => match j, hj with
  | 0, _ => rfl
  | 1, _ => rfl
  | 2, _ => rfl
  | 3, _ => rfl
  | j + 4, h => absurd h (by omega)
theorem zX8 : ∀ j, j < 27 → defaultValue (tyX8 j) = an_z 8 j := fun j hj => match j, hj with
  | 0, _ => rfl
  | 1, _ => rfl
  | 2, _ => rfl
  | 3, _ => rfl
  | 4, _ => rfl
  | 5, _ => rfl
  | 6, _ => rfl
  | 7, _ => rfl
  | 8, _ => rfl
  | 9, _ => rfl
  | 10, _ => rfl
  | 11, _ => rfl
  | 12, _ => rfl
  | 13, _ => rfl
  | 14, _ => rfl
  | 15, _ => rfl
  | 16, _ => rfl
  | 17, _ => rfl
  | 18, _ => rfl
  | 19, _ => rfl
  | 20, _ => rfl
  | 21, _ => rfl
  | 22, _ => rfl
  | 23, _ => rfl
  | 24, _ => rfl
  | 25, _ => rfl
  | 26, _ => rfl
  | j + 27, h => absurd h (by omega)
def an_int (L : am_L) (i : Nat) : Nat := match am_g L i with
  | some (.int x) => x.toNatClampNeg
  | _ => 0
theorem an_bE_1 (E : am_E) (n q : Nat) : (an_bE E n).1 q = (Nat.beq q n || E.1 q) := rfl
theorem an_rE_1 (E : am_E) (n k v : Nat) : (an_rE E n k v).1 = E.1 := rfl
theorem an_nb (a b : Nat) : Nat.beq a b = decide (a = b) := by
  cases h : Nat.beq a b with
  | true => rw [Nat.eq_of_beq_eq_true h]; simp
  | false => exact (decide_eq_false (Nat.ne_of_beq_eq_false h)).symm
def rwJ7_fill_53178 : List dz_r := [(0, .iconst 0, 1), (1, .istore_n 2, 1), (2, .aload_n 0, 1), (3, .arraylength, 1), (4, .istore_n 3, 1), (5, .iload_n 2, 1), (6, .iload_n 3, 1), (7, .if_icmp .ge 13, 3), (10, .aload_n 0, 1), (11, .iload_n 2, 1), (12, .iload_n 1, 1), (13, .iastore, 1), (14, .iinc 2 1, 3), (17, .goto (-12), 3), (20, .return_, 1)]
theorem dzJ7_fill_53178 : dz cJ7_fill_53178 rwJ7_fill_53178 := dz_all 0 (by decide +kernel)
def kJ7_fill_53178 (live : am_E) (Ret : am_R) : am_code := [(0, am_const (.int 0) 1), (1, am_istore 2 4 2), (2, am_aload 0 3), (3, am_alen live 0 4), (4, am_istore 3 4 5), (5, am_iload 2 6), (6, am_iload 3 7), (7, am_if2 (fun x y => y ≤ x) 20 10), (10, am_aload 0 11), (11, am_iload 2 12), (12, am_iload 1 13), (13, am_ast live 0 14), (14, am_iinc 2 4 1 17), (17, am_goto 5), (20, am_retV Ret)]
theorem koJ7_fill_53178 (live : am_E) (Ret : am_R) : ∀ q ∈ kJ7_fill_53178 live Ret, am_ok RJ7 cJ7_fill_53178 4 none 0 0 live Ret q.1 q.2 :=
  am_kz dzJ7_fill_53178 <|
  am_kd (fun d => ak_iconst d (by decide +kernel) rfl) <|
  am_kd (fun d => ak_istore_n d rfl rfl) <|
  am_kd (fun d => ak_aload_n d rfl rfl) <|
  am_kd (fun d => ak_alen (t := 0) (fun _ => rfl) d rfl) <|
  am_kd (fun d => ak_istore_n d rfl rfl) <|
  am_kd (fun d => ak_iload_n d rfl rfl) <|
  am_kd (fun d => ak_iload_n d rfl rfl) <|
  am_kd (fun d => ak_icmp_ge d (by decide +kernel) rfl) <|
  am_kd (fun d => ak_aload_n d rfl rfl) <|
  am_kd (fun d => ak_iload_n d rfl rfl) <|
  am_kd (fun d => ak_iload_n d rfl rfl) <|
  am_kd (fun d => ak_iast (t := 0) (fun _ => rfl) rfl d rfl) <|
  am_kd (fun d => ak_iinc d (by decide +kernel) rfl) <|
  am_kd (fun d => ak_goto d (by decide +kernel)) <|
  am_kd (fun d => ak_retV d) <| am_kdn
def TJ7_fill_53178 : am_T := fun live as M R => match as with
  | [.ref c, .int v] => am_if (am_isA live 0 c && Nat.blt (am_len c) 100000) (R none (am_lay M c 0 ((am_len c : Int) - 1) v))
  | _ => False
def JJ7_fill : am_E → List Value → am_M → am_R → am_inv := fun live as M0 _ pc => match as with
  | [.ref c, .int v] => (match pc with
    | 5 => some ([0, 1, 2, 3], fun k L st M => ∃ i : Int32, L = [(0, .ref c), (1, .int v), (2, .int i), (3, .int (Int32.ofNat (am_len c)))] ∧ st = [] ∧ k = ((am_len c + 1 - i.toInt).toNat, 0) ∧ 0 ≤ i.toInt ∧ i.toInt ≤ (am_len c : Int) ∧ M = am_lay M0 c 0 (i.toInt - 1) v)
    | _ => none)
  | _ => none
set_option maxRecDepth 100000 in
set_option maxHeartbeats 4000000 in
theorem metJ7_fill_53178 : am_Met yJ7_fill_53178 cJ7_fill_53178 4 none (0) (0) TJ7_fill_53178 := by
  refine am_met (own := RJ7) (by decide +kernel) rfl kJ7_fill_53178 koJ7_fill_53178 60 JJ7_fill ?_ ?_
  · intro live as M Ret h
    unfold TJ7_fill_53178 at h
    split at h
    · next c v =>
      refine ⟨Nat.le_of_ble_eq_true rfl, ?_⟩
      change am_wp _ _ _ _ [(0, Value.ref c), (1, Value.int v)] _ _
      have hh := am_if_mp h
      clear h
      obtain ⟨hb, h⟩ := hh
      rw [Bool.and_eq_true] at hb
      obtain ⟨h1, h4⟩ := hb
      have h4 : am_len c < 100000 := Nat.le_of_ble_eq_true h4
      repeat' (first | (with_reducible exact h1) | apply And.intro | exact rfl | intro hx | (refine Exists.intro _ (And.intro rfl ?_)) | ((with_reducible change _ = true); simp only [h1, Bool.true_and]; rfl))
      all_goals try first | (with_reducible change am_tI _ _) | (change Ret _ _) | (change Ret _ _ _) | (change Exists _)
      all_goals try dsimp only at *
      all_goals try (with_reducible exact absurd ‹(1000 : Int64) = 0› am_z1000)
      refine ⟨_, _, rfl, rfl, rfl, by decide, ?_, (am_lay_nil (by decide)).symm⟩
      simp only [Int32.reduceToInt]
      omega
    · exact h.elim
  · intro live as M0 Ret h k pc I hI L st M hi
    unfold TJ7_fill_53178 at h
    split at h
    · next c v =>
      have hh := am_if_mp h
      clear h
      obtain ⟨hb, h⟩ := hh
      rw [Bool.and_eq_true] at hb
      obtain ⟨h1, h4⟩ := hb
      have h4 : am_len c < 100000 := Nat.le_of_ble_eq_true h4
      change (match pc with | 5 => _ | _ => none) = _ at hI
      split at hI
      · cases hI
        obtain ⟨i, rfl, rfl, rfl, e1, e2, rfl⟩ := hi
        have hn : (Int32.ofNat (am_len c)).toInt = (am_len c : Int) := i_nat (by omega)
        repeat' (first | (with_reducible exact h1) | apply And.intro | exact rfl | intro hx | (refine Exists.intro _ (And.intro rfl ?_)) | ((with_reducible change _ = true); simp only [h1, Bool.true_and]; rfl))
        all_goals try first | (with_reducible change am_tI _ _) | (change Ret _ _) | (change Ret _ _ _) | (change Exists _)
        all_goals try dsimp only at *
        all_goals try (with_reducible exact absurd ‹(1000 : Int64) = 0› am_z1000)
        rotate_right
        · refine ⟨_, Or.inl ?_, i + 1, rfl, rfl, rfl, ?_, ?_, ?_⟩
          all_goals simp only [i_lt, i_le, hn] at *
          all_goals
            have hi := i_add (x := i) (y := 1) (by simp only [Int32.reduceToInt]; omega) (by simp only [Int32.reduceToInt]; omega)
            simp only [Int32.reduceToInt] at hi
          · simp only [hi]; omega
          · omega
          · omega
          · rw [am_lay_put (by omega) (i_clamp (by omega))]
            exact am_lay_eq (fun q => by omega)
        all_goals simp only [i_lt, i_le, hn] at *
        · rw [am_lay_eq (lo' := 0) (hi' := (am_len c : Int) - 1) (fun q => by omega)]; exact h
        · omega
        · omega
      · cases hI
    · exact h.elim
set_option maxRecDepth 100000 in
theorem wd_146 : Cond.methodLink "LearnLoans$Rows" 3 objectInit ∈ am_ws := am_wt1 (List.mem_of_getElem? (i := 89) (by rfl)) (by decide +kernel)
set_option maxRecDepth 100000 in
theorem wd_76 : Cond.instanceMethod objectInit ∈ am_ws := am_wt1 (List.mem_of_getElem? (i := 19) (by rfl)) (by decide +kernel)
set_option maxRecDepth 100000 in
theorem wd_77 : Cond.code objectInit ⟨#[0xb1]⟩ 1 none ∈ am_ws := am_wt1 (List.mem_of_getElem? (i := 20) (by rfl)) (by decide +kernel)
def rwX3_init : List dz_r := [(0, .aload_n 0, 1), (1, .invokespecial 3, 3), (4, .aload_n 0, 1), (5, .aload_n 1, 1), (6, .putfield 9, 3), (9, .aload_n 0, 1), (10, .iload_n 2, 1), (11, .putfield 15, 3), (14, .return_, 1)]
theorem dzX3_init : dz cX3_init rwX3_init := dz_all 0 (by decide +kernel)
def kX3_init (Ret : an_R) : an_code := [(0, an_lf (fun live => am_aload 0 1)), (1, an_obj 20 4), (4, an_lf (fun live => am_aload 0 5)), (5, an_lf (fun live => am_aload 1 6)), (6, an_putFR 3 0 9), (9, an_lf (fun live => am_aload 0 10)), (10, an_lf (fun live => am_iload 2 11)), (11, an_putFI 3 1 14), (14, an_retV Ret)]
theorem koX3_init (Ret : an_R) : ∀ q ∈ kX3_init Ret, an_ok RX3 cX3_init 3 none 1 20 0 0 true (fun _ _ _ => True) Ret q.1 q.2 :=
  am_kz dzX3_init <|
  an_kd (fun d => an_lift (fun live => ak_aload_n d rfl rfl)) <|
  an_kd (fun d => nk_obj (am_w3 wd_146 wd_76 wd_77) (by decide) d rfl) <|
  an_kd (fun d => an_lift (fun live => ak_aload_n d rfl rfl)) <|
  an_kd (fun d => an_lift (fun live => ak_aload_n d rfl rfl)) <|
  an_kd (fun d => nk_putFR (C := RX3) (C2 := RX3) (T := TX3) (N := 3) rfl inX3w tyX3_ok nmX3 (by decide) rfl rfl rfl rfl rfl (tyX3_ok 0 (by decide)) (fun _ => ⟨rfl, rfl⟩) rfl wd_147 d rfl) <|
  an_kd (fun d => an_lift (fun live => ak_aload_n d rfl rfl)) <|
  an_kd (fun d => an_lift (fun live => ak_iload_n d rfl rfl)) <|
  an_kd (fun d => nk_putFI (C := RX3) (T := TX3) (N := 3) rfl inX3w tyX3_ok nmX3 (by decide) rfl rfl rfl rfl rfl (by decide +kernel) rfl wd_148 d rfl) <|
  an_kd (fun d => nk_retV d) <| an_kdn
def TX3_init : an_T := fun E as M R => match as with
  | [.ref r, .ref c, .int w] => am_if (an_isO E 3 r && E.1 c) (R none (an_rE E r 0 c) (am_wI M r 1 w))
  | _ => False
set_option maxRecDepth 100000 in
set_option maxHeartbeats 4000000 in
theorem metX3_init : an_Met yX3_init cX3_init 3 none (1) (20) 0 0 TX3_init := by
  refine an_met (own := RX3) (ini := true) (by decide +kernel) rfl (fun _ => rfl) kX3_init koX3_init 60 (fun _ _ _ _ _ => none) (fun live as M Ret h => ?_) (fun _ _ _ _ _ _ _ _ hI => by cases hI)
  unfold TX3_init at h
  split at h
  · next r c w =>
    refine ⟨Nat.le_of_ble_eq_true rfl, ?_⟩
    change an_wp _ _ _ _ [(0, Value.ref r), (1, Value.ref c), (2, Value.int w)] _ _
    have hh := am_if_mp h
    clear h
    obtain ⟨hb, h⟩ := hh
    have hc := hb
    rw [Bool.and_eq_true] at hc
    obtain ⟨h1, h2⟩ := hc
    repeat' (first | (with_reducible exact hb) | (with_reducible exact h1) | (with_reducible exact h2) | (refine Exists.intro _ (And.intro h2 ?_)) | apply And.intro | exact rfl | intro hx | (refine Exists.intro _ (And.intro rfl ?_)) | ((with_reducible change _ = true); simp only [h1, h2, Bool.true_and]; rfl))
    all_goals try first | (with_reducible change am_tI _ _) | (change Ret _ _) | (change Ret _ _ _) | (change Exists _)
    all_goals try dsimp only at *
    all_goals try (with_reducible exact absurd ‹(1000 : Int64) = 0› am_z1000)
    all_goals first | (with_reducible exact h) | (with_reducible exact h1) | exact h | exact h1
  · exact h.elim
set_option maxRecDepth 100000 in
theorem wd_260 : Cond.methodLink "LearnLoans$Letters" 1 objectInit ∈ am_ws := am_wt1 (List.mem_of_getElem? (i := 203) (by rfl)) (by decide +kernel)
def rwX1_init : List dz_r := [(0, .aload_n 0, 1), (1, .invokespecial 1, 3), (4, .return_, 1)]
theorem dzX1_init : dz cX1_init rwX1_init := dz_all 0 (by decide +kernel)
def kX1_init (Ret : an_R) : an_code := [(0, an_lf (fun live => am_aload 0 1)), (1, an_obj 20 4), (4, an_retV Ret)]
theorem koX1_init (Ret : an_R) : ∀ q ∈ kX1_init Ret, an_ok RX1 cX1_init 1 none 1 20 0 0 true (fun _ _ _ => True) Ret q.1 q.2 :=
  am_kz dzX1_init <|
  an_kd (fun d => an_lift (fun live => ak_aload_n d rfl rfl)) <|
  an_kd (fun d => nk_obj (am_w3 wd_260 wd_76 wd_77) (by decide) d rfl) <|
  an_kd (fun d => nk_retV d) <| an_kdn
def TX1_init : an_T := fun E as M R => match as with
  | [.ref _] => R none E M
  | _ => False
set_option maxRecDepth 100000 in
set_option maxHeartbeats 4000000 in
theorem metX1_init : an_Met yX1_init cX1_init 1 none (1) (20) 0 0 TX1_init := by
  refine an_met (own := RX1) (ini := true) (by decide +kernel) rfl (fun _ => rfl) kX1_init koX1_init 60 (fun _ _ _ _ _ => none) (fun live as M Ret h => ?_) (fun _ _ _ _ _ _ _ _ hI => by cases hI)
  unfold TX1_init at h
  split at h
  · next r =>
    refine ⟨Nat.le_of_ble_eq_true rfl, ?_⟩
    change an_wp _ _ _ _ [(0, Value.ref r)] _ _
    repeat' (first | apply And.intro | exact rfl | intro hx | (refine Exists.intro _ (And.intro rfl ?_)))
    all_goals try first | (with_reducible change am_tI _ _) | (change Ret _ _) | (change Ret _ _ _) | (change Exists _)
    all_goals try dsimp only at *
    all_goals try (with_reducible exact absurd ‹(1000 : Int64) = 0› am_z1000)
    exact h
  · exact h.elim
/-- a text's place, a house's people's place -/
def an_t5 (n : Nat) : Bool := [39, 42, 45, 48, 51, 79, 82, 85, 88, 91, 119, 122, 125, 128, 131].contains n
def an_t2 (n : Nat) : Bool := [21, 61, 101].contains n
def an_ho (n k : Nat) (E : am_E) : am_E := (fun q => Nat.beq q n || (!(Nat.blt n q && Nat.ble q (n + k)) && E.1 q), E.2)
def an_fc (E : am_E) (n : Nat) : Nat → Bool
  | 0 => E.1 n
  | k + 1 => an_fc E n k && !(E.1 (n + k + 1))
theorem an_fc_spec {E : am_E} {n : Nat} : ∀ {k : Nat}, an_fc E n k = true → E.1 n = true ∧ ∀ q, n < q → q ≤ n + k → E.1 q = false
  | 0, h => ⟨h, fun q h1 h2 => by omega⟩
  | k + 1, h => by
    have h : (an_fc E n k && !(E.1 (n + k + 1))) = true := h
    rw [Bool.and_eq_true] at h
    obtain ⟨a, b⟩ := an_fc_spec h.1
    refine ⟨a, fun q h1 h2 => ?_⟩
    by_cases e : q = n + k + 1
    · rw [e]
      have := h.2
      cases hq : E.1 (n + k + 1) with
      | true => rw [hq] at this; cases this
      | false => rfl
    · exact b q h1 (by omega)
theorem an_ho_of {E : am_E} {n k : Nat} (h : an_fc E n k = true) : E = an_ho n k E := by
  obtain ⟨a, b⟩ := an_fc_spec h
  refine Prod.ext (funext fun q => ?_) rfl
  show E.1 q = (Nat.beq q n || (!(Nat.blt n q && Nat.ble q (n + k)) && E.1 q))
  by_cases e : q = n
  · rw [e, an_beq, a]; rfl
  · rw [an_bne e]
    by_cases h1 : n < q
    · by_cases h2 : q ≤ n + k
      · rw [b q h1 h2, Bool.and_false]; rfl
      · rw [show Nat.ble q (n + k) = false from by
          cases hh : Nat.ble q (n + k) with
          | true => exact absurd (Nat.le_of_ble_eq_true hh) h2
          | false => rfl, Bool.and_false]
        rfl
    · rw [show Nat.blt n q = false from by
          cases hh : Nat.blt n q with
          | true => exact absurd (Nat.le_of_ble_eq_true hh) h1
          | false => rfl, Bool.false_and]
      rfl
set_option maxRecDepth 100000 in
theorem wd_167 : Cond.methodLink "LearnLoans$Text" 3 objectInit ∈ am_ws := am_wt1 (List.mem_of_getElem? (i := 110) (by rfl)) (by decide +kernel)
set_option maxRecDepth 100000 in
theorem wd_140 : Cond.arrayClass (newarray.typeOf .int) ∈ am_ws := am_wt1 (List.mem_of_getElem? (i := 83) (by rfl)) (by decide +kernel)
def rwX5_init : List dz_r := [(0, .aload_n 0, 1), (1, .invokespecial 3, 3), (4, .aload_n 0, 1), (5, .bipush 50, 2), (7, .newarray .int, 2), (9, .putfield 9, 3), (12, .aload_n 0, 1), (13, .bipush 50, 2), (15, .newarray .int, 2), (17, .putfield 15, 3), (20, .aload_n 0, 1), (21, .iconst 1, 1), (22, .putfield 18, 3), (25, .return_, 1)]
theorem dzX5_init : dz cX5_init rwX5_init := dz_all 0 (by decide +kernel)
def kX5_init (n : Nat) (Ret : an_R) : an_code := [(0, an_lf (fun live => am_aload 0 1)), (1, an_obj 20 4), (4, an_lf (fun live => am_aload 0 5)), (5, an_lf (fun live => am_const (.int 50) 7)), (7, an_newa 0 50 (fun L => n + 1) 2 100 9), (9, an_putFR 5 0 12), (12, an_lf (fun live => am_aload 0 13)), (13, an_lf (fun live => am_const (.int 50) 15)), (15, an_newa 0 50 (fun L => n + 2) 2 100 17), (17, an_putFR 5 1 20), (20, an_lf (fun live => am_aload 0 21)), (21, an_lf (fun live => am_const (.int 1) 22)), (22, an_lf (fun live => am_putI live 5 6 25)), (25, an_retV Ret)]
theorem koX5_init (n : Nat) (Ret : an_R) : ∀ q ∈ kX5_init n Ret, an_ok RX5 cX5_init 1 none 1 20 2 100 true (fun _ _ _ => True) Ret q.1 q.2 :=
  am_kz dzX5_init <|
  an_kd (fun d => an_lift (fun live => ak_aload_n d rfl rfl)) <|
  an_kd (fun d => nk_obj (am_w3 wd_167 wd_76 wd_77) (by decide) d rfl) <|
  an_kd (fun d => an_lift (fun live => ak_aload_n d rfl rfl)) <|
  an_kd (fun d => an_lift (fun live => ak_bipush d (by decide +kernel) rfl)) <|
  an_kd (fun d => nk_newa (t := 0) (len := 50) (atype := .int) (ty := .int) rfl (fun _ => rfl) (fun _ z => by cases z) (fun _ => rfl) wd_140 (by decide) d rfl) <|
  an_kd (fun d => nk_putFR (C := RX5) (C2 := RX5) (T := TX5) (N := 7) rfl inX5w tyX5_ok nmX5 (by decide) rfl rfl rfl rfl rfl (tyX5_ok 0 (by decide)) (fun _ => ⟨rfl, rfl⟩) rfl wd_168 d rfl) <|
  an_kd (fun d => an_lift (fun live => ak_aload_n d rfl rfl)) <|
  an_kd (fun d => an_lift (fun live => ak_bipush d (by decide +kernel) rfl)) <|
  an_kd (fun d => nk_newa (t := 0) (len := 50) (atype := .int) (ty := .int) rfl (fun _ => rfl) (fun _ z => by cases z) (fun _ => rfl) wd_140 (by decide) d rfl) <|
  an_kd (fun d => nk_putFR (C := RX5) (C2 := RX5) (T := TX5) (N := 7) rfl inX5w tyX5_ok nmX5 (by decide) rfl rfl rfl rfl rfl (tyX5_ok 1 (by decide)) (fun _ => ⟨rfl, rfl⟩) rfl wd_169 d rfl) <|
  an_kd (fun d => an_lift (fun live => ak_aload_n d rfl rfl)) <|
  an_kd (fun d => an_lift (fun live => ak_iconst d (by decide +kernel) rfl)) <|
  an_kd (fun d => an_lift (fun live => ak_putI (C := RX5) (T := TX5) (N := 7) rfl inX5w tyX5_ok nmX5 (by decide) rfl rfl rfl rfl (by decide +kernel) wd_175 d rfl)) <|
  an_kd (fun d => nk_retV d) <| an_kdn
def eX5 (n : Nat) (E : am_E) : am_E := an_rE (an_bE (an_rE (an_bE (E) (n + 1)) n 0 (n + 1)) (n + 2)) n 1 (n + 2)
def mX5 (n : Nat) (M : am_M) : am_M := am_wI (an_bM (an_bM (M) (n + 1)) (n + 2)) n 6 1
def TX5n (n : Nat) : an_T := fun E as M R => match as with
  | [.ref r] => am_if (Nat.beq r n && (an_t5 n && an_fc E n 2)) (R none (eX5 n E) (mX5 n M))
  | _ => False
theorem an_t5_of {n : Nat} (h : an_t5 n = true) : n = 39 ∨ n = 42 ∨ n = 45 ∨ n = 48 ∨ n = 51 ∨ n = 79 ∨ n = 82 ∨ n = 85 ∨ n = 88 ∨ n = 91 ∨ n = 119 ∨ n = 122 ∨ n = 125 ∨ n = 128 ∨ n = 131 := by
  unfold an_t5 at h
  simpa using h
set_option maxRecDepth 100000 in
set_option maxHeartbeats 4000000 in
theorem metX5_initn (n : Nat) : an_Met yX5_init cX5_init 1 none (1) (20) 2 100 (TX5n n) := by
  refine an_met (own := RX5) (ini := true) (by decide +kernel) rfl (fun _ => rfl) (kX5_init n ) (koX5_init n  ) 120 (fun _ _ _ _ _ => none) (fun live as M Ret h => ?_) (fun _ _ _ _ _ _ _ _ hI => by cases hI)
  unfold TX5n at h
  split at h
  · next r =>
    refine ⟨Nat.le_of_ble_eq_true rfl, ?_⟩
    change an_wp _ _ _ _ [(0, Value.ref r)] _ _
    have hh := am_if_mp h
    clear h
    obtain ⟨hb, h⟩ := hh
    rw [Bool.and_eq_true, Bool.and_eq_true] at hb
    obtain ⟨h1, h2, h3⟩ := hb
    have h1 := Nat.eq_of_beq_eq_true h1
    subst h1
    obtain ⟨E, rfl⟩ : ∃ E, live = an_ho r 2 E := ⟨live, an_ho_of h3⟩
    clear h3
    have h2 := an_t5_of h2
    rcases h2 with rfl | rfl | rfl | rfl | rfl | rfl | rfl | rfl | rfl | rfl | rfl | rfl | rfl | rfl | rfl
    repeat' (first | apply And.intro | exact rfl | intro hx | (refine Exists.intro _ (And.intro rfl ?_)))
    all_goals try first | (with_reducible change am_tI _ _) | (change Ret _ _) | (change Ret _ _ _) | (change Exists _)
    all_goals try dsimp only at *
    all_goals try (with_reducible exact absurd ‹(1000 : Int64) = 0› am_z1000)
    all_goals exact h
  · exact h.elim
def TX5_init : an_T := fun E as M R => match as with
  | [.ref n] => TX5n n E [.ref n] M R
  | _ => False
theorem metX5_init : an_Met yX5_init cX5_init 1 none 1 20 2 100 TX5_init := by
  intro l D cA al B live as M Ret hcl hT
  unfold TX5_init at hT
  split at hT
  · next n => exact metX5_initn n l D cA al B live _ M Ret hcl hT
  · exact hT.elim
set_option maxRecDepth 100000 in
theorem wd_101 : Cond.methodLink "LearnLoans$People" 3 objectInit ∈ am_ws := am_wt1 (List.mem_of_getElem? (i := 44) (by rfl)) (by decide +kernel)
theorem hy_J7_fill_53178 : yJ7_fill_53178.cls ≠ "java/lang/invoke/MethodHandle" ∧ yJ7_fill_53178.cls ≠ "java/lang/invoke/VarHandle" ∧ (parseMethodDescriptor yJ7_fill_53178.desc).map (fun d => d.parameters.length) = some 2 := ⟨by decide +kernel, by decide +kernel, by decide +kernel⟩
set_option maxRecDepth 100000 in
theorem wd_102 : Cond.methodLink "LearnLoans$People" 33 yJ7_fill_53178 ∈ am_ws := am_wt1 (List.mem_of_getElem? (i := 45) (by rfl)) (by decide +kernel)
set_option maxRecDepth 100000 in
theorem wd_103 : Cond.static yJ7_fill_53178 ∈ am_ws := am_wt1 (List.mem_of_getElem? (i := 46) (by rfl)) (by decide +kernel)
set_option maxRecDepth 100000 in
theorem wd_63 : Cond.initialized "java/util/Arrays" ∈ am_ws := am_wt1 (List.mem_of_getElem? (i := 6) (by rfl)) (by decide +kernel)
set_option maxRecDepth 100000 in
theorem wd_104 : Cond.code yJ7_fill_53178 cJ7_fill_53178 4 none ∈ am_ws := am_wt1 (List.mem_of_getElem? (i := 47) (by rfl)) (by decide +kernel)
def rwX2_init : List dz_r := [(0, .aload_n 0, 1), (1, .invokespecial 3, 3), (4, .aload_n 0, 1), (5, .bipush 12, 2), (7, .newarray .int, 2), (9, .putfield 9, 3), (12, .aload_n 0, 1), (13, .bipush 12, 2), (15, .newarray .int, 2), (17, .putfield 15, 3), (20, .aload_n 0, 1), (21, .sipush 480, 3), (24, .newarray .int, 2), (26, .putfield 18, 3), (29, .aload_n 0, 1), (30, .sipush 480, 3), (33, .newarray .int, 2), (35, .putfield 21, 3), (38, .aload_n 0, 1), (39, .sipush 480, 3), (42, .newarray .int, 2), (44, .putfield 24, 3), (47, .aload_n 0, 1), (48, .sipush 480, 3), (51, .newarray .int, 2), (53, .putfield 27, 3), (56, .aload_n 0, 1), (57, .sipush 480, 3), (60, .newarray .int, 2), (62, .putfield 30, 3), (65, .aload_n 0, 1), (66, .getfield 15, 3), (69, .iconst (-1), 1), (70, .invokestatic 33, 3), (73, .aload_n 0, 1), (74, .getfield 24, 3), (77, .iconst (-1), 1), (78, .invokestatic 33, 3), (81, .aload_n 0, 1), (82, .getfield 30, 3), (85, .iconst (-1), 1), (86, .invokestatic 33, 3), (89, .return_, 1)]
theorem dzX2_init : dz cX2_init rwX2_init := dz_all 0 (by decide +kernel)
def kX2_init (n : Nat) (Ret : an_R) : an_code := [(0, an_lf (fun live => am_aload 0 1)), (1, an_obj 23 4), (4, an_lf (fun live => am_aload 0 5)), (5, an_lf (fun live => am_const (.int 12) 7)), (7, an_newa 0 12 (fun L => n + 1) 7 2424 9), (9, an_putFR 2 0 12), (12, an_lf (fun live => am_aload 0 13)), (13, an_lf (fun live => am_const (.int 12) 15)), (15, an_newa 0 12 (fun L => n + 2) 7 2424 17), (17, an_putFR 2 1 20), (20, an_lf (fun live => am_aload 0 21)), (21, an_lf (fun live => am_const (.int 480) 24)), (24, an_newa 0 480 (fun L => n + 3) 7 2424 26), (26, an_putFR 2 2 29), (29, an_lf (fun live => am_aload 0 30)), (30, an_lf (fun live => am_const (.int 480) 33)), (33, an_newa 0 480 (fun L => n + 4) 7 2424 35), (35, an_putFR 2 3 38), (38, an_lf (fun live => am_aload 0 39)), (39, an_lf (fun live => am_const (.int 480) 42)), (42, an_newa 0 480 (fun L => n + 5) 7 2424 44), (44, an_putFR 2 4 47), (47, an_lf (fun live => am_aload 0 48)), (48, an_lf (fun live => am_const (.int 480) 51)), (51, an_newa 0 480 (fun L => n + 6) 7 2424 53), (53, an_putFR 2 5 56), (56, an_lf (fun live => am_aload 0 57)), (57, an_lf (fun live => am_const (.int 480) 60)), (60, an_newa 0 480 (fun L => n + 7) 7 2424 62), (62, an_putFR 2 6 65), (65, an_lf (fun live => am_aload 0 66)), (66, an_lf (fun live => am_getR live 2 1 69)), (69, an_lf (fun live => am_const (.int (-1)) 70)), (70, an_lf (fun live => am_callS live 2 TJ7_fill_53178 73)), (73, an_lf (fun live => am_aload 0 74)), (74, an_lf (fun live => am_getR live 2 4 77)), (77, an_lf (fun live => am_const (.int (-1)) 78)), (78, an_lf (fun live => am_callS live 2 TJ7_fill_53178 81)), (81, an_lf (fun live => am_aload 0 82)), (82, an_lf (fun live => am_getR live 2 6 85)), (85, an_lf (fun live => am_const (.int (-1)) 86)), (86, an_lf (fun live => am_callS live 2 TJ7_fill_53178 89)), (89, an_retV Ret)]
theorem koX2_init (n : Nat) (Ret : an_R) : ∀ q ∈ kX2_init n Ret, an_ok RX2 cX2_init 1 none 1 23 7 2424 true (fun _ _ _ => True) Ret q.1 q.2 :=
  am_kz dzX2_init <|
  an_kd (fun d => an_lift (fun live => ak_aload_n d rfl rfl)) <|
  an_kd (fun d => nk_obj (am_w3 wd_101 wd_76 wd_77) (by decide) d rfl) <|
  an_kd (fun d => an_lift (fun live => ak_aload_n d rfl rfl)) <|
  an_kd (fun d => an_lift (fun live => ak_bipush d (by decide +kernel) rfl)) <|
  an_kd (fun d => nk_newa (t := 0) (len := 12) (atype := .int) (ty := .int) rfl (fun _ => rfl) (fun _ z => by cases z) (fun _ => rfl) wd_140 (by decide) d rfl) <|
  an_kd (fun d => nk_putFR (C := RX2) (C2 := RX2) (T := TX2) (N := 8) rfl inX2w tyX2_ok nmX2 (by decide) rfl rfl rfl rfl rfl (tyX2_ok 0 (by decide)) (fun _ => ⟨rfl, rfl⟩) rfl wd_105 d rfl) <|
  an_kd (fun d => an_lift (fun live => ak_aload_n d rfl rfl)) <|
  an_kd (fun d => an_lift (fun live => ak_bipush d (by decide +kernel) rfl)) <|
  an_kd (fun d => nk_newa (t := 0) (len := 12) (atype := .int) (ty := .int) rfl (fun _ => rfl) (fun _ z => by cases z) (fun _ => rfl) wd_140 (by decide) d rfl) <|
  an_kd (fun d => nk_putFR (C := RX2) (C2 := RX2) (T := TX2) (N := 8) rfl inX2w tyX2_ok nmX2 (by decide) rfl rfl rfl rfl rfl (tyX2_ok 1 (by decide)) (fun _ => ⟨rfl, rfl⟩) rfl wd_108 d rfl) <|
  an_kd (fun d => an_lift (fun live => ak_aload_n d rfl rfl)) <|
  an_kd (fun d => an_lift (fun live => ak_sipush d (by decide +kernel) rfl)) <|
  an_kd (fun d => nk_newa (t := 0) (len := 480) (atype := .int) (ty := .int) rfl (fun _ => rfl) (fun _ z => by cases z) (fun _ => rfl) wd_140 (by decide) d rfl) <|
  an_kd (fun d => nk_putFR (C := RX2) (C2 := RX2) (T := TX2) (N := 8) rfl inX2w tyX2_ok nmX2 (by decide) rfl rfl rfl rfl rfl (tyX2_ok 2 (by decide)) (fun _ => ⟨rfl, rfl⟩) rfl wd_110 d rfl) <|
  an_kd (fun d => an_lift (fun live => ak_aload_n d rfl rfl)) <|
  an_kd (fun d => an_lift (fun live => ak_sipush d (by decide +kernel) rfl)) <|
  an_kd (fun d => nk_newa (t := 0) (len := 480) (atype := .int) (ty := .int) rfl (fun _ => rfl) (fun _ z => by cases z) (fun _ => rfl) wd_140 (by decide) d rfl) <|
  an_kd (fun d => nk_putFR (C := RX2) (C2 := RX2) (T := TX2) (N := 8) rfl inX2w tyX2_ok nmX2 (by decide) rfl rfl rfl rfl rfl (tyX2_ok 3 (by decide)) (fun _ => ⟨rfl, rfl⟩) rfl wd_113 d rfl) <|
  an_kd (fun d => an_lift (fun live => ak_aload_n d rfl rfl)) <|
  an_kd (fun d => an_lift (fun live => ak_sipush d (by decide +kernel) rfl)) <|
  an_kd (fun d => nk_newa (t := 0) (len := 480) (atype := .int) (ty := .int) rfl (fun _ => rfl) (fun _ z => by cases z) (fun _ => rfl) wd_140 (by decide) d rfl) <|
  an_kd (fun d => nk_putFR (C := RX2) (C2 := RX2) (T := TX2) (N := 8) rfl inX2w tyX2_ok nmX2 (by decide) rfl rfl rfl rfl rfl (tyX2_ok 4 (by decide)) (fun _ => ⟨rfl, rfl⟩) rfl wd_115 d rfl) <|
  an_kd (fun d => an_lift (fun live => ak_aload_n d rfl rfl)) <|
  an_kd (fun d => an_lift (fun live => ak_sipush d (by decide +kernel) rfl)) <|
  an_kd (fun d => nk_newa (t := 0) (len := 480) (atype := .int) (ty := .int) rfl (fun _ => rfl) (fun _ z => by cases z) (fun _ => rfl) wd_140 (by decide) d rfl) <|
  an_kd (fun d => nk_putFR (C := RX2) (C2 := RX2) (T := TX2) (N := 8) rfl inX2w tyX2_ok nmX2 (by decide) rfl rfl rfl rfl rfl (tyX2_ok 5 (by decide)) (fun _ => ⟨rfl, rfl⟩) rfl wd_117 d rfl) <|
  an_kd (fun d => an_lift (fun live => ak_aload_n d rfl rfl)) <|
  an_kd (fun d => an_lift (fun live => ak_sipush d (by decide +kernel) rfl)) <|
  an_kd (fun d => nk_newa (t := 0) (len := 480) (atype := .int) (ty := .int) rfl (fun _ => rfl) (fun _ z => by cases z) (fun _ => rfl) wd_140 (by decide) d rfl) <|
  an_kd (fun d => nk_putFR (C := RX2) (C2 := RX2) (T := TX2) (N := 8) rfl inX2w tyX2_ok nmX2 (by decide) rfl rfl rfl rfl rfl (tyX2_ok 6 (by decide)) (fun _ => ⟨rfl, rfl⟩) rfl wd_119 d rfl) <|
  an_kd (fun d => an_lift (fun live => ak_aload_n d rfl rfl)) <|
  an_kd (fun d => an_lift (fun live => ak_getR (C := RX2) (T := TX2) (N := 8) rfl inX2w (by decide) rfl rfl rfl wd_108 d rfl)) <|
  an_kd (fun d => an_lift (fun live => ak_iconst d (by decide +kernel) rfl)) <|
  an_kd (fun d => an_lift (fun live => ak_callSO metJ7_fill_53178 hy_J7_fill_53178 (am_w4 wd_102 wd_103 wd_63 wd_104) (by decide) d rfl)) <|
  an_kd (fun d => an_lift (fun live => ak_aload_n d rfl rfl)) <|
  an_kd (fun d => an_lift (fun live => ak_getR (C := RX2) (T := TX2) (N := 8) rfl inX2w (by decide) rfl rfl rfl wd_115 d rfl)) <|
  an_kd (fun d => an_lift (fun live => ak_iconst d (by decide +kernel) rfl)) <|
  an_kd (fun d => an_lift (fun live => ak_callSO metJ7_fill_53178 hy_J7_fill_53178 (am_w4 wd_102 wd_103 wd_63 wd_104) (by decide) d rfl)) <|
  an_kd (fun d => an_lift (fun live => ak_aload_n d rfl rfl)) <|
  an_kd (fun d => an_lift (fun live => ak_getR (C := RX2) (T := TX2) (N := 8) rfl inX2w (by decide) rfl rfl rfl wd_119 d rfl)) <|
  an_kd (fun d => an_lift (fun live => ak_iconst d (by decide +kernel) rfl)) <|
  an_kd (fun d => an_lift (fun live => ak_callSO metJ7_fill_53178 hy_J7_fill_53178 (am_w4 wd_102 wd_103 wd_63 wd_104) (by decide) d rfl)) <|
  an_kd (fun d => nk_retV d) <| an_kdn
def eX2 (n : Nat) (E : am_E) : am_E := an_rE (an_bE (an_rE (an_bE (an_rE (an_bE (an_rE (an_bE (an_rE (an_bE (an_rE (an_bE (an_rE (an_bE (E) (n + 1)) n 0 (n + 1)) (n + 2)) n 1 (n + 2)) (n + 3)) n 2 (n + 3)) (n + 4)) n 3 (n + 4)) (n + 5)) n 4 (n + 5)) (n + 6)) n 5 (n + 6)) (n + 7)) n 6 (n + 7)
def mX2 (n : Nat) (M : am_M) : am_M := am_lay (am_lay (am_lay (an_bM (an_bM (an_bM (an_bM (an_bM (an_bM (an_bM (M) (n + 1)) (n + 2)) (n + 3)) (n + 4)) (n + 5)) (n + 6)) (n + 7)) (n + 2) 0 ((12 : Int) - 1) (-1)) (n + 5) 0 ((480 : Int) - 1) (-1)) (n + 7) 0 ((480 : Int) - 1) (-1)
def TX2n (n : Nat) : an_T := fun E as M R => match as with
  | [.ref r] => am_if (Nat.beq r n && (an_t2 n && an_fc E n 7)) (R none (eX2 n E) (mX2 n M))
  | _ => False
theorem an_t2_of {n : Nat} (h : an_t2 n = true) : n = 21 ∨ n = 61 ∨ n = 101 := by
  unfold an_t2 at h
  simpa using h
set_option maxRecDepth 100000 in
set_option maxHeartbeats 4000000 in
theorem metX2_initn (n : Nat) : an_Met yX2_init cX2_init 1 none (1) (23) 7 2424 (TX2n n) := by
  refine an_met (own := RX2) (ini := true) (by decide +kernel) rfl (fun _ => rfl) (kX2_init n ) (koX2_init n  ) 120 (fun _ _ _ _ _ => none) (fun live as M Ret h => ?_) (fun _ _ _ _ _ _ _ _ hI => by cases hI)
  unfold TX2n at h
  split at h
  · next r =>
    refine ⟨Nat.le_of_ble_eq_true rfl, ?_⟩
    change an_wp _ _ _ _ [(0, Value.ref r)] _ _
    have hh := am_if_mp h
    clear h
    obtain ⟨hb, h⟩ := hh
    rw [Bool.and_eq_true, Bool.and_eq_true] at hb
    obtain ⟨h1, h2, h3⟩ := hb
    have h1 := Nat.eq_of_beq_eq_true h1
    subst h1
    obtain ⟨E, rfl⟩ : ∃ E, live = an_ho r 7 E := ⟨live, an_ho_of h3⟩
    clear h3
    have h2 := an_t2_of h2
    rcases h2 with rfl | rfl | rfl
    repeat' (first | apply And.intro | exact rfl | intro hx | (refine Exists.intro _ (And.intro rfl ?_)))
    all_goals try first | (with_reducible change am_tI _ _) | (change Ret _ _) | (change Ret _ _ _) | (change Exists _)
    all_goals try dsimp only at *
    all_goals try (with_reducible exact absurd ‹(1000 : Int64) = 0› am_z1000)
    all_goals exact h
  · exact h.elim
def TX2_init : an_T := fun E as M R => match as with
  | [.ref n] => TX2n n E [.ref n] M R
  | _ => False
theorem metX2_init : an_Met yX2_init cX2_init 1 none 1 23 7 2424 TX2_init := by
  intro l D cA al B live as M Ret hcl hT
  unfold TX2_init at hT
  split at hT
  · next n => exact metX2_initn n l D cA al B live _ M Ret hcl hT
  · exact hT.elim
