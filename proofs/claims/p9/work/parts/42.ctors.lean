/-! births: the run, the ways, the object, the reference -/
def an_E0 : am_E := (fun _ => false, fun _ _ => none)
set_option maxRecDepth 100000 in
theorem wd_89 : Cond.methodLink "LearnLoans$Run" 3 objectInit ∈ am_ws := am_wt1 (List.mem_of_getElem? (i := 32) (by rfl)) (by decide +kernel)
set_option maxRecDepth 100000 in
theorem wd_90 : Cond.classLink "LearnLoans$Run" 9 "LearnLoans$House" ∈ am_ws := am_wt1 (List.mem_of_getElem? (i := 33) (by rfl)) (by decide +kernel)
set_option maxRecDepth 100000 in
theorem wd_91 : Cond.instantiable "LearnLoans$House" 13 ∈ am_ws := am_wt1 (List.mem_of_getElem? (i := 34) (by rfl)) (by decide +kernel)
theorem hy_X0_init : yX0_init.cls ≠ "java/lang/invoke/MethodHandle" ∧ yX0_init.cls ≠ "java/lang/invoke/VarHandle" ∧ (parseMethodDescriptor yX0_init.desc).map (fun d => d.parameters.length) = some 0 := ⟨by decide +kernel, by decide +kernel, by decide +kernel⟩
set_option maxRecDepth 100000 in
theorem wd_92 : Cond.methodLink "LearnLoans$Run" 11 yX0_init ∈ am_ws := am_wt1 (List.mem_of_getElem? (i := 35) (by rfl)) (by decide +kernel)
set_option maxRecDepth 100000 in
theorem wd_93 : Cond.instanceMethod yX0_init ∈ am_ws := am_wt1 (List.mem_of_getElem? (i := 36) (by rfl)) (by decide +kernel)
set_option maxRecDepth 100000 in
theorem wd_94 : Cond.code yX0_init cX0_init 2 none ∈ am_ws := am_wt1 (List.mem_of_getElem? (i := 37) (by rfl)) (by decide +kernel)
set_option maxRecDepth 100000 in
theorem wd_290 : Cond.arrayClass (newarray.typeOf .long) ∈ am_ws := am_wt1 (List.mem_of_getElem? (i := 233) (by rfl)) (by decide +kernel)
set_option maxRecDepth 100000 in
theorem wd_255 : Cond.classLink "LearnLoans$Run" 32 "LearnLoans$Letters" ∈ am_ws := am_wt1 (List.mem_of_getElem? (i := 198) (by rfl)) (by decide +kernel)
set_option maxRecDepth 100000 in
theorem wd_256 : Cond.instantiable "LearnLoans$Letters" 7 ∈ am_ws := am_wt1 (List.mem_of_getElem? (i := 199) (by rfl)) (by decide +kernel)
theorem hy_X1_init : yX1_init.cls ≠ "java/lang/invoke/MethodHandle" ∧ yX1_init.cls ≠ "java/lang/invoke/VarHandle" ∧ (parseMethodDescriptor yX1_init.desc).map (fun d => d.parameters.length) = some 0 := ⟨by decide +kernel, by decide +kernel, by decide +kernel⟩
set_option maxRecDepth 100000 in
theorem wd_258 : Cond.instanceMethod yX1_init ∈ am_ws := am_wt1 (List.mem_of_getElem? (i := 201) (by rfl)) (by decide +kernel)
set_option maxRecDepth 100000 in
theorem wd_259 : Cond.code yX1_init cX1_init 1 none ∈ am_ws := am_wt1 (List.mem_of_getElem? (i := 202) (by rfl)) (by decide +kernel)
def rwX4_init : List dz_r := [(0, .aload_n 0, 1), (1, .invokespecial 3, 3), (4, .aload_n 0, 1), (5, .new 9, 3), (8, .dup, 1), (9, .invokespecial 11, 3), (12, .putfield 12, 3), (15, .aload_n 0, 1), (16, .sipush 1200, 3), (19, .newarray .int, 2), (21, .putfield 18, 3), (24, .aload_n 0, 1), (25, .sipush 180, 3), (28, .newarray .long, 2), (30, .putfield 22, 3), (33, .aload_n 0, 1), (34, .bipush 30, 2), (36, .newarray .int, 2), (38, .putfield 26, 3), (41, .aload_n 0, 1), (42, .bipush 30, 2), (44, .newarray .int, 2), (46, .putfield 29, 3), (49, .aload_n 0, 1), (50, .new 32, 3), (53, .dup, 1), (54, .invokespecial 34, 3), (57, .putfield 35, 3), (60, .aload_n 0, 1), (61, .bipush 50, 2), (63, .newarray .long, 2), (65, .putfield 39, 3), (68, .return_, 1)]
theorem dzX4_init : dz cX4_init rwX4_init := dz_all 0 (by decide +kernel)
def kX4_init (Ret : an_R) : an_code := [(0, an_lf (fun live => am_aload 0 1)), (1, an_obj 64 4), (4, an_lf (fun live => am_aload 0 5)), (5, an_new 0 13 (fun L => 20) 45 6769 8), (8, an_lf (fun live => am_dup 9)), (9, an_callI 0 0 TX0_init 45 6769 38 5259 12), (12, an_putFR 4 0 15), (15, an_lf (fun live => am_aload 0 16)), (16, an_lf (fun live => am_const (.int 1200) 19)), (19, an_newa 0 1200 (fun L => 5) 45 6769 21), (21, an_putFR 4 1 24), (24, an_lf (fun live => am_aload 0 25)), (25, an_lf (fun live => am_const (.int 180) 28)), (28, an_newa 1 180 (fun L => 6) 45 6769 30), (30, an_putFR 4 2 33), (33, an_lf (fun live => am_aload 0 34)), (34, an_lf (fun live => am_const (.int 30) 36)), (36, an_newa 0 30 (fun L => 7) 45 6769 38), (38, an_putFR 4 3 41), (41, an_lf (fun live => am_aload 0 42)), (42, an_lf (fun live => am_const (.int 30) 44)), (44, an_newa 0 30 (fun L => 8) 45 6769 46), (46, an_putFR 4 4 49), (49, an_lf (fun live => am_aload 0 50)), (50, an_new 1 7 (fun L => 9) 45 6769 53), (53, an_lf (fun live => am_dup 54)), (54, an_callI 1 0 TX1_init 45 6769 0 0 57), (57, an_putFR 4 5 60), (60, an_lf (fun live => am_aload 0 61)), (61, an_lf (fun live => am_const (.int 50) 63)), (63, an_newa 1 50 (fun L => 10) 45 6769 65), (65, an_putFR 4 6 68), (68, an_retV Ret)]
theorem koX4_init (Ret : an_R) : ∀ q ∈ kX4_init Ret, an_ok RX4 cX4_init 1 none 3 64 45 6769 true (fun _ _ _ => True) Ret q.1 q.2 :=
  am_kz dzX4_init <|
  an_kd (fun d => an_lift (fun live => ak_aload_n d rfl rfl)) <|
  an_kd (fun d => nk_obj (am_w3 wd_89 wd_76 wd_77) (by decide) d rfl) <|
  an_kd (fun d => an_lift (fun live => ak_aload_n d rfl rfl)) <|
  an_kd (fun d => nk_new (C := RX0) (T := TX0) (N := 13) (ty := tyX0) rfl inX0w tyX0_ok rfl zX0 (am_w3 wd_90 wd_91 wd_61) d rfl) <|
  an_kd (fun d => an_lift (fun live => ak_dup d rfl)) <|
  an_kd (fun d => nk_callI metX0_init rfl hy_X0_init (am_w4 wd_61 wd_92 wd_93 wd_94) (by decide) d rfl) <|
  an_kd (fun d => nk_putFR (C := RX4) (C2 := RX4) (T := TX4) (N := 19) rfl inX4w tyX4_ok nmX4 (by decide) rfl rfl rfl rfl rfl (tyX4_ok 0 (by decide)) (fun _ => ⟨rfl, rfl⟩) rfl wd_291 d rfl) <|
  an_kd (fun d => an_lift (fun live => ak_aload_n d rfl rfl)) <|
  an_kd (fun d => an_lift (fun live => ak_sipush d (by decide +kernel) rfl)) <|
  an_kd (fun d => nk_newa (t := 0) (len := 1200) (atype := .int) (ty := .int) rfl (fun _ => rfl) (fun _ z => by cases z) (fun _ => rfl) wd_140 (by decide) d rfl) <|
  an_kd (fun d => nk_putFR (C := RX4) (C2 := RX4) (T := TX4) (N := 19) rfl inX4w tyX4_ok nmX4 (by decide) rfl rfl rfl rfl rfl (tyX4_ok 1 (by decide)) (fun _ => ⟨rfl, rfl⟩) rfl wd_294 d rfl) <|
  an_kd (fun d => an_lift (fun live => ak_aload_n d rfl rfl)) <|
  an_kd (fun d => an_lift (fun live => ak_sipush d (by decide +kernel) rfl)) <|
  an_kd (fun d => nk_newa (t := 1) (len := 180) (atype := .long) (ty := .long) rfl (fun _ => rfl) (fun _ z => by cases z) (fun _ => rfl) wd_290 (by decide) d rfl) <|
  an_kd (fun d => nk_putFR (C := RX4) (C2 := RX4) (T := TX4) (N := 19) rfl inX4w tyX4_ok nmX4 (by decide) rfl rfl rfl rfl rfl (tyX4_ok 2 (by decide)) (fun _ => ⟨rfl, rfl⟩) rfl wd_296 d rfl) <|
  an_kd (fun d => an_lift (fun live => ak_aload_n d rfl rfl)) <|
  an_kd (fun d => an_lift (fun live => ak_bipush d (by decide +kernel) rfl)) <|
  an_kd (fun d => nk_newa (t := 0) (len := 30) (atype := .int) (ty := .int) rfl (fun _ => rfl) (fun _ z => by cases z) (fun _ => rfl) wd_140 (by decide) d rfl) <|
  an_kd (fun d => nk_putFR (C := RX4) (C2 := RX4) (T := TX4) (N := 19) rfl inX4w tyX4_ok nmX4 (by decide) rfl rfl rfl rfl rfl (tyX4_ok 3 (by decide)) (fun _ => ⟨rfl, rfl⟩) rfl wd_299 d rfl) <|
  an_kd (fun d => an_lift (fun live => ak_aload_n d rfl rfl)) <|
  an_kd (fun d => an_lift (fun live => ak_bipush d (by decide +kernel) rfl)) <|
  an_kd (fun d => nk_newa (t := 0) (len := 30) (atype := .int) (ty := .int) rfl (fun _ => rfl) (fun _ z => by cases z) (fun _ => rfl) wd_140 (by decide) d rfl) <|
  an_kd (fun d => nk_putFR (C := RX4) (C2 := RX4) (T := TX4) (N := 19) rfl inX4w tyX4_ok nmX4 (by decide) rfl rfl rfl rfl rfl (tyX4_ok 4 (by decide)) (fun _ => ⟨rfl, rfl⟩) rfl wd_300 d rfl) <|
  an_kd (fun d => an_lift (fun live => ak_aload_n d rfl rfl)) <|
  an_kd (fun d => nk_new (C := RX1) (T := TX1) (N := 7) (ty := tyX1) rfl inX1w tyX1_ok rfl zX1 (am_w3 wd_255 wd_256 wd_66) d rfl) <|
  an_kd (fun d => an_lift (fun live => ak_dup d rfl)) <|
  an_kd (fun d => nk_callIN (host := "LearnLoans") metX1_init rfl hy_X1_init (by decide +kernel) (am_w3 wd_66 wd_258 wd_259) (by decide) d rfl) <|
  an_kd (fun d => nk_putFR (C := RX4) (C2 := RX4) (T := TX4) (N := 19) rfl inX4w tyX4_ok nmX4 (by decide) rfl rfl rfl rfl rfl (tyX4_ok 5 (by decide)) (fun _ => ⟨rfl, rfl⟩) rfl wd_301 d rfl) <|
  an_kd (fun d => an_lift (fun live => ak_aload_n d rfl rfl)) <|
  an_kd (fun d => an_lift (fun live => ak_bipush d (by decide +kernel) rfl)) <|
  an_kd (fun d => nk_newa (t := 1) (len := 50) (atype := .long) (ty := .long) rfl (fun _ => rfl) (fun _ z => by cases z) (fun _ => rfl) wd_290 (by decide) d rfl) <|
  an_kd (fun d => nk_putFR (C := RX4) (C2 := RX4) (T := TX4) (N := 19) rfl inX4w tyX4_ok nmX4 (by decide) rfl rfl rfl rfl rfl (tyX4_ok 6 (by decide)) (fun _ => ⟨rfl, rfl⟩) rfl wd_302 d rfl) <|
  an_kd (fun d => nk_retV d) <| an_kdn
def eX4 (E : am_E) : am_E := an_rE (an_bE (an_rE (an_bE (an_rE (an_bE (an_rE (an_bE (an_rE (an_bE (an_rE (an_bE (an_rE (eX0 20 (an_bE (E) 20)) 4 0 20) 5) 4 1 5) 6) 4 2 6) 7) 4 3 7) 8) 4 4 8) 9) 4 5 9) 10) 4 6 10
def mX4 (M : am_M) : am_M := an_bM (an_bM (an_bM (an_bM (an_bM (an_bM (mX0 20 (an_bM (M) 20)) 5) 6) 7) 8) 9) 10
def TX4_init : an_T := fun E as M R => match as with
  | [.ref r] => r = 4 ∧ E = an_bE (an_bE (an_bE an_E0 0) 2) 4 ∧ R none (eX4 (an_bE (an_bE (an_bE an_E0 0) 2) 4)) (mX4 M)
  | _ => False
set_option maxRecDepth 100000 in
set_option maxHeartbeats 4000000 in
theorem metX4_init : an_Met yX4_init cX4_init 1 none (3) (64) 45 6769 TX4_init := by
  refine an_met (own := RX4) (ini := true) (by decide +kernel) rfl (fun _ => rfl) kX4_init koX4_init 200 (fun _ _ _ _ _ => none) (fun live as M Ret h => ?_) (fun _ _ _ _ _ _ _ _ hI => by cases hI)
  unfold TX4_init at h
  split at h
  · next r =>
    refine ⟨Nat.le_of_ble_eq_true rfl, ?_⟩
    change an_wp _ _ _ _ [(0, Value.ref r)] _ _
    obtain ⟨rfl, rfl, h⟩ := h
    repeat' (first | apply And.intro | exact rfl | (intro hx; exact absurd hx (by decide)) | (intro hx; exact absurd (by decide) hx) | decide | intro hx | (refine Exists.intro _ (And.intro rfl ?_)))
    all_goals try first | (with_reducible change am_tI _ _) | (change Ret _ _) | (change Ret _ _ _) | (change Exists _)
    all_goals try dsimp only at *
    all_goals try (with_reducible exact absurd ‹(1000 : Int64) = 0› am_z1000)
    all_goals exact h
  · exact h.elim
set_option maxRecDepth 100000 in
theorem wd_83 : Cond.methodLink "LearnLoans$Ways" 3 objectInit ∈ am_ws := am_wt1 (List.mem_of_getElem? (i := 26) (by rfl)) (by decide +kernel)
set_option maxRecDepth 100000 in
theorem wd_84 : Cond.classLink "LearnLoans$Ways" 9 "LearnLoans$Run" ∈ am_ws := am_wt1 (List.mem_of_getElem? (i := 27) (by rfl)) (by decide +kernel)
set_option maxRecDepth 100000 in
theorem wd_85 : Cond.instantiable "LearnLoans$Run" 19 ∈ am_ws := am_wt1 (List.mem_of_getElem? (i := 28) (by rfl)) (by decide +kernel)
theorem hy_X4_init : yX4_init.cls ≠ "java/lang/invoke/MethodHandle" ∧ yX4_init.cls ≠ "java/lang/invoke/VarHandle" ∧ (parseMethodDescriptor yX4_init.desc).map (fun d => d.parameters.length) = some 0 := ⟨by decide +kernel, by decide +kernel, by decide +kernel⟩
set_option maxRecDepth 100000 in
theorem wd_87 : Cond.instanceMethod yX4_init ∈ am_ws := am_wt1 (List.mem_of_getElem? (i := 30) (by rfl)) (by decide +kernel)
set_option maxRecDepth 100000 in
theorem wd_88 : Cond.code yX4_init cX4_init 1 none ∈ am_ws := am_wt1 (List.mem_of_getElem? (i := 31) (by rfl)) (by decide +kernel)
def rwX6_init : List dz_r := [(0, .aload_n 0, 1), (1, .invokespecial 3, 3), (4, .aload_n 0, 1), (5, .new 9, 3), (8, .dup, 1), (9, .invokespecial 11, 3), (12, .putfield 12, 3), (15, .aload_n 0, 1), (16, .sipush 150, 3), (19, .newarray .long, 2), (21, .putfield 18, 3), (24, .return_, 1)]
theorem dzX6_init : dz cX6_init rwX6_init := dz_all 0 (by decide +kernel)
def kX6_init (Ret : an_R) : an_code := [(0, an_lf (fun live => am_aload 0 1)), (1, an_obj 84 4), (4, an_lf (fun live => am_aload 0 5)), (5, an_new 4 19 (fun L => 4) 47 6938 8), (8, an_lf (fun live => am_dup 9)), (9, an_callI 4 0 TX4_init 47 6938 45 6769 12), (12, an_putFR 6 0 15), (15, an_lf (fun live => am_aload 0 16)), (16, an_lf (fun live => am_const (.int 150) 19)), (19, an_newa 1 150 (fun L => 3) 47 6938 21), (21, an_putFR 6 1 24), (24, an_retV Ret)]
theorem koX6_init (Ret : an_R) : ∀ q ∈ kX6_init Ret, an_ok RX6 cX6_init 1 none 4 84 47 6938 true (fun _ _ _ => True) Ret q.1 q.2 :=
  am_kz dzX6_init <|
  an_kd (fun d => an_lift (fun live => ak_aload_n d rfl rfl)) <|
  an_kd (fun d => nk_obj (am_w3 wd_83 wd_76 wd_77) (by decide) d rfl) <|
  an_kd (fun d => an_lift (fun live => ak_aload_n d rfl rfl)) <|
  an_kd (fun d => nk_new (C := RX4) (T := TX4) (N := 19) (ty := tyX4) rfl inX4w tyX4_ok rfl zX4 (am_w3 wd_84 wd_85 wd_60) d rfl) <|
  an_kd (fun d => an_lift (fun live => ak_dup d rfl)) <|
  an_kd (fun d => nk_callIN (host := "LearnLoans") metX4_init rfl hy_X4_init (by decide +kernel) (am_w3 wd_60 wd_87 wd_88) (by decide) d rfl) <|
  an_kd (fun d => nk_putFR (C := RX6) (C2 := RX6) (T := TX6) (N := 9) rfl inX6w tyX6_ok nmX6 (by decide) rfl rfl rfl rfl rfl (tyX6_ok 0 (by decide)) (fun _ => ⟨rfl, rfl⟩) rfl wd_355 d rfl) <|
  an_kd (fun d => an_lift (fun live => ak_aload_n d rfl rfl)) <|
  an_kd (fun d => an_lift (fun live => ak_sipush d (by decide +kernel) rfl)) <|
  an_kd (fun d => nk_newa (t := 1) (len := 150) (atype := .long) (ty := .long) rfl (fun _ => rfl) (fun _ z => by cases z) (fun _ => rfl) wd_290 (by decide) d rfl) <|
  an_kd (fun d => nk_putFR (C := RX6) (C2 := RX6) (T := TX6) (N := 9) rfl inX6w tyX6_ok nmX6 (by decide) rfl rfl rfl rfl rfl (tyX6_ok 1 (by decide)) (fun _ => ⟨rfl, rfl⟩) rfl wd_357 d rfl) <|
  an_kd (fun d => nk_retV d) <| an_kdn
def eX6 (E : am_E) : am_E := an_rE (an_bE (an_rE (eX4 (an_bE (E) 4)) 2 0 4) 3) 2 1 3
def mX6 (M : am_M) : am_M := an_bM (mX4 (an_bM (M) 4)) 3
def TX6_init : an_T := fun E as M R => match as with
  | [.ref r] => r = 2 ∧ E = an_bE (an_bE an_E0 0) 2 ∧ R none (eX6 (an_bE (an_bE an_E0 0) 2)) (mX6 M)
  | _ => False
set_option maxRecDepth 100000 in
set_option maxHeartbeats 4000000 in
theorem metX6_init : an_Met yX6_init cX6_init 1 none (4) (84) 47 6938 TX6_init := by
  refine an_met (own := RX6) (ini := true) (by decide +kernel) rfl (fun _ => rfl) kX6_init koX6_init 200 (fun _ _ _ _ _ => none) (fun live as M Ret h => ?_) (fun _ _ _ _ _ _ _ _ hI => by cases hI)
  unfold TX6_init at h
  split at h
  · next r =>
    refine ⟨Nat.le_of_ble_eq_true rfl, ?_⟩
    change an_wp _ _ _ _ [(0, Value.ref r)] _ _
    obtain ⟨rfl, rfl, h⟩ := h
    repeat' (first | apply And.intro | exact rfl | (intro hx; exact absurd hx (by decide)) | (intro hx; exact absurd (by decide) hx) | decide | intro hx | (refine Exists.intro _ (And.intro rfl ?_)))
    all_goals try first | (with_reducible change am_tI _ _) | (change Ret _ _) | (change Ret _ _ _) | (change Exists _)
    all_goals try dsimp only at *
    all_goals try (with_reducible exact absurd ‹(1000 : Int64) = 0› am_z1000)
    all_goals exact h
  · exact h.elim
set_option maxRecDepth 100000 in
theorem wd_75 : Cond.methodLink "LearnLoans" 3 objectInit ∈ am_ws := am_wt1 (List.mem_of_getElem? (i := 18) (by rfl)) (by decide +kernel)
set_option maxRecDepth 100000 in
theorem wd_78 : Cond.classLink "LearnLoans" 9 "LearnLoans$Ways" ∈ am_ws := am_wt1 (List.mem_of_getElem? (i := 21) (by rfl)) (by decide +kernel)
set_option maxRecDepth 100000 in
theorem wd_79 : Cond.instantiable "LearnLoans$Ways" 9 ∈ am_ws := am_wt1 (List.mem_of_getElem? (i := 22) (by rfl)) (by decide +kernel)
theorem hy_X6_init : yX6_init.cls ≠ "java/lang/invoke/MethodHandle" ∧ yX6_init.cls ≠ "java/lang/invoke/VarHandle" ∧ (parseMethodDescriptor yX6_init.desc).map (fun d => d.parameters.length) = some 0 := ⟨by decide +kernel, by decide +kernel, by decide +kernel⟩
set_option maxRecDepth 100000 in
theorem wd_81 : Cond.instanceMethod yX6_init ∈ am_ws := am_wt1 (List.mem_of_getElem? (i := 24) (by rfl)) (by decide +kernel)
set_option maxRecDepth 100000 in
theorem wd_82 : Cond.code yX6_init cX6_init 1 none ∈ am_ws := am_wt1 (List.mem_of_getElem? (i := 25) (by rfl)) (by decide +kernel)
set_option maxRecDepth 100000 in
theorem wd_356 : Cond.fieldLink "LearnLoans" 16 "LearnLoans$Ways" "run" "LLearnLoans$Run;" ∈ am_ws := am_wt2 (List.mem_of_getElem? (i := 59) (by rfl)) (by decide +kernel)
set_option maxRecDepth 100000 in
theorem wd_292 : Cond.fieldLink "LearnLoans" 21 "LearnLoans$Run" "house" "LLearnLoans$House;" ∈ am_ws := am_wt1 (List.mem_of_getElem? (i := 235) (by rfl)) (by decide +kernel)
set_option maxRecDepth 100000 in
theorem wd_388 : Cond.classLink "LearnLoans" 28 "LearnLoans$House" ∈ am_ws := am_wt2 (List.mem_of_getElem? (i := 91) (by rfl)) (by decide +kernel)
set_option maxRecDepth 100000 in
theorem wd_391 : Cond.fieldLink "LearnLoans" 30 "LearnLoans" "images" "[LLearnLoans$House;" ∈ am_ws := am_wt2 (List.mem_of_getElem? (i := 94) (by rfl)) (by decide +kernel)
def rwX7_init : List dz_r := [(0, .aload_n 0, 1), (1, .invokespecial 3, 3), (4, .aload_n 0, 1), (5, .new 9, 3), (8, .dup, 1), (9, .invokespecial 11, 3), (12, .putfield 12, 3), (15, .aload_n 0, 1), (16, .aload_n 0, 1), (17, .getfield 12, 3), (20, .getfield 16, 3), (23, .putfield 20, 3), (26, .aload_n 0, 1), (27, .aload_n 0, 1), (28, .getfield 20, 3), (31, .getfield 21, 3), (34, .putfield 27, 3), (37, .aload_n 0, 1), (38, .iconst 2, 1), (39, .anewarray 28, 3), (42, .putfield 30, 3), (45, .return_, 1)]
theorem dzX7_init : dz cX7_init rwX7_init := dz_all 0 (by decide +kernel)
def kX7_init (Ret : an_R) : an_code := [(0, an_lf (fun live => am_aload 0 1)), (1, an_obj 104 4), (4, an_lf (fun live => am_aload 0 5)), (5, an_new 6 9 (fun L => 2) 49 6949 8), (8, an_lf (fun live => am_dup 9)), (9, an_callI 6 0 TX6_init 49 6949 47 6938 12), (12, an_putFR 7 3 15), (15, an_lf (fun live => am_aload 0 16)), (16, an_lf (fun live => am_aload 0 17)), (17, an_lf (fun live => am_getR live 7 3 20)), (20, an_lf (fun live => am_getR live 6 0 23)), (23, an_putFR 7 2 26), (26, an_lf (fun live => am_aload 0 27)), (27, an_lf (fun live => am_aload 0 28)), (28, an_lf (fun live => am_getR live 7 2 31)), (31, an_lf (fun live => am_getR live 4 0 34)), (34, an_putFR 7 0 37), (37, an_lf (fun live => am_aload 0 38)), (38, an_lf (fun live => am_const (.int 2) 39)), (39, an_newa 4 2 (fun L => 1) 49 6949 42), (42, an_putFR 7 1 45), (45, an_retV Ret)]
theorem koX7_init (Ret : an_R) : ∀ q ∈ kX7_init Ret, an_ok RX7 cX7_init 1 none 5 104 49 6949 true (fun _ _ _ => True) Ret q.1 q.2 :=
  am_kz dzX7_init <|
  an_kd (fun d => an_lift (fun live => ak_aload_n d rfl rfl)) <|
  an_kd (fun d => nk_obj (am_w3 wd_75 wd_76 wd_77) (by decide) d rfl) <|
  an_kd (fun d => an_lift (fun live => ak_aload_n d rfl rfl)) <|
  an_kd (fun d => nk_new (C := RX6) (T := TX6) (N := 9) (ty := tyX6) rfl inX6w tyX6_ok rfl zX6 (am_w3 wd_78 wd_79 wd_59) d rfl) <|
  an_kd (fun d => an_lift (fun live => ak_dup d rfl)) <|
  an_kd (fun d => nk_callIN (host := "LearnLoans") metX6_init rfl hy_X6_init (by decide +kernel) (am_w3 wd_59 wd_81 wd_82) (by decide) d rfl) <|
  an_kd (fun d => nk_putFR (C := RX7) (C2 := RX7) (T := TX7) (N := 4) rfl inX7w tyX7_ok nmX7 (by decide) rfl rfl rfl rfl rfl (tyX7_ok 3 (by decide)) (fun _ => ⟨rfl, rfl⟩) rfl wd_393 d rfl) <|
  an_kd (fun d => an_lift (fun live => ak_aload_n d rfl rfl)) <|
  an_kd (fun d => an_lift (fun live => ak_aload_n d rfl rfl)) <|
  an_kd (fun d => an_lift (fun live => ak_getR (C := RX7) (T := TX7) (N := 4) rfl inX7w (by decide) rfl rfl rfl wd_393 d rfl)) <|
  an_kd (fun d => an_lift (fun live => ak_getR (C := RX6) (T := TX6) (N := 9) rfl inX6w (by decide) rfl rfl rfl wd_356 d rfl)) <|
  an_kd (fun d => nk_putFR (C := RX7) (C2 := RX7) (T := TX7) (N := 4) rfl inX7w tyX7_ok nmX7 (by decide) rfl rfl rfl rfl rfl (tyX7_ok 2 (by decide)) (fun _ => ⟨rfl, rfl⟩) rfl wd_392 d rfl) <|
  an_kd (fun d => an_lift (fun live => ak_aload_n d rfl rfl)) <|
  an_kd (fun d => an_lift (fun live => ak_aload_n d rfl rfl)) <|
  an_kd (fun d => an_lift (fun live => ak_getR (C := RX7) (T := TX7) (N := 4) rfl inX7w (by decide) rfl rfl rfl wd_392 d rfl)) <|
  an_kd (fun d => an_lift (fun live => ak_getR (C := RX4) (T := TX4) (N := 19) rfl inX4w (by decide) rfl rfl rfl wd_292 d rfl)) <|
  an_kd (fun d => nk_putFR (C := RX7) (C2 := RX7) (T := TX7) (N := 4) rfl inX7w tyX7_ok nmX7 (by decide) rfl rfl rfl rfl rfl (tyX7_ok 0 (by decide)) (fun _ => ⟨rfl, rfl⟩) rfl wd_390 d rfl) <|
  an_kd (fun d => an_lift (fun live => ak_aload_n d rfl rfl)) <|
  an_kd (fun d => an_lift (fun live => ak_iconst d (by decide +kernel) rfl)) <|
  an_kd (fun d => nk_newq (t := 4) (len := 2) (C := "LearnLoans$House") (fun _ => rfl) rfl (by decide +kernel) wd_388 d rfl) <|
  an_kd (fun d => nk_putFR (C := RX7) (C2 := RX7) (T := TX7) (N := 4) rfl inX7w tyX7_ok nmX7 (by decide) rfl rfl rfl rfl rfl (tyX7_ok 1 (by decide)) (fun _ => ⟨rfl, rfl⟩) rfl wd_391 d rfl) <|
  an_kd (fun d => nk_retV d) <| an_kdn
def eX7 (E : am_E) : am_E := an_rE (an_bE (an_rE (an_rE (an_rE (eX6 (an_bE (E) 2)) 0 3 2) 0 2 4) 0 0 20) 1) 0 1 1
def mX7 (M : am_M) : am_M := an_bM (mX6 (an_bM (M) 2)) 1
def TX7_init : an_T := fun E as M R => match as with
  | [.ref r] => r = 0 ∧ E = an_bE an_E0 0 ∧ R none (eX7 (an_bE an_E0 0)) (mX7 M)
  | _ => False
set_option maxRecDepth 100000 in
set_option maxHeartbeats 4000000 in
theorem metX7_init : an_Met yX7_init cX7_init 1 none (5) (104) 49 6949 TX7_init := by
  refine an_met (own := RX7) (ini := true) (by decide +kernel) rfl (fun _ => rfl) kX7_init koX7_init 200 (fun _ _ _ _ _ => none) (fun live as M Ret h => ?_) (fun _ _ _ _ _ _ _ _ hI => by cases hI)
  unfold TX7_init at h
  split at h
  · next r =>
    refine ⟨Nat.le_of_ble_eq_true rfl, ?_⟩
    change an_wp _ _ _ _ [(0, Value.ref r)] _ _
    obtain ⟨rfl, rfl, h⟩ := h
    repeat' (first | apply And.intro | exact rfl | (intro hx; exact absurd hx (by decide)) | (intro hx; exact absurd (by decide) hx) | decide | intro hx | (refine Exists.intro _ (And.intro rfl ?_)))
    all_goals try first | (with_reducible change am_tI _ _) | (change Ret _ _) | (change Ret _ _ _) | (change Exists _)
    all_goals try dsimp only at *
    all_goals try (with_reducible exact absurd ‹(1000 : Int64) = 0› am_z1000)
    all_goals exact h
  · exact h.elim
set_option maxRecDepth 100000 in
theorem wd_894 : Cond.methodLink "LearnLoansModel" 1 objectInit ∈ am_ws := am_wt4 (List.mem_of_getElem? (i := 117) (by rfl)) (by decide +kernel)
set_option maxRecDepth 100000 in
theorem wd_895 : Cond.fieldLink "LearnLoansModel" 7 "LearnLoansModel" "cells" "[I" ∈ am_ws := am_wt4 (List.mem_of_getElem? (i := 118) (by rfl)) (by decide +kernel)
set_option maxRecDepth 100000 in
theorem wd_896 : Cond.fieldLink "LearnLoansModel" 13 "LearnLoansModel" "images" "[I" ∈ am_ws := am_wt4 (List.mem_of_getElem? (i := 119) (by rfl)) (by decide +kernel)
set_option maxRecDepth 100000 in
theorem wd_977 : Cond.arrayClass (newarray.typeOf .boolean) ∈ am_ws := am_wt4 (List.mem_of_getElem? (i := 200) (by rfl)) (by decide +kernel)
set_option maxRecDepth 100000 in
theorem wd_897 : Cond.fieldLink "LearnLoansModel" 16 "LearnLoansModel" "hasImage" "[Z" ∈ am_ws := am_wt4 (List.mem_of_getElem? (i := 120) (by rfl)) (by decide +kernel)
set_option maxRecDepth 100000 in
theorem wd_904 : Cond.fieldLink "LearnLoansModel" 20 "LearnLoansModel" "waits" "[I" ∈ am_ws := am_wt4 (List.mem_of_getElem? (i := 127) (by rfl)) (by decide +kernel)
set_option maxRecDepth 100000 in
theorem wd_905 : Cond.fieldLink "LearnLoansModel" 23 "LearnLoansModel" "worked" "[J" ∈ am_ws := am_wt4 (List.mem_of_getElem? (i := 128) (by rfl)) (by decide +kernel)
set_option maxRecDepth 100000 in
theorem wd_908 : Cond.fieldLink "LearnLoansModel" 27 "LearnLoansModel" "facts" "[J" ∈ am_ws := am_wt4 (List.mem_of_getElem? (i := 131) (by rfl)) (by decide +kernel)
set_option maxRecDepth 100000 in
theorem wd_910 : Cond.fieldLink "LearnLoansModel" 30 "LearnLoansModel" "owed" "[J" ∈ am_ws := am_wt4 (List.mem_of_getElem? (i := 133) (by rfl)) (by decide +kernel)
set_option maxRecDepth 100000 in
theorem wd_911 : Cond.fieldLink "LearnLoansModel" 33 "LearnLoansModel" "taken" "[J" ∈ am_ws := am_wt4 (List.mem_of_getElem? (i := 134) (by rfl)) (by decide +kernel)
set_option maxRecDepth 100000 in
theorem wd_912 : Cond.fieldLink "LearnLoansModel" 36 "LearnLoansModel" "takenAll" "[J" ∈ am_ws := am_wt4 (List.mem_of_getElem? (i := 135) (by rfl)) (by decide +kernel)
set_option maxRecDepth 100000 in
theorem wd_913 : Cond.fieldLink "LearnLoansModel" 39 "LearnLoansModel" "takenSold" "[J" ∈ am_ws := am_wt4 (List.mem_of_getElem? (i := 136) (by rfl)) (by decide +kernel)
set_option maxRecDepth 100000 in
theorem wd_914 : Cond.fieldLink "LearnLoansModel" 42 "LearnLoansModel" "struck" "[J" ∈ am_ws := am_wt4 (List.mem_of_getElem? (i := 137) (by rfl)) (by decide +kernel)
set_option maxRecDepth 100000 in
theorem wd_915 : Cond.fieldLink "LearnLoansModel" 45 "LearnLoansModel" "grown" "[J" ∈ am_ws := am_wt4 (List.mem_of_getElem? (i := 138) (by rfl)) (by decide +kernel)
set_option maxRecDepth 100000 in
theorem wd_916 : Cond.fieldLink "LearnLoansModel" 48 "LearnLoansModel" "isStruck" "[Z" ∈ am_ws := am_wt4 (List.mem_of_getElem? (i := 139) (by rfl)) (by decide +kernel)
set_option maxRecDepth 100000 in
theorem wd_918 : Cond.fieldLink "LearnLoansModel" 51 "LearnLoansModel" "owedThen" "[J" ∈ am_ws := am_wt4 (List.mem_of_getElem? (i := 141) (by rfl)) (by decide +kernel)
set_option maxRecDepth 100000 in
theorem wd_919 : Cond.fieldLink "LearnLoansModel" 54 "LearnLoansModel" "struckThen" "[Z" ∈ am_ws := am_wt4 (List.mem_of_getElem? (i := 142) (by rfl)) (by decide +kernel)
set_option maxRecDepth 100000 in
theorem wd_898 : Cond.fieldLink "LearnLoansModel" 57 "LearnLoansModel" "tryPlan" "I" ∈ am_ws := am_wt4 (List.mem_of_getElem? (i := 121) (by rfl)) (by decide +kernel)
set_option maxRecDepth 100000 in
theorem wd_902 : Cond.fieldLink "LearnLoansModel" 61 "LearnLoansModel" "leadPlan" "I" ∈ am_ws := am_wt4 (List.mem_of_getElem? (i := 125) (by rfl)) (by decide +kernel)
def rwX8_init : List dz_r := [(0, .aload_n 0, 1), (1, .invokespecial 1, 3), (4, .aload_n 0, 1), (5, .sipush 3760, 3), (8, .newarray .int, 2), (10, .putfield 7, 3), (13, .aload_n 0, 1), (14, .sipush 7520, 3), (17, .newarray .int, 2), (19, .putfield 13, 3), (22, .aload_n 0, 1), (23, .iconst 2, 1), (24, .newarray .boolean, 2), (26, .putfield 16, 3), (29, .aload_n 0, 1), (30, .bipush 120, 2), (32, .newarray .int, 2), (34, .putfield 20, 3), (37, .aload_n 0, 1), (38, .bipush 120, 2), (40, .newarray .long, 2), (42, .putfield 23, 3), (45, .aload_n 0, 1), (46, .bipush 7, 2), (48, .newarray .long, 2), (50, .putfield 27, 3), (53, .aload_n 0, 1), (54, .bipush 30, 2), (56, .newarray .long, 2), (58, .putfield 30, 3), (61, .aload_n 0, 1), (62, .bipush 30, 2), (64, .newarray .long, 2), (66, .putfield 33, 3), (69, .aload_n 0, 1), (70, .bipush 30, 2), (72, .newarray .long, 2), (74, .putfield 36, 3), (77, .aload_n 0, 1), (78, .bipush 30, 2), (80, .newarray .long, 2), (82, .putfield 39, 3), (85, .aload_n 0, 1), (86, .bipush 30, 2), (88, .newarray .long, 2), (90, .putfield 42, 3), (93, .aload_n 0, 1), (94, .bipush 30, 2), (96, .newarray .long, 2), (98, .putfield 45, 3), (101, .aload_n 0, 1), (102, .bipush 30, 2), (104, .newarray .boolean, 2), (106, .putfield 48, 3), (109, .aload_n 0, 1), (110, .bipush 30, 2), (112, .newarray .long, 2), (114, .putfield 51, 3), (117, .aload_n 0, 1), (118, .bipush 30, 2), (120, .newarray .boolean, 2), (122, .putfield 54, 3), (125, .iconst 0, 1), (126, .istore_n 1, 1), (127, .iload_n 1, 1), (128, .bipush 12, 2), (130, .if_icmp .ge 19, 3), (133, .aload_n 0, 1), (134, .getfield 7, 3), (137, .bipush 22, 2), (139, .iload_n 1, 1), (140, .iadd, 1), (141, .iconst (-1), 1), (142, .iastore, 1), (143, .iinc 1 1, 3), (146, .goto (-19), 3), (149, .iconst 0, 1), (150, .istore_n 1, 1), (151, .iload_n 1, 1), (152, .iconst 4, 1), (153, .if_icmp .ge 22, 3), (156, .aload_n 0, 1), (157, .getfield 7, 3), (160, .sipush 514, 3), (163, .iload_n 1, 1), (164, .iadd, 1), (165, .sipush 1000, 3), (168, .iastore, 1), (169, .iinc 1 1, 3), (172, .goto (-21), 3), (175, .iconst 0, 1), (176, .istore_n 1, 1), (177, .iload_n 1, 1), (178, .sipush 480, 3), (181, .if_icmp .ge 31, 3), (184, .aload_n 0, 1), (185, .getfield 7, 3), (188, .sipush 1038, 3), (191, .iload_n 1, 1), (192, .iadd, 1), (193, .iconst (-1), 1), (194, .iastore, 1), (195, .aload_n 0, 1), (196, .getfield 7, 3), (199, .sipush 1998, 3), (202, .iload_n 1, 1), (203, .iadd, 1), (204, .iconst (-1), 1), (205, .iastore, 1), (206, .iinc 1 1, 3), (209, .goto (-32), 3), (212, .iconst 0, 1), (213, .istore_n 1, 1), (214, .iload_n 1, 1), (215, .iconst 3, 1), (216, .if_icmp .ge 25, 3), (219, .aload_n 0, 1), (220, .getfield 7, 3), (223, .sipush 3733, 3), (226, .iconst 4, 1), (227, .iload_n 1, 1), (228, .imul, 1), (229, .iadd, 1), (230, .iload_n 1, 1), (231, .iadd, 1), (232, .bipush 10, 2), (234, .iastore, 1), (235, .iinc 1 1, 3), (238, .goto (-24), 3), (241, .aload_n 0, 1), (242, .iconst (-1), 1), (243, .putfield 57, 3), (246, .aload_n 0, 1), (247, .iconst (-1), 1), (248, .putfield 61, 3), (251, .return_, 1)]
theorem dzX8_init : dz cX8_init rwX8_init := dz_all 0 (by decide +kernel)
def kX8_init (Ret : an_R) : an_code := [(0, an_lf (fun live => am_aload 0 1)), (1, an_obj 20 4), (4, an_lf (fun live => am_aload 0 5)), (5, an_lf (fun live => am_const (.int 3760) 8)), (8, an_newa 0 3760 (fun L => 201) 15 11799 10), (10, an_putFR 8 0 13), (13, an_lf (fun live => am_aload 0 14)), (14, an_lf (fun live => am_const (.int 7520) 17)), (17, an_newa 0 7520 (fun L => 202) 15 11799 19), (19, an_putFR 8 1 22), (22, an_lf (fun live => am_aload 0 23)), (23, an_lf (fun live => am_const (.int 2) 24)), (24, an_newa 2 2 (fun L => 203) 15 11799 26), (26, an_putFR 8 2 29), (29, an_lf (fun live => am_aload 0 30)), (30, an_lf (fun live => am_const (.int 120) 32)), (32, an_newa 0 120 (fun L => 204) 15 11799 34), (34, an_putFR 8 9 37), (37, an_lf (fun live => am_aload 0 38)), (38, an_lf (fun live => am_const (.int 120) 40)), (40, an_newa 1 120 (fun L => 205) 15 11799 42), (42, an_putFR 8 10 45), (45, an_lf (fun live => am_aload 0 46)), (46, an_lf (fun live => am_const (.int 7) 48)), (48, an_newa 1 7 (fun L => 206) 15 11799 50), (50, an_putFR 8 13 53), (53, an_lf (fun live => am_aload 0 54)), (54, an_lf (fun live => am_const (.int 30) 56)), (56, an_newa 1 30 (fun L => 207) 15 11799 58), (58, an_putFR 8 15 61), (61, an_lf (fun live => am_aload 0 62)), (62, an_lf (fun live => am_const (.int 30) 64)), (64, an_newa 1 30 (fun L => 208) 15 11799 66), (66, an_putFR 8 16 69), (69, an_lf (fun live => am_aload 0 70)), (70, an_lf (fun live => am_const (.int 30) 72)), (72, an_newa 1 30 (fun L => 209) 15 11799 74), (74, an_putFR 8 17 77), (77, an_lf (fun live => am_aload 0 78)), (78, an_lf (fun live => am_const (.int 30) 80)), (80, an_newa 1 30 (fun L => 210) 15 11799 82), (82, an_putFR 8 18 85), (85, an_lf (fun live => am_aload 0 86)), (86, an_lf (fun live => am_const (.int 30) 88)), (88, an_newa 1 30 (fun L => 211) 15 11799 90), (90, an_putFR 8 19 93), (93, an_lf (fun live => am_aload 0 94)), (94, an_lf (fun live => am_const (.int 30) 96)), (96, an_newa 1 30 (fun L => 212) 15 11799 98), (98, an_putFR 8 20 101), (101, an_lf (fun live => am_aload 0 102)), (102, an_lf (fun live => am_const (.int 30) 104)), (104, an_newa 2 30 (fun L => 213) 15 11799 106), (106, an_putFR 8 21 109), (109, an_lf (fun live => am_aload 0 110)), (110, an_lf (fun live => am_const (.int 30) 112)), (112, an_newa 1 30 (fun L => 214) 15 11799 114), (114, an_putFR 8 23 117), (117, an_lf (fun live => am_aload 0 118)), (118, an_lf (fun live => am_const (.int 30) 120)), (120, an_newa 2 30 (fun L => 215) 15 11799 122), (122, an_putFR 8 24 125), (125, an_lf (fun live => am_const (.int 0) 126)), (126, an_lf (fun live => am_istore 1 2 127)), (127, an_lf (fun live => am_iload 1 128)), (128, an_lf (fun live => am_const (.int 12) 130)), (130, an_lf (fun live => am_if2 (fun x y => y ≤ x) 149 133)), (133, an_lf (fun live => am_aload 0 134)), (134, an_lf (fun live => am_getR live 8 0 137)), (137, an_lf (fun live => am_const (.int 22) 139)), (139, an_lf (fun live => am_iload 1 140)), (140, an_lf (fun live => am_i2 (fun x y => x + y) 141)), (141, an_lf (fun live => am_const (.int (-1)) 142)), (142, an_lf (fun live => am_ast live 0 143)), (143, an_lf (fun live => am_iinc 1 2 1 146)), (146, an_lf (fun live => am_goto 127)), (149, an_lf (fun live => am_const (.int 0) 150)), (150, an_lf (fun live => am_istore 1 2 151)), (151, an_lf (fun live => am_iload 1 152)), (152, an_lf (fun live => am_const (.int 4) 153)), (153, an_lf (fun live => am_if2 (fun x y => y ≤ x) 175 156)), (156, an_lf (fun live => am_aload 0 157)), (157, an_lf (fun live => am_getR live 8 0 160)), (160, an_lf (fun live => am_const (.int 514) 163)), (163, an_lf (fun live => am_iload 1 164)), (164, an_lf (fun live => am_i2 (fun x y => x + y) 165)), (165, an_lf (fun live => am_const (.int 1000) 168)), (168, an_lf (fun live => am_ast live 0 169)), (169, an_lf (fun live => am_iinc 1 2 1 172)), (172, an_lf (fun live => am_goto 151)), (175, an_lf (fun live => am_const (.int 0) 176)), (176, an_lf (fun live => am_istore 1 2 177)), (177, an_lf (fun live => am_iload 1 178)), (178, an_lf (fun live => am_const (.int 480) 181)), (181, an_lf (fun live => am_if2 (fun x y => y ≤ x) 212 184)), (184, an_lf (fun live => am_aload 0 185)), (185, an_lf (fun live => am_getR live 8 0 188)), (188, an_lf (fun live => am_const (.int 1038) 191)), (191, an_lf (fun live => am_iload 1 192)), (192, an_lf (fun live => am_i2 (fun x y => x + y) 193)), (193, an_lf (fun live => am_const (.int (-1)) 194)), (194, an_lf (fun live => am_ast live 0 195)), (195, an_lf (fun live => am_aload 0 196)), (196, an_lf (fun live => am_getR live 8 0 199)), (199, an_lf (fun live => am_const (.int 1998) 202)), (202, an_lf (fun live => am_iload 1 203)), (203, an_lf (fun live => am_i2 (fun x y => x + y) 204)), (204, an_lf (fun live => am_const (.int (-1)) 205)), (205, an_lf (fun live => am_ast live 0 206)), (206, an_lf (fun live => am_iinc 1 2 1 209)), (209, an_lf (fun live => am_goto 177)), (212, an_lf (fun live => am_const (.int 0) 213)), (213, an_lf (fun live => am_istore 1 2 214)), (214, an_lf (fun live => am_iload 1 215)), (215, an_lf (fun live => am_const (.int 3) 216)), (216, an_lf (fun live => am_if2 (fun x y => y ≤ x) 241 219)), (219, an_lf (fun live => am_aload 0 220)), (220, an_lf (fun live => am_getR live 8 0 223)), (223, an_lf (fun live => am_const (.int 3733) 226)), (226, an_lf (fun live => am_const (.int 4) 227)), (227, an_lf (fun live => am_iload 1 228)), (228, an_lf (fun live => am_i2 (fun x y => x * y) 229)), (229, an_lf (fun live => am_i2 (fun x y => x + y) 230)), (230, an_lf (fun live => am_iload 1 231)), (231, an_lf (fun live => am_i2 (fun x y => x + y) 232)), (232, an_lf (fun live => am_const (.int 10) 234)), (234, an_lf (fun live => am_ast live 0 235)), (235, an_lf (fun live => am_iinc 1 2 1 238)), (238, an_lf (fun live => am_goto 214)), (241, an_lf (fun live => am_aload 0 242)), (242, an_lf (fun live => am_const (.int (-1)) 243)), (243, an_lf (fun live => am_putI live 8 3 246)), (246, an_lf (fun live => am_aload 0 247)), (247, an_lf (fun live => am_const (.int (-1)) 248)), (248, an_lf (fun live => am_putI live 8 7 251)), (251, an_retV Ret)]
theorem koX8_init (Ret : an_R) : ∀ q ∈ kX8_init Ret, an_ok RX8 cX8_init 2 none 1 20 15 11799 true (fun _ _ _ => True) Ret q.1 q.2 :=
  am_kz dzX8_init <|
  an_kd (fun d => an_lift (fun live => ak_aload_n d rfl rfl)) <|
  an_kd (fun d => nk_obj (am_w3 wd_894 wd_76 wd_77) (by decide) d rfl) <|
  an_kd (fun d => an_lift (fun live => ak_aload_n d rfl rfl)) <|
  an_kd (fun d => an_lift (fun live => ak_sipush d (by decide +kernel) rfl)) <|
  an_kd (fun d => nk_newa (t := 0) (len := 3760) (atype := .int) (ty := .int) rfl (fun _ => rfl) (fun _ z => by cases z) (fun _ => rfl) wd_140 (by decide) d rfl) <|
  an_kd (fun d => nk_putFR (C := RX8) (C2 := RX8) (T := TX8) (N := 27) rfl inX8w tyX8_ok nmX8 (by decide) rfl rfl rfl rfl rfl (tyX8_ok 0 (by decide)) (fun _ => ⟨rfl, rfl⟩) rfl wd_895 d rfl) <|
  an_kd (fun d => an_lift (fun live => ak_aload_n d rfl rfl)) <|
  an_kd (fun d => an_lift (fun live => ak_sipush d (by decide +kernel) rfl)) <|
  an_kd (fun d => nk_newa (t := 0) (len := 7520) (atype := .int) (ty := .int) rfl (fun _ => rfl) (fun _ z => by cases z) (fun _ => rfl) wd_140 (by decide) d rfl) <|
  an_kd (fun d => nk_putFR (C := RX8) (C2 := RX8) (T := TX8) (N := 27) rfl inX8w tyX8_ok nmX8 (by decide) rfl rfl rfl rfl rfl (tyX8_ok 1 (by decide)) (fun _ => ⟨rfl, rfl⟩) rfl wd_896 d rfl) <|
  an_kd (fun d => an_lift (fun live => ak_aload_n d rfl rfl)) <|
  an_kd (fun d => an_lift (fun live => ak_iconst d (by decide +kernel) rfl)) <|
  an_kd (fun d => nk_newa (t := 2) (len := 2) (atype := .boolean) (ty := .boolean) rfl (fun _ => rfl) (fun _ z => by cases z) (fun _ => rfl) wd_977 (by decide) d rfl) <|
  an_kd (fun d => nk_putFR (C := RX8) (C2 := RX8) (T := TX8) (N := 27) rfl inX8w tyX8_ok nmX8 (by decide) rfl rfl rfl rfl rfl (tyX8_ok 2 (by decide)) (fun _ => ⟨rfl, rfl⟩) rfl wd_897 d rfl) <|
  an_kd (fun d => an_lift (fun live => ak_aload_n d rfl rfl)) <|
  an_kd (fun d => an_lift (fun live => ak_bipush d (by decide +kernel) rfl)) <|
  an_kd (fun d => nk_newa (t := 0) (len := 120) (atype := .int) (ty := .int) rfl (fun _ => rfl) (fun _ z => by cases z) (fun _ => rfl) wd_140 (by decide) d rfl) <|
  an_kd (fun d => nk_putFR (C := RX8) (C2 := RX8) (T := TX8) (N := 27) rfl inX8w tyX8_ok nmX8 (by decide) rfl rfl rfl rfl rfl (tyX8_ok 9 (by decide)) (fun _ => ⟨rfl, rfl⟩) rfl wd_904 d rfl) <|
  an_kd (fun d => an_lift (fun live => ak_aload_n d rfl rfl)) <|
  an_kd (fun d => an_lift (fun live => ak_bipush d (by decide +kernel) rfl)) <|
  an_kd (fun d => nk_newa (t := 1) (len := 120) (atype := .long) (ty := .long) rfl (fun _ => rfl) (fun _ z => by cases z) (fun _ => rfl) wd_290 (by decide) d rfl) <|
  an_kd (fun d => nk_putFR (C := RX8) (C2 := RX8) (T := TX8) (N := 27) rfl inX8w tyX8_ok nmX8 (by decide) rfl rfl rfl rfl rfl (tyX8_ok 10 (by decide)) (fun _ => ⟨rfl, rfl⟩) rfl wd_905 d rfl) <|
  an_kd (fun d => an_lift (fun live => ak_aload_n d rfl rfl)) <|
  an_kd (fun d => an_lift (fun live => ak_bipush d (by decide +kernel) rfl)) <|
  an_kd (fun d => nk_newa (t := 1) (len := 7) (atype := .long) (ty := .long) rfl (fun _ => rfl) (fun _ z => by cases z) (fun _ => rfl) wd_290 (by decide) d rfl) <|
  an_kd (fun d => nk_putFR (C := RX8) (C2 := RX8) (T := TX8) (N := 27) rfl inX8w tyX8_ok nmX8 (by decide) rfl rfl rfl rfl rfl (tyX8_ok 13 (by decide)) (fun _ => ⟨rfl, rfl⟩) rfl wd_908 d rfl) <|
  an_kd (fun d => an_lift (fun live => ak_aload_n d rfl rfl)) <|
  an_kd (fun d => an_lift (fun live => ak_bipush d (by decide +kernel) rfl)) <|
  an_kd (fun d => nk_newa (t := 1) (len := 30) (atype := .long) (ty := .long) rfl (fun _ => rfl) (fun _ z => by cases z) (fun _ => rfl) wd_290 (by decide) d rfl) <|
  an_kd (fun d => nk_putFR (C := RX8) (C2 := RX8) (T := TX8) (N := 27) rfl inX8w tyX8_ok nmX8 (by decide) rfl rfl rfl rfl rfl (tyX8_ok 15 (by decide)) (fun _ => ⟨rfl, rfl⟩) rfl wd_910 d rfl) <|
  an_kd (fun d => an_lift (fun live => ak_aload_n d rfl rfl)) <|
  an_kd (fun d => an_lift (fun live => ak_bipush d (by decide +kernel) rfl)) <|
  an_kd (fun d => nk_newa (t := 1) (len := 30) (atype := .long) (ty := .long) rfl (fun _ => rfl) (fun _ z => by cases z) (fun _ => rfl) wd_290 (by decide) d rfl) <|
  an_kd (fun d => nk_putFR (C := RX8) (C2 := RX8) (T := TX8) (N := 27) rfl inX8w tyX8_ok nmX8 (by decide) rfl rfl rfl rfl rfl (tyX8_ok 16 (by decide)) (fun _ => ⟨rfl, rfl⟩) rfl wd_911 d rfl) <|
  an_kd (fun d => an_lift (fun live => ak_aload_n d rfl rfl)) <|
  an_kd (fun d => an_lift (fun live => ak_bipush d (by decide +kernel) rfl)) <|
  an_kd (fun d => nk_newa (t := 1) (len := 30) (atype := .long) (ty := .long) rfl (fun _ => rfl) (fun _ z => by cases z) (fun _ => rfl) wd_290 (by decide) d rfl) <|
  an_kd (fun d => nk_putFR (C := RX8) (C2 := RX8) (T := TX8) (N := 27) rfl inX8w tyX8_ok nmX8 (by decide) rfl rfl rfl rfl rfl (tyX8_ok 17 (by decide)) (fun _ => ⟨rfl, rfl⟩) rfl wd_912 d rfl) <|
  an_kd (fun d => an_lift (fun live => ak_aload_n d rfl rfl)) <|
  an_kd (fun d => an_lift (fun live => ak_bipush d (by decide +kernel) rfl)) <|
  an_kd (fun d => nk_newa (t := 1) (len := 30) (atype := .long) (ty := .long) rfl (fun _ => rfl) (fun _ z => by cases z) (fun _ => rfl) wd_290 (by decide) d rfl) <|
  an_kd (fun d => nk_putFR (C := RX8) (C2 := RX8) (T := TX8) (N := 27) rfl inX8w tyX8_ok nmX8 (by decide) rfl rfl rfl rfl rfl (tyX8_ok 18 (by decide)) (fun _ => ⟨rfl, rfl⟩) rfl wd_913 d rfl) <|
  an_kd (fun d => an_lift (fun live => ak_aload_n d rfl rfl)) <|
  an_kd (fun d => an_lift (fun live => ak_bipush d (by decide +kernel) rfl)) <|
  an_kd (fun d => nk_newa (t := 1) (len := 30) (atype := .long) (ty := .long) rfl (fun _ => rfl) (fun _ z => by cases z) (fun _ => rfl) wd_290 (by decide) d rfl) <|
  an_kd (fun d => nk_putFR (C := RX8) (C2 := RX8) (T := TX8) (N := 27) rfl inX8w tyX8_ok nmX8 (by decide) rfl rfl rfl rfl rfl (tyX8_ok 19 (by decide)) (fun _ => ⟨rfl, rfl⟩) rfl wd_914 d rfl) <|
  an_kd (fun d => an_lift (fun live => ak_aload_n d rfl rfl)) <|
  an_kd (fun d => an_lift (fun live => ak_bipush d (by decide +kernel) rfl)) <|
  an_kd (fun d => nk_newa (t := 1) (len := 30) (atype := .long) (ty := .long) rfl (fun _ => rfl) (fun _ z => by cases z) (fun _ => rfl) wd_290 (by decide) d rfl) <|
  an_kd (fun d => nk_putFR (C := RX8) (C2 := RX8) (T := TX8) (N := 27) rfl inX8w tyX8_ok nmX8 (by decide) rfl rfl rfl rfl rfl (tyX8_ok 20 (by decide)) (fun _ => ⟨rfl, rfl⟩) rfl wd_915 d rfl) <|
  an_kd (fun d => an_lift (fun live => ak_aload_n d rfl rfl)) <|
  an_kd (fun d => an_lift (fun live => ak_bipush d (by decide +kernel) rfl)) <|
  an_kd (fun d => nk_newa (t := 2) (len := 30) (atype := .boolean) (ty := .boolean) rfl (fun _ => rfl) (fun _ z => by cases z) (fun _ => rfl) wd_977 (by decide) d rfl) <|
  an_kd (fun d => nk_putFR (C := RX8) (C2 := RX8) (T := TX8) (N := 27) rfl inX8w tyX8_ok nmX8 (by decide) rfl rfl rfl rfl rfl (tyX8_ok 21 (by decide)) (fun _ => ⟨rfl, rfl⟩) rfl wd_916 d rfl) <|
  an_kd (fun d => an_lift (fun live => ak_aload_n d rfl rfl)) <|
  an_kd (fun d => an_lift (fun live => ak_bipush d (by decide +kernel) rfl)) <|
  an_kd (fun d => nk_newa (t := 1) (len := 30) (atype := .long) (ty := .long) rfl (fun _ => rfl) (fun _ z => by cases z) (fun _ => rfl) wd_290 (by decide) d rfl) <|
  an_kd (fun d => nk_putFR (C := RX8) (C2 := RX8) (T := TX8) (N := 27) rfl inX8w tyX8_ok nmX8 (by decide) rfl rfl rfl rfl rfl (tyX8_ok 23 (by decide)) (fun _ => ⟨rfl, rfl⟩) rfl wd_918 d rfl) <|
  an_kd (fun d => an_lift (fun live => ak_aload_n d rfl rfl)) <|
  an_kd (fun d => an_lift (fun live => ak_bipush d (by decide +kernel) rfl)) <|
  an_kd (fun d => nk_newa (t := 2) (len := 30) (atype := .boolean) (ty := .boolean) rfl (fun _ => rfl) (fun _ z => by cases z) (fun _ => rfl) wd_977 (by decide) d rfl) <|
  an_kd (fun d => nk_putFR (C := RX8) (C2 := RX8) (T := TX8) (N := 27) rfl inX8w tyX8_ok nmX8 (by decide) rfl rfl rfl rfl rfl (tyX8_ok 24 (by decide)) (fun _ => ⟨rfl, rfl⟩) rfl wd_919 d rfl) <|
  an_kd (fun d => an_lift (fun live => ak_iconst d (by decide +kernel) rfl)) <|
  an_kd (fun d => an_lift (fun live => ak_istore_n d rfl rfl)) <|
  an_kd (fun d => an_lift (fun live => ak_iload_n d rfl rfl)) <|
  an_kd (fun d => an_lift (fun live => ak_bipush d (by decide +kernel) rfl)) <|
  an_kd (fun d => an_lift (fun live => ak_icmp_ge d (by decide +kernel) rfl)) <|
  an_kd (fun d => an_lift (fun live => ak_aload_n d rfl rfl)) <|
  an_kd (fun d => an_lift (fun live => ak_getR (C := RX8) (T := TX8) (N := 27) rfl inX8w (by decide) rfl rfl rfl wd_895 d rfl)) <|
  an_kd (fun d => an_lift (fun live => ak_bipush d (by decide +kernel) rfl)) <|
  an_kd (fun d => an_lift (fun live => ak_iload_n d rfl rfl)) <|
  an_kd (fun d => an_lift (fun live => ak_iadd d rfl)) <|
  an_kd (fun d => an_lift (fun live => ak_iconst d (by decide +kernel) rfl)) <|
  an_kd (fun d => an_lift (fun live => ak_iast (t := 0) (fun _ => rfl) rfl d rfl)) <|
  an_kd (fun d => an_lift (fun live => ak_iinc d (by decide +kernel) rfl)) <|
  an_kd (fun d => an_lift (fun live => ak_goto d (by decide +kernel))) <|
  an_kd (fun d => an_lift (fun live => ak_iconst d (by decide +kernel) rfl)) <|
  an_kd (fun d => an_lift (fun live => ak_istore_n d rfl rfl)) <|
  an_kd (fun d => an_lift (fun live => ak_iload_n d rfl rfl)) <|
  an_kd (fun d => an_lift (fun live => ak_iconst d (by decide +kernel) rfl)) <|
  an_kd (fun d => an_lift (fun live => ak_icmp_ge d (by decide +kernel) rfl)) <|
  an_kd (fun d => an_lift (fun live => ak_aload_n d rfl rfl)) <|
  an_kd (fun d => an_lift (fun live => ak_getR (C := RX8) (T := TX8) (N := 27) rfl inX8w (by decide) rfl rfl rfl wd_895 d rfl)) <|
  an_kd (fun d => an_lift (fun live => ak_sipush d (by decide +kernel) rfl)) <|
  an_kd (fun d => an_lift (fun live => ak_iload_n d rfl rfl)) <|
  an_kd (fun d => an_lift (fun live => ak_iadd d rfl)) <|
  an_kd (fun d => an_lift (fun live => ak_sipush d (by decide +kernel) rfl)) <|
  an_kd (fun d => an_lift (fun live => ak_iast (t := 0) (fun _ => rfl) rfl d rfl)) <|
  an_kd (fun d => an_lift (fun live => ak_iinc d (by decide +kernel) rfl)) <|
  an_kd (fun d => an_lift (fun live => ak_goto d (by decide +kernel))) <|
  an_kd (fun d => an_lift (fun live => ak_iconst d (by decide +kernel) rfl)) <|
  an_kd (fun d => an_lift (fun live => ak_istore_n d rfl rfl)) <|
  an_kd (fun d => an_lift (fun live => ak_iload_n d rfl rfl)) <|
  an_kd (fun d => an_lift (fun live => ak_sipush d (by decide +kernel) rfl)) <|
  an_kd (fun d => an_lift (fun live => ak_icmp_ge d (by decide +kernel) rfl)) <|
  an_kd (fun d => an_lift (fun live => ak_aload_n d rfl rfl)) <|
  an_kd (fun d => an_lift (fun live => ak_getR (C := RX8) (T := TX8) (N := 27) rfl inX8w (by decide) rfl rfl rfl wd_895 d rfl)) <|
  an_kd (fun d => an_lift (fun live => ak_sipush d (by decide +kernel) rfl)) <|
  an_kd (fun d => an_lift (fun live => ak_iload_n d rfl rfl)) <|
  an_kd (fun d => an_lift (fun live => ak_iadd d rfl)) <|
  an_kd (fun d => an_lift (fun live => ak_iconst d (by decide +kernel) rfl)) <|
  an_kd (fun d => an_lift (fun live => ak_iast (t := 0) (fun _ => rfl) rfl d rfl)) <|
  an_kd (fun d => an_lift (fun live => ak_aload_n d rfl rfl)) <|
  an_kd (fun d => an_lift (fun live => ak_getR (C := RX8) (T := TX8) (N := 27) rfl inX8w (by decide) rfl rfl rfl wd_895 d rfl)) <|
  an_kd (fun d => an_lift (fun live => ak_sipush d (by decide +kernel) rfl)) <|
  an_kd (fun d => an_lift (fun live => ak_iload_n d rfl rfl)) <|
  an_kd (fun d => an_lift (fun live => ak_iadd d rfl)) <|
  an_kd (fun d => an_lift (fun live => ak_iconst d (by decide +kernel) rfl)) <|
  an_kd (fun d => an_lift (fun live => ak_iast (t := 0) (fun _ => rfl) rfl d rfl)) <|
  an_kd (fun d => an_lift (fun live => ak_iinc d (by decide +kernel) rfl)) <|
  an_kd (fun d => an_lift (fun live => ak_goto d (by decide +kernel))) <|
  an_kd (fun d => an_lift (fun live => ak_iconst d (by decide +kernel) rfl)) <|
  an_kd (fun d => an_lift (fun live => ak_istore_n d rfl rfl)) <|
  an_kd (fun d => an_lift (fun live => ak_iload_n d rfl rfl)) <|
  an_kd (fun d => an_lift (fun live => ak_iconst d (by decide +kernel) rfl)) <|
  an_kd (fun d => an_lift (fun live => ak_icmp_ge d (by decide +kernel) rfl)) <|
  an_kd (fun d => an_lift (fun live => ak_aload_n d rfl rfl)) <|
  an_kd (fun d => an_lift (fun live => ak_getR (C := RX8) (T := TX8) (N := 27) rfl inX8w (by decide) rfl rfl rfl wd_895 d rfl)) <|
  an_kd (fun d => an_lift (fun live => ak_sipush d (by decide +kernel) rfl)) <|
  an_kd (fun d => an_lift (fun live => ak_iconst d (by decide +kernel) rfl)) <|
  an_kd (fun d => an_lift (fun live => ak_iload_n d rfl rfl)) <|
  an_kd (fun d => an_lift (fun live => ak_imul d rfl)) <|
  an_kd (fun d => an_lift (fun live => ak_iadd d rfl)) <|
  an_kd (fun d => an_lift (fun live => ak_iload_n d rfl rfl)) <|
  an_kd (fun d => an_lift (fun live => ak_iadd d rfl)) <|
  an_kd (fun d => an_lift (fun live => ak_bipush d (by decide +kernel) rfl)) <|
  an_kd (fun d => an_lift (fun live => ak_iast (t := 0) (fun _ => rfl) rfl d rfl)) <|
  an_kd (fun d => an_lift (fun live => ak_iinc d (by decide +kernel) rfl)) <|
  an_kd (fun d => an_lift (fun live => ak_goto d (by decide +kernel))) <|
  an_kd (fun d => an_lift (fun live => ak_aload_n d rfl rfl)) <|
  an_kd (fun d => an_lift (fun live => ak_iconst d (by decide +kernel) rfl)) <|
  an_kd (fun d => an_lift (fun live => ak_putI (C := RX8) (T := TX8) (N := 27) rfl inX8w tyX8_ok nmX8 (by decide) rfl rfl rfl rfl (by decide +kernel) wd_898 d rfl)) <|
  an_kd (fun d => an_lift (fun live => ak_aload_n d rfl rfl)) <|
  an_kd (fun d => an_lift (fun live => ak_iconst d (by decide +kernel) rfl)) <|
  an_kd (fun d => an_lift (fun live => ak_putI (C := RX8) (T := TX8) (N := 27) rfl inX8w tyX8_ok nmX8 (by decide) rfl rfl rfl rfl (by decide +kernel) wd_902 d rfl)) <|
  an_kd (fun d => nk_retV d) <| an_kdn
def eX8 (E : am_E) : am_E := an_rE (an_bE (an_rE (an_bE (an_rE (an_bE (an_rE (an_bE (an_rE (an_bE (an_rE (an_bE (an_rE (an_bE (an_rE (an_bE (an_rE (an_bE (an_rE (an_bE (an_rE (an_bE (an_rE (an_bE (an_rE (an_bE (an_rE (an_bE (an_rE (an_bE (E) 201) 200 0 201) 202) 200 1 202) 203) 200 2 203) 204) 200 9 204) 205) 200 10 205) 206) 200 13 206) 207) 200 15 207) 208) 200 16 208) 209) 200 17 209) 210) 200 18 210) 211) 200 19 211) 212) 200 20 212) 213) 200 21 213) 214) 200 23 214) 215) 200 24 215
def mX8a (M : am_M) : am_M := am_wI (am_wI (am_wI (am_wI (am_wI (am_wI (am_wI (am_wI (am_wI (am_wI (am_wI (am_wI (am_wI (am_wI (am_wI (am_wI (an_bM (an_bM (an_bM (an_bM (an_bM (an_bM (an_bM (an_bM (an_bM (an_bM (an_bM (an_bM (an_bM (an_bM (an_bM (M) 201) 202) 203) 204) 205) 206) 207) 208) 209) 210) 211) 212) 213) 214) 215) 201 22 (-1)) 201 23 (-1)) 201 24 (-1)) 201 25 (-1)) 201 26 (-1)) 201 27 (-1)) 201 28 (-1)) 201 29 (-1)) 201 30 (-1)) 201 31 (-1)) 201 32 (-1)) 201 33 (-1)) 201 514 1000) 201 515 1000) 201 516 1000) 201 517 1000
def an_l2 (M : am_M) (j : Nat) : am_M := (fun a b => if a = 201 ∧ ((1038 ≤ b ∧ b < 1038 + j) ∨ (1998 ≤ b ∧ b < 1998 + j)) then -1 else M.1 a b, M.2)
def mX8 (M : am_M) : am_M := am_wI (am_wI (am_wI (am_wI (am_wI (an_l2 (mX8a M) 480) 201 3733 10) 201 3738 10) 201 3743 10) 200 3 (-1)) 200 7 (-1)
theorem an_l2_0 (M : am_M) : an_l2 M 0 = M := by
  refine am_Mext (fun a b => ?_) rfl
  show (if _ then _ else _) = _
  rw [if_neg (fun q => by omega)]
theorem an_l2_s (M : am_M) (j : Nat) : am_wI (am_wI (an_l2 M j) 201 (1038 + j) (-1)) 201 (1998 + j) (-1) = an_l2 M (j + 1) := by
  refine am_Mext (fun a b => ?_) rfl
  rw [am_wI_1, am_wI_1]
  show (if _ then _ else if _ then _ else if _ then _ else _) = (if _ then _ else _)
  by_cases ha : a = 201
  · subst ha
    simp only [true_and]
    by_cases h1 : b = 1998 + j
    · rw [if_pos h1, if_pos (by omega)]
    · rw [if_neg h1]
      by_cases h2 : b = 1038 + j
      · rw [if_pos h2, if_pos (by omega)]
      · rw [if_neg h2]
        by_cases h3 : (1038 ≤ b ∧ b < 1038 + j) ∨ (1998 ≤ b ∧ b < 1998 + j)
        · rw [if_pos h3, if_pos (by omega)]
        · rw [if_neg h3, if_neg (by omega)]
  · rw [if_neg (fun q => ha q.1), if_neg (fun q => ha q.1), if_neg (fun q => ha q.1), if_neg (fun q => ha q.1)]
theorem an_ofN {c j : Nat} (h : c + j < 2147483648) : (Int32.ofNat c + Int32.ofNat j).toNatClampNeg = c + j ∧ (Int32.ofNat c + Int32.ofNat j).toInt = ((c + j : Nat) : Int) := by
  have e : Int32.ofNat c + Int32.ofNat j = Int32.ofNat (c + j) := by rw [Int32.ofNat_add]
  have e2 : (Int32.ofNat (c + j)).toInt = ((c + j : Nat) : Int) := i_nat h
  rw [e]
  refine ⟨?_, e2⟩
  show (Int32.ofNat (c + j)).toInt.toNat = c + j
  omega
def TX8_init : an_T := fun E as M R => match as with
  | [.ref r] => am_if (Nat.beq r 200 && an_fc E 200 15) (R none (eX8 E) (mX8 M))
  | _ => False
def JX8_init : am_E → List Value → am_M → an_R → an_inv := fun E as M0 _ pc => match pc with
  | 177 => some ([0, 1], fun k L st X => ∃ j : Nat, j ≤ 480 ∧ L = [(0, .ref 200), (1, .int (Int32.ofNat j))] ∧ st = [] ∧ k = (480 - j, 0) ∧ X = (eX8 E, 15, 11799, an_l2 (mX8a M0) j))
  | _ => none
set_option maxRecDepth 100000 in
set_option maxHeartbeats 4000000 in
theorem metX8_init : an_Met yX8_init cX8_init 2 none (1) (20) 15 11799 TX8_init := by
  refine an_met (own := RX8) (ini := true) (by decide +kernel) rfl (fun _ => rfl) kX8_init koX8_init 400 JX8_init ?_ ?_
  · intro live as M Ret h
    unfold TX8_init at h
    split at h
    · next r =>
      refine ⟨Nat.le_of_ble_eq_true rfl, ?_⟩
      change an_wp _ _ _ _ [(0, Value.ref r)] _ _
      have hh := am_if_mp h
      clear h
      obtain ⟨hb, h⟩ := hh
      rw [Bool.and_eq_true] at hb
      obtain ⟨h1, h3⟩ := hb
      have h1 := Nat.eq_of_beq_eq_true h1
      subst h1
      obtain ⟨E, rfl⟩ : ∃ E, live = an_ho 200 15 E := ⟨live, an_ho_of h3⟩
      clear h3
      repeat' (first | apply And.intro | exact rfl | (intro hx; exact absurd hx (by decide)) | (intro hx; exact absurd (by decide) hx) | decide | intro hx | (refine Exists.intro _ (And.intro rfl ?_)))
      all_goals try first | (with_reducible change am_tI _ _) | (change Ret _ _) | (change Ret _ _ _) | (change Exists _)
      all_goals try dsimp only at *
      all_goals try (with_reducible exact absurd ‹(1000 : Int64) = 0› am_z1000)
      refine ⟨_, 0, Nat.zero_le _, rfl, rfl, rfl, ?_⟩
      rw [an_l2_0]
      rfl
    · exact h.elim
  · intro live as M0 Ret h k pc I hI L st M hi
    unfold TX8_init at h
    split at h
    · next r =>
      have hh := am_if_mp h
      clear h
      obtain ⟨hb, h⟩ := hh
      rw [Bool.and_eq_true] at hb
      obtain ⟨h1, h3⟩ := hb
      have h1 := Nat.eq_of_beq_eq_true h1
      subst h1
      obtain ⟨E, rfl⟩ : ∃ E, live = an_ho 200 15 E := ⟨live, an_ho_of h3⟩
      clear h3
      change (match pc with | 177 => _ | _ => none) = _ at hI
      split at hI
      · cases hI
        obtain ⟨j, hj, rfl, rfl, rfl, rfl⟩ := hi
        have a1 : j < 480 → am_in (1038 + Int32.ofNat j) (am_len 201) ∧ (1038 + Int32.ofNat j).toNatClampNeg = 1038 + j := fun hlt => by
          have := an_ofN (c := 1038) (j := j) (by omega)
          have l1 : (am_len 201 : Int) = 3760 := rfl
          exact ⟨⟨by rw [show (1038 : Int32) = Int32.ofNat 1038 from rfl, this.2]; omega, by rw [show (1038 : Int32) = Int32.ofNat 1038 from rfl, this.2, l1]; omega⟩, this.1⟩
        have a2 : j < 480 → am_in (1998 + Int32.ofNat j) (am_len 201) ∧ (1998 + Int32.ofNat j).toNatClampNeg = 1998 + j := fun hlt => by
          have := an_ofN (c := 1998) (j := j) (by omega)
          have l1 : (am_len 201 : Int) = 3760 := rfl
          exact ⟨⟨by rw [show (1998 : Int32) = Int32.ofNat 1998 from rfl, this.2]; omega, by rw [show (1998 : Int32) = Int32.ofNat 1998 from rfl, this.2, l1]; omega⟩, this.1⟩
        have e1 : (Int32.ofNat j).toInt = (j : Int) := i_nat (by omega)
        by_cases hlt : j < 480
        · have hn : ¬ (480 : Int32) ≤ Int32.ofNat j := by rw [i_le, e1]; simp only [Int32.reduceToInt]; omega
          have a1 := a1 hlt
          have a2 := a2 hlt
          have b1 := a1.1.1
          have b2 := a1.1.2
          have b3 := a2.1.1
          have b4 := a2.1.2
          repeat' (first | (with_reducible exact b1) | (with_reducible exact b2) | (with_reducible exact b3) | (with_reducible exact b4) | apply And.intro | exact rfl | (intro hx; with_reducible exact absurd hx hn) | intro hx | (refine Exists.intro _ (And.intro rfl ?_)))
          all_goals try first | (with_reducible change am_tI _ _) | (change Ret _ _) | (change Ret _ _ _) | (change Exists _)
          all_goals try dsimp only at *
          all_goals try (with_reducible exact absurd ‹(1000 : Int64) = 0› am_z1000)
          refine ⟨(480 - (j + 1), 0), Or.inl (by show 480 - (j + 1) < 480 - j; omega), j + 1, by omega, ?_, rfl, rfl, ?_⟩
          · rw [Int32.ofNat_add]
            rfl
          · refine congrArg (fun z => (eX8 (an_ho 200 15 E), 15, 11799, z)) ?_
            rw [a1.2, a2.2, an_l2_s]
        · have hj2 : j = 480 := by omega
          subst hj2
          repeat' (first | apply And.intro | exact rfl | (intro hx; exact absurd hx (by decide)) | (intro hx; exact absurd (by decide) hx) | decide | intro hx | (refine Exists.intro _ (And.intro rfl ?_)))
          all_goals try first | (with_reducible change am_tI _ _) | (change Ret _ _) | (change Ret _ _ _) | (change Exists _)
          all_goals try dsimp only at *
          all_goals try (with_reducible exact absurd ‹(1000 : Int64) = 0› am_z1000)
          all_goals exact h
      · cases hI
    · exact h.elim
