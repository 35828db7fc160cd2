/-! births: the run, the ways, the object, the reference -/
def an_E0 : am_E := (fun _ => false, fun _ _ => none)
set_option maxRecDepth 100000 in
theorem wd_89 : Cond.methodLink "LearnLoans$Run" 3 objectInit ∈ am_ws := am_wsi (List.mem_of_getElem? (i := 89) (by rfl)) (by decide +kernel)
set_option maxRecDepth 100000 in
theorem wd_90 : Cond.classLink "LearnLoans$Run" 9 "LearnLoans$House" ∈ am_ws := am_wsi (List.mem_of_getElem? (i := 90) (by rfl)) (by decide +kernel)
set_option maxRecDepth 100000 in
theorem wd_91 : Cond.instantiable "LearnLoans$House" 13 ∈ am_ws := am_wsi (List.mem_of_getElem? (i := 91) (by rfl)) (by decide +kernel)
set_option maxRecDepth 100000 in
theorem wd_92 : Cond.methodLink "LearnLoans$Run" 11 yX0_init ∈ am_ws := am_wsi (List.mem_of_getElem? (i := 92) (by rfl)) (by decide +kernel)
set_option maxRecDepth 100000 in
theorem wd_93 : Cond.instanceMethod yX0_init ∈ am_ws := am_wsi (List.mem_of_getElem? (i := 93) (by rfl)) (by decide +kernel)
set_option maxRecDepth 100000 in
theorem wd_94 : Cond.code yX0_init cX0_init 2 none ∈ am_ws := am_wsi (List.mem_of_getElem? (i := 94) (by rfl)) (by decide +kernel)
set_option maxRecDepth 100000 in
theorem wd_290 : Cond.arrayClass (newarray.typeOf .long) ∈ am_ws := am_wsi (List.mem_of_getElem? (i := 290) (by rfl)) (by decide +kernel)
set_option maxRecDepth 100000 in
theorem wd_255 : Cond.classLink "LearnLoans$Run" 32 "LearnLoans$Letters" ∈ am_ws := am_wsi (List.mem_of_getElem? (i := 255) (by rfl)) (by decide +kernel)
set_option maxRecDepth 100000 in
theorem wd_256 : Cond.instantiable "LearnLoans$Letters" 7 ∈ am_ws := am_wsi (List.mem_of_getElem? (i := 256) (by rfl)) (by decide +kernel)
set_option maxRecDepth 100000 in
theorem wd_258 : Cond.instanceMethod yX1_init ∈ am_ws := am_wsi (List.mem_of_getElem? (i := 258) (by rfl)) (by decide +kernel)
set_option maxRecDepth 100000 in
theorem wd_259 : Cond.code yX1_init cX1_init 1 none ∈ am_ws := am_wsi (List.mem_of_getElem? (i := 259) (by rfl)) (by decide +kernel)
theorem dX4_init_0 : decode cX4_init 0 = .ok (.aload_n 0, 1) := by decide +kernel
theorem dX4_init_1 : decode cX4_init 1 = .ok (.invokespecial 3, 3) := by decide +kernel
theorem dX4_init_4 : decode cX4_init 4 = .ok (.aload_n 0, 1) := by decide +kernel
theorem dX4_init_5 : decode cX4_init 5 = .ok (.new 9, 3) := by decide +kernel
theorem dX4_init_8 : decode cX4_init 8 = .ok (.dup, 1) := by decide +kernel
theorem dX4_init_9 : decode cX4_init 9 = .ok (.invokespecial 11, 3) := by decide +kernel
theorem dX4_init_12 : decode cX4_init 12 = .ok (.putfield 12, 3) := by decide +kernel
theorem dX4_init_15 : decode cX4_init 15 = .ok (.aload_n 0, 1) := by decide +kernel
theorem dX4_init_16 : decode cX4_init 16 = .ok (.sipush 1200, 3) := by decide +kernel
theorem dX4_init_19 : decode cX4_init 19 = .ok (.newarray .int, 2) := by decide +kernel
theorem dX4_init_21 : decode cX4_init 21 = .ok (.putfield 18, 3) := by decide +kernel
theorem dX4_init_24 : decode cX4_init 24 = .ok (.aload_n 0, 1) := by decide +kernel
theorem dX4_init_25 : decode cX4_init 25 = .ok (.sipush 180, 3) := by decide +kernel
theorem dX4_init_28 : decode cX4_init 28 = .ok (.newarray .long, 2) := by decide +kernel
theorem dX4_init_30 : decode cX4_init 30 = .ok (.putfield 22, 3) := by decide +kernel
theorem dX4_init_33 : decode cX4_init 33 = .ok (.aload_n 0, 1) := by decide +kernel
theorem dX4_init_34 : decode cX4_init 34 = .ok (.bipush 30, 2) := by decide +kernel
theorem dX4_init_36 : decode cX4_init 36 = .ok (.newarray .int, 2) := by decide +kernel
theorem dX4_init_38 : decode cX4_init 38 = .ok (.putfield 26, 3) := by decide +kernel
theorem dX4_init_41 : decode cX4_init 41 = .ok (.aload_n 0, 1) := by decide +kernel
theorem dX4_init_42 : decode cX4_init 42 = .ok (.bipush 30, 2) := by decide +kernel
theorem dX4_init_44 : decode cX4_init 44 = .ok (.newarray .int, 2) := by decide +kernel
theorem dX4_init_46 : decode cX4_init 46 = .ok (.putfield 29, 3) := by decide +kernel
theorem dX4_init_49 : decode cX4_init 49 = .ok (.aload_n 0, 1) := by decide +kernel
theorem dX4_init_50 : decode cX4_init 50 = .ok (.new 32, 3) := by decide +kernel
theorem dX4_init_53 : decode cX4_init 53 = .ok (.dup, 1) := by decide +kernel
theorem dX4_init_54 : decode cX4_init 54 = .ok (.invokespecial 34, 3) := by decide +kernel
theorem dX4_init_57 : decode cX4_init 57 = .ok (.putfield 35, 3) := by decide +kernel
theorem dX4_init_60 : decode cX4_init 60 = .ok (.aload_n 0, 1) := by decide +kernel
theorem dX4_init_61 : decode cX4_init 61 = .ok (.bipush 50, 2) := by decide +kernel
theorem dX4_init_63 : decode cX4_init 63 = .ok (.newarray .long, 2) := by decide +kernel
theorem dX4_init_65 : decode cX4_init 65 = .ok (.putfield 39, 3) := by decide +kernel
theorem dX4_init_68 : decode cX4_init 68 = .ok (.return_, 1) := by decide +kernel
def kX4_init (Ret : an_R) : an_code := [(0, an_lf (fun live => am_aload 0 1)), (1, an_obj 64 4), (4, an_lf (fun live => am_aload 0 5)), (5, an_new 0 13 (fun L => 20) 45 6769 8), (8, an_lf (fun live => am_dup 9)), (9, an_callI 0 0 TX0_init 45 6769 38 5259 12), (12, an_putFR 4 0 15), (15, an_lf (fun live => am_aload 0 16)), (16, an_lf (fun live => am_const (.int 1200) 19)), (19, an_newa 0 1200 (fun L => 5) 45 6769 21), (21, an_putFR 4 1 24), (24, an_lf (fun live => am_aload 0 25)), (25, an_lf (fun live => am_const (.int 180) 28)), (28, an_newa 1 180 (fun L => 6) 45 6769 30), (30, an_putFR 4 2 33), (33, an_lf (fun live => am_aload 0 34)), (34, an_lf (fun live => am_const (.int 30) 36)), (36, an_newa 0 30 (fun L => 7) 45 6769 38), (38, an_putFR 4 3 41), (41, an_lf (fun live => am_aload 0 42)), (42, an_lf (fun live => am_const (.int 30) 44)), (44, an_newa 0 30 (fun L => 8) 45 6769 46), (46, an_putFR 4 4 49), (49, an_lf (fun live => am_aload 0 50)), (50, an_new 1 7 (fun L => 9) 45 6769 53), (53, an_lf (fun live => am_dup 54)), (54, an_callI 1 0 TX1_init 45 6769 0 0 57), (57, an_putFR 4 5 60), (60, an_lf (fun live => am_aload 0 61)), (61, an_lf (fun live => am_const (.int 50) 63)), (63, an_newa 1 50 (fun L => 10) 45 6769 65), (65, an_putFR 4 6 68), (68, an_retV Ret)]
theorem koX4_init (Ret : an_R) : ∀ q ∈ kX4_init Ret, an_ok RX4 cX4_init 1 none 3 64 45 6769 true (fun _ _ _ => True) Ret q.1 q.2 :=
  an_kc (an_lift (fun live => ak_aload_n dX4_init_0 rfl rfl)) <|
  an_kc (nk_obj (am_w3 wd_89 wd_76 wd_77) (by decide) dX4_init_1 rfl) <|
  an_kc (an_lift (fun live => ak_aload_n dX4_init_4 rfl rfl)) <|
  an_kc (nk_new (C := RX0) (T := TX0) (N := 13) (ty := tyX0) rfl inX0w tyX0_ok rfl zX0 (am_w3 wd_90 wd_91 wd_61) dX4_init_5 rfl) <|
  an_kc (an_lift (fun live => ak_dup dX4_init_8 rfl)) <|
  an_kc (nk_callI metX0_init rfl ⟨by decide +kernel, by decide +kernel, by decide +kernel⟩ (am_w4 wd_61 wd_92 wd_93 wd_94) (by decide) dX4_init_9 rfl) <|
  an_kc (nk_putFR (C := RX4) (C2 := RX4) (T := TX4) (N := 19) rfl inX4w tyX4_ok nmX4 (by decide) rfl rfl rfl rfl rfl (tyX4_ok 0 (by decide)) (fun _ => ⟨rfl, rfl⟩) rfl wd_291 dX4_init_12 rfl) <|
  an_kc (an_lift (fun live => ak_aload_n dX4_init_15 rfl rfl)) <|
  an_kc (an_lift (fun live => ak_sipush dX4_init_16 (by decide +kernel) rfl)) <|
  an_kc (nk_newa (t := 0) (len := 1200) (atype := .int) (ty := .int) rfl (fun _ => rfl) (fun _ z => by cases z) (fun _ => rfl) wd_140 (by decide) dX4_init_19 rfl) <|
  an_kc (nk_putFR (C := RX4) (C2 := RX4) (T := TX4) (N := 19) rfl inX4w tyX4_ok nmX4 (by decide) rfl rfl rfl rfl rfl (tyX4_ok 1 (by decide)) (fun _ => ⟨rfl, rfl⟩) rfl wd_294 dX4_init_21 rfl) <|
  an_kc (an_lift (fun live => ak_aload_n dX4_init_24 rfl rfl)) <|
  an_kc (an_lift (fun live => ak_sipush dX4_init_25 (by decide +kernel) rfl)) <|
  an_kc (nk_newa (t := 1) (len := 180) (atype := .long) (ty := .long) rfl (fun _ => rfl) (fun _ z => by cases z) (fun _ => rfl) wd_290 (by decide) dX4_init_28 rfl) <|
  an_kc (nk_putFR (C := RX4) (C2 := RX4) (T := TX4) (N := 19) rfl inX4w tyX4_ok nmX4 (by decide) rfl rfl rfl rfl rfl (tyX4_ok 2 (by decide)) (fun _ => ⟨rfl, rfl⟩) rfl wd_296 dX4_init_30 rfl) <|
  an_kc (an_lift (fun live => ak_aload_n dX4_init_33 rfl rfl)) <|
  an_kc (an_lift (fun live => ak_bipush dX4_init_34 (by decide +kernel) rfl)) <|
  an_kc (nk_newa (t := 0) (len := 30) (atype := .int) (ty := .int) rfl (fun _ => rfl) (fun _ z => by cases z) (fun _ => rfl) wd_140 (by decide) dX4_init_36 rfl) <|
  an_kc (nk_putFR (C := RX4) (C2 := RX4) (T := TX4) (N := 19) rfl inX4w tyX4_ok nmX4 (by decide) rfl rfl rfl rfl rfl (tyX4_ok 3 (by decide)) (fun _ => ⟨rfl, rfl⟩) rfl wd_299 dX4_init_38 rfl) <|
  an_kc (an_lift (fun live => ak_aload_n dX4_init_41 rfl rfl)) <|
  an_kc (an_lift (fun live => ak_bipush dX4_init_42 (by decide +kernel) rfl)) <|
  an_kc (nk_newa (t := 0) (len := 30) (atype := .int) (ty := .int) rfl (fun _ => rfl) (fun _ z => by cases z) (fun _ => rfl) wd_140 (by decide) dX4_init_44 rfl) <|
  an_kc (nk_putFR (C := RX4) (C2 := RX4) (T := TX4) (N := 19) rfl inX4w tyX4_ok nmX4 (by decide) rfl rfl rfl rfl rfl (tyX4_ok 4 (by decide)) (fun _ => ⟨rfl, rfl⟩) rfl wd_300 dX4_init_46 rfl) <|
  an_kc (an_lift (fun live => ak_aload_n dX4_init_49 rfl rfl)) <|
  an_kc (nk_new (C := RX1) (T := TX1) (N := 7) (ty := tyX1) rfl inX1w tyX1_ok rfl zX1 (am_w3 wd_255 wd_256 wd_66) dX4_init_50 rfl) <|
  an_kc (an_lift (fun live => ak_dup dX4_init_53 rfl)) <|
  an_kc (nk_callIN (host := "LearnLoans") metX1_init rfl ⟨by decide +kernel, by decide +kernel, by decide +kernel⟩ (by decide +kernel) (am_w3 wd_66 wd_258 wd_259) (by decide) dX4_init_54 rfl) <|
  an_kc (nk_putFR (C := RX4) (C2 := RX4) (T := TX4) (N := 19) rfl inX4w tyX4_ok nmX4 (by decide) rfl rfl rfl rfl rfl (tyX4_ok 5 (by decide)) (fun _ => ⟨rfl, rfl⟩) rfl wd_301 dX4_init_57 rfl) <|
  an_kc (an_lift (fun live => ak_aload_n dX4_init_60 rfl rfl)) <|
  an_kc (an_lift (fun live => ak_bipush dX4_init_61 (by decide +kernel) rfl)) <|
  an_kc (nk_newa (t := 1) (len := 50) (atype := .long) (ty := .long) rfl (fun _ => rfl) (fun _ z => by cases z) (fun _ => rfl) wd_290 (by decide) dX4_init_63 rfl) <|
  an_kc (nk_putFR (C := RX4) (C2 := RX4) (T := TX4) (N := 19) rfl inX4w tyX4_ok nmX4 (by decide) rfl rfl rfl rfl rfl (tyX4_ok 6 (by decide)) (fun _ => ⟨rfl, rfl⟩) rfl wd_302 dX4_init_65 rfl) <|
  an_kc (nk_retV dX4_init_68) <| an_kn
def eX4 (E : am_E) : am_E := an_rE (an_bE (an_rE (an_bE (an_rE (an_bE (an_rE (an_bE (an_rE (an_bE (an_rE (an_bE (an_rE (eX0 20 (an_bE (E) 20)) 4 0 20) 5) 4 1 5) 6) 4 2 6) 7) 4 3 7) 8) 4 4 8) 9) 4 5 9) 10) 4 6 10
def mX4 (M : am_M) : am_M := an_bM (an_bM (an_bM (an_bM (an_bM (an_bM (mX0 20 (an_bM (M) 20)) 5) 6) 7) 8) 9) 10
def TX4_init : an_T := fun E as M R => match as with
  | [.ref r] => r = 4 ∧ E = an_bE (an_bE (an_bE an_E0 0) 2) 4 ∧ R none (eX4 (an_bE (an_bE (an_bE an_E0 0) 2) 4)) (mX4 M)
  | _ => False
set_option maxRecDepth 100000 in
set_option maxHeartbeats 4000000 in
theorem metX4_init : an_Met yX4_init cX4_init 1 none (3) (64) 45 6769 TX4_init := by
  refine an_met (own := RX4) (ini := true) (by decide +kernel) rfl (fun _ => rfl) kX4_init koX4_init 200 (fun _ _ _ _ _ => none) (fun live as M Ret h => ?_) (fun _ _ _ _ _ _ _ _ hI => by cases hI)
  unfold TX4_init at h
  split at h
  · next r =>
    refine ⟨Nat.le_of_ble_eq_true rfl, ?_⟩
    change an_wp _ _ _ _ [(0, Value.ref r)] _ _
    obtain ⟨rfl, rfl, h⟩ := h
    repeat' (first | apply And.intro | exact rfl | (intro hx; exact absurd hx (by decide)) | (intro hx; exact absurd (by decide) hx) | decide | intro hx | (refine Exists.intro _ (And.intro rfl ?_)))
    all_goals try first | (with_reducible change am_tI _ _) | (change Ret _ _) | (change Ret _ _ _) | (change Exists _)
    all_goals try dsimp only at *
    all_goals try exact absurd ‹(1000 : Int64) = 0› (by decide)
    all_goals exact h
  · exact h.elim
set_option maxRecDepth 100000 in
theorem wd_83 : Cond.methodLink "LearnLoans$Ways" 3 objectInit ∈ am_ws := am_wsi (List.mem_of_getElem? (i := 83) (by rfl)) (by decide +kernel)
set_option maxRecDepth 100000 in
theorem wd_84 : Cond.classLink "LearnLoans$Ways" 9 "LearnLoans$Run" ∈ am_ws := am_wsi (List.mem_of_getElem? (i := 84) (by rfl)) (by decide +kernel)
set_option maxRecDepth 100000 in
theorem wd_85 : Cond.instantiable "LearnLoans$Run" 19 ∈ am_ws := am_wsi (List.mem_of_getElem? (i := 85) (by rfl)) (by decide +kernel)
set_option maxRecDepth 100000 in
theorem wd_87 : Cond.instanceMethod yX4_init ∈ am_ws := am_wsi (List.mem_of_getElem? (i := 87) (by rfl)) (by decide +kernel)
set_option maxRecDepth 100000 in
theorem wd_88 : Cond.code yX4_init cX4_init 1 none ∈ am_ws := am_wsi (List.mem_of_getElem? (i := 88) (by rfl)) (by decide +kernel)
theorem dX6_init_0 : decode cX6_init 0 = .ok (.aload_n 0, 1) := by decide +kernel
theorem dX6_init_1 : decode cX6_init 1 = .ok (.invokespecial 3, 3) := by decide +kernel
theorem dX6_init_4 : decode cX6_init 4 = .ok (.aload_n 0, 1) := by decide +kernel
theorem dX6_init_5 : decode cX6_init 5 = .ok (.new 9, 3) := by decide +kernel
theorem dX6_init_8 : decode cX6_init 8 = .ok (.dup, 1) := by decide +kernel
theorem dX6_init_9 : decode cX6_init 9 = .ok (.invokespecial 11, 3) := by decide +kernel
theorem dX6_init_12 : decode cX6_init 12 = .ok (.putfield 12, 3) := by decide +kernel
theorem dX6_init_15 : decode cX6_init 15 = .ok (.aload_n 0, 1) := by decide +kernel
theorem dX6_init_16 : decode cX6_init 16 = .ok (.sipush 150, 3) := by decide +kernel
theorem dX6_init_19 : decode cX6_init 19 = .ok (.newarray .long, 2) := by decide +kernel
theorem dX6_init_21 : decode cX6_init 21 = .ok (.putfield 18, 3) := by decide +kernel
theorem dX6_init_24 : decode cX6_init 24 = .ok (.return_, 1) := by decide +kernel
def kX6_init (Ret : an_R) : an_code := [(0, an_lf (fun live => am_aload 0 1)), (1, an_obj 84 4), (4, an_lf (fun live => am_aload 0 5)), (5, an_new 4 19 (fun L => 4) 47 6938 8), (8, an_lf (fun live => am_dup 9)), (9, an_callI 4 0 TX4_init 47 6938 45 6769 12), (12, an_putFR 6 0 15), (15, an_lf (fun live => am_aload 0 16)), (16, an_lf (fun live => am_const (.int 150) 19)), (19, an_newa 1 150 (fun L => 3) 47 6938 21), (21, an_putFR 6 1 24), (24, an_retV Ret)]
theorem koX6_init (Ret : an_R) : ∀ q ∈ kX6_init Ret, an_ok RX6 cX6_init 1 none 4 84 47 6938 true (fun _ _ _ => True) Ret q.1 q.2 :=
  an_kc (an_lift (fun live => ak_aload_n dX6_init_0 rfl rfl)) <|
  an_kc (nk_obj (am_w3 wd_83 wd_76 wd_77) (by decide) dX6_init_1 rfl) <|
  an_kc (an_lift (fun live => ak_aload_n dX6_init_4 rfl rfl)) <|
  an_kc (nk_new (C := RX4) (T := TX4) (N := 19) (ty := tyX4) rfl inX4w tyX4_ok rfl zX4 (am_w3 wd_84 wd_85 wd_60) dX6_init_5 rfl) <|
  an_kc (an_lift (fun live => ak_dup dX6_init_8 rfl)) <|
  an_kc (nk_callIN (host := "LearnLoans") metX4_init rfl ⟨by decide +kernel, by decide +kernel, by decide +kernel⟩ (by decide +kernel) (am_w3 wd_60 wd_87 wd_88) (by decide) dX6_init_9 rfl) <|
  an_kc (nk_putFR (C := RX6) (C2 := RX6) (T := TX6) (N := 9) rfl inX6w tyX6_ok nmX6 (by decide) rfl rfl rfl rfl rfl (tyX6_ok 0 (by decide)) (fun _ => ⟨rfl, rfl⟩) rfl wd_355 dX6_init_12 rfl) <|
  an_kc (an_lift (fun live => ak_aload_n dX6_init_15 rfl rfl)) <|
  an_kc (an_lift (fun live => ak_sipush dX6_init_16 (by decide +kernel) rfl)) <|
  an_kc (nk_newa (t := 1) (len := 150) (atype := .long) (ty := .long) rfl (fun _ => rfl) (fun _ z => by cases z) (fun _ => rfl) wd_290 (by decide) dX6_init_19 rfl) <|
  an_kc (nk_putFR (C := RX6) (C2 := RX6) (T := TX6) (N := 9) rfl inX6w tyX6_ok nmX6 (by decide) rfl rfl rfl rfl rfl (tyX6_ok 1 (by decide)) (fun _ => ⟨rfl, rfl⟩) rfl wd_357 dX6_init_21 rfl) <|
  an_kc (nk_retV dX6_init_24) <| an_kn
def eX6 (E : am_E) : am_E := an_rE (an_bE (an_rE (eX4 (an_bE (E) 4)) 2 0 4) 3) 2 1 3
def mX6 (M : am_M) : am_M := an_bM (mX4 (an_bM (M) 4)) 3
def TX6_init : an_T := fun E as M R => match as with
  | [.ref r] => r = 2 ∧ E = an_bE (an_bE an_E0 0) 2 ∧ R none (eX6 (an_bE (an_bE an_E0 0) 2)) (mX6 M)
  | _ => False
set_option maxRecDepth 100000 in
set_option maxHeartbeats 4000000 in
theorem metX6_init : an_Met yX6_init cX6_init 1 none (4) (84) 47 6938 TX6_init := by
  refine an_met (own := RX6) (ini := true) (by decide +kernel) rfl (fun _ => rfl) kX6_init koX6_init 200 (fun _ _ _ _ _ => none) (fun live as M Ret h => ?_) (fun _ _ _ _ _ _ _ _ hI => by cases hI)
  unfold TX6_init at h
  split at h
  · next r =>
    refine ⟨Nat.le_of_ble_eq_true rfl, ?_⟩
    change an_wp _ _ _ _ [(0, Value.ref r)] _ _
    obtain ⟨rfl, rfl, h⟩ := h
    repeat' (first | apply And.intro | exact rfl | (intro hx; exact absurd hx (by decide)) | (intro hx; exact absurd (by decide) hx) | decide | intro hx | (refine Exists.intro _ (And.intro rfl ?_)))
    all_goals try first | (with_reducible change am_tI _ _) | (change Ret _ _) | (change Ret _ _ _) | (change Exists _)
    all_goals try dsimp only at *
    all_goals try exact absurd ‹(1000 : Int64) = 0› (by decide)
    all_goals exact h
  · exact h.elim
set_option maxRecDepth 100000 in
theorem wd_75 : Cond.methodLink "LearnLoans" 3 objectInit ∈ am_ws := am_wsi (List.mem_of_getElem? (i := 75) (by rfl)) (by decide +kernel)
set_option maxRecDepth 100000 in
theorem wd_78 : Cond.classLink "LearnLoans" 9 "LearnLoans$Ways" ∈ am_ws := am_wsi (List.mem_of_getElem? (i := 78) (by rfl)) (by decide +kernel)
set_option maxRecDepth 100000 in
theorem wd_79 : Cond.instantiable "LearnLoans$Ways" 9 ∈ am_ws := am_wsi (List.mem_of_getElem? (i := 79) (by rfl)) (by decide +kernel)
set_option maxRecDepth 100000 in
theorem wd_81 : Cond.instanceMethod yX6_init ∈ am_ws := am_wsi (List.mem_of_getElem? (i := 81) (by rfl)) (by decide +kernel)
set_option maxRecDepth 100000 in
theorem wd_82 : Cond.code yX6_init cX6_init 1 none ∈ am_ws := am_wsi (List.mem_of_getElem? (i := 82) (by rfl)) (by decide +kernel)
set_option maxRecDepth 100000 in
theorem wd_356 : Cond.fieldLink "LearnLoans" 16 "LearnLoans$Ways" "run" "LLearnLoans$Run;" ∈ am_ws := am_wsi (List.mem_of_getElem? (i := 356) (by rfl)) (by decide +kernel)
set_option maxRecDepth 100000 in
theorem wd_292 : Cond.fieldLink "LearnLoans" 21 "LearnLoans$Run" "house" "LLearnLoans$House;" ∈ am_ws := am_wsi (List.mem_of_getElem? (i := 292) (by rfl)) (by decide +kernel)
set_option maxRecDepth 100000 in
theorem wd_388 : Cond.classLink "LearnLoans" 28 "LearnLoans$House" ∈ am_ws := am_wsi (List.mem_of_getElem? (i := 388) (by rfl)) (by decide +kernel)
set_option maxRecDepth 100000 in
theorem wd_391 : Cond.fieldLink "LearnLoans" 30 "LearnLoans" "images" "[LLearnLoans$House;" ∈ am_ws := am_wsi (List.mem_of_getElem? (i := 391) (by rfl)) (by decide +kernel)
theorem dX7_init_0 : decode cX7_init 0 = .ok (.aload_n 0, 1) := by decide +kernel
theorem dX7_init_1 : decode cX7_init 1 = .ok (.invokespecial 3, 3) := by decide +kernel
theorem dX7_init_4 : decode cX7_init 4 = .ok (.aload_n 0, 1) := by decide +kernel
theorem dX7_init_5 : decode cX7_init 5 = .ok (.new 9, 3) := by decide +kernel
theorem dX7_init_8 : decode cX7_init 8 = .ok (.dup, 1) := by decide +kernel
theorem dX7_init_9 : decode cX7_init 9 = .ok (.invokespecial 11, 3) := by decide +kernel
theorem dX7_init_12 : decode cX7_init 12 = .ok (.putfield 12, 3) := by decide +kernel
theorem dX7_init_15 : decode cX7_init 15 = .ok (.aload_n 0, 1) := by decide +kernel
theorem dX7_init_16 : decode cX7_init 16 = .ok (.aload_n 0, 1) := by decide +kernel
theorem dX7_init_17 : decode cX7_init 17 = .ok (.getfield 12, 3) := by decide +kernel
theorem dX7_init_20 : decode cX7_init 20 = .ok (.getfield 16, 3) := by decide +kernel
theorem dX7_init_23 : decode cX7_init 23 = .ok (.putfield 20, 3) := by decide +kernel
theorem dX7_init_26 : decode cX7_init 26 = .ok (.aload_n 0, 1) := by decide +kernel
theorem dX7_init_27 : decode cX7_init 27 = .ok (.aload_n 0, 1) := by decide +kernel
theorem dX7_init_28 : decode cX7_init 28 = .ok (.getfield 20, 3) := by decide +kernel
theorem dX7_init_31 : decode cX7_init 31 = .ok (.getfield 21, 3) := by decide +kernel
theorem dX7_init_34 : decode cX7_init 34 = .ok (.putfield 27, 3) := by decide +kernel
theorem dX7_init_37 : decode cX7_init 37 = .ok (.aload_n 0, 1) := by decide +kernel
theorem dX7_init_38 : decode cX7_init 38 = .ok (.iconst 2, 1) := by decide +kernel
theorem dX7_init_39 : decode cX7_init 39 = .ok (.anewarray 28, 3) := by decide +kernel
theorem dX7_init_42 : decode cX7_init 42 = .ok (.putfield 30, 3) := by decide +kernel
theorem dX7_init_45 : decode cX7_init 45 = .ok (.return_, 1) := by decide +kernel
def kX7_init (Ret : an_R) : an_code := [(0, an_lf (fun live => am_aload 0 1)), (1, an_obj 104 4), (4, an_lf (fun live => am_aload 0 5)), (5, an_new 6 9 (fun L => 2) 49 6949 8), (8, an_lf (fun live => am_dup 9)), (9, an_callI 6 0 TX6_init 49 6949 47 6938 12), (12, an_putFR 7 3 15), (15, an_lf (fun live => am_aload 0 16)), (16, an_lf (fun live => am_aload 0 17)), (17, an_lf (fun live => am_getR live 7 3 20)), (20, an_lf (fun live => am_getR live 6 0 23)), (23, an_putFR 7 2 26), (26, an_lf (fun live => am_aload 0 27)), (27, an_lf (fun live => am_aload 0 28)), (28, an_lf (fun live => am_getR live 7 2 31)), (31, an_lf (fun live => am_getR live 4 0 34)), (34, an_putFR 7 0 37), (37, an_lf (fun live => am_aload 0 38)), (38, an_lf (fun live => am_const (.int 2) 39)), (39, an_newa 4 2 (fun L => 1) 49 6949 42), (42, an_putFR 7 1 45), (45, an_retV Ret)]
theorem koX7_init (Ret : an_R) : ∀ q ∈ kX7_init Ret, an_ok RX7 cX7_init 1 none 5 104 49 6949 true (fun _ _ _ => True) Ret q.1 q.2 :=
  an_kc (an_lift (fun live => ak_aload_n dX7_init_0 rfl rfl)) <|
  an_kc (nk_obj (am_w3 wd_75 wd_76 wd_77) (by decide) dX7_init_1 rfl) <|
  an_kc (an_lift (fun live => ak_aload_n dX7_init_4 rfl rfl)) <|
  an_kc (nk_new (C := RX6) (T := TX6) (N := 9) (ty := tyX6) rfl inX6w tyX6_ok rfl zX6 (am_w3 wd_78 wd_79 wd_59) dX7_init_5 rfl) <|
  an_kc (an_lift (fun live => ak_dup dX7_init_8 rfl)) <|
  an_kc (nk_callIN (host := "LearnLoans") metX6_init rfl ⟨by decide +kernel, by decide +kernel, by decide +kernel⟩ (by decide +kernel) (am_w3 wd_59 wd_81 wd_82) (by decide) dX7_init_9 rfl) <|
  an_kc (nk_putFR (C := RX7) (C2 := RX7) (T := TX7) (N := 4) rfl inX7w tyX7_ok nmX7 (by decide) rfl rfl rfl rfl rfl (tyX7_ok 3 (by decide)) (fun _ => ⟨rfl, rfl⟩) rfl wd_393 dX7_init_12 rfl) <|
  an_kc (an_lift (fun live => ak_aload_n dX7_init_15 rfl rfl)) <|
  an_kc (an_lift (fun live => ak_aload_n dX7_init_16 rfl rfl)) <|
  an_kc (an_lift (fun live => ak_getR (C := RX7) (T := TX7) (N := 4) rfl inX7w (by decide) rfl rfl rfl wd_393 dX7_init_17 rfl)) <|
  an_kc (an_lift (fun live => ak_getR (C := RX6) (T := TX6) (N := 9) rfl inX6w (by decide) rfl rfl rfl wd_356 dX7_init_20 rfl)) <|
  an_kc (nk_putFR (C := RX7) (C2 := RX7) (T := TX7) (N := 4) rfl inX7w tyX7_ok nmX7 (by decide) rfl rfl rfl rfl rfl (tyX7_ok 2 (by decide)) (fun _ => ⟨rfl, rfl⟩) rfl wd_392 dX7_init_23 rfl) <|
  an_kc (an_lift (fun live => ak_aload_n dX7_init_26 rfl rfl)) <|
  an_kc (an_lift (fun live => ak_aload_n dX7_init_27 rfl rfl)) <|
  an_kc (an_lift (fun live => ak_getR (C := RX7) (T := TX7) (N := 4) rfl inX7w (by decide) rfl rfl rfl wd_392 dX7_init_28 rfl)) <|
  an_kc (an_lift (fun live => ak_getR (C := RX4) (T := TX4) (N := 19) rfl inX4w (by decide) rfl rfl rfl wd_292 dX7_init_31 rfl)) <|
  an_kc (nk_putFR (C := RX7) (C2 := RX7) (T := TX7) (N := 4) rfl inX7w tyX7_ok nmX7 (by decide) rfl rfl rfl rfl rfl (tyX7_ok 0 (by decide)) (fun _ => ⟨rfl, rfl⟩) rfl wd_390 dX7_init_34 rfl) <|
  an_kc (an_lift (fun live => ak_aload_n dX7_init_37 rfl rfl)) <|
  an_kc (an_lift (fun live => ak_iconst dX7_init_38 (by decide +kernel) rfl)) <|
  an_kc (nk_newq (t := 4) (len := 2) (C := "LearnLoans$House") (fun _ => rfl) rfl (by decide +kernel) wd_388 dX7_init_39 rfl) <|
  an_kc (nk_putFR (C := RX7) (C2 := RX7) (T := TX7) (N := 4) rfl inX7w tyX7_ok nmX7 (by decide) rfl rfl rfl rfl rfl (tyX7_ok 1 (by decide)) (fun _ => ⟨rfl, rfl⟩) rfl wd_391 dX7_init_42 rfl) <|
  an_kc (nk_retV dX7_init_45) <| an_kn
def eX7 (E : am_E) : am_E := an_rE (an_bE (an_rE (an_rE (an_rE (eX6 (an_bE (E) 2)) 0 3 2) 0 2 4) 0 0 20) 1) 0 1 1
def mX7 (M : am_M) : am_M := an_bM (mX6 (an_bM (M) 2)) 1
def TX7_init : an_T := fun E as M R => match as with
  | [.ref r] => r = 0 ∧ E = an_bE an_E0 0 ∧ R none (eX7 (an_bE an_E0 0)) (mX7 M)
  | _ => False
set_option maxRecDepth 100000 in
set_option maxHeartbeats 4000000 in
theorem metX7_init : an_Met yX7_init cX7_init 1 none (5) (104) 49 6949 TX7_init := by
  refine an_met (own := RX7) (ini := true) (by decide +kernel) rfl (fun _ => rfl) kX7_init koX7_init 200 (fun _ _ _ _ _ => none) (fun live as M Ret h => ?_) (fun _ _ _ _ _ _ _ _ hI => by cases hI)
  unfold TX7_init at h
  split at h
  · next r =>
    refine ⟨Nat.le_of_ble_eq_true rfl, ?_⟩
    change an_wp _ _ _ _ [(0, Value.ref r)] _ _
    obtain ⟨rfl, rfl, h⟩ := h
    repeat' (first | apply And.intro | exact rfl | (intro hx; exact absurd hx (by decide)) | (intro hx; exact absurd (by decide) hx) | decide | intro hx | (refine Exists.intro _ (And.intro rfl ?_)))
    all_goals try first | (with_reducible change am_tI _ _) | (change Ret _ _) | (change Ret _ _ _) | (change Exists _)
    all_goals try dsimp only at *
    all_goals try exact absurd ‹(1000 : Int64) = 0› (by decide)
    all_goals exact h
  · exact h.elim
set_option maxRecDepth 100000 in
theorem wd_894 : Cond.methodLink "LearnLoansModel" 1 objectInit ∈ am_ws := am_wsi (List.mem_of_getElem? (i := 894) (by rfl)) (by decide +kernel)
set_option maxRecDepth 100000 in
theorem wd_895 : Cond.fieldLink "LearnLoansModel" 7 "LearnLoansModel" "cells" "[I" ∈ am_ws := am_wsi (List.mem_of_getElem? (i := 895) (by rfl)) (by decide +kernel)
set_option maxRecDepth 100000 in
theorem wd_896 : Cond.fieldLink "LearnLoansModel" 13 "LearnLoansModel" "images" "[I" ∈ am_ws := am_wsi (List.mem_of_getElem? (i := 896) (by rfl)) (by decide +kernel)
set_option maxRecDepth 100000 in
theorem wd_977 : Cond.arrayClass (newarray.typeOf .boolean) ∈ am_ws := am_wsi (List.mem_of_getElem? (i := 977) (by rfl)) (by decide +kernel)
set_option maxRecDepth 100000 in
theorem wd_897 : Cond.fieldLink "LearnLoansModel" 16 "LearnLoansModel" "hasImage" "[Z" ∈ am_ws := am_wsi (List.mem_of_getElem? (i := 897) (by rfl)) (by decide +kernel)
set_option maxRecDepth 100000 in
theorem wd_904 : Cond.fieldLink "LearnLoansModel" 20 "LearnLoansModel" "waits" "[I" ∈ am_ws := am_wsi (List.mem_of_getElem? (i := 904) (by rfl)) (by decide +kernel)
set_option maxRecDepth 100000 in
theorem wd_905 : Cond.fieldLink "LearnLoansModel" 23 "LearnLoansModel" "worked" "[J" ∈ am_ws := am_wsi (List.mem_of_getElem? (i := 905) (by rfl)) (by decide +kernel)
set_option maxRecDepth 100000 in
theorem wd_908 : Cond.fieldLink "LearnLoansModel" 27 "LearnLoansModel" "facts" "[J" ∈ am_ws := am_wsi (List.mem_of_getElem? (i := 908) (by rfl)) (by decide +kernel)
set_option maxRecDepth 100000 in
theorem wd_910 : Cond.fieldLink "LearnLoansModel" 30 "LearnLoansModel" "owed" "[J" ∈ am_ws := am_wsi (List.mem_of_getElem? (i := 910) (by rfl)) (by decide +kernel)
set_option maxRecDepth 100000 in
theorem wd_911 : Cond.fieldLink "LearnLoansModel" 33 "LearnLoansModel" "taken" "[J" ∈ am_ws := am_wsi (List.mem_of_getElem? (i := 911) (by rfl)) (by decide +kernel)
set_option maxRecDepth 100000 in
theorem wd_912 : Cond.fieldLink "LearnLoansModel" 36 "LearnLoansModel" "takenAll" "[J" ∈ am_ws := am_wsi (List.mem_of_getElem? (i := 912) (by rfl)) (by decide +kernel)
set_option maxRecDepth 100000 in
theorem wd_913 : Cond.fieldLink "LearnLoansModel" 39 "LearnLoansModel" "takenSold" "[J" ∈ am_ws := am_wsi (List.mem_of_getElem? (i := 913) (by rfl)) (by decide +kernel)
set_option maxRecDepth 100000 in
theorem wd_914 : Cond.fieldLink "LearnLoansModel" 42 "LearnLoansModel" "struck" "[J" ∈ am_ws := am_wsi (List.mem_of_getElem? (i := 914) (by rfl)) (by decide +kernel)
set_option maxRecDepth 100000 in
theorem wd_915 : Cond.fieldLink "LearnLoansModel" 45 "LearnLoansModel" "grown" "[J" ∈ am_ws := am_wsi (List.mem_of_getElem? (i := 915) (by rfl)) (by decide +kernel)
set_option maxRecDepth 100000 in
theorem wd_916 : Cond.fieldLink "LearnLoansModel" 48 "LearnLoansModel" "isStruck" "[Z" ∈ am_ws := am_wsi (List.mem_of_getElem? (i := 916) (by rfl)) (by decide +kernel)
set_option maxRecDepth 100000 in
theorem wd_918 : Cond.fieldLink "LearnLoansModel" 51 "LearnLoansModel" "owedThen" "[J" ∈ am_ws := am_wsi (List.mem_of_getElem? (i := 918) (by rfl)) (by decide +kernel)
set_option maxRecDepth 100000 in
theorem wd_919 : Cond.fieldLink "LearnLoansModel" 54 "LearnLoansModel" "struckThen" "[Z" ∈ am_ws := am_wsi (List.mem_of_getElem? (i := 919) (by rfl)) (by decide +kernel)
set_option maxRecDepth 100000 in
theorem wd_898 : Cond.fieldLink "LearnLoansModel" 57 "LearnLoansModel" "tryPlan" "I" ∈ am_ws := am_wsi (List.mem_of_getElem? (i := 898) (by rfl)) (by decide +kernel)
set_option maxRecDepth 100000 in
theorem wd_902 : Cond.fieldLink "LearnLoansModel" 61 "LearnLoansModel" "leadPlan" "I" ∈ am_ws := am_wsi (List.mem_of_getElem? (i := 902) (by rfl)) (by decide +kernel)
theorem dX8_init_0 : decode cX8_init 0 = .ok (.aload_n 0, 1) := by decide +kernel
theorem dX8_init_1 : decode cX8_init 1 = .ok (.invokespecial 1, 3) := by decide +kernel
theorem dX8_init_4 : decode cX8_init 4 = .ok (.aload_n 0, 1) := by decide +kernel
theorem dX8_init_5 : decode cX8_init 5 = .ok (.sipush 3760, 3) := by decide +kernel
theorem dX8_init_8 : decode cX8_init 8 = .ok (.newarray .int, 2) := by decide +kernel
theorem dX8_init_10 : decode cX8_init 10 = .ok (.putfield 7, 3) := by decide +kernel
theorem dX8_init_13 : decode cX8_init 13 = .ok (.aload_n 0, 1) := by decide +kernel
theorem dX8_init_14 : decode cX8_init 14 = .ok (.sipush 7520, 3) := by decide +kernel
theorem dX8_init_17 : decode cX8_init 17 = .ok (.newarray .int, 2) := by decide +kernel
theorem dX8_init_19 : decode cX8_init 19 = .ok (.putfield 13, 3) := by decide +kernel
theorem dX8_init_22 : decode cX8_init 22 = .ok (.aload_n 0, 1) := by decide +kernel
theorem dX8_init_23 : decode cX8_init 23 = .ok (.iconst 2, 1) := by decide +kernel
theorem dX8_init_24 : decode cX8_init 24 = .ok (.newarray .boolean, 2) := by decide +kernel
theorem dX8_init_26 : decode cX8_init 26 = .ok (.putfield 16, 3) := by decide +kernel
theorem dX8_init_29 : decode cX8_init 29 = .ok (.aload_n 0, 1) := by decide +kernel
theorem dX8_init_30 : decode cX8_init 30 = .ok (.bipush 120, 2) := by decide +kernel
theorem dX8_init_32 : decode cX8_init 32 = .ok (.newarray .int, 2) := by decide +kernel
theorem dX8_init_34 : decode cX8_init 34 = .ok (.putfield 20, 3) := by decide +kernel
theorem dX8_init_37 : decode cX8_init 37 = .ok (.aload_n 0, 1) := by decide +kernel
theorem dX8_init_38 : decode cX8_init 38 = .ok (.bipush 120, 2) := by decide +kernel
theorem dX8_init_40 : decode cX8_init 40 = .ok (.newarray .long, 2) := by decide +kernel
theorem dX8_init_42 : decode cX8_init 42 = .ok (.putfield 23, 3) := by decide +kernel
theorem dX8_init_45 : decode cX8_init 45 = .ok (.aload_n 0, 1) := by decide +kernel
theorem dX8_init_46 : decode cX8_init 46 = .ok (.bipush 7, 2) := by decide +kernel
theorem dX8_init_48 : decode cX8_init 48 = .ok (.newarray .long, 2) := by decide +kernel
theorem dX8_init_50 : decode cX8_init 50 = .ok (.putfield 27, 3) := by decide +kernel
theorem dX8_init_53 : decode cX8_init 53 = .ok (.aload_n 0, 1) := by decide +kernel
theorem dX8_init_54 : decode cX8_init 54 = .ok (.bipush 30, 2) := by decide +kernel
theorem dX8_init_56 : decode cX8_init 56 = .ok (.newarray .long, 2) := by decide +kernel
theorem dX8_init_58 : decode cX8_init 58 = .ok (.putfield 30, 3) := by decide +kernel
theorem dX8_init_61 : decode cX8_init 61 = .ok (.aload_n 0, 1) := by decide +kernel
theorem dX8_init_62 : decode cX8_init 62 = .ok (.bipush 30, 2) := by decide +kernel
theorem dX8_init_64 : decode cX8_init 64 = .ok (.newarray .long, 2) := by decide +kernel
theorem dX8_init_66 : decode cX8_init 66 = .ok (.putfield 33, 3) := by decide +kernel
theorem dX8_init_69 : decode cX8_init 69 = .ok (.aload_n 0, 1) := by decide +kernel
theorem dX8_init_70 : decode cX8_init 70 = .ok (.bipush 30, 2) := by decide +kernel
theorem dX8_init_72 : decode cX8_init 72 = .ok (.newarray .long, 2) := by decide +kernel
theorem dX8_init_74 : decode cX8_init 74 = .ok (.putfield 36, 3) := by decide +kernel
theorem dX8_init_77 : decode cX8_init 77 = .ok (.aload_n 0, 1) := by decide +kernel
theorem dX8_init_78 : decode cX8_init 78 = .ok (.bipush 30, 2) := by decide +kernel
theorem dX8_init_80 : decode cX8_init 80 = .ok (.newarray .long, 2) := by decide +kernel
theorem dX8_init_82 : decode cX8_init 82 = .ok (.putfield 39, 3) := by decide +kernel
theorem dX8_init_85 : decode cX8_init 85 = .ok (.aload_n 0, 1) := by decide +kernel
theorem dX8_init_86 : decode cX8_init 86 = .ok (.bipush 30, 2) := by decide +kernel
theorem dX8_init_88 : decode cX8_init 88 = .ok (.newarray .long, 2) := by decide +kernel
theorem dX8_init_90 : decode cX8_init 90 = .ok (.putfield 42, 3) := by decide +kernel
theorem dX8_init_93 : decode cX8_init 93 = .ok (.aload_n 0, 1) := by decide +kernel
theorem dX8_init_94 : decode cX8_init 94 = .ok (.bipush 30, 2) := by decide +kernel
theorem dX8_init_96 : decode cX8_init 96 = .ok (.newarray .long, 2) := by decide +kernel
theorem dX8_init_98 : decode cX8_init 98 = .ok (.putfield 45, 3) := by decide +kernel
theorem dX8_init_101 : decode cX8_init 101 = .ok (.aload_n 0, 1) := by decide +kernel
theorem dX8_init_102 : decode cX8_init 102 = .ok (.bipush 30, 2) := by decide +kernel
theorem dX8_init_104 : decode cX8_init 104 = .ok (.newarray .boolean, 2) := by decide +kernel
theorem dX8_init_106 : decode cX8_init 106 = .ok (.putfield 48, 3) := by decide +kernel
theorem dX8_init_109 : decode cX8_init 109 = .ok (.aload_n 0, 1) := by decide +kernel
theorem dX8_init_110 : decode cX8_init 110 = .ok (.bipush 30, 2) := by decide +kernel
theorem dX8_init_112 : decode cX8_init 112 = .ok (.newarray .long, 2) := by decide +kernel
theorem dX8_init_114 : decode cX8_init 114 = .ok (.putfield 51, 3) := by decide +kernel
theorem dX8_init_117 : decode cX8_init 117 = .ok (.aload_n 0, 1) := by decide +kernel
theorem dX8_init_118 : decode cX8_init 118 = .ok (.bipush 30, 2) := by decide +kernel
theorem dX8_init_120 : decode cX8_init 120 = .ok (.newarray .boolean, 2) := by decide +kernel
theorem dX8_init_122 : decode cX8_init 122 = .ok (.putfield 54, 3) := by decide +kernel
theorem dX8_init_125 : decode cX8_init 125 = .ok (.iconst 0, 1) := by decide +kernel
theorem dX8_init_126 : decode cX8_init 126 = .ok (.istore_n 1, 1) := by decide +kernel
theorem dX8_init_127 : decode cX8_init 127 = .ok (.iload_n 1, 1) := by decide +kernel
theorem dX8_init_128 : decode cX8_init 128 = .ok (.bipush 12, 2) := by decide +kernel
theorem dX8_init_130 : decode cX8_init 130 = .ok (.if_icmp .ge 19, 3) := by decide +kernel
theorem dX8_init_133 : decode cX8_init 133 = .ok (.aload_n 0, 1) := by decide +kernel
theorem dX8_init_134 : decode cX8_init 134 = .ok (.getfield 7, 3) := by decide +kernel
theorem dX8_init_137 : decode cX8_init 137 = .ok (.bipush 22, 2) := by decide +kernel
theorem dX8_init_139 : decode cX8_init 139 = .ok (.iload_n 1, 1) := by decide +kernel
theorem dX8_init_140 : decode cX8_init 140 = .ok (.iadd, 1) := by decide +kernel
theorem dX8_init_141 : decode cX8_init 141 = .ok (.iconst (-1), 1) := by decide +kernel
theorem dX8_init_142 : decode cX8_init 142 = .ok (.iastore, 1) := by decide +kernel
theorem dX8_init_143 : decode cX8_init 143 = .ok (.iinc 1 1, 3) := by decide +kernel
theorem dX8_init_146 : decode cX8_init 146 = .ok (.goto (-19), 3) := by decide +kernel
theorem dX8_init_149 : decode cX8_init 149 = .ok (.iconst 0, 1) := by decide +kernel
theorem dX8_init_150 : decode cX8_init 150 = .ok (.istore_n 1, 1) := by decide +kernel
theorem dX8_init_151 : decode cX8_init 151 = .ok (.iload_n 1, 1) := by decide +kernel
theorem dX8_init_152 : decode cX8_init 152 = .ok (.iconst 4, 1) := by decide +kernel
theorem dX8_init_153 : decode cX8_init 153 = .ok (.if_icmp .ge 22, 3) := by decide +kernel
theorem dX8_init_156 : decode cX8_init 156 = .ok (.aload_n 0, 1) := by decide +kernel
theorem dX8_init_157 : decode cX8_init 157 = .ok (.getfield 7, 3) := by decide +kernel
theorem dX8_init_160 : decode cX8_init 160 = .ok (.sipush 514, 3) := by decide +kernel
theorem dX8_init_163 : decode cX8_init 163 = .ok (.iload_n 1, 1) := by decide +kernel
theorem dX8_init_164 : decode cX8_init 164 = .ok (.iadd, 1) := by decide +kernel
theorem dX8_init_165 : decode cX8_init 165 = .ok (.sipush 1000, 3) := by decide +kernel
theorem dX8_init_168 : decode cX8_init 168 = .ok (.iastore, 1) := by decide +kernel
theorem dX8_init_169 : decode cX8_init 169 = .ok (.iinc 1 1, 3) := by decide +kernel
theorem dX8_init_172 : decode cX8_init 172 = .ok (.goto (-21), 3) := by decide +kernel
theorem dX8_init_175 : decode cX8_init 175 = .ok (.iconst 0, 1) := by decide +kernel
theorem dX8_init_176 : decode cX8_init 176 = .ok (.istore_n 1, 1) := by decide +kernel
theorem dX8_init_177 : decode cX8_init 177 = .ok (.iload_n 1, 1) := by decide +kernel
theorem dX8_init_178 : decode cX8_init 178 = .ok (.sipush 480, 3) := by decide +kernel
theorem dX8_init_181 : decode cX8_init 181 = .ok (.if_icmp .ge 31, 3) := by decide +kernel
theorem dX8_init_184 : decode cX8_init 184 = .ok (.aload_n 0, 1) := by decide +kernel
theorem dX8_init_185 : decode cX8_init 185 = .ok (.getfield 7, 3) := by decide +kernel
theorem dX8_init_188 : decode cX8_init 188 = .ok (.sipush 1038, 3) := by decide +kernel
theorem dX8_init_191 : decode cX8_init 191 = .ok (.iload_n 1, 1) := by decide +kernel
theorem dX8_init_192 : decode cX8_init 192 = .ok (.iadd, 1) := by decide +kernel
theorem dX8_init_193 : decode cX8_init 193 = .ok (.iconst (-1), 1) := by decide +kernel
theorem dX8_init_194 : decode cX8_init 194 = .ok (.iastore, 1) := by decide +kernel
theorem dX8_init_195 : decode cX8_init 195 = .ok (.aload_n 0, 1) := by decide +kernel
theorem dX8_init_196 : decode cX8_init 196 = .ok (.getfield 7, 3) := by decide +kernel
theorem dX8_init_199 : decode cX8_init 199 = .ok (.sipush 1998, 3) := by decide +kernel
theorem dX8_init_202 : decode cX8_init 202 = .ok (.iload_n 1, 1) := by decide +kernel
theorem dX8_init_203 : decode cX8_init 203 = .ok (.iadd, 1) := by decide +kernel
theorem dX8_init_204 : decode cX8_init 204 = .ok (.iconst (-1), 1) := by decide +kernel
theorem dX8_init_205 : decode cX8_init 205 = .ok (.iastore, 1) := by decide +kernel
theorem dX8_init_206 : decode cX8_init 206 = .ok (.iinc 1 1, 3) := by decide +kernel
theorem dX8_init_209 : decode cX8_init 209 = .ok (.goto (-32), 3) := by decide +kernel
theorem dX8_init_212 : decode cX8_init 212 = .ok (.iconst 0, 1) := by decide +kernel
theorem dX8_init_213 : decode cX8_init 213 = .ok (.istore_n 1, 1) := by decide +kernel
theorem dX8_init_214 : decode cX8_init 214 = .ok (.iload_n 1, 1) := by decide +kernel
theorem dX8_init_215 : decode cX8_init 215 = .ok (.iconst 3, 1) := by decide +kernel
theorem dX8_init_216 : decode cX8_init 216 = .ok (.if_icmp .ge 25, 3) := by decide +kernel
theorem dX8_init_219 : decode cX8_init 219 = .ok (.aload_n 0, 1) := by decide +kernel
theorem dX8_init_220 : decode cX8_init 220 = .ok (.getfield 7, 3) := by decide +kernel
theorem dX8_init_223 : decode cX8_init 223 = .ok (.sipush 3733, 3) := by decide +kernel
theorem dX8_init_226 : decode cX8_init 226 = .ok (.iconst 4, 1) := by decide +kernel
theorem dX8_init_227 : decode cX8_init 227 = .ok (.iload_n 1, 1) := by decide +kernel
theorem dX8_init_228 : decode cX8_init 228 = .ok (.imul, 1) := by decide +kernel
theorem dX8_init_229 : decode cX8_init 229 = .ok (.iadd, 1) := by decide +kernel
theorem dX8_init_230 : decode cX8_init 230 = .ok (.iload_n 1, 1) := by decide +kernel
theorem dX8_init_231 : decode cX8_init 231 = .ok (.iadd, 1) := by decide +kernel
theorem dX8_init_232 : decode cX8_init 232 = .ok (.bipush 10, 2) := by decide +kernel
theorem dX8_init_234 : decode cX8_init 234 = .ok (.iastore, 1) := by decide +kernel
theorem dX8_init_235 : decode cX8_init 235 = .ok (.iinc 1 1, 3) := by decide +kernel
theorem dX8_init_238 : decode cX8_init 238 = .ok (.goto (-24), 3) := by decide +kernel
theorem dX8_init_241 : decode cX8_init 241 = .ok (.aload_n 0, 1) := by decide +kernel
theorem dX8_init_242 : decode cX8_init 242 = .ok (.iconst (-1), 1) := by decide +kernel
theorem dX8_init_243 : decode cX8_init 243 = .ok (.putfield 57, 3) := by decide +kernel
theorem dX8_init_246 : decode cX8_init 246 = .ok (.aload_n 0, 1) := by decide +kernel
theorem dX8_init_247 : decode cX8_init 247 = .ok (.iconst (-1), 1) := by decide +kernel
theorem dX8_init_248 : decode cX8_init 248 = .ok (.putfield 61, 3) := by decide +kernel
theorem dX8_init_251 : decode cX8_init 251 = .ok (.return_, 1) := by decide +kernel
def kX8_init (Ret : an_R) : an_code := [(0, an_lf (fun live => am_aload 0 1)), (1, an_obj 20 4), (4, an_lf (fun live => am_aload 0 5)), (5, an_lf (fun live => am_const (.int 3760) 8)), (8, an_newa 0 3760 (fun L => 201) 15 11799 10), (10, an_putFR 8 0 13), (13, an_lf (fun live => am_aload 0 14)), (14, an_lf (fun live => am_const (.int 7520) 17)), (17, an_newa 0 7520 (fun L => 202) 15 11799 19), (19, an_putFR 8 1 22), (22, an_lf (fun live => am_aload 0 23)), (23, an_lf (fun live => am_const (.int 2) 24)), (24, an_newa 2 2 (fun L => 203) 15 11799 26), (26, an_putFR 8 2 29), (29, an_lf (fun live => am_aload 0 30)), (30, an_lf (fun live => am_const (.int 120) 32)), (32, an_newa 0 120 (fun L => 204) 15 11799 34), (34, an_putFR 8 9 37), (37, an_lf (fun live => am_aload 0 38)), (38, an_lf (fun live => am_const (.int 120) 40)), (40, an_newa 1 120 (fun L => 205) 15 11799 42), (42, an_putFR 8 10 45), (45, an_lf (fun live => am_aload 0 46)), (46, an_lf (fun live => am_const (.int 7) 48)), (48, an_newa 1 7 (fun L => 206) 15 11799 50), (50, an_putFR 8 13 53), (53, an_lf (fun live => am_aload 0 54)), (54, an_lf (fun live => am_const (.int 30) 56)), (56, an_newa 1 30 (fun L => 207) 15 11799 58), (58, an_putFR 8 15 61), (61, an_lf (fun live => am_aload 0 62)), (62, an_lf (fun live => am_const (.int 30) 64)), (64, an_newa 1 30 (fun L => 208) 15 11799 66), (66, an_putFR 8 16 69), (69, an_lf (fun live => am_aload 0 70)), (70, an_lf (fun live => am_const (.int 30) 72)), (72, an_newa 1 30 (fun L => 209) 15 11799 74), (74, an_putFR 8 17 77), (77, an_lf (fun live => am_aload 0 78)), (78, an_lf (fun live => am_const (.int 30) 80)), (80, an_newa 1 30 (fun L => 210) 15 11799 82), (82, an_putFR 8 18 85), (85, an_lf (fun live => am_aload 0 86)), (86, an_lf (fun live => am_const (.int 30) 88)), (88, an_newa 1 30 (fun L => 211) 15 11799 90), (90, an_putFR 8 19 93), (93, an_lf (fun live => am_aload 0 94)), (94, an_lf (fun live => am_const (.int 30) 96)), (96, an_newa 1 30 (fun L => 212) 15 11799 98), (98, an_putFR 8 20 101), (101, an_lf (fun live => am_aload 0 102)), (102, an_lf (fun live => am_const (.int 30) 104)), (104, an_newa 2 30 (fun L => 213) 15 11799 106), (106, an_putFR 8 21 109), (109, an_lf (fun live => am_aload 0 110)), (110, an_lf (fun live => am_const (.int 30) 112)), (112, an_newa 1 30 (fun L => 214) 15 11799 114), (114, an_putFR 8 23 117), (117, an_lf (fun live => am_aload 0 118)), (118, an_lf (fun live => am_const (.int 30) 120)), (120, an_newa 2 30 (fun L => 215) 15 11799 122), (122, an_putFR 8 24 125), (125, an_lf (fun live => am_const (.int 0) 126)), (126, an_lf (fun live => am_istore 1 2 127)), (127, an_lf (fun live => am_iload 1 128)), (128, an_lf (fun live => am_const (.int 12) 130)), (130, an_lf (fun live => am_if2 (fun x y => y ≤ x) 149 133)), (133, an_lf (fun live => am_aload 0 134)), (134, an_lf (fun live => am_getR live 8 0 137)), (137, an_lf (fun live => am_const (.int 22) 139)), (139, an_lf (fun live => am_iload 1 140)), (140, an_lf (fun live => am_i2 (fun x y => x + y) 141)), (141, an_lf (fun live => am_const (.int (-1)) 142)), (142, an_lf (fun live => am_ast live 0 143)), (143, an_lf (fun live => am_iinc 1 2 1 146)), (146, an_lf (fun live => am_goto 127)), (149, an_lf (fun live => am_const (.int 0) 150)), (150, an_lf (fun live => am_istore 1 2 151)), (151, an_lf (fun live => am_iload 1 152)), (152, an_lf (fun live => am_const (.int 4) 153)), (153, an_lf (fun live => am_if2 (fun x y => y ≤ x) 175 156)), (156, an_lf (fun live => am_aload 0 157)), (157, an_lf (fun live => am_getR live 8 0 160)), (160, an_lf (fun live => am_const (.int 514) 163)), (163, an_lf (fun live => am_iload 1 164)), (164, an_lf (fun live => am_i2 (fun x y => x + y) 165)), (165, an_lf (fun live => am_const (.int 1000) 168)), (168, an_lf (fun live => am_ast live 0 169)), (169, an_lf (fun live => am_iinc 1 2 1 172)), (172, an_lf (fun live => am_goto 151)), (175, an_lf (fun live => am_const (.int 0) 176)), (176, an_lf (fun live => am_istore 1 2 177)), (177, an_lf (fun live => am_iload 1 178)), (178, an_lf (fun live => am_const (.int 480) 181)), (181, an_lf (fun live => am_if2 (fun x y => y ≤ x) 212 184)), (184, an_lf (fun live => am_aload 0 185)), (185, an_lf (fun live => am_getR live 8 0 188)), (188, an_lf (fun live => am_const (.int 1038) 191)), (191, an_lf (fun live => am_iload 1 192)), (192, an_lf (fun live => am_i2 (fun x y => x + y) 193)), (193, an_lf (fun live => am_const (.int (-1)) 194)), (194, an_lf (fun live => am_ast live 0 195)), (195, an_lf (fun live => am_aload 0 196)), (196, an_lf (fun live => am_getR live 8 0 199)), (199, an_lf (fun live => am_const (.int 1998) 202)), (202, an_lf (fun live => am_iload 1 203)), (203, an_lf (fun live => am_i2 (fun x y => x + y) 204)), (204, an_lf (fun live => am_const (.int (-1)) 205)), (205, an_lf (fun live => am_ast live 0 206)), (206, an_lf (fun live => am_iinc 1 2 1 209)), (209, an_lf (fun live => am_goto 177)), (212, an_lf (fun live => am_const (.int 0) 213)), (213, an_lf (fun live => am_istore 1 2 214)), (214, an_lf (fun live => am_iload 1 215)), (215, an_lf (fun live => am_const (.int 3) 216)), (216, an_lf (fun live => am_if2 (fun x y => y ≤ x) 241 219)), (219, an_lf (fun live => am_aload 0 220)), (220, an_lf (fun live => am_getR live 8 0 223)), (223, an_lf (fun live => am_const (.int 3733) 226)), (226, an_lf (fun live => am_const (.int 4) 227)), (227, an_lf (fun live => am_iload 1 228)), (228, an_lf (fun live => am_i2 (fun x y => x * y) 229)), (229, an_lf (fun live => am_i2 (fun x y => x + y) 230)), (230, an_lf (fun live => am_iload 1 231)), (231, an_lf (fun live => am_i2 (fun x y => x + y) 232)), (232, an_lf (fun live => am_const (.int 10) 234)), (234, an_lf (fun live => am_ast live 0 235)), (235, an_lf (fun live => am_iinc 1 2 1 238)), (238, an_lf (fun live => am_goto 214)), (241, an_lf (fun live => am_aload 0 242)), (242, an_lf (fun live => am_const (.int (-1)) 243)), (243, an_lf (fun live => am_putI live 8 3 246)), (246, an_lf (fun live => am_aload 0 247)), (247, an_lf (fun live => am_const (.int (-1)) 248)), (248, an_lf (fun live => am_putI live 8 7 251)), (251, an_retV Ret)]
theorem koX8_init (Ret : an_R) : ∀ q ∈ kX8_init Ret, an_ok RX8 cX8_init 2 none 1 20 15 11799 true (fun _ _ _ => True) Ret q.1 q.2 :=
  an_kc (an_lift (fun live => ak_aload_n dX8_init_0 rfl rfl)) <|
  an_kc (nk_obj (am_w3 wd_894 wd_76 wd_77) (by decide) dX8_init_1 rfl) <|
  an_kc (an_lift (fun live => ak_aload_n dX8_init_4 rfl rfl)) <|
  an_kc (an_lift (fun live => ak_sipush dX8_init_5 (by decide +kernel) rfl)) <|
  an_kc (nk_newa (t := 0) (len := 3760) (atype := .int) (ty := .int) rfl (fun _ => rfl) (fun _ z => by cases z) (fun _ => rfl) wd_140 (by decide) dX8_init_8 rfl) <|
  an_kc (nk_putFR (C := RX8) (C2 := RX8) (T := TX8) (N := 27) rfl inX8w tyX8_ok nmX8 (by decide) rfl rfl rfl rfl rfl (tyX8_ok 0 (by decide)) (fun _ => ⟨rfl, rfl⟩) rfl wd_895 dX8_init_10 rfl) <|
  an_kc (an_lift (fun live => ak_aload_n dX8_init_13 rfl rfl)) <|
  an_kc (an_lift (fun live => ak_sipush dX8_init_14 (by decide +kernel) rfl)) <|
  an_kc (nk_newa (t := 0) (len := 7520) (atype := .int) (ty := .int) rfl (fun _ => rfl) (fun _ z => by cases z) (fun _ => rfl) wd_140 (by decide) dX8_init_17 rfl) <|
  an_kc (nk_putFR (C := RX8) (C2 := RX8) (T := TX8) (N := 27) rfl inX8w tyX8_ok nmX8 (by decide) rfl rfl rfl rfl rfl (tyX8_ok 1 (by decide)) (fun _ => ⟨rfl, rfl⟩) rfl wd_896 dX8_init_19 rfl) <|
  an_kc (an_lift (fun live => ak_aload_n dX8_init_22 rfl rfl)) <|
  an_kc (an_lift (fun live => ak_iconst dX8_init_23 (by decide +kernel) rfl)) <|
  an_kc (nk_newa (t := 2) (len := 2) (atype := .boolean) (ty := .boolean) rfl (fun _ => rfl) (fun _ z => by cases z) (fun _ => rfl) wd_977 (by decide) dX8_init_24 rfl) <|
  an_kc (nk_putFR (C := RX8) (C2 := RX8) (T := TX8) (N := 27) rfl inX8w tyX8_ok nmX8 (by decide) rfl rfl rfl rfl rfl (tyX8_ok 2 (by decide)) (fun _ => ⟨rfl, rfl⟩) rfl wd_897 dX8_init_26 rfl) <|
  an_kc (an_lift (fun live => ak_aload_n dX8_init_29 rfl rfl)) <|
  an_kc (an_lift (fun live => ak_bipush dX8_init_30 (by decide +kernel) rfl)) <|
  an_kc (nk_newa (t := 0) (len := 120) (atype := .int) (ty := .int) rfl (fun _ => rfl) (fun _ z => by cases z) (fun _ => rfl) wd_140 (by decide) dX8_init_32 rfl) <|
  an_kc (nk_putFR (C := RX8) (C2 := RX8) (T := TX8) (N := 27) rfl inX8w tyX8_ok nmX8 (by decide) rfl rfl rfl rfl rfl (tyX8_ok 9 (by decide)) (fun _ => ⟨rfl, rfl⟩) rfl wd_904 dX8_init_34 rfl) <|
  an_kc (an_lift (fun live => ak_aload_n dX8_init_37 rfl rfl)) <|
  an_kc (an_lift (fun live => ak_bipush dX8_init_38 (by decide +kernel) rfl)) <|
  an_kc (nk_newa (t := 1) (len := 120) (atype := .long) (ty := .long) rfl (fun _ => rfl) (fun _ z => by cases z) (fun _ => rfl) wd_290 (by decide) dX8_init_40 rfl) <|
  an_kc (nk_putFR (C := RX8) (C2 := RX8) (T := TX8) (N := 27) rfl inX8w tyX8_ok nmX8 (by decide) rfl rfl rfl rfl rfl (tyX8_ok 10 (by decide)) (fun _ => ⟨rfl, rfl⟩) rfl wd_905 dX8_init_42 rfl) <|
  an_kc (an_lift (fun live => ak_aload_n dX8_init_45 rfl rfl)) <|
  an_kc (an_lift (fun live => ak_bipush dX8_init_46 (by decide +kernel) rfl)) <|
  an_kc (nk_newa (t := 1) (len := 7) (atype := .long) (ty := .long) rfl (fun _ => rfl) (fun _ z => by cases z) (fun _ => rfl) wd_290 (by decide) dX8_init_48 rfl) <|
  an_kc (nk_putFR (C := RX8) (C2 := RX8) (T := TX8) (N := 27) rfl inX8w tyX8_ok nmX8 (by decide) rfl rfl rfl rfl rfl (tyX8_ok 13 (by decide)) (fun _ => ⟨rfl, rfl⟩) rfl wd_908 dX8_init_50 rfl) <|
  an_kc (an_lift (fun live => ak_aload_n dX8_init_53 rfl rfl)) <|
  an_kc (an_lift (fun live => ak_bipush dX8_init_54 (by decide +kernel) rfl)) <|
  an_kc (nk_newa (t := 1) (len := 30) (atype := .long) (ty := .long) rfl (fun _ => rfl) (fun _ z => by cases z) (fun _ => rfl) wd_290 (by decide) dX8_init_56 rfl) <|
  an_kc (nk_putFR (C := RX8) (C2 := RX8) (T := TX8) (N := 27) rfl inX8w tyX8_ok nmX8 (by decide) rfl rfl rfl rfl rfl (tyX8_ok 15 (by decide)) (fun _ => ⟨rfl, rfl⟩) rfl wd_910 dX8_init_58 rfl) <|
  an_kc (an_lift (fun live => ak_aload_n dX8_init_61 rfl rfl)) <|
  an_kc (an_lift (fun live => ak_bipush dX8_init_62 (by decide +kernel) rfl)) <|
  an_kc (nk_newa (t := 1) (len := 30) (atype := .long) (ty := .long) rfl (fun _ => rfl) (fun _ z => by cases z) (fun _ => rfl) wd_290 (by decide) dX8_init_64 rfl) <|
  an_kc (nk_putFR (C := RX8) (C2 := RX8) (T := TX8) (N := 27) rfl inX8w tyX8_ok nmX8 (by decide) rfl rfl rfl rfl rfl (tyX8_ok 16 (by decide)) (fun _ => ⟨rfl, rfl⟩) rfl wd_911 dX8_init_66 rfl) <|
  an_kc (an_lift (fun live => ak_aload_n dX8_init_69 rfl rfl)) <|
  an_kc (an_lift (fun live => ak_bipush dX8_init_70 (by decide +kernel) rfl)) <|
  an_kc (nk_newa (t := 1) (len := 30) (atype := .long) (ty := .long) rfl (fun _ => rfl) (fun _ z => by cases z) (fun _ => rfl) wd_290 (by decide) dX8_init_72 rfl) <|
  an_kc (nk_putFR (C := RX8) (C2 := RX8) (T := TX8) (N := 27) rfl inX8w tyX8_ok nmX8 (by decide) rfl rfl rfl rfl rfl (tyX8_ok 17 (by decide)) (fun _ => ⟨rfl, rfl⟩) rfl wd_912 dX8_init_74 rfl) <|
  an_kc (an_lift (fun live => ak_aload_n dX8_init_77 rfl rfl)) <|
  an_kc (an_lift (fun live => ak_bipush dX8_init_78 (by decide +kernel) rfl)) <|
  an_kc (nk_newa (t := 1) (len := 30) (atype := .long) (ty := .long) rfl (fun _ => rfl) (fun _ z => by cases z) (fun _ => rfl) wd_290 (by decide) dX8_init_80 rfl) <|
  an_kc (nk_putFR (C := RX8) (C2 := RX8) (T := TX8) (N := 27) rfl inX8w tyX8_ok nmX8 (by decide) rfl rfl rfl rfl rfl (tyX8_ok 18 (by decide)) (fun _ => ⟨rfl, rfl⟩) rfl wd_913 dX8_init_82 rfl) <|
  an_kc (an_lift (fun live => ak_aload_n dX8_init_85 rfl rfl)) <|
  an_kc (an_lift (fun live => ak_bipush dX8_init_86 (by decide +kernel) rfl)) <|
  an_kc (nk_newa (t := 1) (len := 30) (atype := .long) (ty := .long) rfl (fun _ => rfl) (fun _ z => by cases z) (fun _ => rfl) wd_290 (by decide) dX8_init_88 rfl) <|
  an_kc (nk_putFR (C := RX8) (C2 := RX8) (T := TX8) (N := 27) rfl inX8w tyX8_ok nmX8 (by decide) rfl rfl rfl rfl rfl (tyX8_ok 19 (by decide)) (fun _ => ⟨rfl, rfl⟩) rfl wd_914 dX8_init_90 rfl) <|
  an_kc (an_lift (fun live => ak_aload_n dX8_init_93 rfl rfl)) <|
  an_kc (an_lift (fun live => ak_bipush dX8_init_94 (by decide +kernel) rfl)) <|
  an_kc (nk_newa (t := 1) (len := 30) (atype := .long) (ty := .long) rfl (fun _ => rfl) (fun _ z => by cases z) (fun _ => rfl) wd_290 (by decide) dX8_init_96 rfl) <|
  an_kc (nk_putFR (C := RX8) (C2 := RX8) (T := TX8) (N := 27) rfl inX8w tyX8_ok nmX8 (by decide) rfl rfl rfl rfl rfl (tyX8_ok 20 (by decide)) (fun _ => ⟨rfl, rfl⟩) rfl wd_915 dX8_init_98 rfl) <|
  an_kc (an_lift (fun live => ak_aload_n dX8_init_101 rfl rfl)) <|
  an_kc (an_lift (fun live => ak_bipush dX8_init_102 (by decide +kernel) rfl)) <|
  an_kc (nk_newa (t := 2) (len := 30) (atype := .boolean) (ty := .boolean) rfl (fun _ => rfl) (fun _ z => by cases z) (fun _ => rfl) wd_977 (by decide) dX8_init_104 rfl) <|
  an_kc (nk_putFR (C := RX8) (C2 := RX8) (T := TX8) (N := 27) rfl inX8w tyX8_ok nmX8 (by decide) rfl rfl rfl rfl rfl (tyX8_ok 21 (by decide)) (fun _ => ⟨rfl, rfl⟩) rfl wd_916 dX8_init_106 rfl) <|
  an_kc (an_lift (fun live => ak_aload_n dX8_init_109 rfl rfl)) <|
  an_kc (an_lift (fun live => ak_bipush dX8_init_110 (by decide +kernel) rfl)) <|
  an_kc (nk_newa (t := 1) (len := 30) (atype := .long) (ty := .long) rfl (fun _ => rfl) (fun _ z => by cases z) (fun _ => rfl) wd_290 (by decide) dX8_init_112 rfl) <|
  an_kc (nk_putFR (C := RX8) (C2 := RX8) (T := TX8) (N := 27) rfl inX8w tyX8_ok nmX8 (by decide) rfl rfl rfl rfl rfl (tyX8_ok 23 (by decide)) (fun _ => ⟨rfl, rfl⟩) rfl wd_918 dX8_init_114 rfl) <|
  an_kc (an_lift (fun live => ak_aload_n dX8_init_117 rfl rfl)) <|
  an_kc (an_lift (fun live => ak_bipush dX8_init_118 (by decide +kernel) rfl)) <|
  an_kc (nk_newa (t := 2) (len := 30) (atype := .boolean) (ty := .boolean) rfl (fun _ => rfl) (fun _ z => by cases z) (fun _ => rfl) wd_977 (by decide) dX8_init_120 rfl) <|
  an_kc (nk_putFR (C := RX8) (C2 := RX8) (T := TX8) (N := 27) rfl inX8w tyX8_ok nmX8 (by decide) rfl rfl rfl rfl rfl (tyX8_ok 24 (by decide)) (fun _ => ⟨rfl, rfl⟩) rfl wd_919 dX8_init_122 rfl) <|
  an_kc (an_lift (fun live => ak_iconst dX8_init_125 (by decide +kernel) rfl)) <|
  an_kc (an_lift (fun live => ak_istore_n dX8_init_126 rfl rfl)) <|
  an_kc (an_lift (fun live => ak_iload_n dX8_init_127 rfl rfl)) <|
  an_kc (an_lift (fun live => ak_bipush dX8_init_128 (by decide +kernel) rfl)) <|
  an_kc (an_lift (fun live => ak_icmp_ge dX8_init_130 (by decide +kernel) rfl)) <|
  an_kc (an_lift (fun live => ak_aload_n dX8_init_133 rfl rfl)) <|
  an_kc (an_lift (fun live => ak_getR (C := RX8) (T := TX8) (N := 27) rfl inX8w (by decide) rfl rfl rfl wd_895 dX8_init_134 rfl)) <|
  an_kc (an_lift (fun live => ak_bipush dX8_init_137 (by decide +kernel) rfl)) <|
  an_kc (an_lift (fun live => ak_iload_n dX8_init_139 rfl rfl)) <|
  an_kc (an_lift (fun live => ak_iadd dX8_init_140 rfl)) <|
  an_kc (an_lift (fun live => ak_iconst dX8_init_141 (by decide +kernel) rfl)) <|
  an_kc (an_lift (fun live => ak_iast (t := 0) (fun _ => rfl) rfl dX8_init_142 rfl)) <|
  an_kc (an_lift (fun live => ak_iinc dX8_init_143 (by decide +kernel) rfl)) <|
  an_kc (an_lift (fun live => ak_goto dX8_init_146 (by decide +kernel))) <|
  an_kc (an_lift (fun live => ak_iconst dX8_init_149 (by decide +kernel) rfl)) <|
  an_kc (an_lift (fun live => ak_istore_n dX8_init_150 rfl rfl)) <|
  an_kc (an_lift (fun live => ak_iload_n dX8_init_151 rfl rfl)) <|
  an_kc (an_lift (fun live => ak_iconst dX8_init_152 (by decide +kernel) rfl)) <|
  an_kc (an_lift (fun live => ak_icmp_ge dX8_init_153 (by decide +kernel) rfl)) <|
  an_kc (an_lift (fun live => ak_aload_n dX8_init_156 rfl rfl)) <|
  an_kc (an_lift (fun live => ak_getR (C := RX8) (T := TX8) (N := 27) rfl inX8w (by decide) rfl rfl rfl wd_895 dX8_init_157 rfl)) <|
  an_kc (an_lift (fun live => ak_sipush dX8_init_160 (by decide +kernel) rfl)) <|
  an_kc (an_lift (fun live => ak_iload_n dX8_init_163 rfl rfl)) <|
  an_kc (an_lift (fun live => ak_iadd dX8_init_164 rfl)) <|
  an_kc (an_lift (fun live => ak_sipush dX8_init_165 (by decide +kernel) rfl)) <|
  an_kc (an_lift (fun live => ak_iast (t := 0) (fun _ => rfl) rfl dX8_init_168 rfl)) <|
  an_kc (an_lift (fun live => ak_iinc dX8_init_169 (by decide +kernel) rfl)) <|
  an_kc (an_lift (fun live => ak_goto dX8_init_172 (by decide +kernel))) <|
  an_kc (an_lift (fun live => ak_iconst dX8_init_175 (by decide +kernel) rfl)) <|
  an_kc (an_lift (fun live => ak_istore_n dX8_init_176 rfl rfl)) <|
  an_kc (an_lift (fun live => ak_iload_n dX8_init_177 rfl rfl)) <|
  an_kc (an_lift (fun live => ak_sipush dX8_init_178 (by decide +kernel) rfl)) <|
  an_kc (an_lift (fun live => ak_icmp_ge dX8_init_181 (by decide +kernel) rfl)) <|
  an_kc (an_lift (fun live => ak_aload_n dX8_init_184 rfl rfl)) <|
  an_kc (an_lift (fun live => ak_getR (C := RX8) (T := TX8) (N := 27) rfl inX8w (by decide) rfl rfl rfl wd_895 dX8_init_185 rfl)) <|
  an_kc (an_lift (fun live => ak_sipush dX8_init_188 (by decide +kernel) rfl)) <|
  an_kc (an_lift (fun live => ak_iload_n dX8_init_191 rfl rfl)) <|
  an_kc (an_lift (fun live => ak_iadd dX8_init_192 rfl)) <|
  an_kc (an_lift (fun live => ak_iconst dX8_init_193 (by decide +kernel) rfl)) <|
  an_kc (an_lift (fun live => ak_iast (t := 0) (fun _ => rfl) rfl dX8_init_194 rfl)) <|
  an_kc (an_lift (fun live => ak_aload_n dX8_init_195 rfl rfl)) <|
  an_kc (an_lift (fun live => ak_getR (C := RX8) (T := TX8) (N := 27) rfl inX8w (by decide) rfl rfl rfl wd_895 dX8_init_196 rfl)) <|
  an_kc (an_lift (fun live => ak_sipush dX8_init_199 (by decide +kernel) rfl)) <|
  an_kc (an_lift (fun live => ak_iload_n dX8_init_202 rfl rfl)) <|
  an_kc (an_lift (fun live => ak_iadd dX8_init_203 rfl)) <|
  an_kc (an_lift (fun live => ak_iconst dX8_init_204 (by decide +kernel) rfl)) <|
  an_kc (an_lift (fun live => ak_iast (t := 0) (fun _ => rfl) rfl dX8_init_205 rfl)) <|
  an_kc (an_lift (fun live => ak_iinc dX8_init_206 (by decide +kernel) rfl)) <|
  an_kc (an_lift (fun live => ak_goto dX8_init_209 (by decide +kernel))) <|
  an_kc (an_lift (fun live => ak_iconst dX8_init_212 (by decide +kernel) rfl)) <|
  an_kc (an_lift (fun live => ak_istore_n dX8_init_213 rfl rfl)) <|
  an_kc (an_lift (fun live => ak_iload_n dX8_init_214 rfl rfl)) <|
  an_kc (an_lift (fun live => ak_iconst dX8_init_215 (by decide +kernel) rfl)) <|
  an_kc (an_lift (fun live => ak_icmp_ge dX8_init_216 (by decide +kernel) rfl)) <|
  an_kc (an_lift (fun live => ak_aload_n dX8_init_219 rfl rfl)) <|
  an_kc (an_lift (fun live => ak_getR (C := RX8) (T := TX8) (N := 27) rfl inX8w (by decide) rfl rfl rfl wd_895 dX8_init_220 rfl)) <|
  an_kc (an_lift (fun live => ak_sipush dX8_init_223 (by decide +kernel) rfl)) <|
  an_kc (an_lift (fun live => ak_iconst dX8_init_226 (by decide +kernel) rfl)) <|
  an_kc (an_lift (fun live => ak_iload_n dX8_init_227 rfl rfl)) <|
  an_kc (an_lift (fun live => ak_imul dX8_init_228 rfl)) <|
  an_kc (an_lift (fun live => ak_iadd dX8_init_229 rfl)) <|
  an_kc (an_lift (fun live => ak_iload_n dX8_init_230 rfl rfl)) <|
  an_kc (an_lift (fun live => ak_iadd dX8_init_231 rfl)) <|
  an_kc (an_lift (fun live => ak_bipush dX8_init_232 (by decide +kernel) rfl)) <|
  an_kc (an_lift (fun live => ak_iast (t := 0) (fun _ => rfl) rfl dX8_init_234 rfl)) <|
  an_kc (an_lift (fun live => ak_iinc dX8_init_235 (by decide +kernel) rfl)) <|
  an_kc (an_lift (fun live => ak_goto dX8_init_238 (by decide +kernel))) <|
  an_kc (an_lift (fun live => ak_aload_n dX8_init_241 rfl rfl)) <|
  an_kc (an_lift (fun live => ak_iconst dX8_init_242 (by decide +kernel) rfl)) <|
  an_kc (an_lift (fun live => ak_putI (C := RX8) (T := TX8) (N := 27) rfl inX8w tyX8_ok nmX8 (by decide) rfl rfl rfl rfl (by decide +kernel) wd_898 dX8_init_243 rfl)) <|
  an_kc (an_lift (fun live => ak_aload_n dX8_init_246 rfl rfl)) <|
  an_kc (an_lift (fun live => ak_iconst dX8_init_247 (by decide +kernel) rfl)) <|
  an_kc (an_lift (fun live => ak_putI (C := RX8) (T := TX8) (N := 27) rfl inX8w tyX8_ok nmX8 (by decide) rfl rfl rfl rfl (by decide +kernel) wd_902 dX8_init_248 rfl)) <|
  an_kc (nk_retV dX8_init_251) <| an_kn
def eX8 (E : am_E) : am_E := an_rE (an_bE (an_rE (an_bE (an_rE (an_bE (an_rE (an_bE (an_rE (an_bE (an_rE (an_bE (an_rE (an_bE (an_rE (an_bE (an_rE (an_bE (an_rE (an_bE (an_rE (an_bE (an_rE (an_bE (an_rE (an_bE (an_rE (an_bE (an_rE (an_bE (E) 201) 200 0 201) 202) 200 1 202) 203) 200 2 203) 204) 200 9 204) 205) 200 10 205) 206) 200 13 206) 207) 200 15 207) 208) 200 16 208) 209) 200 17 209) 210) 200 18 210) 211) 200 19 211) 212) 200 20 212) 213) 200 21 213) 214) 200 23 214) 215) 200 24 215
def mX8a (M : am_M) : am_M := am_wI (am_wI (am_wI (am_wI (am_wI (am_wI (am_wI (am_wI (am_wI (am_wI (am_wI (am_wI (am_wI (am_wI (am_wI (am_wI (an_bM (an_bM (an_bM (an_bM (an_bM (an_bM (an_bM (an_bM (an_bM (an_bM (an_bM (an_bM (an_bM (an_bM (an_bM (M) 201) 202) 203) 204) 205) 206) 207) 208) 209) 210) 211) 212) 213) 214) 215) 201 22 (-1)) 201 23 (-1)) 201 24 (-1)) 201 25 (-1)) 201 26 (-1)) 201 27 (-1)) 201 28 (-1)) 201 29 (-1)) 201 30 (-1)) 201 31 (-1)) 201 32 (-1)) 201 33 (-1)) 201 514 1000) 201 515 1000) 201 516 1000) 201 517 1000
def an_l2 (M : am_M) (j : Nat) : am_M := (fun a b => if a = 201 ∧ ((1038 ≤ b ∧ b < 1038 + j) ∨ (1998 ≤ b ∧ b < 1998 + j)) then -1 else M.1 a b, M.2)
def mX8 (M : am_M) : am_M := am_wI (am_wI (am_wI (am_wI (am_wI (an_l2 (mX8a M) 480) 201 3733 10) 201 3738 10) 201 3743 10) 200 3 (-1)) 200 7 (-1)
theorem an_l2_0 (M : am_M) : an_l2 M 0 = M := by
  refine am_Mext (fun a b => ?_) rfl
  show (if _ then _ else _) = _
  rw [if_neg (fun q => by omega)]
theorem an_l2_s (M : am_M) (j : Nat) : am_wI (am_wI (an_l2 M j) 201 (1038 + j) (-1)) 201 (1998 + j) (-1) = an_l2 M (j + 1) := by
  refine am_Mext (fun a b => ?_) rfl
  rw [am_wI_1, am_wI_1]
  show (if _ then _ else if _ then _ else if _ then _ else _) = (if _ then _ else _)
  by_cases ha : a = 201
  · subst ha
    simp only [true_and]
    by_cases h1 : b = 1998 + j
    · rw [if_pos h1, if_pos (by omega)]
    · rw [if_neg h1]
      by_cases h2 : b = 1038 + j
      · rw [if_pos h2, if_pos (by omega)]
      · rw [if_neg h2]
        by_cases h3 : (1038 ≤ b ∧ b < 1038 + j) ∨ (1998 ≤ b ∧ b < 1998 + j)
        · rw [if_pos h3, if_pos (by omega)]
        · rw [if_neg h3, if_neg (by omega)]
  · rw [if_neg (fun q => ha q.1), if_neg (fun q => ha q.1), if_neg (fun q => ha q.1), if_neg (fun q => ha q.1)]
theorem an_ofN {c j : Nat} (h : c + j < 2147483648) : (Int32.ofNat c + Int32.ofNat j).toNatClampNeg = c + j ∧ (Int32.ofNat c + Int32.ofNat j).toInt = ((c + j : Nat) : Int) := by
  have e : Int32.ofNat c + Int32.ofNat j = Int32.ofNat (c + j) := by rw [Int32.ofNat_add]
  have e2 : (Int32.ofNat (c + j)).toInt = ((c + j : Nat) : Int) := i_nat h
  rw [e]
  refine ⟨?_, e2⟩
  show (Int32.ofNat (c + j)).toInt.toNat = c + j
  omega
def TX8_init : an_T := fun E as M R => match as with
  | [.ref r] => am_if (Nat.beq r 200 && an_fc E 200 15) (R none (eX8 E) (mX8 M))
  | _ => False
def JX8_init : am_E → List Value → am_M → an_R → an_inv := fun E as M0 _ pc => match pc with
  | 177 => some ([0, 1], fun k L st X => ∃ j : Nat, j ≤ 480 ∧ L = [(0, .ref 200), (1, .int (Int32.ofNat j))] ∧ st = [] ∧ k = (480 - j, 0) ∧ X = (eX8 E, 15, 11799, an_l2 (mX8a M0) j))
  | _ => none
set_option maxRecDepth 100000 in
set_option maxHeartbeats 4000000 in
theorem metX8_init : an_Met yX8_init cX8_init 2 none (1) (20) 15 11799 TX8_init := by
  refine an_met (own := RX8) (ini := true) (by decide +kernel) rfl (fun _ => rfl) kX8_init koX8_init 400 JX8_init ?_ ?_
  · intro live as M Ret h
    unfold TX8_init at h
    split at h
    · next r =>
      refine ⟨Nat.le_of_ble_eq_true rfl, ?_⟩
      change an_wp _ _ _ _ [(0, Value.ref r)] _ _
      have hh := am_if_mp h
      clear h
      obtain ⟨hb, h⟩ := hh
      rw [Bool.and_eq_true] at hb
      obtain ⟨h1, h3⟩ := hb
      have h1 := Nat.eq_of_beq_eq_true h1
      subst h1
      obtain ⟨E, rfl⟩ : ∃ E, live = an_ho 200 15 E := ⟨live, an_ho_of h3⟩
      clear h3
      repeat' (first | apply And.intro | exact rfl | (intro hx; exact absurd hx (by decide)) | (intro hx; exact absurd (by decide) hx) | decide | intro hx | (refine Exists.intro _ (And.intro rfl ?_)))
      all_goals try first | (with_reducible change am_tI _ _) | (change Ret _ _) | (change Ret _ _ _) | (change Exists _)
      all_goals try dsimp only at *
      all_goals try exact absurd ‹(1000 : Int64) = 0› (by decide)
      refine ⟨_, 0, Nat.zero_le _, rfl, rfl, rfl, ?_⟩
      rw [an_l2_0]
      rfl
    · exact h.elim
  · intro live as M0 Ret h k pc I hI L st M hi
    unfold TX8_init at h
    split at h
    · next r =>
      have hh := am_if_mp h
      clear h
      obtain ⟨hb, h⟩ := hh
      rw [Bool.and_eq_true] at hb
      obtain ⟨h1, h3⟩ := hb
      have h1 := Nat.eq_of_beq_eq_true h1
      subst h1
      obtain ⟨E, rfl⟩ : ∃ E, live = an_ho 200 15 E := ⟨live, an_ho_of h3⟩
      clear h3
      change (match pc with | 177 => _ | _ => none) = _ at hI
      split at hI
      · cases hI
        obtain ⟨j, hj, rfl, rfl, rfl, rfl⟩ := hi
        have a1 : j < 480 → am_in (1038 + Int32.ofNat j) (am_len 201) ∧ (1038 + Int32.ofNat j).toNatClampNeg = 1038 + j := fun hlt => by
          have := an_ofN (c := 1038) (j := j) (by omega)
          have l1 : (am_len 201 : Int) = 3760 := rfl
          exact ⟨⟨by rw [show (1038 : Int32) = Int32.ofNat 1038 from rfl, this.2]; omega, by rw [show (1038 : Int32) = Int32.ofNat 1038 from rfl, this.2, l1]; omega⟩, this.1⟩
        have a2 : j < 480 → am_in (1998 + Int32.ofNat j) (am_len 201) ∧ (1998 + Int32.ofNat j).toNatClampNeg = 1998 + j := fun hlt => by
          have := an_ofN (c := 1998) (j := j) (by omega)
          have l1 : (am_len 201 : Int) = 3760 := rfl
          exact ⟨⟨by rw [show (1998 : Int32) = Int32.ofNat 1998 from rfl, this.2]; omega, by rw [show (1998 : Int32) = Int32.ofNat 1998 from rfl, this.2, l1]; omega⟩, this.1⟩
        have e1 : (Int32.ofNat j).toInt = (j : Int) := i_nat (by omega)
        by_cases hlt : j < 480
        · have hn : ¬ (480 : Int32) ≤ Int32.ofNat j := by rw [i_le, e1]; simp only [Int32.reduceToInt]; omega
          have a1 := a1 hlt
          have a2 := a2 hlt
          have b1 := a1.1.1
          have b2 := a1.1.2
          have b3 := a2.1.1
          have b4 := a2.1.2
          repeat' (first | (with_reducible exact b1) | (with_reducible exact b2) | (with_reducible exact b3) | (with_reducible exact b4) | apply And.intro | exact rfl | (intro hx; with_reducible exact absurd hx hn) | intro hx | (refine Exists.intro _ (And.intro rfl ?_)))
          all_goals try first | (with_reducible change am_tI _ _) | (change Ret _ _) | (change Ret _ _ _) | (change Exists _)
          all_goals try dsimp only at *
          all_goals try exact absurd ‹(1000 : Int64) = 0› (by decide)
          refine ⟨(480 - (j + 1), 0), Or.inl (by show 480 - (j + 1) < 480 - j; omega), j + 1, by omega, ?_, rfl, rfl, ?_⟩
          · rw [Int32.ofNat_add]
            rfl
          · refine congrArg (fun z => (eX8 (an_ho 200 15 E), 15, 11799, z)) ?_
            rw [a1.2, a2.2, an_l2_s]
        · have hj2 : j = 480 := by omega
          subst hj2
          repeat' (first | apply And.intro | exact rfl | (intro hx; exact absurd hx (by decide)) | (intro hx; exact absurd (by decide) hx) | decide | intro hx | (refine Exists.intro _ (And.intro rfl ?_)))
          all_goals try first | (with_reducible change am_tI _ _) | (change Ret _ _) | (change Ret _ _ _) | (change Exists _)
          all_goals try dsimp only at *
          all_goals try exact absurd ‹(1000 : Int64) = 0› (by decide)
          all_goals exact h
      · cases hI
    · exact h.elim
